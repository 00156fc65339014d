/-! ===== the calls that write, second lot ===== -/
section PH
variable {t : Nat} {g : CS} {u : MS}
/-- arriving -/
theorem s_arr (h : RC t g u) {p l : Nat} (hp : p < sN g 1) (hl : l < sN g 0) {o : Option Nat} {oi : Int32} (ho : (o = none ∧ oi = -1) ∨ ∃ v, v < sN g 2 ∧ o = some v ∧ oi = nI v) (b : Bool) : ∃ s g2 u2, 1 ≤ s ∧ s ≤ 4 ∧ fC_Court_arrive g p l o (zB b) = some g2 ∧ fM_come u (nI p) (nI l) oi (zB b) = some (nI s, u2) ∧ RC t g2 u2 ∧ sN g2 = sN g ∧ sJ g2 5 p 9 = some l ∧ sI g2 17 p t = nI (10 * l + s) ∧ u2 0 = u 0 ∧ ∀ q, sI g2 5 q 0 = sI g 5 q 0 := by
  have h0 := h.1
  have h16 := h0.p16 hp
  have hT := h0.aT
  have hR := up_arr h0 hp hl ho b
  have hC : ∀ q D, Cn g q D → Cn (uI (uI (uJ (uJ g 5 p 9 (some l)) 5 p 10 o) 5 p 11 (zB b)) 5 p 12 (nI t)) q D := fun q D hq => Cn_uI (Cn_uI (Cn_uJ (Cn_uJ hq)) (by decide)) (by decide)
  have hw : sJ (uI (uI (uJ (uJ g 5 p 9 (some l)) 5 p 10 o) 5 p 11 (zB b)) 5 p 12 (nI t)) 5 p 9 = some l := by
    rw [sJ_uI, sJ_uI, sJ_n _ _ _ _ _ (by omega), sJ_at]
  obtain ⟨s, g2, u2, s1, s2, cl, ml, hR2, hC2, ⟨f1, f2, f3, f4, f5⟩, e17, e0⟩ := s_look hR (p := p) hp hl (hC p t (Cn_le (h.2 p hp) (Nat.le_succ t))) hw
  refine ⟨s, g2, u2, s1, s2, ?_, ?_, ⟨hR2, fun q hq => ?_⟩, f2, by rw [f3]; exact hw, e17, ?_, fun q => ?_⟩
  · unfold fC_Court_arrive
    have e6 : ∀ x y z, sI (uI (uJ (uJ g 5 p 9 x) 5 p 10 y) 5 p 11 z) 0 0 6 = nI t := fun x y z => by
      rw [sI_n _ _ _ _ _ (by omega), sI_uJ, sI_uJ, hT.1]
    cases o <;> simp only [ck5 hp, zB_m, e6, cl, mb2_s, Option.bind_some, xb_l, xb_r, goes_0, goes_1, goes_2, goes_3, ne10, if_false, if_true, om_0, om_1]
  · unfold fM_come
    simp only [mt18 h16, mt21 h16, mt20 h16, mt19 h16, zB_m, kn (show 1 ≠ 18 by decide), kn (show 1 ≠ 21 by decide), hT.2.2, ml, mb2_s, Option.bind_some, xb_l, xb_r, goes_0, goes_1, goes_2, goes_3, ne10, if_false, if_true, om_0, om_1]
  · by_cases e : q = p
    · subst e; exact hC2
    · exact f1 q _ e (hC q _ (h.2 q (by rw [f2] at hq; exact hq)))
  · rw [e0, kn (by decide), kn (by decide), kn (by decide), kn (by decide)]
  · rw [f4, sI_n _ _ _ _ _ (by omega), sI_n _ _ _ _ _ (by omega), sI_uJ, sI_uJ]
theorem c_today2 (h : R0 t g u) {p l s : Nat} (hp : p < sN g 1) (hw : sJ g 5 p 9 = some l) (hl : l < 8) (hs : s ≤ 4) (e : sI g 17 p t = nI (10 * l + s)) : fC_Court_statusToday g p = some (nI s) := by
  obtain ⟨s2, _, h2, h3⟩ := c_today h hp hw
  rw [h2, h3 (10 * l + s) (by omega) e, show (10 * l + s) % 10 = s from by omega]
theorem sim_slip (h : RC t g u) (x1 x2 : Int32) : SimW [0, 2] (fC_Court_slip g x1 x2) (fM_slip u x1 x2) g := by
  have h0 := h.1
  have h1 := (h.thr 0).1
  unfold fC_Court_slip fM_slip fM_slip_20 fM_slip_21 fM_slip_46 fM_slip_64
  unfold fC_Court_refuseOneInALand
  rcases s_isPerson h0 x1 with ⟨p, hp, rfl, c1, m1⟩ | ⟨c1, m1⟩
  · rcases s_isLand h0 x2 with ⟨l, hl, rfl, c2, m2⟩ | ⟨c2, m2⟩
    · rcases h0.here hp with ⟨j, w⟩ | ⟨k, hk, j, w⟩
      · obtain ⟨s, g2, u2, s1, s2, ac, am, hR, eN, eJ, e17, e0, -⟩ := s_arr (h.thr 0) hp hl (Or.inl ⟨rfl, rfl⟩) true
        have st := c_today2 hR.1 (p := p) (by rw [eN]; exact hp) eJ (h0.l8 hl) s2 e17
        exact simW_r (r := nI s) (by simp only [c1, c2, ck5 hp, j, show (1 : Int32) = zB true from rfl, ac, st, mb2_s, Option.bind_some, xb_l, xb_r, goes_0, goes_1, goes_2, goes_3, ne10, if_false, if_true, om_0, om_1]) (by simp only [m1, m2, w, goes_0, show ¬ (1 : Int32) = 0 by decide, if_false, mb2_s, Option.bind_some, if_true]; rw [show fM_come (mup u 0 0 0) (nI p) (nI l) (-1) 1 = some (nI s, u2) from am]; rfl) (by rw [e0]; exact mup_at _ _ _ _) hR
      · exact simW_x h 1 rfl (by simp only [c1, c2, ck5 hp, j, mb2_s, Option.bind_some, xb_l, xb_r, goes_0, goes_1, goes_2, goes_3, ne10, if_false, if_true, om_0, om_1]) (by simp only [m1, m2, w, zne1 (show k < 2147483648 by have := h0.l8 hk; omega), mb2_s, Option.bind_some, xb_l, xb_r, goes_0, goes_1, goes_2, goes_3, ne10, if_false, if_true, om_0, om_1])
    · exact simW_x h 0 rfl (by simp only [c1, c2, mb2_s, Option.bind_some, xb_l, xb_r, goes_0, goes_1, goes_2, goes_3, ne10, if_false, if_true, om_0, om_1]) (by simp only [m1, m2, mb2_s, Option.bind_some, xb_l, xb_r, goes_0, goes_1, goes_2, goes_3, ne10, if_false, if_true, om_0, om_1])
  · exact simW_x h 0 rfl (by simp only [c1, mb2_s, Option.bind_some, xb_l, xb_r, goes_0, goes_1, goes_2, goes_3, ne10, if_false, if_true, om_0, om_1]) (by simp only [m1, mb2_s, Option.bind_some, xb_l, xb_r, goes_0, goes_1, goes_2, goes_3, ne10, if_false, if_true, om_0, om_1])
theorem sim_enter (h : RC t g u) (x1 x2 : Int32) : SimW [0, 2] (fC_Court_enter g x1 x2) (fM_enter u x1 x2) g := by
  have h0 := h.1
  have hz := h.thr 0
  have h1 := hz.1
  unfold fC_Court_enter fC_Court_enter_53 fC_Court_enter_71 fC_Court_enter_81 fM_enter fM_enter_20 fM_enter_21 fM_enter_46 fM_enter_85 fM_enter_95 fM_enter_114 fM_enter_125
  unfold fC_Court_refuseOneInALand
  rcases s_isPerson h0 x1 with ⟨p, hp, rfl, c1, m1⟩ | ⟨c1, m1⟩
  · rcases s_isLand h0 x2 with ⟨l, hl, rfl, c2, m2⟩ | ⟨c2, m2⟩
    · rcases h0.here hp with ⟨j, w⟩ | ⟨k, hk, j, w⟩
      · obtain ⟨r, wc, wm⟩ := s_why hz hp hl
        obtain ⟨fc, fm⟩ := s_free h1 hp hl
        have rc := c_root h1 hp hl
        have rm := m_root h1 hp hl
        generalize zRt t g p l = b1 at rc rm
        generalize zAny (zFr t g p l) 0 (sN g 0) = b2 at fc fm
        have nc : fC_Court_needsVisa g p l = some (zB (!b1 && !b2)) := by
          unfold fC_Court_needsVisa fC_Court_needsVisa_22 fC_Court_needsVisa_23
          simp only [rc, fc, Option.bind_some, zB_0]
          cases b1 <;> cases b2 <;> rfl
        by_cases er : r = 0
        · subst er
          obtain ⟨s, g2, u2, s1, s2, ac, am, hR, eN, eJ, e17, e0, -⟩ := s_arr hz hp hl (Or.inl ⟨rfl, rfl⟩) false
          have ac' : fC_Court_arrive g p l none 0 = some g2 := ac
          have am' : fM_come (mup u 0 0 0) (nI p) (nI l) (-1) 0 = some (nI s, u2) := am
          have fin : (u2 0 0 = 0) := by rw [e0]; exact mup_at _ _ _ _
          by_cases en : b1 = false ∧ b2 = false
          · obtain ⟨rfl, rfl⟩ := en
            rcases s_low h1 hp hl with ⟨lc, lm⟩ | ⟨v, hv, lc, lm⟩
            · exact simW_r (r := 0) (by simp only [c1, c2, ck5 hp, j, wc, nc, lc, ac', show zB (!false && !false) = 1 from rfl, mb2_s, Option.bind_some, xb_l, xb_r, goes_0, goes_1, goes_2, goes_3, ne10, if_false, if_true, om_0, om_1]) (by simp only [m1, m2, w, wm, rm, fm, lm, am', zB_f, mb2_s, Option.bind_some, xb_l, xb_r, goes_0, goes_1, goes_2, goes_3, ne10, if_false, if_true, om_0, om_1]) fin hR
            · have h60 := h0.v60 hv
              have hRe : RC t (uI g 6 v 5 (sI g 6 v 5 - 1)) (mup (mup u 0 0 0) 33 v (sI g 6 v 5 - 1)) := ⟨up_ent h1 _, fun q hq => Cn_uI (h.2 q hq) (by omega)⟩
              have e33 := (h1.aX v hv).1
              obtain ⟨s, g2, u2, s1, s2, ac, am, hR, eN, eJ, e17, e0, -⟩ := s_arr hRe (p := p) hp hl (Or.inr ⟨v, hv, rfl, rfl⟩) false
              have ac' : fC_Court_arrive (uI g 6 v 5 (sI g 6 v 5 - 1)) p l (some v) 0 = some g2 := ac
              have am' : fM_come (mup (mup u 0 0 0) 33 v (sI g 6 v 5 - 1)) (nI p) (nI l) (nI v) 0 = some (nI s, u2) := am
              exact simW_r (r := 0) (by simp only [c1, c2, ck5 hp, ck6 hv, j, wc, nc, lc, ac', show zB (!false && !false) = 1 from rfl, mb2_s, Option.bind_some, xb_l, xb_r, goes_0, goes_1, goes_2, goes_3, ne10, if_false, if_true, om_0, om_1]) (by simp only [m1, m2, w, wm, rm, fm, lm, md33 h60, mt33 h60, e33, am', zB_f, zne1 (show v < 2147483648 by omega), mb2_s, Option.bind_some, xb_l, xb_r, goes_0, goes_1, goes_2, goes_3, ne10, if_false, if_true, om_0, om_1]) (by rw [e0, kn (by decide)]; exact mup_at _ _ _ _) hR
          · have nc2 : fC_Court_needsVisa g p l = some 0 := by
              rw [nc]
              cases b1 <;> cases b2 <;> first | rfl | exact absurd ⟨rfl, rfl⟩ en
            refine simW_r (r := 0) (by simp only [c1, c2, ck5 hp, j, wc, nc2, ac', mb2_s, Option.bind_some, xb_l, xb_r, goes_0, goes_1, goes_2, goes_3, ne10, if_false, if_true, om_0, om_1]) ?_ fin hR
            simp only [m1, m2, w, wm, rm, mb2_s, Option.bind_some, xb_l, xb_r, goes_0, goes_1, goes_2, goes_3, ne10, if_false, if_true, om_0, om_1]
            cases b1
            · cases b2
              · exact absurd ⟨rfl, rfl⟩ en
              · simp only [fm, am', zB_f, zB_t, mb2_s, Option.bind_some, xb_l, xb_r, goes_0, goes_1, goes_2, goes_3, ne10, if_false, if_true, om_0, om_1]
            · simp only [am', zB_t, mb2_s, Option.bind_some, xb_l, xb_r, goes_0, goes_1, goes_2, goes_3, ne10, if_false, if_true, om_0, om_1]
        · exact simW_r (r := r) (by simp only [c1, c2, ck5 hp, j, wc, er, mb2_s, Option.bind_some, xb_l, xb_r, goes_0, goes_1, goes_2, goes_3, ne10, if_false, if_true, om_0, om_1]) (by simp only [m1, m2, w, wm, er, mb2_s, Option.bind_some, xb_l, xb_r, goes_0, goes_1, goes_2, goes_3, ne10, if_false, if_true, om_0, om_1]) (mup_at _ _ _ _) hz
      · exact simW_x h 1 rfl (by simp only [c1, c2, ck5 hp, j, mb2_s, Option.bind_some, xb_l, xb_r, goes_0, goes_1, goes_2, goes_3, ne10, if_false, if_true, om_0, om_1]) (by simp only [m1, m2, w, zne1 (show k < 2147483648 by have := h0.l8 hk; omega), mb2_s, Option.bind_some, xb_l, xb_r, goes_0, goes_1, goes_2, goes_3, ne10, if_false, if_true, om_0, om_1])
    · exact simW_x h 0 rfl (by simp only [c1, c2, mb2_s, Option.bind_some, xb_l, xb_r, goes_0, goes_1, goes_2, goes_3, ne10, if_false, if_true, om_0, om_1]) (by simp only [m1, m2, mb2_s, Option.bind_some, xb_l, xb_r, goes_0, goes_1, goes_2, goes_3, ne10, if_false, if_true, om_0, om_1])
  · exact simW_x h 0 rfl (by simp only [c1, mb2_s, Option.bind_some, xb_l, xb_r, goes_0, goes_1, goes_2, goes_3, ne10, if_false, if_true, om_0, om_1]) (by simp only [m1, mb2_s, Option.bind_some, xb_l, xb_r, goes_0, goes_1, goes_2, goes_3, ne10, if_false, if_true, om_0, om_1])
theorem sim_move (h : RC t g u) (x1 x2 : Int32) : SimW [0, 2] (fC_Court_move g x1 x2) (fM_move u x1 x2) g := by
  have h0 := h.1
  have hz := h.thr 0
  have h1 := hz.1
  unfold fC_Court_move fC_Court_move_47 fM_move fM_move_20 fM_move_21 fM_move_73 fM_move_74 fM_move_95
  rcases s_isPerson h0 x1 with ⟨p, hp, rfl, c1, m1⟩ | ⟨c1, m1⟩
  · have h16 := h0.p16 hp
    rcases s_isLand h0 x2 with ⟨l, hl, rfl, c2, m2⟩ | ⟨c2, m2⟩
    · have h8 := h0.l8 hl
      rcases h0.here hp with ⟨j, w⟩ | ⟨k, hk, j, w⟩
      · exact simW_x h 1 rfl (by simp only [c1, c2, ck5 hp, j, mb2_s, Option.bind_some, xb_l, xb_r, goes_0, goes_1, goes_2, goes_3, ne10, if_false, if_true, om_0, om_1]) (by simp only [m1, m2, w, mb2_s, Option.bind_some, xb_l, xb_r, goes_0, goes_1, goes_2, goes_3, ne10, if_false, if_true, om_0, om_1])
      · have k8 := h0.l8 hk
        have nk := zne1 (show k < 2147483648 by omega)
        by_cases e : k = l
        · subst e
          exact simW_x h 1 rfl (by simp only [c1, c2, ck5 hp, ck4 hk, j, mb2_s, Option.bind_some, xb_l, xb_r, goes_0, goes_1, goes_2, goes_3, ne10, if_false, if_true, om_0, om_1]) (by simp only [m1, m2, w, nk, mb2_s, Option.bind_some, xb_l, xb_r, goes_0, goes_1, goes_2, goes_3, ne10, if_false, if_true, om_0, om_1])
        · have e2 : ¬ nI k = nI l := fun z => e ((zT1 (by omega) (by omega)).mp z)
          have rk := h0.reg hk
          have rl := h0.reg hl
          cases bk : zR g k
          · rw [bk] at rk
            exact simW_x h 1 rfl (by simp only [c1, c2, ck5 hp, ck4 hk, ck4 hl, j, e, rk.1, zB_f, mb2_s, Option.bind_some, xb_l, xb_r, goes_0, goes_1, goes_2, goes_3, ne10, if_false, if_true, om_0, om_1]) (by simp only [m1, m2, w, nk, e2, md3 (j := k) k8, rk.2, zB_f, mb2_s, Option.bind_some, xb_l, xb_r, goes_0, goes_1, goes_2, goes_3, ne10, if_false, if_true, om_0, om_1])
          · rw [bk] at rk
            cases bl : zR g l
            · rw [bl] at rl
              exact simW_x h 1 rfl (by simp only [c1, c2, ck5 hp, ck4 hk, ck4 hl, j, e, rk.1, rl.1, zB_f, zB_t, mb2_s, Option.bind_some, xb_l, xb_r, goes_0, goes_1, goes_2, goes_3, ne10, if_false, if_true, om_0, om_1]) (by simp only [m1, m2, w, nk, e2, md3 (j := k) k8, md3 (j := l) h8, rk.2, rl.2, zB_f, zB_t, mb2_s, Option.bind_some, xb_l, xb_r, goes_0, goes_1, goes_2, goes_3, ne10, if_false, if_true, om_0, om_1])
            · rw [bl] at rl
              have hR := up_move h1 (p := p) hl
              have hC : ∀ q D, Cn g q D → Cn (uJ g 5 p 9 (some l)) q D := fun q D hq => Cn_uJ hq
              obtain ⟨s, g2, u2, s1, s2, cl, ml, hR2, hC2, ⟨f1, f2, f3, f4, f5⟩, e17, e0⟩ := s_look hR (p := p) hp hl (hC p t (Cn_le (h.2 p hp) (Nat.le_succ t))) (sJ_at _ _ _ _ _)
              have st := c_today2 hR2 (p := p) (by rw [f2]; exact hp) (by rw [f3]; exact sJ_at _ _ _ _ _) h8 s2 e17
              refine simW_r (r := nI s) (by simp only [c1, c2, ck5 hp, ck4 hk, ck4 hl, j, e, rk.1, rl.1, zB_t, cl, st, mb2_s, Option.bind_some, xb_l, xb_r, goes_0, goes_1, goes_2, goes_3, ne10, if_false, if_true, om_0, om_1]) (by simp only [m1, m2, w, nk, e2, md3 (j := k) k8, md3 (j := l) h8, rk.2, rl.2, zB_t, mt18 h16, ml, mb2_s, Option.bind_some, xb_l, xb_r, goes_0, goes_1, goes_2, goes_3, ne10, if_false, if_true, om_0, om_1]) ?_ ⟨hR2, fun q hq => ?_⟩
              · rw [e0, kn (by decide)]; exact mup_at _ _ _ _
              · by_cases e : q = p
                · subst e; exact hC2
                · exact f1 q _ e (hC q _ (h.2 q (by rw [f2] at hq; exact hq)))
    · exact simW_x h 0 rfl (by simp only [c1, c2, mb2_s, Option.bind_some, xb_l, xb_r, goes_0, goes_1, goes_2, goes_3, ne10, if_false, if_true, om_0, om_1]) (by simp only [m1, m2, mb2_s, Option.bind_some, xb_l, xb_r, goes_0, goes_1, goes_2, goes_3, ne10, if_false, if_true, om_0, om_1])
  · exact simW_x h 0 rfl (by simp only [c1, mb2_s, Option.bind_some, xb_l, xb_r, goes_0, goes_1, goes_2, goes_3, ne10, if_false, if_true, om_0, om_1]) (by simp only [m1, mb2_s, Option.bind_some, xb_l, xb_r, goes_0, goes_1, goes_2, goes_3, ne10, if_false, if_true, om_0, om_1])
/-- a ban made -/
theorem s_addban (h : R0 t g u) {p l : Nat} (hp : p < sN g 1) (hl : l < 8) (a b : Int32) : ∃ g2 u2 r, fC_Bans_add p g (nI l) a b (nI t) = some g2 ∧ fM_makeBan u (nI l) (nI p) a b = some (r, u2) ∧ R0 t g2 u2 ∧ fC_Row_at 12 p g2 (nI l) = some r ∧ sN g2 = sN g ∧ sI g2 4 = sI g 4 ∧ (∀ q D, Cn g q D → Cn g2 q D) ∧ u2 0 = u 0 := by
  have h16 := h.p16 hp
  have hT := h.aT
  have e25 := ((h.aB p h16 l hl).1 hp).1
  have i128 : 8 * p + l < 128 := by omega
  by_cases e : b ≤ sI g 20 p l
  · refine ⟨g, u, sI g 20 p l, ?_, ?_, h, at12 hp hl, rfl, rfl, fun _ _ q => q, rfl⟩
    · unfold fC_Bans_add fC_Bans_add_40
      simp only [ck5 hp, at12 hp hl, e, mb2_s, Option.bind_some, xb_l, xb_r, goes_0, goes_1, goes_2, goes_3, ne10, if_false, if_true, om_0, om_1]
    · unfold fM_makeBan fM_makeBan_48
      simp only [z8, md25 i128, e25, e, mb2_s, Option.bind_some, xb_l, xb_r, goes_0, goes_1, goes_2, goes_3, ne10, if_false, if_true, om_0, om_1]
  · have k1 : ck (uI g 19 p l a) 5 p = some () := ck5 hp
    have k2 : ck (uI (uI g 19 p l a) 20 p l b) 5 p = some () := ck5 hp
    have p1 : fC_Row_put 12 p (uI g 19 p l a) (nI l) b = some (uI (uI g 19 p l a) 20 p l b) := put12 b (g := uI g 19 p l a) hp hl
    have p2 : fC_Row_put 13 p (uI (uI g 19 p l a) 20 p l b) (nI l) (nI t) = some (uI (uI (uI g 19 p l a) 20 p l b) 21 p l (nI t)) := put13 _ (g := uI (uI g 19 p l a) 20 p l b) hp hl
    refine ⟨uI (uI (uI g 19 p l a) 20 p l b) 21 p l (nI t), mup (mup (mup u 25 (8 * p + l) b) 26 (8 * p + l) a) 27 (8 * p + l) (nI t), b, ?_, ?_, up_ban h hp hl a b (nI t), ?_, rfl, ?_, fun q D hq => Cn_uI (Cn_uI (Cn_uI hq (by omega)) (by omega)) (by omega), ?_⟩
    · unfold fC_Bans_add fC_Bans_add_40
      simp only [ck5 hp, at12 hp hl, e, put11 a hp hl, k1, k2, p1, p2, mb2_s, Option.bind_some, xb_l, xb_r, goes_0, goes_1, goes_2, goes_3, ne10, if_false, if_true, om_0, om_1]
    · unfold fM_makeBan fM_makeBan_48
      simp only [z8, md25 i128, e25, e, mt25 i128, mt26 i128, mt27 i128, kn (show 1 ≠ 25 by decide), kn (show 1 ≠ 26 by decide), hT.2.2, kn (show 25 ≠ 27 by decide), kn (show 25 ≠ 26 by decide), mup_at, mb2_s, Option.bind_some, xb_l, xb_r, goes_0, goes_1, goes_2, goes_3, ne10, if_false, if_true, om_0, om_1]
    · rw [at12 (g := uI (uI (uI g 19 p l a) 20 p l b) 21 p l (nI t)) hp hl, sI_n _ _ _ _ _ (by omega), sI_at]
    · rw [sI_n1 _ _ _ _ (by decide), sI_n1 _ _ _ _ (by decide), sI_n1 _ _ _ _ (by decide)]
    · rw [kn (by decide), kn (by decide), kn (by decide)]
theorem sim_ban (h : RC t g u) (x1 x2 x3 : Int32) : SimW [0, 1] (fC_Court_ban g x1 x2 x3) (fM_ban u x1 x2 x3) g := by
  have h0 := h.1
  have hz := h.thr 0
  have h1 := hz.1
  have hT := h1.aT
  unfold fC_Court_ban fC_Court_ban_26 fM_ban fM_ban_20 fM_ban_21 fM_ban_49 fM_ban_77
  rcases s_isLand h0 x1 with ⟨l, hl, rfl, c1, m1⟩ | ⟨c1, m1⟩
  · have h8 := h0.l8 hl
    rcases s_isPerson h0 x2 with ⟨p, hp, rfl, c2, m2⟩ | ⟨c2, m2⟩
    · by_cases e1 : x3 < 1
      · exact simW_x h 1 rfl (by simp only [c1, c2, e1, mb2_s, Option.bind_some, xb_l, xb_r, goes_0, goes_1, goes_2, goes_3, ne10, if_false, if_true, om_0, om_1]) (by simp only [m1, m2, in_lo e1, mb2_s, Option.bind_some, xb_l, xb_r, goes_0, goes_1, goes_2, goes_3, ne10, if_false, if_true, om_0, om_1])
      by_cases e2 : x3 ≤ 720
      · have e3 : ¬ 720 < x3 := Int32.not_lt.mpr e2
        obtain ⟨g2, u2, r, ac, am, hR, ra, eN, e4, eC, e0⟩ := s_addban h1 hp h8 (nI t) (nI t + x3 - 1)
        have k5 : ck g2 5 p = some () := ck5 (by rw [eN]; exact hp)
        have k4 : ck g2 4 l = some () := ck4 (by rw [eN]; exact hl)
        refine simW_r (r := r) (by simp only [c1, c2, e1, e2, ck5 hp, ck4 hl, (h0.aL l hl).1, hT.1, ac, k5, k4, e4, ra, mb2_s, Option.bind_some, xb_l, xb_r, goes_0, goes_1, goes_2, goes_3, ne10, if_false, if_true, om_0, om_1]) (by simp only [m1, m2, in_ok e1 e3, hT.2.2, am, mb2_s, Option.bind_some, xb_l, xb_r, goes_0, goes_1, goes_2, goes_3, ne10, if_false, if_true, om_0, om_1]) ?_ ⟨hR, fun q hq => eC q _ (h.2 q (by rw [eN] at hq; exact hq))⟩
        rw [e0]; exact mup_at _ _ _ _
      · have e3 : 720 < x3 := Int32.not_le.mp e2
        exact simW_x h 1 rfl (by simp only [c1, c2, e1, e2, mb2_s, Option.bind_some, xb_l, xb_r, goes_0, goes_1, goes_2, goes_3, ne10, if_false, if_true, om_0, om_1]) (by simp only [m1, m2, in_hi e3, mb2_s, Option.bind_some, xb_l, xb_r, goes_0, goes_1, goes_2, goes_3, ne10, if_false, if_true, om_0, om_1])
    · exact simW_x h 0 rfl (by simp only [c1, c2, mb2_s, Option.bind_some, xb_l, xb_r, goes_0, goes_1, goes_2, goes_3, ne10, if_false, if_true, om_0, om_1]) (by simp only [m1, m2, mb2_s, Option.bind_some, xb_l, xb_r, goes_0, goes_1, goes_2, goes_3, ne10, if_false, if_true, om_0, om_1])
  · exact simW_x h 0 rfl (by simp only [c1, mb2_s, Option.bind_some, xb_l, xb_r, goes_0, goes_1, goes_2, goes_3, ne10, if_false, if_true, om_0, om_1]) (by simp only [m1, mb2_s, Option.bind_some, xb_l, xb_r, goes_0, goes_1, goes_2, goes_3, ne10, if_false, if_true, om_0, om_1])
theorem sim_lift (h : RC t g u) (x1 x2 : Int32) : SimW [0] (fC_Court_lift g x1 x2) (fM_lift u x1 x2) g := by
  have h0 := h.1
  have hz := h.thr 0
  have h1 := hz.1
  have hT := h1.aT
  unfold fC_Court_lift fM_lift fM_lift_21 fM_lift_22 fM_lift_53
  unfold fC_Bans_clear
  rcases s_isLand h0 x1 with ⟨l, hl, rfl, c1, m1⟩ | ⟨c1, m1⟩
  · have h8 := h0.l8 hl
    rcases s_isPerson h0 x2 with ⟨p, hp, rfl, c2, m2⟩ | ⟨c2, m2⟩
    · have h16 := h0.p16 hp
      have i128 : 8 * p + l < 128 := by omega
      have e25 := ((h1.aB p h16 l h8).1 hp).1
      have sc := (s_stands h0 hp h8).1
      have hk : RC t (uI g 20 p l (-1)) (mup (mup u 0 0 0) 25 (8 * p + l) (-1)) := ⟨up_lift h1 hp h8, fun q hq => Cn_uI (h.2 q hq) (by omega)⟩
      have fin : mup (mup u 0 0 0) 25 (8 * p + l) (-1) 0 0 = 0 := by rw [kn (by decide)]; exact mup_at _ _ _ _
      by_cases e : sI g 20 p l < nI t
      · exact simW_r (r := 0) (by simp only [c1, c2, ck5 hp, ck4 hl, (h0.aL l hl).1, hT.1, sc, put12 (-1) hp h8, zB_m, e, decide_true, Bool.not_true, zB_f, mbo0, mb2_s, Option.bind_some, xb_l, xb_r, goes_0, goes_1, goes_2, goes_3, ne10, if_false, if_true, om_0, om_1]) (by simp only [m1, m2, z8, md25 i128, e25, hT.2.2, e, mt25 i128, mbo0, mb2_s, Option.bind_some, xb_l, xb_r, goes_0, goes_1, goes_2, goes_3, ne10, if_false, if_true, om_0, om_1]) fin hk
      · exact simW_r (r := 1) (by simp only [c1, c2, ck5 hp, ck4 hl, (h0.aL l hl).1, hT.1, sc, put12 (-1) hp h8, zB_m, e, decide_false, Bool.not_false, zB_t, mbo1, mb2_s, Option.bind_some, xb_l, xb_r, goes_0, goes_1, goes_2, goes_3, ne10, if_false, if_true, om_0, om_1]) (by simp only [m1, m2, z8, md25 i128, e25, hT.2.2, e, mt25 i128, mbo1, mb2_s, Option.bind_some, xb_l, xb_r, goes_0, goes_1, goes_2, goes_3, ne10, if_false, if_true, om_0, om_1]) fin hk
    · exact simW_x h 0 rfl (by simp only [c1, c2, mb2_s, Option.bind_some, xb_l, xb_r, goes_0, goes_1, goes_2, goes_3, ne10, if_false, if_true, om_0, om_1]) (by simp only [m1, m2, mbo0, mb2_s, Option.bind_some, xb_l, xb_r, goes_0, goes_1, goes_2, goes_3, ne10, if_false, if_true, om_0, om_1])
  · exact simW_x h 0 rfl (by simp only [c1, mb2_s, Option.bind_some, xb_l, xb_r, goes_0, goes_1, goes_2, goes_3, ne10, if_false, if_true, om_0, om_1]) (by simp only [m1, mbo0, mb2_s, Option.bind_some, xb_l, xb_r, goes_0, goes_1, goes_2, goes_3, ne10, if_false, if_true, om_0, om_1])
theorem sim_quota (h : RC t g u) (x1 x2 x3 : Int32) : SimW [0, 1] (fC_Court_quota g x1 x2 x3) (fM_quota u x1 x2 x3) g := by
  have h0 := h.1
  have hz := h.thr 0
  have h1 := hz.1
  unfold fC_Court_quota fC_Court_quota_26 fM_quota fM_quota_40 fM_quota_41
  rcases s_isLand h0 x1 with ⟨l, hl, rfl, c1, m1⟩ | ⟨c1, m1⟩
  · have h8 := h0.l8 hl
    by_cases e1 : x2 < 0
    · exact simW_x h 1 rfl (by simp only [c1, e1, mb2_s, Option.bind_some, xb_l, xb_r, goes_0, goes_1, goes_2, goes_3, ne10, if_false, if_true, om_0, om_1]) (by simp only [m1, in_lo e1, mb2_s, Option.bind_some, xb_l, xb_r, goes_0, goes_1, goes_2, goes_3, ne10, if_false, if_true, om_0, om_1])
    obtain ⟨j, hj, rfl⟩ := nI_of e1
    by_cases e2 : j < 3
    · have f1 : ¬ 3 ≤ nI j := nI_ge (b := 3) e2 (by decide)
      have f2 : ¬ 2 < nI j := nI_nlt (a := 2) (by omega) (by decide)
      by_cases e3 : x3 < 0
      · exact simW_x h 1 rfl (by simp only [c1, e1, f1, e3, mb2_s, Option.bind_some, xb_l, xb_r, goes_0, goes_1, goes_2, goes_3, ne10, if_false, if_true, om_0, om_1]) (by simp only [m1, in_ok e1 f2, in_lo e3, mb2_s, Option.bind_some, xb_l, xb_r, goes_0, goes_1, goes_2, goes_3, ne10, if_false, if_true, om_0, om_1])
      by_cases e4 : x3 ≤ 9
      · have e5 : ¬ 9 < x3 := Int32.not_lt.mpr e4
        have e8 := (h1.aU l h8 j e2).1 hl
        exact simW_r (r := sI g 16 l j) (by simp only [c1, e1, f1, e3, e4, ck4 hl, at8 hl e2, put8 x3 hl e2, mb2_s, Option.bind_some, xb_l, xb_r, goes_0, goes_1, goes_2, goes_3, ne10, if_false, if_true, om_0, om_1]) (by simp only [m1, in_ok e1 f2, in_ok e3 e5, z3, md8 (show 3 * l + j < 24 by omega), mt8 (show 3 * l + j < 24 by omega), e8, mb2_s, Option.bind_some, xb_l, xb_r, goes_0, goes_1, goes_2, goes_3, ne10, if_false, if_true, om_0, om_1]) (by rw [kn (by decide)]; exact mup_at _ _ _ _) (RC.mk0 (up_quota h1 hl e2 x3) fun q hq => Cn_uI (h.2 q hq) (by omega))
      · have e5 : 9 < x3 := Int32.not_le.mp e4
        exact simW_x h 1 rfl (by simp only [c1, e1, f1, e3, e4, mb2_s, Option.bind_some, xb_l, xb_r, goes_0, goes_1, goes_2, goes_3, ne10, if_false, if_true, om_0, om_1]) (by simp only [m1, in_ok e1 f2, in_hi e5, mb2_s, Option.bind_some, xb_l, xb_r, goes_0, goes_1, goes_2, goes_3, ne10, if_false, if_true, om_0, om_1])
    · have f1 : 3 ≤ nI j := nI_le (a := 3) (by omega) hj
      have f2 : 2 < nI j := nI_lt (a := 2) (by omega) hj
      exact simW_x h 1 rfl (by simp only [c1, e1, f1, mb2_s, Option.bind_some, xb_l, xb_r, goes_0, goes_1, goes_2, goes_3, ne10, if_false, if_true, om_0, om_1]) (by simp only [m1, in_hi f2, mb2_s, Option.bind_some, xb_l, xb_r, goes_0, goes_1, goes_2, goes_3, ne10, if_false, if_true, om_0, om_1])
  · exact simW_x h 0 rfl (by simp only [c1, mb2_s, Option.bind_some, xb_l, xb_r, goes_0, goes_1, goes_2, goes_3, ne10, if_false, if_true, om_0, om_1]) (by simp only [m1, mb2_s, Option.bind_some, xb_l, xb_r, goes_0, goes_1, goes_2, goes_3, ne10, if_false, if_true, om_0, om_1])
theorem sim_leave (h : RC t g u) (x1 : Int32) : SimW [0, 2] (fC_Court_leave g x1) (fM_leave u x1) g := by
  have h0 := h.1
  have hz := h.thr 0
  have h1 := hz.1
  have hT := h1.aT
  unfold fC_Court_leave fM_leave fM_leave_30 fM_leave_105 fM_leave_109
  rcases s_isPerson h0 x1 with ⟨p, hp, rfl, c1, m1⟩ | ⟨c1, m1⟩
  · have h16 := h0.p16 hp
    rcases h0.here hp with ⟨j, w⟩ | ⟨l, hl, j, w⟩
    · exact simW_x h 1 rfl (by simp only [c1, ck5 hp, j, mb2_s, Option.bind_some, xb_l, xb_r, goes_0, goes_1, goes_2, goes_3, ne10, if_false, if_true, om_0, om_1]) (by simp only [m1, w, mb2_s, Option.bind_some, xb_l, xb_r, goes_0, goes_1, goes_2, goes_3, ne10, if_false, if_true, om_0, om_1])
    · have h8 := h0.l8 hl
      have nl := zne1 (show l < 2147483648 by omega)
      have w1 : mld (mup u 0 0 0) 18 (nI p) = some (nI l) := by
        rcases h1.here hp with ⟨j2, w2⟩ | ⟨l2, hl2, j2, w2⟩
        · rw [j] at j2; cases j2
        · rw [j] at j2; cases j2; exact w2
      obtain ⟨r, oc, om⟩ := s_over h1 hp j
      have hR := up_leave h1 (p := p)
      have hC : ∀ q D, Cn g q D → Cn (uJ (uJ g 5 p 9 none) 5 p 10 none) q D := fun q D hq => Cn_uJ (Cn_uJ hq)
      by_cases e : 10 * r = 0
      · have e2 : (if 10 * r < 720 then 10 * r else 720) = 0 := by rw [e]; decide
        exact simW_r (r := -1) (by simp only [c1, ck5 hp, j, oc, e2, mb2_s, Option.bind_some, xb_l, xb_r, goes_0, goes_1, goes_2, goes_3, ne10, if_false, if_true, om_0, om_1]) (by simp only [m1, w, w1, nl, om, mt18 h16, mt20 h16, e, mb2_s, Option.bind_some, xb_l, xb_r, goes_0, goes_1, goes_2, goes_3, ne10, if_false, if_true, om_0, om_1]) (by rw [kn (by decide), kn (by decide)]; exact mup_at _ _ _ _) ⟨hR, fun q hq => hC q _ (h.2 q hq)⟩
      · have k4 : ck (uJ (uJ g 5 p 9 none) 5 p 10 none) 4 l = some () := ck4 hl
        have n4 : sI (uJ (uJ g 5 p 9 none) 5 p 10 none) 4 l 0 = nI l := (h0.aL l hl).1
        have t6 : sI (uJ (uJ g 5 p 9 none) 5 p 10 none) 0 0 6 = nI t := hT.1
        have fin : ∀ D : Int32, ¬ D = 0 → (if 10 * r < 720 then 10 * r else 720) = D → (if 10 * r ≤ 720 then D = 10 * r else D = 720) → SimW [0, 2] (fC_Court_leave g (nI p)) (fM_leave u (nI p)) g := fun D hD hd1 hd2 => by
          obtain ⟨g2, u2, r2, ac, am, hR2, ra, eN, e4, eC, e0⟩ := s_addban hR (p := p) hp h8 (nI t + 1) (nI t + D)
          have k5' : ck g2 5 p = some () := ck5 (by rw [eN]; exact hp)
          have k4' : ck g2 4 l = some () := ck4 (by rw [eN]; exact hl)
          unfold fC_Court_leave fM_leave fM_leave_30 fM_leave_105 fM_leave_109
          refine simW_r (r := r2) (by simp only [c1, ck5 hp, j, oc, hd1, hD, k4, n4, t6, ac, k5', k4', e4, ra, mb2_s, Option.bind_some, xb_l, xb_r, goes_0, goes_1, goes_2, goes_3, ne10, if_false, if_true, om_0, om_1]) ?_ (by rw [e0, kn (by decide), kn (by decide)]; exact mup_at _ _ _ _) ⟨hR2, fun q hq => eC q _ (hC q _ (h.2 q (by rw [eN] at hq; exact hq)))⟩
          simp only [m1, w, w1, nl, om, mt18 h16, mt20 h16, e, kn (show 1 ≠ 18 by decide), kn (show 1 ≠ 20 by decide), hT.2.2, mb2_s, Option.bind_some, xb_l, xb_r, goes_0, goes_1, goes_2, goes_3, ne10, if_false, if_true, om_0, om_1]
          by_cases e3 : 10 * r ≤ 720
          · rw [if_pos e3] at hd2
            rw [if_pos e3, ← hd2, am]
            rfl
          · rw [if_neg e3] at hd2
            rw [if_neg e3, ← hd2, am]
            rfl
        have fin2 := fin
        revert fin2
        unfold fC_Court_leave fM_leave fM_leave_30 fM_leave_105 fM_leave_109
        intro fin2
        by_cases e3 : 10 * r < 720
        · exact fin2 (10 * r) e (if_pos e3) (by rw [if_pos (Int32.le_of_lt e3)])
        · refine fin2 720 (by decide) (if_neg e3) ?_
          by_cases e4 : 10 * r ≤ 720
          · rw [if_pos e4]
            exact Int32.le_antisymm (Int32.not_lt.mp e3) e4
          · rw [if_neg e4]
  · exact simW_x h 0 rfl (by simp only [c1, mb2_s, Option.bind_some, xb_l, xb_r, goes_0, goes_1, goes_2, goes_3, ne10, if_false, if_true, om_0, om_1]) (by simp only [m1, mb2_s, Option.bind_some, xb_l, xb_r, goes_0, goes_1, goes_2, goes_3, ne10, if_false, if_true, om_0, om_1])
end PH
