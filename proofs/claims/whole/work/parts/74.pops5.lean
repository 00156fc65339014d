/-! ===== births alike; places among those who wait ===== -/
section PH
variable {t : Nat} {g : CS} {u : MS}
theorem sim_birth (h : RC t g u) (x1 x2 : Int32) : SimW [0, 1, 2] (fC_Court_birth g x1 x2) (fM_birth u x1 x2) g := by
  have h0 := h.1
  have hz := h.thr 0
  have h1 := hz.1
  have hT := h0.aT
  have hT1 := h1.aT
  have hN := h0.aN
  have main : ∀ {p : Nat} (_ : p < sN g 1) {o2 : Option Nat} {y2 : Int32} (_ : (o2 = none ∧ y2 = -1) ∨ ∃ v, v < sN g 1 ∧ o2 = some v ∧ y2 = nI v), SimW [0, 1, 2] (fC_Court_birth_20 g (nI p) y2 p o2) (fM_birth_26 u (nI p) y2 1) g := fun {p} hp {o2} {y2} h2 => by
    have h16 := h0.p16 hp
    have cl : fC_Court_birth_20 g (nI p) y2 p o2 = (if nI p = y2 then some (.inl 1) else (ck g 5 p).bind fun _ => om (sJ g 5 p 9) (some (.inl 2)) fun v5 => xb (fC_Court_refuseMorePersons g) fun _ => (fC_Court_nationsAtBirth g p o2 v5).bind fun r7 => xb (fC_Court_addPerson g (sI g 0 0 6) r7 (nI p) y2) fun g8 => (ck g 4 v5).bind fun _ => (fC_Court_arrive g8 ((sN g 1)) v5 none 0).bind fun g10 => (ck g10 5 ((sN g 1))).bind fun _ => some (.inr (sI g10 5 ((sN g 1)) 0, g10))) := by
      unfold fC_Court_birth_20
      cases o2 <;> rfl
    rw [cl]
    clear cl
    unfold fC_Court_refuseMorePersons fC_Court_addPerson fM_birth_26 fM_birth_54 fM_birth_55 fM_birth_85 fM_birth_125
    rcases h0.here hp with ⟨j, w⟩ | ⟨l, hl, j, w⟩
    · by_cases e : nI p = y2
      · subst e
        exact simW_x h 1 rfl (by simp only [mb2_s, Option.bind_some, xb_l, xb_r, goes_0, goes_1, goes_2, goes_3, ne10, if_false, if_true, om_0, om_1]) (by simp only [w, mb2_s, Option.bind_some, xb_l, xb_r, goes_0, goes_1, goes_2, goes_3, ne10, if_false, if_true, om_0, om_1])
      · exact simW_x h 2 rfl (by simp only [e, ck5 hp, j, mb2_s, Option.bind_some, xb_l, xb_r, goes_0, goes_1, goes_2, goes_3, ne10, if_false, if_true, om_0, om_1]) (by simp only [w, e, mb2_s, Option.bind_some, xb_l, xb_r, goes_0, goes_1, goes_2, goes_3, ne10, if_false, if_true, om_0, om_1])
    · have h8 := h0.l8 hl
      have nl := zne1 (show l < 2147483648 by omega)
      by_cases e : nI p = y2
      · subst e
        exact simW_x h 1 rfl (by simp only [mb2_s, Option.bind_some, xb_l, xb_r, goes_0, goes_1, goes_2, goes_3, ne10, if_false, if_true, om_0, om_1]) (by simp only [w, nl, mb2_s, Option.bind_some, xb_l, xb_r, goes_0, goes_1, goes_2, goes_3, ne10, if_false, if_true, om_0, om_1, ite_self])
      · by_cases e4 : sN g 1 < 16
        · have q1 : nI (sN g 1) < 16 := nI_lt (b := 16) e4 (by decide)
          have q2 : ¬ 16 ≤ nI (sN g 1) := nI_ge (b := 16) e4 (by decide)
          have hv2 : ∀ v, o2 = some v → v < sN g 1 := fun v hv => by
            rcases h2 with ⟨rfl, -⟩ | ⟨v2, a, b, -⟩
            · cases hv
            · rw [b] at hv; cases hv; exact a
          -- what the parents have
          have w1 : mld (mup u 0 0 0) 18 (nI p) = some (nI l) := by
            rcases h1.here hp with ⟨j2, w2⟩ | ⟨l2, hl2, j2, w2⟩
            · rw [j] at j2; cases j2
            · rw [j] at j2; cases j2; exact w2
          obtain ⟨had, hadC, hadM⟩ : ∃ had : Int32, (fC_Court_nationsAtBirth g p o2 l = fC_Court_nationsAtBirth_28 4096 g p o2 l had 0 0) ∧ ((mld (mup u 0 0 0) 15 (nI p)).bind fun r27 => if y2 = -1 then fM_birth_131 4096 (mup u 0 0 0) (nI p) y2 (nI l) 0 (r27 ||| 0) 0 else (mld (mup u 0 0 0) 15 y2).bind fun r29 => fM_birth_131 4096 (mup u 0 0 0) (nI p) y2 (nI l) 0 (r27 ||| r29) 0) = fM_birth_131 4096 (mup u 0 0 0) (nI p) y2 (nI l) 0 had 0 := by
            rcases h2 with ⟨rfl, rfl⟩ | ⟨v, hv, rfl, rfl⟩
            · refine ⟨sI g 5 p 8, ?_, ?_⟩
              · unfold fC_Court_nationsAtBirth fC_Court_nationsAtBirth_20
                simp only [ck5 hp, mb2_s, Option.bind_some, xb_l, xb_r, goes_0, goes_1, goes_2, goes_3, ne10, if_false, if_true, om_0, om_1]
              · rw [r15 h1 hp]
                simp only [Option.bind_some, if_true, Int32.or_zero]
            · have hv16 := h0.p16 hv
              refine ⟨sI g 5 p 8 ||| sI g 5 v 8, ?_, ?_⟩
              · unfold fC_Court_nationsAtBirth fC_Court_nationsAtBirth_20
                simp only [ck5 hp, ck5 hv, mb2_s, Option.bind_some, xb_l, xb_r, goes_0, goes_1, goes_2, goes_3, ne10, if_false, if_true, om_0, om_1]
              · rw [r15 h1 hp, r15 h1 hv]
                simp only [Option.bind_some, zne1 (show v < 2147483648 by omega), if_false]
          obtain ⟨y, yc, yh⟩ := c_birth_loop h1 (i1 := p) (o2 := o2) hp hv2 hl had (sN g 0) 0 4096 0 (by omega) (by have := hN.1; omega)
          obtain ⟨y', ym, yh'⟩ := m_birth_loop h1 (i1 := p) (o2 := o2) hp h2 hl had (sN g 0) 0 4096 0 (by omega) (by have := hN.1; omega)
          have ey : y' = y := hb_ext fun i hi => by
            rw [yh i hi, yh' i hi]
            by_cases e9 : i < sN g 0
            · simp [e9, Bool.or_assoc]
            · have e10 : ¬ l = i := fun z => e9 (z ▸ hl)
              simp [e9, e10]
          subst ey
          have yc' : fC_Court_nationsAtBirth_28 4096 g p o2 l had 0 0 = some y' := yc
          have ym' : fM_birth_131 4096 (mup u 0 0 0) (nI p) y2 (nI l) 0 had 0 = _ := ym
          have mk := m_make h1 e4 y' (nI t)
          have hR := up_birth h1 e4 (nI t) y' (nI p) y2
          have hRC : RC t _ _ := ⟨hR, fun q hq => by
            rw [gN_s] at hq
            have := hT.2.1
            by_cases e6 : q = sN g 1
            · subst e6; exact Cn_per (by omega)
            · exact Cn_new (by decide) (by omega) (h.2 q (by omega))⟩
          have hp' : sN g 1 < sN (gnew g 1 (LPer (nI (sN g 1)) (nI t) (nI p) y2 y')) 1 := by rw [gN_s]; omega
          have hl' : l < sN (gnew g 1 (LPer (nI (sN g 1)) (nI t) (nI p) y2 y')) 0 := by rw [gN_n g _ (by decide)]; exact hl
          obtain ⟨s, g2, u2, s1, s2, ac, am, hR2, eN, eJ, e17, e0, e50⟩ := s_arr hRC hp' hl' (Or.inl ⟨rfl, rfl⟩) false
          have ac' : fC_Court_arrive (gnew g 1 (LPer (nI (sN g 1)) (nI t) (nI p) y2 y')) (sN g 1) l none 0 = some g2 := ac
          have n50 : sI g2 5 (sN g 1) 0 = nI (sN g 1) := by
            rw [e50]
            exact gI_s g _ (by decide) rfl 0
          have k5 : ck g2 5 (sN g 1) = some () := ck5 (by rw [eN]; exact hp')
          refine simW_r (r := nI (sN g 1)) (g2 := g2) (u2 := u2) (by simp only [e, ck5 hp, ck4 hl, j, q1, hadC, yc', hT.1, ac', k5, n50, mb2_s, Option.bind_some, xb_l, xb_r, goes_0, goes_1, goes_2, goes_3, ne10, if_false, if_true, om_0, om_1]) ?_ ?_ hR2
          · simp only [w, e, nl, hN.2.2.2.1, q2, w1, mb2_s, Option.bind_some, xb_l, xb_r, goes_0, goes_1, goes_2, goes_3, ne10, if_false, if_true, om_0, om_1]
            rw [hadM, ym', hT1.2.2, mk]
            simp only [mb2_s, mt16 e4, mt17 e4, Option.bind_some]
            rw [show fM_come _ (nI (sN g 1)) (nI l) (-1) 0 = some (nI s, u2) from am]
            rfl
          · rw [e0]
            simp only [kn (show 0 ≠ 13 by decide), kn (show 0 ≠ 15 by decide), kn (show 0 ≠ 14 by decide), kn (show 0 ≠ 16 by decide), kn (show 0 ≠ 17 by decide), kn (show 0 ≠ 18 by decide), kn (show 0 ≠ 20 by decide), mup_at]
        · have e5 : sN g 1 = 16 := by have := hN.2.2.1; omega
          have q1 : ¬ nI (sN g 1) < 16 := by rw [e5]; decide +kernel
          have q2 : 16 ≤ nI (sN g 1) := by rw [e5]; decide +kernel
          exact simW_x h 2 rfl (by simp only [e, ck5 hp, j, q1, mb2_s, Option.bind_some, xb_l, xb_r, goes_0, goes_1, goes_2, goes_3, ne10, if_false, if_true, om_0, om_1]) (by simp only [w, e, nl, hN.2.2.2.1, q2, mb2_s, Option.bind_some, xb_l, xb_r, goes_0, goes_1, goes_2, goes_3, ne10, if_false, if_true, om_0, om_1])
  unfold fC_Court_birth fM_birth fM_birth_21 fM_birth_25
  rcases s_isPerson h0 x1 with ⟨p, hp, rfl, c1, m1⟩ | ⟨c1, m1⟩
  · by_cases e : x2 = -1
    · subst e
      simp only [c1, m1, mb2_s, Option.bind_some, xb_l, xb_r, goes_0, goes_1, goes_2, goes_3, ne10, if_false, if_true, om_0, om_1]
      exact main hp (Or.inl ⟨rfl, rfl⟩)
    · rcases s_isPerson h0 x2 with ⟨q, hq, rfl, c2, m2⟩ | ⟨c2, m2⟩
      · simp only [c1, m1, c2, m2, e, mb2_s, Option.bind_some, xb_l, xb_r, goes_0, goes_1, goes_2, goes_3, ne10, if_false, if_true, om_0, om_1]
        exact main hp (Or.inr ⟨q, hq, rfl, rfl⟩)
      · refine simW_x h 0 rfl (by simp only [c1, c2, e, mb2_s, Option.bind_some, xb_l, xb_r, goes_0, goes_1, goes_2, goes_3, ne10, if_false, if_true, om_0, om_1]) ?_
        simp only [m1, m2, e, mb2_s, Option.bind_some, xb_l, xb_r, goes_0, goes_1, goes_2, goes_3, ne10, if_false, if_true, om_0, om_1]
        unfold fM_birth_26 fM_birth_54 fM_birth_55 fM_birth_85
        simp only [mb2_s, Option.bind_some, xb_l, xb_r, goes_0, goes_1, goes_2, goes_3, ne10, if_false, if_true, om_0, om_1]
  · refine simW_x h 0 rfl (by simp only [c1, mb2_s, Option.bind_some, xb_l, xb_r, goes_0, goes_1, goes_2, goes_3, ne10, if_false, if_true, om_0, om_1]) ?_
    simp only [m1, mb2_s, Option.bind_some, xb_l, xb_r, goes_0, goes_1, goes_2, goes_3, ne10, if_false, if_true, om_0, om_1]
    unfold fM_birth_26 fM_birth_54 fM_birth_55 fM_birth_85
    simp only [mb2_s, Option.bind_some, xb_l, xb_r, goes_0, goes_1, goes_2, goes_3, ne10, if_false, if_true, om_0, om_1]
/-! those who wait -/
def zW (g : CS) (l : Nat) (ty : Int32) : Nat → Bool := fun k => decide (sI g 7 k 5 = 0) && decide (sI g 7 k 2 = nI l) && decide (sI g 7 k 3 = ty)
theorem c_waits (h : R0 t g u) {k l : Nat} (hk : k < sN g 3) (ty : Int32) : fC_Request_isWaitingFor k g (nI l) ty = some (zB (zW g l ty k)) := by
  unfold fC_Request_isWaitingFor fC_Request_isWaitingFor_27 fC_Request_isWaitingFor_28 zW
  rw [ck7 hk]
  simp only [Option.bind_some]
  by_cases e1 : sI g 7 k 5 = 0
  · by_cases e2 : sI g 7 k 2 = nI l
    · by_cases e3 : sI g 7 k 3 = ty <;> simp [e1, e2, e3, zB, mbo]
    · simp [e1, e2, zB, mbo]
  · simp [e1, zB, mbo]
/-- how many wait ahead -/
def zA (g : CS) (l : Nat) (ty : Int32) (r : Nat) : Int32 := zS (fun k => zB (zW g l ty k)) 0 r
theorem m_place_loop (h : R0 t g u) {r l : Nat} (hr : r < sN g 3) (hl : sI g 7 r 2 = nI l) (k : Nat) : ∀ (i n : Nat) (a : Int32), i + k = sN g 3 → k < n → fM_placeOf_4 n u (nI r) a (nI i) = some (a + zS (fun j => zB (decide (j < r) && zW g l (sI g 7 r 3) j)) i k, u) := by
  have hN := h.aN.2.2.2.2.2.2
  have h40 := h.r40 hr
  obtain ⟨-, -, ⟨l2, b1, b2, b3⟩, r39, r40, -⟩ := h.aQ r hr
  have el : nI l2 = nI l := b2.symm.trans hl
  induction k with
  | zero =>
    intro i n a hi hn
    obtain ⟨n, rfl⟩ : ∃ m, n = m + 1 := ⟨n - 1, by omega⟩
    rw [fM_placeOf_4, hN.2.1, if_pos (nI_le (by omega) (by omega))]
    simp [zS]
  | succ k ih =>
    intro i n a hi hn
    obtain ⟨n, rfl⟩ : ∃ m, n = m + 1 := ⟨n - 1, by omega⟩
    have hi0 : i < sN g 3 := by omega
    have hi4 := h.r40 hi0
    obtain ⟨-, -, ⟨l3, d1, d2, d3⟩, i39, i40, -⟩ := h.aQ i hi0
    have i41 := ((h.aZ i hi4).1 hi0).1
    have e0 := ih (i + 1) n (a + 0) (by omega) (by omega)
    have e1 := ih (i + 1) n (a + 1) (by omega) (by omega)
    rw [fM_placeOf_4]
    unfold fM_placeOf_60 fM_placeOf_61 fM_placeOf_104 fM_placeOf_108 fM_placeOf_109
    rw [hN.2.1, if_neg (nI_ge (by omega) (by omega))]
    simp only [md41 hi4, i41, md38 hi4, d3, md38 h40, b3, md39 hi4, i39, md39 h40, r39, md40 hi4, i40, md40 h40, r40, zp1, e0, e1, ne10, if_false, if_true, Option.bind_some, zleI (show r < 2147483648 by omega) (show i < 2147483648 by omega), zT1 (show i < 2147483648 by omega) (show r < 2147483648 by omega), el]
    simp only [zS, zW, d2]
    by_cases c1 : i = r
    · subst c1
      simp [zB]
    · by_cases c2 : sI g 7 i 5 = 0
      · by_cases c3 : nI l3 = nI l
        · by_cases c4 : sI g 7 i 3 = sI g 7 r 3
          · by_cases c5 : i < r
            · have so := h.aO i r c5 hr
              by_cases c6 : sI g 7 i 4 < sI g 7 r 4
              · simp [c1, c2, c3, c4, c5, c6, zB, Int32.add_assoc]
              · have c7 : sI g 7 i 4 = sI g 7 r 4 := Int32.le_antisymm so (Int32.not_lt.mp c6)
                have c8 : ¬ r ≤ i := by omega
                simp [c1, c2, c3, c4, c5, c7, c8, zB, Int32.add_assoc]
            · have so := h.aO r i (by omega) hi0
              have c6 : ¬ sI g 7 i 4 < sI g 7 r 4 := Int32.not_lt.mpr so
              have c8 : r ≤ i := by omega
              simp [c1, c2, c3, c4, c5, c6, c8, zB]
          · simp [c1, c2, c3, c4, zB]
        · simp [c1, c2, c3, zB]
      · simp [c1, c2, zB]
theorem m_place (h : R0 t g u) {r l : Nat} (hr : r < sN g 3) (hl : sI g 7 r 2 = nI l) : fM_placeOf u (nI r) = some (zA g l (sI g 7 r 3) r, u) := by
  have hN := h.aN.2.2.2.2.2.2.1
  have lp := m_place_loop h hr hl (sN g 3) 0 4096 0 (by omega) (by omega)
  unfold fM_placeOf zA
  refine (show fM_placeOf_4 4096 u (nI r) 0 0 = _ from lp).trans ?_
  rw [Int32.zero_add, show sN g 3 = r + (sN g 3 - r) from by omega, zS_split, Nat.zero_add, zS_zero (f := fun j => zB (decide (j < r) && zW g l (sI g 7 r 3) j)) (sN g 3 - r) r (fun j h1 _ => by simp [show ¬ j < r by omega, zB]), Int32.add_zero]
  refine congrArg (fun z => some (z, u)) (zS_congr _ _ fun j _ hj => ?_)
  simp [show j < r by omega]
theorem c_place_loop (h : R0 t g u) {r l : Nat} (hr : r < sN g 3) (hl : sI g 7 r 2 = nI l) (k : Nat) : ∀ (i n : Nat) (a : Int32), i + k = r → k < n → fC_Court_placeOf_13 n g r a (nI i) = some (a + zS (fun j => zB (zW g l (sI g 7 r 3) j)) i k) := by
  have hN := h.aN.2.2.2.2.2.2
  have hC := h.aC 3 (by decide)
  have n0 := (h.aQ r hr).1
  induction k with
  | zero =>
    intro i n a hi hn
    obtain ⟨n, rfl⟩ : ∃ m, n = m + 1 := ⟨n - 1, by omega⟩
    rw [fC_Court_placeOf_13, ck7 hr]
    unfold fC_Court_placeOf_66
    simp only [Option.bind_some]
    rw [n0, if_pos (nI_le (by omega) (by omega))]
    simp [zS]
  | succ k ih =>
    intro i n a hi hn
    obtain ⟨n, rfl⟩ : ∃ m, n = m + 1 := ⟨n - 1, by omega⟩
    have hi0 : i < sN g 3 := by omega
    rw [fC_Court_placeOf_13, ck7 hr]
    unfold fC_Court_placeOf_60
    simp only [Option.bind_some]
    rw [n0, if_neg (nI_ge (by omega) (by omega)), if_neg (nI_ge (by omega) (by omega))]
    simp only [cget_ok hi0 hC.1 (show sN g 3 < 2147483648 by omega), show lix 3 i = i from rfl, ck7 hi0, hl, c_waits h hi0, zp1, zS, Option.bind_some, zB_0]
    rw [ih (i + 1) n _ (by omega) (by omega), ih (i + 1) n _ (by omega) (by omega)]
    rcases Bool.eq_false_or_eq_true (zW g l (sI g 7 r 3) i) with e | e
    · rw [if_neg (by rw [e]; decide), e, Int32.add_assoc]
      rfl
    · rw [if_pos e, e]
      simp [zB]
theorem sim_ofRequest (h : RC t g u) (x1 x2 : Int32) : SimQ [0, 1] (fC_Court_ofRequest g x1 x2) (fM_ofRequest u x1 x2) g := by
  have h0 := h.1
  have h1 := (h.thr 0).1
  unfold fC_Court_ofRequest fM_ofRequest fM_ofRequest_29 fM_ofRequest_96
  unfold fC_Court_placeOf
  rcases s_isRequest h0 x1 with ⟨r, hr, rfl, c1, m1⟩ | ⟨c1, m1⟩
  · have h40 := h0.r40 hr
    have q41 := ((h1.aZ r h40).1 hr).1
    obtain ⟨-, -, ⟨l, l1, l2, l3⟩, -, q40, -⟩ := h1.aQ r hr
    rcases in_small (u := u) 3 (by decide) x2 with ⟨j, hj, rfl, m2⟩ | ⟨hn, m2⟩
    · rcases (show j = 0 ∨ j = 1 ∨ j = 2 ∨ j = 3 by omega) with rfl | rfl | rfl | rfl
      · exact simQ_r h (sI g 7 r 5) (by simp only [c1, ck7 hr, show nI 0 = (0 : Int32) from rfl, mb2_s, Option.bind_some, xb_l, xb_r, goes_0, goes_1, goes_2, goes_3, ne10, if_false, if_true, om_0, om_1]) (by simp only [m1, show fM_in u (0 : Int32) 0 3 = some (1, u) from m2, show nI 0 = (0 : Int32) from rfl, md41 h40, q41, mb2_s, Option.bind_some, xb_l, xb_r, goes_0, goes_1, goes_2, goes_3, ne10, if_false, if_true, om_0, om_1])
      · exact simQ_r h (sI g 7 r 4) (by simp only [c1, ck7 hr, show nI 1 = (1 : Int32) from rfl, mb2_s, Option.bind_some, xb_l, xb_r, goes_0, goes_1, goes_2, goes_3, ne10, if_false, if_true, om_0, om_1]) (by simp only [m1, show fM_in u (1 : Int32) 0 3 = some (1, u) from m2, show nI 1 = (1 : Int32) from rfl, md40 h40, q40, mb2_s, Option.bind_some, xb_l, xb_r, goes_0, goes_1, goes_2, goes_3, ne10, if_false, if_true, om_0, om_1])
      · have q : ¬ (2 : Int32) = 0 ∧ ¬ (2 : Int32) = 1 := by decide
        obtain ⟨m, k1, k2, -, -, k5, -⟩ := s_cnt h1 hr
        exact simQ_r h (nI m) (by simp only [c1, ck7 hr, k5, show nI 2 = (2 : Int32) from rfl, q, mb2_s, Option.bind_some, xb_l, xb_r, goes_0, goes_1, goes_2, goes_3, ne10, if_false, if_true, om_0, om_1]) (by simp only [m1, show fM_in u (2 : Int32) 0 3 = some (1, u) from m2, show nI 2 = (2 : Int32) from rfl, q, md43 h40, k2, mb2_s, Option.bind_some, xb_l, xb_r, goes_0, goes_1, goes_2, goes_3, ne10, if_false, if_true, om_0, om_1])
      · have q : ¬ (3 : Int32) = 0 ∧ ¬ (3 : Int32) = 1 ∧ ¬ (3 : Int32) = 2 := by decide
        by_cases e : sI g 7 r 5 = 0
        · have pm := m_place h1 hr l2
          have pc := c_place_loop h1 hr l2 r 0 4096 0 (by omega) (by omega)
          rw [Int32.zero_add] at pc
          have pc' : fC_Court_placeOf_13 4096 g r 0 0 = some (zA g l (sI g 7 r 3) r) := pc
          exact simQ_r h (zA g l (sI g 7 r 3) r) (by simp only [c1, ck7 hr, e, pc', show nI 3 = (3 : Int32) from rfl, q, mb2_s, Option.bind_some, xb_l, xb_r, goes_0, goes_1, goes_2, goes_3, ne10, if_false, if_true, om_0, om_1]) (by simp only [m1, show fM_in u (3 : Int32) 0 3 = some (1, u) from m2, show nI 3 = (3 : Int32) from rfl, q, md41 h40, q41, e, pm, mb2_s, Option.bind_some, xb_l, xb_r, goes_0, goes_1, goes_2, goes_3, ne10, if_false, if_true, om_0, om_1])
        · exact simQ_r h (-1) (by simp only [c1, ck7 hr, e, show nI 3 = (3 : Int32) from rfl, q, mb2_s, Option.bind_some, xb_l, xb_r, goes_0, goes_1, goes_2, goes_3, ne10, if_false, if_true, om_0, om_1]) (by simp only [m1, show fM_in u (3 : Int32) 0 3 = some (1, u) from m2, show nI 3 = (3 : Int32) from rfl, q, md41 h40, q41, e, mb2_s, Option.bind_some, xb_l, xb_r, goes_0, goes_1, goes_2, goes_3, ne10, if_false, if_true, om_0, om_1])
    · have m2' : fM_in u x2 0 3 = some (0, u) := m2
      have n0 : ¬ x2 = 0 := hn 0 (by decide)
      have n1 : ¬ x2 = 1 := hn 1 (by decide)
      have n2 : ¬ x2 = 2 := hn 2 (by decide)
      have n3 : ¬ x2 = 3 := hn 3 (by decide)
      exact simQ_x h 1 rfl (by simp only [c1, n0, n1, n2, n3, mb2_s, Option.bind_some, xb_l, xb_r, goes_0, goes_1, goes_2, goes_3, ne10, if_false, if_true, om_0, om_1]) (by simp only [m1, m2', mb2_s, Option.bind_some, xb_l, xb_r, goes_0, goes_1, goes_2, goes_3, ne10, if_false, if_true, om_0, om_1])
  · exact simQ_x h 0 rfl (by simp only [c1, mb2_s, Option.bind_some, xb_l, xb_r, goes_0, goes_1, goes_2, goes_3, ne10, if_false, if_true, om_0, om_1]) (by simp only [m1, mb2_s, Option.bind_some, xb_l, xb_r, goes_0, goes_1, goes_2, goes_3, ne10, if_false, if_true, om_0, om_1])
end PH
