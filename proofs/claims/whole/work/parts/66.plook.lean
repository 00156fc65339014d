/-! ===== looking at a person ===== -/
section PH
variable {t : Nat} {g : CS} {u : MS}
def zSt (n z sl d f b : Bool) : Nat := if n = true then 1 else if z = true then 2 else if sl = true then 4 else if d = false then 4 else if f = true then 3 else if b = true then 3 else 4
/-- what the status leaves: a state, alike on both sides -/
def zLk (t : Nat) (g : CS) (u : MS) (p l : Nat) : Prop := ∃ s g1 u1, 1 ≤ s ∧ s ≤ 4 ∧ fC_Court_lookAt g p = fC_Court_lookAt_48 g1 p (some l) (nI s) ∧ fM_statusIn u (nI p) (nI l) = some (nI s, u1) ∧ R0 t g1 u1 ∧ (∀ q D, Cn g q D → Cn g1 q D) ∧ sN g1 = sN g ∧ sJ g1 = sJ g ∧ sI g1 5 = sI g 5 ∧ sI g1 17 = sI g 17 ∧ u1 18 = u 18 ∧ u1 0 = u 0
theorem s_stat (h : R0 t g u) {p l : Nat} (hp : p < sN g 1) (hl : l < sN g 0) (hC : Cn g p t) (hw : sJ g 5 p 9 = some l) : zLk t g u p l := by
  have h16 := h.p16 hp
  have h8 := h.l8 hl
  have hT := h.aT
  obtain ⟨sl, a11, a19⟩ := (h.aS p h16).1 hp
  obtain ⟨f9, -, a12, a21⟩ := (h.aE p h16).1 hp
  obtain ⟨d, c5, m5⟩ := s_days h hp hl hC (sI g 5 p 12)
  have e21 : u 21 p = sI g 5 p 12 := by rw [a12, a21]
  obtain ⟨cf, mf⟩ := s_free h hp hl
  have hn := s_of h hp hl
  have hz := c_valid h hp h8
  have hm := m_root h hp hl
  have hh := s_has u (sI g 5 p 8) (show l < 32 by omega)
  have hr := r15 h hp
  unfold zRt at hm
  generalize zAny (zFr t g p l) 0 (sN g 0) = f at cf mf
  generalize hb (sI g 5 p 8) l = n at hn hm hh
  generalize zP t g p l = z at hz hm
  rcases h.aI p hp with ⟨j10, u20⟩ | ⟨v, hv, j10, u20⟩
  · have cs : fC_Court_statusIn g p l = some (nI (zSt n z sl d f false)) := by
      unfold fC_Court_statusIn fC_Court_statusIn_81 fC_Court_statusIn_85 fC_Court_statusIn_86 fC_Court_statusIn_96
      simp only [ck5 hp, ck4 hl, hn, (h.aL l hl).1, hT.1, hz, a11, c5, cf, j10, Option.bind_some, zB_0, om_0]
      cases n <;> cases z <;> cases sl <;> cases d <;> cases f <;> rfl
    have ms : fM_statusIn u (nI p) (nI l) = some (nI (zSt n z sl d f false), u) := by
      unfold fM_statusIn fM_statusIn_27 fM_statusIn_63 fM_statusIn_67 fM_statusIn_68 fM_statusIn_99 fM_statusIn_153
      simp only [hm, mf, md20 h16, u20, md19 h16, a19, md21 h16, e21, m5, hr, hh, mb2_s, Option.bind_some, zB_0]
      cases n <;> cases z <;> cases sl <;> cases d <;> cases f <;> rfl
    have cl : fC_Court_lookAt g p = fC_Court_lookAt_48 g p (some l) (nI (zSt n z sl d f false)) := by
      unfold fC_Court_lookAt
      simp only [ck5 hp, hw, om_1, om_0, cs, j10, Option.bind_some, ite_self]
    exact ⟨_, g, u, by cases n <;> cases z <;> cases sl <;> cases d <;> cases f <;> decide, by cases n <;> cases z <;> cases sl <;> cases d <;> cases f <;> decide, cl, ms, h, fun _ _ q => q, rfl, rfl, rfl, rfl, rfl, rfl⟩
  · have h60 := h.v60 hv
    obtain ⟨b, cg, mg⟩ := s_good h hv hl
    obtain ⟨-, a34, a35⟩ := h.aX v hv
    have cs : fC_Court_statusIn g p l = some (nI (zSt n z sl d f b)) := by
      unfold fC_Court_statusIn fC_Court_statusIn_81 fC_Court_statusIn_85 fC_Court_statusIn_86 fC_Court_statusIn_96
      simp only [ck5 hp, ck4 hl, ck6 hv, hn, (h.aL l hl).1, hT.1, hz, a11, c5, cf, cg, j10, Option.bind_some, zB_0, om_1]
      cases n <;> cases z <;> cases sl <;> cases d <;> cases f <;> cases b <;> rfl
    have cl : fC_Court_lookAt g p = if nI (zSt n z sl d f b) = 3 then (if f = false then (fC_Visa_takeDay v g (nI t)).bind fun g24 => fC_Court_lookAt_48 g24 p (some l) (nI (zSt n z sl d f b)) else fC_Court_lookAt_48 g p (some l) (nI (zSt n z sl d f b))) else fC_Court_lookAt_48 g p (some l) (nI (zSt n z sl d f b)) := by
      unfold fC_Court_lookAt
      simp only [ck5 hp, ck6 hv, hw, om_1, cs, cf, hT.1, j10, Option.bind_some, zB_0]
    have ms : fM_statusIn u (nI p) (nI l) = if n = false ∧ z = false ∧ sl = false ∧ d = true ∧ f = false ∧ b = true ∧ ¬ sI g 6 v 7 = nI t then some (3, mup (mup u 35 v (nI t)) 34 v (sI g 6 v 6 - 1)) else some (nI (zSt n z sl d f b), u) := by
      have q1 : ∀ x, mup u 35 v x 20 p = u 20 p := fun x => mup_n _ _ _ _ (by omega)
      have q2 : ∀ x, mup u 35 v x 34 v = u 34 v := fun x => mup_n _ _ _ _ (by omega)
      unfold fM_statusIn fM_statusIn_27 fM_statusIn_63 fM_statusIn_67 fM_statusIn_68 fM_statusIn_99 fM_statusIn_153
      simp only [hm, mf, md20 h16, u20, md19 h16, a19, md21 h16, e21, m5, hr, hh, mg, md35 h60, a35, hT.2.2, mt35 h60, mt34 h60, md34 h60, q1, q2, a34, zne1 (show v < 2147483648 by omega), if_false, mb2_s, Option.bind_some, zB_0]
      by_cases e : sI g 6 v 7 = nI t
      · cases n <;> cases z <;> cases sl <;> cases d <;> cases f <;> cases b <;> simp [e] <;> rfl
      · cases n <;> cases z <;> cases sl <;> cases d <;> cases f <;> cases b <;> simp [e] <;> rfl
    by_cases hB : n = false ∧ z = false ∧ sl = false ∧ d = true ∧ f = false ∧ b = true ∧ ¬ sI g 6 v 7 = nI t
    · rw [if_pos hB] at ms
      obtain ⟨rfl, rfl, rfl, rfl, rfl, rfl, e⟩ := hB
      have e6 : sI (uI g 6 v 7 (nI t)) 6 v 6 = sI g 6 v 6 := sI_n _ _ _ _ _ (by omega)
      refine ⟨3, uI (uI g 6 v 7 (nI t)) 6 v 6 (sI g 6 v 6 - 1), _, by decide, by decide, ?_, ms, up_day h (v := v) (nI t) (sI g 6 v 6 - 1), fun q D hq => Cn_uI (Cn_uI hq (by decide)) (by decide), rfl, rfl, ?_, ?_, ?_, ?_⟩
      · rw [cl, if_pos (show nI (zSt false false false true false true) = 3 from rfl), if_pos rfl]
        unfold fC_Visa_takeDay fC_Visa_takeDay_23
        rw [ck6 hv]
        simp only [Option.bind_some]
        rw [if_neg e, e6]
        rfl
      · rw [sI_n1 _ _ _ _ (by decide), sI_n1 _ _ _ _ (by decide)]
      · rw [sI_n1 _ _ _ _ (by decide), sI_n1 _ _ _ _ (by decide)]
      · rw [mup_ne _ _ _ (by decide), mup_ne _ _ _ (by decide)]
      · rw [mup_ne _ _ _ (by decide), mup_ne _ _ _ (by decide)]
    · rw [if_neg hB] at ms
      refine ⟨_, g, u, ?_, ?_, ?_, ms, h, fun _ _ q => q, rfl, rfl, rfl, rfl, rfl, rfl⟩
      · cases n <;> cases z <;> cases sl <;> cases d <;> cases f <;> cases b <;> decide
      · cases n <;> cases z <;> cases sl <;> cases d <;> cases f <;> cases b <;> decide
      · rw [cl]
        by_cases e : sI g 6 v 7 = nI t
        · have ht : fC_Visa_takeDay v g (nI t) = some g := by
            unfold fC_Visa_takeDay fC_Visa_takeDay_23
            rw [ck6 hv]
            simp only [Option.bind_some]
            rw [if_pos e]
          rw [ht]
          simp only [Option.bind_some, ite_self]
        · by_cases e3 : nI (zSt n z sl d f b) = 3
          · cases hf : f
            · exfalso
              subst hf
              apply hB
              cases n <;> cases z <;> cases sl <;> cases d <;> cases b <;> first | exact absurd e3 (by decide +kernel) | exact ⟨rfl, rfl, rfl, rfl, rfl, rfl, e⟩
            · rw [if_neg (by decide : ¬ true = false), ite_self]
          · rw [if_neg e3]
theorem Cn_rec {p : Nat} {x : Int32} (hC : Cn g p t) : Cn (uI g 17 p t x) p t := by
  intro d hd
  rw [sI_n1 _ _ _ _ (by decide), hC d hd]
  refine zS_congr _ _ fun j _ hj => ?_
  show zB (vC g (sI g 17 p j)) = zB (vC (uI g 17 p t x) (sI (uI g 17 p t x) 17 p j))
  rw [sI_n3 _ _ _ _ (by omega), vC_c (g := g) (g2 := uI g 17 p t x) rfl (fun l => sI_n _ _ _ _ _ (by omega))]
/-- the row that counts, up to today -/
theorem c_tail (h : R0 t g u) {p : Nat} (hp : p < sN g 1) (hC : Cn g p t) : ∃ y, fC_Court_lookAt_68 g p = some (uI g 18 p t y) ∧ R0 t (uI g 18 p t y) u ∧ Cn (uI g 18 p t y) p (t + 1) := by
  have hT := h.aT
  obtain ⟨m, h1, h2, h3, h4, h5⟩ := h.rec hp (show t < 3601 by omega)
  refine ⟨zS (zc g p) 0 (t + 1), ?_, up_cnt h _, ?_⟩
  · unfold fC_Court_lookAt_68 fC_Court_lookAt_91
    simp only [ck5 hp, hT.1, at9 hp (show t < 3601 by omega), h4, c_counting h h1, c_sum h hp hC (show t ≤ 3601 by omega) (Nat.le_refl _), put10 _ hp (show t < 3601 by omega), Option.bind_some, zB_0]
    rw [zS_last, Nat.zero_add]
    have e : zc g p t = zB (vC g (nI m)) := by unfold zc; rw [h4]
    rw [e]
    cases vC g (nI m) <;> rfl
  · intro d hd
    have ez : zc (uI g 18 p t (zS (zc g p) 0 (t + 1))) p = zc g p := by
      funext j
      show zB (vC (uI g 18 p t _) (sI (uI g 18 p t _) 17 p j)) = zB (vC g (sI g 17 p j))
      rw [sI_n1 _ _ _ _ (by decide), vC_c (g := g) (g2 := uI g 18 p t _) rfl (fun l => sI_n _ _ _ _ _ (by omega))]
    rw [ez]
    by_cases e : d = t
    · subst e; rw [sI_at]
    · rw [sI_n3 _ _ _ _ e, hC d (by omega)]
/-- what a look leaves, for the others -/
def zFrm (g g2 : CS) (p : Nat) : Prop := (∀ q D, q ≠ p → Cn g q D → Cn g2 q D) ∧ sN g2 = sN g ∧ sJ g2 = sJ g ∧ sI g2 5 = sI g 5 ∧ ∀ q, q ≠ p → sI g2 17 q = sI g 17 q
theorem s_look (h : R0 t g u) {p l : Nat} (hp : p < sN g 1) (hl : l < sN g 0) (hC : Cn g p t) (hw : sJ g 5 p 9 = some l) : ∃ s g2 u2, 1 ≤ s ∧ s ≤ 4 ∧ fC_Court_lookAt g p = some g2 ∧ fM_look u (nI p) = some (nI s, u2) ∧ R0 t g2 u2 ∧ Cn g2 p (t + 1) ∧ zFrm g g2 p ∧ sI g2 17 p t = nI (10 * l + s) ∧ u2 0 = u 0 := by
  have h16 := h.p16 hp
  have h8 := h.l8 hl
  have hT := h.aT
  obtain ⟨s, g1, u1, s1, s2, cl, ms, hR, hK, eN, eJ, e5, e17, e18, e0⟩ := s_stat h hp hl hC hw
  have hp1 : p < sN g1 1 := by rw [eN]; exact hp
  have hl1 : l < sN g1 0 := by rw [eN]; exact hl
  have hT1 := hR.aT
  have hu18 : u 18 p = nI l := by
    rcases h.aH p hp with ⟨a, b⟩ | ⟨l2, hl2, a, b⟩
    · rw [hw] at a; cases a
    · rw [hw] at a; cases a; exact b
  have hm : (10 * l + s) % 10 ≤ 4 ∧ (10 * l + s = 0 ∨ (10 * l + s) / 10 < sN g1 0) := by omega
  have hR2 := up_rec1 hR hp1 hm
  obtain ⟨y, ct, hR3, hC3⟩ := c_tail hR2 (p := p) hp1 (Cn_rec (hK p t hC))
  refine ⟨s, _, _, s1, s2, ?_, ?_, hR3, hC3, ⟨fun q D hq hCq => ?_, eN, eJ, ?_, fun q hq => ?_⟩, ?_, ?_⟩
  · rw [cl]
    unfold fC_Court_lookAt_48
    simp only [om_1, ck5 hp1, ck4 hl1, hT1.1, (hR.aL l hl1).1, z10, put9 _ hp1 (show t < 3601 by omega), Option.bind_some]
    exact ct
  · unfold fM_look
    rw [md18 h16, hu18]
    simp only [Option.bind_some]
    rw [ms]
    simp only [mb2_s]
    rw [md18 h16, e18, hu18, hT1.2.2]
    simp only [Option.bind_some]
    rw [zd, z10, mt22 (by omega)]
    rfl
  · exact Cn_o (Cn_o (hK q D hCq) (Or.inl rfl) hq) (Or.inr rfl) hq
  · rw [sI_n1 _ _ _ _ (by decide), sI_n1 _ _ _ _ (by decide)]; exact e5
  · rw [sI_n1 _ _ _ _ (by decide), sI_n2 _ _ _ _ hq, e17]
  · rw [sI_n1 _ _ _ _ (by decide), sI_at]
  · rw [mup_ne _ _ _ (by decide)]; exact e0
theorem s_look0 (h : R0 t g u) {p : Nat} (hp : p < sN g 1) (hC : Cn g p t) (hw : sJ g 5 p 9 = none) : ∃ g2, fC_Court_lookAt g p = some g2 ∧ R0 t g2 u ∧ Cn g2 p (t + 1) ∧ zFrm g g2 p := by
  obtain ⟨y, ct, hR3, hC3⟩ := c_tail h hp hC
  refine ⟨_, ?_, hR3, hC3, fun q D hq hCq => Cn_o hCq (Or.inr rfl) hq, rfl, rfl, ?_, fun q hq => ?_⟩
  · unfold fC_Court_lookAt
    simp only [ck5 hp, hw, om_0, Option.bind_some]
    exact ct
  · rw [sI_n1 _ _ _ _ (by decide)]
  · rw [sI_n1 _ _ _ _ (by decide)]
end PH
