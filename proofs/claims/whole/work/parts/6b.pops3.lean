/-! ===== the calls that write, third lot ===== -/
section PH
variable {t : Nat} {g : CS} {u : MS}
theorem zhalf {a : Nat} (h : a < 2147483648) : nI a / 2 = nI (a / 2) := pk_div (d := 2) h (by decide) (by decide)
theorem s_there (h : R0 t g u) {p l : Nat} (hp : p < sN g 1) (hl : l < sN g 0) (sp x4 : Int32) (k : Nat) : ∀ (i n n2 : Nat) (a : Int32), i + k = t + 1 → k < n → k < n2 → ∃ c, fC_Court_wasThereEnough_26 n g p l sp a (nI i) = some (zB (!decide (c < (sp + 1) / 2))) ∧ fM_extend_54 n2 u (nI p) (nI l) 1 x4 a (nI i) = fM_extend_112 u (nI p) (nI l) 1 x4 c := by
  have hT := h.aT
  have h16 := h.p16 hp
  have h8 := h.l8 hl
  induction k with
  | zero =>
    intro i n n2 a hi hn hn2
    obtain ⟨n, rfl⟩ : ∃ m, n = m + 1 := ⟨n - 1, by omega⟩
    obtain ⟨n2, rfl⟩ : ∃ m, n2 = m + 1 := ⟨n2 - 1, by omega⟩
    rw [fC_Court_wasThereEnough_26, fM_extend_54]
    unfold fC_Court_wasThereEnough_87
    rw [hT.1, hT.2.2, if_pos (nI_lt (by omega) (by omega)), if_pos (nI_lt (by omega) (by omega))]
    refine ⟨a, ?_, rfl⟩
    by_cases e : a < (sp + 1) / 2 <;> simp [e, zB, mbo]
  | succ k ih =>
    intro i n n2 a hi hn hn2
    obtain ⟨n, rfl⟩ : ∃ m, n = m + 1 := ⟨n - 1, by omega⟩
    obtain ⟨n2, rfl⟩ : ∃ m, n2 = m + 1 := ⟨n2 - 1, by omega⟩
    obtain ⟨m, h1, h2, h3, h4, h5⟩ := h.rec hp (show i < 3601 by omega)
    rw [fC_Court_wasThereEnough_26, fM_extend_54]
    unfold fC_Court_wasThereEnough_66 fM_extend_102 fM_extend_103
    rw [hT.1, hT.2.2, if_neg (nI_nlt (by omega) (by omega)), if_neg (nI_nlt (by omega) (by omega))]
    simp only [ck5 hp, ck4 hl, at9 hp (show i < 3601 by omega), h4, (h.aL l hl).1, ne10, if_false, m22 h16 (show i < 3601 by omega), h5, zp1, zq10 (show m < 2147483648 by omega), Option.bind_some]
    by_cases e : m = 0
    · subst e
      rw [if_pos (show nI 0 = 0 from rfl), if_pos (show nI 0 ≤ 0 from by decide +kernel), Int32.add_zero]
      exact ih (i + 1) n n2 a (by omega) (by omega) (by omega)
    · rw [if_neg (nI_ne0 (by omega) (by omega)), if_neg (nI_nle (by omega) (by omega))]
      by_cases e2 : nI (m / 10) = nI l
      · rw [if_pos e2, if_pos e2]
        exact ih (i + 1) n n2 (a + 1) (by omega) (by omega) (by omega)
      · rw [if_neg e2, if_neg e2, Int32.add_zero]
        exact ih (i + 1) n n2 a (by omega) (by omega) (by omega)
theorem sim_extend (h : RC t g u) (x1 x2 : Int32) : SimW [0, 2] (fC_Court_extend g x1 x2) (fM_extend u x1 x2) g := by
  have h0 := h.1
  have hz := h.thr 0
  have h1 := hz.1
  have hT := h0.aT
  unfold fC_Court_extend fC_Court_extend_42
  unfold fM_extend fM_extend_20
  rcases s_isPerson h0 x1 with ⟨p, hp, rfl, c1, m1⟩ | ⟨c1, m1⟩
  · have h16 := h0.p16 hp
    rcases s_isLand h0 x2 with ⟨l, hl, rfl, c2, m2⟩ | ⟨c2, m2⟩
    · have h8 := h0.l8 hl
      have i128 : 8 * p + l < 128 := by omega
      have ef : fM_extend_21 u (nI p) (nI l) 1 = fM_extend_45 u (nI p) (nI l) 1 (nI (t + 1 - 360)) := by
        have ez := zfrom0 (w := 360) hT.2.1 (by decide)
        unfold fM_extend_21
        rw [hT.2.2]
        by_cases e : 0 ≤ nI t - 360 + 1
        · rw [if_pos e]
          rw [if_pos (show 0 ≤ nI t - nI 360 + 1 from e)] at ez
          exact congrArg (fM_extend_45 u (nI p) (nI l) 1) ez
        · rw [if_neg e]
          rw [if_neg (show ¬ 0 ≤ nI t - nI 360 + 1 from e)] at ez
          exact congrArg (fM_extend_45 u (nI p) (nI l) 1) ez
      obtain ⟨s0, es, hs1, hs2⟩ : ∃ s0, (if nI (t + 1) < 360 then nI (t + 1) else 360) = nI s0 ∧ s0 ≤ t + 1 ∧ t + 1 - s0 = t + 1 - 360 := by
        by_cases e : t + 1 < 360
        · exact ⟨t + 1, if_pos (nI_lt (b := 360) e (by decide)), Nat.le_refl _, by omega⟩
        · exact ⟨360, if_neg (nI_nlt (b := 360) (by omega) (by omega)), by omega, rfl⟩
      obtain ⟨c, lc, lm⟩ := s_there h0 hp hl (nI s0) (nI (t + 1 - 360)) (t + 1 - (t + 1 - 360)) (t + 1 - 360) 4096 4096 0 (by omega) (by omega) (by omega)
      have wc : fC_Court_wasThereEnough g p l = some (zB (!decide (c < nI ((s0 + 1) / 2)))) := by
        unfold fC_Court_wasThereEnough
        rw [hT.1, zp1, es, sub_p1, zp1, pk_sub hs1, hs2, lc, zp1, zhalf (by omega)]
      have hx : nI t - nI (t + 1 - 360) + 2 = nI (s0 + 1) := by
        rw [pk_sub (by omega), show (2 : Int32) = nI 2 from rfl, nI_add]
        exact congrArg nI (by omega)
      have vc := c_valid h0 hp h8
      have vm := m_valid h0 hp h8
      have em : fM_extend_45 u (nI p) (nI l) 1 (nI (t + 1 - 360)) = fM_extend_112 u (nI p) (nI l) 1 (nI (t + 1 - 360)) c := lm
      simp only [c1, c2, m1, m2, ef, em, mb2_s, Option.bind_some, xb_l, xb_r, goes_0, goes_1, goes_2, goes_3, ne10, if_false, if_true, om_0, om_1]
      unfold fM_extend_112 fM_extend_145 fM_extend_146 fM_extend_167
      cases hv : zP t g p l
      · rw [hv] at vc vm
        exact simW_x h 1 rfl (by simp only [ck5 hp, ck4 hl, (h0.aL l hl).1, hT.1, vc, zB_f, mb2_s, Option.bind_some, xb_l, xb_r, goes_0, goes_1, goes_2, goes_3, ne10, if_false, if_true, om_0, om_1]) (by simp only [vm, zB_f, mb2_s, Option.bind_some, xb_l, xb_r, goes_0, goes_1, goes_2, goes_3, ne10, if_false, if_true, om_0, om_1])
      · rw [hv] at vc vm
        by_cases e : c < nI ((s0 + 1) / 2)
        · have wc2 : fC_Court_wasThereEnough g p l = some 0 := by rw [wc]; simp [e, zB]
          exact simW_x h 1 rfl (by simp only [ck5 hp, ck4 hl, (h0.aL l hl).1, hT.1, vc, zB_t, wc2, mb2_s, Option.bind_some, xb_l, xb_r, goes_0, goes_1, goes_2, goes_3, ne10, if_false, if_true, om_0, om_1]) (by simp only [vm, zB_t, hT.2.2, hx, zhalf (show s0 + 1 < 2147483648 by omega), e, mb2_s, Option.bind_some, xb_l, xb_r, goes_0, goes_1, goes_2, goes_3, ne10, if_false, if_true, om_0, om_1])
        · have wc2 : fC_Court_wasThereEnough g p l = some 1 := by rw [wc]; simp [e, zB]
          have hv2 : ¬ sI g 23 p l < nI t := by
            unfold zP at hv
            simpa using hv
          have e23 := ((h1.aM p h16 l h8).1 hp).1
          have pc : fC_Permits_prolong p g (nI l) 360 = some (uI g 23 p l (sI g 23 p l + 360)) := by
            unfold fC_Permits_prolong
            simp only [ck5 hp, at15 hp h8, put15 _ hp h8, mb2_s, Option.bind_some, xb_l, xb_r, goes_0, goes_1, goes_2, goes_3, ne10, if_false, if_true, om_0, om_1]
          have k5 : ck (uI g 23 p l (sI g 23 p l + 360)) 5 p = some () := ck5 hp
          have k4 : ck (uI g 23 p l (sI g 23 p l + 360)) 4 l = some () := ck4 hl
          have n4 : sI (uI g 23 p l (sI g 23 p l + 360)) 4 l 0 = nI l := by rw [sI_n _ _ _ _ _ (by omega)]; exact (h0.aL l hl).1
          have a15 : fC_Row_at 15 p (uI g 23 p l (sI g 23 p l + 360)) (nI l) = some (sI g 23 p l + 360) := by rw [at15 (g := uI g 23 p l (sI g 23 p l + 360)) hp h8, sI_at]
          refine simW_r (r := sI g 23 p l + 360) (u2 := mup (mup u 0 0 0) 23 (8 * p + l) (sI g 23 p l + 360)) (by simp only [ck5 hp, ck4 hl, (h0.aL l hl).1, hT.1, vc, zB_t, wc2, pc, k5, k4, n4, a15, mb2_s, Option.bind_some, xb_l, xb_r, goes_0, goes_1, goes_2, goes_3, ne10, if_false, if_true, om_0, om_1]) (by simp only [vm, zB_t, hT.2.2, hx, zhalf (show s0 + 1 < 2147483648 by omega), e, z8, md23 i128, mt23 i128, e23, mup_at, mb2_s, Option.bind_some, xb_l, xb_r, goes_0, goes_1, goes_2, goes_3, ne10, if_false, if_true, om_0, om_1]) (by rw [kn (by decide)]; exact mup_at _ _ _ _) (RC.mk0 (up_pro h1 hp h8 (zge hv2 hT.2.1) _) fun q hq => Cn_uI (h.2 q hq) (by omega))
    · refine simW_x h 0 rfl (by simp only [c1, c2, mb2_s, Option.bind_some, xb_l, xb_r, goes_0, goes_1, goes_2, goes_3, ne10, if_false, if_true, om_0, om_1]) ?_
      simp only [m1, m2, mb2_s, Option.bind_some, xb_l, xb_r, goes_0, goes_1, goes_2, goes_3, ne10, if_false, if_true, om_0, om_1]
      unfold fM_extend_21 fM_extend_45
      rw [show (4096 : Nat) = 4095 + 1 from rfl, fM_extend_54, fM_extend_54]
      unfold fM_extend_112 fM_extend_145 fM_extend_146 fM_extend_167
      simp only [mb2_s, Option.bind_some, xb_l, xb_r, goes_0, goes_1, goes_2, goes_3, ne10, if_false, if_true, om_0, om_1, ite_self]
  · refine simW_x h 0 rfl (by simp only [c1, mb2_s, Option.bind_some, xb_l, xb_r, goes_0, goes_1, goes_2, goes_3, ne10, if_false, if_true, om_0, om_1]) ?_
    simp only [m1, mb2_s, Option.bind_some, xb_l, xb_r, goes_0, goes_1, goes_2, goes_3, ne10, if_false, if_true, om_0, om_1]
    unfold fM_extend_21 fM_extend_45
    rw [show (4096 : Nat) = 4095 + 1 from rfl, fM_extend_54, fM_extend_54]
    unfold fM_extend_112 fM_extend_145 fM_extend_146 fM_extend_167
    simp only [mb2_s, Option.bind_some, xb_l, xb_r, goes_0, goes_1, goes_2, goes_3, ne10, if_false, if_true, om_0, om_1, ite_self]
theorem zoath {s : Nat} (hs : s ≤ t) (ht : t ≤ 3600) : (1080 ≤ nI t - nI s ↔ ¬ nI t - 1080 < nI s) := by
  rw [pk_sub hs]
  have e1 : (1080 : Int32) ≤ nI (t - s) ↔ 1080 ≤ t - s := zleI (a := 1080) (by decide) (by omega)
  rw [e1]
  by_cases e : 1080 ≤ t
  · have e2 : nI t - 1080 = nI (t - 1080) := pk_sub (b := 1080) e
    rw [e2, zltI (by omega) (by omega)]
    omega
  · have e2 : nI t - 1080 < nI s := by
      have := pk_sub_toInt (a := t) (b := 1080) (by omega) (by decide)
      rw [Int32.lt_iff_toInt_lt, nI_toInt (by omega)]
      have e3 : (nI t - 1080).toInt = (t : Int) - 1080 := this
      omega
    exact ⟨fun z => by omega, fun z => absurd e2 z⟩
theorem sim_oath (h : RC t g u) (x1 x2 : Int32) : SimW [0, 2] (fC_Court_oath g x1 x2) (fM_oath u x1 x2) g := by
  have h0 := h.1
  have hz := h.thr 0
  have h1 := hz.1
  have hT := h0.aT
  unfold fC_Court_oath fC_Court_oath_76 fM_oath fM_oath_20 fM_oath_21 fM_oath_84 fM_oath_85 fM_oath_106
  rcases s_isPerson h0 x1 with ⟨p, hp, rfl, c1, m1⟩ | ⟨c1, m1⟩
  · have h16 := h0.p16 hp
    rcases s_isLand h0 x2 with ⟨l, hl, rfl, c2, m2⟩ | ⟨c2, m2⟩
    · have h8 := h0.l8 hl
      have i128 : 8 * p + l < 128 := by omega
      rcases h0.here hp with ⟨j, w⟩ | ⟨k, hk, j, w⟩
      · have nl : ¬ (-1 : Int32) = nI l := fun z => zne1 (show l < 2147483648 by omega) z.symm
        exact simW_x h 1 rfl (by simp only [c1, c2, ck5 hp, j, mb2_s, Option.bind_some, xb_l, xb_r, goes_0, goes_1, goes_2, goes_3, ne10, if_false, if_true, om_0, om_1]) (by simp only [m1, m2, w, nl, mb2_s, Option.bind_some, xb_l, xb_r, goes_0, goes_1, goes_2, goes_3, ne10, if_false, if_true, om_0, om_1])
      · have k8 := h0.l8 hk
        by_cases e : k = l
        · subst e
          have so := s_of h0 hp hl
          have sh := s_has u (sI g 5 p 8) (show k < 32 by omega)
          have vc := c_valid h0 hp h8
          have vm := m_valid h0 hp h8
          cases hn : hb (sI g 5 p 8) k
          · rw [hn] at so sh
            cases hv : zP t g p k
            · rw [hv] at vc vm
              exact simW_x h 1 rfl (by simp only [c1, c2, ck5 hp, ck4 hl, j, so, zB_f, (h0.aL k hl).1, hT.1, vc, mb2_s, Option.bind_some, xb_l, xb_r, goes_0, goes_1, goes_2, goes_3, ne10, if_false, if_true, om_0, om_1]) (by simp only [m1, m2, w, r15 h0 hp, sh, zB_f, vm, mb2_s, Option.bind_some, xb_l, xb_r, goes_0, goes_1, goes_2, goes_3, ne10, if_false, if_true, om_0, om_1])
            · rw [hv] at vc vm
              have hv2 : ¬ sI g 23 p k < nI t := by
                unfold zP at hv
                simpa using hv
              obtain ⟨s, s1, s2, s3⟩ := ((h0.aM p h16 k h8).1 hp).2 (zge hv2 hT.2.1)
              have zo := zoath s1 hT.2.1
              by_cases e2 : nI t - 1080 < nI s
              · have e3 : ¬ 1080 ≤ nI t - nI s := fun z => (zo.mp z) e2
                exact simW_x h 1 rfl (by simp only [c1, c2, ck5 hp, ck4 hl, j, so, zB_f, zB_t, (h0.aL k hl).1, hT.1, vc, at14 hp h8, s2, e3, mb2_s, Option.bind_some, xb_l, xb_r, goes_0, goes_1, goes_2, goes_3, ne10, if_false, if_true, om_0, om_1]) (by simp only [m1, m2, w, r15 h0 hp, sh, zB_f, zB_t, vm, z8, md24 i128, s3, hT.2.2, e2, mb2_s, Option.bind_some, xb_l, xb_r, goes_0, goes_1, goes_2, goes_3, ne10, if_false, if_true, om_0, om_1])
              · have e3 : 1080 ≤ nI t - nI s := zo.mpr e2
                have e15 : mup u 0 0 0 15 p = sI g 5 p 8 := h1.aA p hp
                exact simW_r (r := sI g 5 p 8 ||| ((1 : Int32) <<< (nI k &&& 31))) (u2 := mup (mup u 0 0 0) 15 p (sI g 5 p 8 ||| ((1 : Int32) <<< (nI k &&& 31)))) (by simp only [c1, c2, ck5 hp, ck4 hl, j, so, zB_f, zB_t, (h0.aL k hl).1, hT.1, vc, at14 hp h8, s2, e3, s_bit h0 hl, sI_at, mb2_s, Option.bind_some, xb_l, xb_r, goes_0, goes_1, goes_2, goes_3, ne10, if_false, if_true, om_0, om_1]) (by simp only [m1, m2, w, md15 h16, h0.aA p hp, sh, zB_f, zB_t, vm, z8, md24 i128, s3, hT.2.2, e2, e15, mt15 h16, mup_at, mb2_s, Option.bind_some, xb_l, xb_r, goes_0, goes_1, goes_2, goes_3, ne10, if_false, if_true, om_0, om_1]) (by rw [kn (by decide)]; exact mup_at _ _ _ _) (RC.mk0 (up_nat h1 _) fun q hq => Cn_uI (h.2 q hq) (by omega))
          · rw [hn] at so sh
            exact simW_x h 1 rfl (by simp only [c1, c2, ck5 hp, ck4 hl, j, so, zB_t, mb2_s, Option.bind_some, xb_l, xb_r, goes_0, goes_1, goes_2, goes_3, ne10, if_false, if_true, om_0, om_1]) (by simp only [m1, m2, w, r15 h0 hp, sh, zB_t, mb2_s, Option.bind_some, xb_l, xb_r, goes_0, goes_1, goes_2, goes_3, ne10, if_false, if_true, om_0, om_1])
        · have e2 : ¬ nI k = nI l := fun z => e ((zT1 (by omega) (by omega)).mp z)
          exact simW_x h 1 rfl (by simp only [c1, c2, ck5 hp, ck4 hk, ck4 hl, j, e, mb2_s, Option.bind_some, xb_l, xb_r, goes_0, goes_1, goes_2, goes_3, ne10, if_false, if_true, om_0, om_1]) (by simp only [m1, m2, w, e2, mb2_s, Option.bind_some, xb_l, xb_r, goes_0, goes_1, goes_2, goes_3, ne10, if_false, if_true, om_0, om_1])
    · exact simW_x h 0 rfl (by simp only [c1, c2, mb2_s, Option.bind_some, xb_l, xb_r, goes_0, goes_1, goes_2, goes_3, ne10, if_false, if_true, om_0, om_1]) (by simp only [m1, m2, mb2_s, Option.bind_some, xb_l, xb_r, goes_0, goes_1, goes_2, goes_3, ne10, if_false, if_true, om_0, om_1])
  · exact simW_x h 0 rfl (by simp only [c1, mb2_s, Option.bind_some, xb_l, xb_r, goes_0, goes_1, goes_2, goes_3, ne10, if_false, if_true, om_0, om_1]) (by simp only [m1, mb2_s, Option.bind_some, xb_l, xb_r, goes_0, goes_1, goes_2, goes_3, ne10, if_false, if_true, om_0, om_1])
/-! requests -/
theorem m_open_1 (h : R0 t g u) {x1 x2 : Int32} (m : Nat) : ∀ (i n : Nat), i + m = sN g 3 → m < n → fM_hasOpen_5 n u x1 x2 1 (nI i) = some (1, u) := by
  have hN := h.aN.2.2.2.2.2.2
  induction m with
  | zero =>
    intro i n hi hn
    obtain ⟨n, rfl⟩ : ∃ m, n = m + 1 := ⟨n - 1, by omega⟩
    rw [fM_hasOpen_5, hN.2.1, if_pos (nI_le (by omega) (by omega))]
    rfl
  | succ m ih =>
    intro i n hi hn
    obtain ⟨n, rfl⟩ : ∃ m, n = m + 1 := ⟨n - 1, by omega⟩
    rw [fM_hasOpen_5, hN.2.1, if_neg (nI_ge (by omega) (by omega)), if_neg ne10]
    unfold fM_hasOpen_72 fM_hasOpen_77
    rw [zp1]
    exact ih (i + 1) n (by omega) (by omega)
theorem s_open_loop (h : R0 t g u) {p l : Nat} (hp : p < sN g 1) (hl : l < sN g 0) (m : Nat) : ∀ (i n n2 : Nat), i + m = sN g 3 → m < n → m < n2 → ∃ b, fC_Court_hasOpenRequest_2 n g p l (nI i) = some (zB b) ∧ fM_hasOpen_5 n2 u (nI p) (nI l) 0 (nI i) = some (zB b, u) := by
  have hN := h.aN.2.2.2.2.2.2
  have hCc := h.aC 3 (by decide)
  induction m with
  | zero =>
    intro i n n2 hi hn hn2
    obtain ⟨n, rfl⟩ : ∃ m, n = m + 1 := ⟨n - 1, by omega⟩
    obtain ⟨n2, rfl⟩ : ∃ m, n2 = m + 1 := ⟨n2 - 1, by omega⟩
    rw [fC_Court_hasOpenRequest_2, fM_hasOpen_5, hN.2.1, if_pos (nI_le (by omega) (by omega)), if_pos (nI_le (by omega) (by omega))]
    exact ⟨false, rfl, rfl⟩
  | succ m ih =>
    intro i n n2 hi hn hn2
    obtain ⟨n, rfl⟩ : ∃ m, n = m + 1 := ⟨n - 1, by omega⟩
    obtain ⟨n2, rfl⟩ : ∃ m, n2 = m + 1 := ⟨n2 - 1, by omega⟩
    have hi0 : i < sN g 3 := by omega
    have h40 := h.r40 hi0
    obtain ⟨-, ⟨p2, a1, a2, a3⟩, ⟨l2, b1, b2, b3⟩, -⟩ := h.aQ i hi0
    have e41 := ((h.aZ i h40).1 hi0).1
    have hi9 := ih (i + 1) n n2 (by omega) (by omega) (by omega)
    have hone := m_open_1 h (x1 := nI p) (x2 := nI l) m (i + 1) n2 (by omega) (by omega)
    rw [fC_Court_hasOpenRequest_2, fM_hasOpen_5, hN.2.1, if_neg (nI_ge (by omega) (by omega)), if_neg (nI_ge (by omega) (by omega)), if_pos rfl]
    unfold fC_Court_hasOpenRequest_60 fM_hasOpen_72 fM_hasOpen_76 fM_hasOpen_77 fC_Request_isOpen fC_Request_isOpen_23 fC_Request_isOpen_28
    simp only [cget_ok hi0 hCc.1 (show sN g 3 < 2147483648 by omega), show lix 3 i = i from rfl, ck7 hi0, ck5 hp, ck4 hl, (h.aP p hp).1, (h.aL l hl).1, md37 h40, a2, a3, md38 h40, b2, b3, md41 h40, e41, zp1, hone, Option.bind_some]
    by_cases e1 : nI p2 = nI p
    · by_cases e2 : nI l2 = nI l
      · by_cases e3 : sI g 7 i 5 = 0
        · exact ⟨true, by simp [e1, e2, e3, zB, mbo], by simp [e1, e2, e3, zB]⟩
        · by_cases e4 : sI g 7 i 5 = 2
          · exact ⟨true, by simp [e1, e2, e4, zB, mbo], by simp [e1, e2, e4, zB]⟩
          · by_cases e5 : sI g 7 i 5 = 3
            · exact ⟨true, by simp [e1, e2, e5, zB, mbo], by simp [e1, e2, e5, zB]⟩
            · obtain ⟨b, q1, q2⟩ := hi9
              exact ⟨b, by simp [e1, e2, e3, e4, e5, q1, mbo], by simp [e1, e2, e3, e4, e5, q2]⟩
      · obtain ⟨b, q1, q2⟩ := hi9
        exact ⟨b, by simp [e1, e2, q1], by simp [e1, e2, q2]⟩
    · obtain ⟨b, q1, q2⟩ := hi9
      exact ⟨b, by simp [e1, q1], by simp [e1, q2]⟩
theorem s_open (h : R0 t g u) {p l : Nat} (hp : p < sN g 1) (hl : l < sN g 0) : ∃ b, fC_Court_hasOpenRequest g p l = some (zB b) ∧ fM_hasOpen u (nI p) (nI l) = some (zB b, u) := by
  have hN := h.aN.2.2.2.2.2.2.1
  exact s_open_loop h hp hl (sN g 3) 0 4096 4096 (by omega) (by omega) (by omega)
theorem sim_ask (h : RC t g u) (x1 x2 x3 : Int32) : SimW [0, 1, 2] (fC_Court_ask g x1 x2 x3) (fM_ask u x1 x2 x3) g := by
  have h0 := h.1
  have hz := h.thr 0
  have h1 := hz.1
  have hT := h0.aT
  have hT1 := h1.aT
  have hN := h0.aN.2.2.2.2.2.2
  have hN1 := h1.aN.2.2.2.2.2.2
  unfold fC_Court_ask fC_Court_ask_66 fC_Court_ask_23 fM_ask fM_ask_20 fM_ask_21 fM_ask_63 fM_ask_64 fM_ask_99
  rcases s_isPerson h0 x1 with ⟨p, hp, rfl, c1, m1⟩ | ⟨c1, m1⟩
  · rcases s_isLand h0 x2 with ⟨l, hl, rfl, c2, m2⟩ | ⟨c2, m2⟩
    · have h8 := h0.l8 hl
      obtain ⟨b, oc, om⟩ := s_open h0 hp hl
      have so := s_of h0 hp hl
      have sh := s_has u (sI g 5 p 8) (show l < 32 by omega)
      generalize hb (sI g 5 p 8) l = n at so sh
      have e40 : 40 ≤ nI (sN g 3) ↔ 40 ≤ sN g 3 := zleI (a := 40) (by decide) (by omega)
      by_cases e1 : x3 < 0
      · refine simW_x h 1 rfl (by simp only [c1, c2, e1, mb2_s, Option.bind_some, xb_l, xb_r, goes_0, goes_1, goes_2, goes_3, ne10, if_false, if_true, om_0, om_1]) ?_
        simp only [m1, m2, r15 h0 hp, sh, om, in_lo e1, mb2_s, Option.bind_some, xb_l, xb_r, goes_0, goes_1, goes_2, goes_3, ne10, if_false, if_true, om_0, om_1]
        cases n <;> cases b <;> simp only [zB_0, ite_self, om, in_lo e1, zB_t, zB_f, mb2_s, Option.bind_some, xb_l, xb_r, goes_0, goes_1, goes_2, goes_3, ne10, if_false, if_true, om_0, om_1]
      obtain ⟨j, hj, rfl⟩ := nI_of e1
      by_cases e2 : j < 3
      · have f1 : nI j < 3 := nI_lt (b := 3) e2 (by decide)
        have f2 : ¬ 2 < nI j := nI_nlt (a := 2) (by omega) (by decide)
        by_cases e3 : 40 ≤ sN g 3
        · exact simW_x h 2 rfl (by simp only [c1, c2, e1, f1, e40.mpr e3, mb2_s, Option.bind_some, xb_l, xb_r, goes_0, goes_1, goes_2, goes_3, ne10, if_false, if_true, om_0, om_1]) (by simp only [m1, m2, hN.2.1, e40.mpr e3, in_ok e1 f2, mb2_s, Option.bind_some, xb_l, xb_r, goes_0, goes_1, goes_2, goes_3, ne10, if_false, if_true, om_0, om_1])
        · have e4 : sN g 3 < 40 := by omega
          have f3 : ¬ 40 ≤ nI (sN g 3) := fun z => e3 (e40.mp z)
          by_cases e5 : n = false ∧ b = false
          · obtain ⟨rfl, rfl⟩ := e5
            refine simW_r (r := nI (sN g 3)) (g2 := gnew g 3 (LReq (nI (sN g 3)) (nI p) (nI l) (nI j) (nI t))) (u2 := mup (mup (mup (mup (mup (mup u 0 0 0) 37 (sN g 3) (nI p)) 38 (sN g 3) (nI l)) 39 (sN g 3) (nI j)) 40 (sN g 3) (nI t)) 36 0 (nI (sN g 3 + 1))) (by simp only [c1, c2, e1, f1, f3, ck5 hp, ck4 hl, so, oc, zB_f, (h0.aP p hp).1, (h0.aL l hl).1, hT.1, show ∀ a b c d, sI (gnew g 3 (LReq (nI (sN g 3)) a b c d)) 7 (lix 3 (sN g 3)) 0 = nI (sN g 3) from fun a b c d => gI_s g _ (by decide) rfl 0, mb2_s, Option.bind_some, xb_l, xb_r, goes_0, goes_1, goes_2, goes_3, ne10, if_false, if_true, om_0, om_1]) (by simp only [m1, m2, hN.2.1, f3, r15 h0 hp, sh, om, zB_f, in_ok e1 f2, hN1.2.1, mt37 e4, mt38 e4, mt39 e4, mt40 e4, kn (show 36 ≠ 37 by decide), kn (show 36 ≠ 38 by decide), kn (show 36 ≠ 39 by decide), kn (show 36 ≠ 40 by decide), kn (show 1 ≠ 37 by decide), kn (show 1 ≠ 38 by decide), kn (show 1 ≠ 39 by decide), hT1.2.2, mup_at, zp1, zm1, mb2_s, Option.bind_some, xb_l, xb_r, goes_0, goes_1, goes_2, goes_3, ne10, if_false, if_true, om_0, om_1]) ?_ (RC.mk0 (up_ask h1 e4 hp hl (nI j)) fun q hq => ?_)
            · simp only [kn (show 0 ≠ 36 by decide), kn (show 0 ≠ 37 by decide), kn (show 0 ≠ 38 by decide), kn (show 0 ≠ 39 by decide), kn (show 0 ≠ 40 by decide), mup_at]
            · rw [gN_n g _ (by decide)] at hq
              exact Cn_new (by decide) hq (h.2 q hq)
          · refine simW_x h 2 rfl ?_ ?_
            · simp only [c1, c2, e1, f1, f3, ck5 hp, so, oc, mb2_s, Option.bind_some, xb_l, xb_r, goes_0, goes_1, goes_2, goes_3, ne10, if_false, if_true, om_0, om_1]
              cases n <;> cases b <;> simp only [oc, zB_f, zB_t, mb2_s, Option.bind_some, xb_l, xb_r, goes_0, goes_1, goes_2, goes_3, ne10, if_false, if_true, om_0, om_1]
              exact absurd ⟨rfl, rfl⟩ e5
            · simp only [m1, m2, hN.2.1, f3, r15 h0 hp, sh, om, in_ok e1 f2, mb2_s, Option.bind_some, xb_l, xb_r, goes_0, goes_1, goes_2, goes_3, ne10, if_false, if_true, om_0, om_1]
              cases n <;> cases b <;> simp only [om, in_ok e1 f2, zB_f, zB_t, mb2_s, Option.bind_some, xb_l, xb_r, goes_0, goes_1, goes_2, goes_3, ne10, if_false, if_true, om_0, om_1]
              exact absurd ⟨rfl, rfl⟩ e5
      · have f1 : ¬ nI j < 3 := nI_nlt (b := 3) (by omega) hj
        have f2 : 2 < nI j := nI_lt (a := 2) (by omega) hj
        refine simW_x h 1 rfl (by simp only [c1, c2, e1, f1, mb2_s, Option.bind_some, xb_l, xb_r, goes_0, goes_1, goes_2, goes_3, ne10, if_false, if_true, om_0, om_1]) ?_
        simp only [m1, m2, r15 h0 hp, sh, om, in_hi f2, mb2_s, Option.bind_some, xb_l, xb_r, goes_0, goes_1, goes_2, goes_3, ne10, if_false, if_true, om_0, om_1]
        cases n <;> cases b <;> simp only [zB_0, ite_self, om, in_hi f2, zB_t, zB_f, mb2_s, Option.bind_some, xb_l, xb_r, goes_0, goes_1, goes_2, goes_3, ne10, if_false, if_true, om_0, om_1]
    · refine simW_x h 0 rfl (by simp only [c1, c2, mb2_s, Option.bind_some, xb_l, xb_r, goes_0, goes_1, goes_2, goes_3, ne10, if_false, if_true, om_0, om_1]) ?_
      simp only [m1, m2, mb2_s, Option.bind_some, xb_l, xb_r, goes_0, goes_1, goes_2, goes_3, ne10, if_false, if_true, om_0, om_1]
  · refine simW_x h 0 rfl (by simp only [c1, mb2_s, Option.bind_some, xb_l, xb_r, goes_0, goes_1, goes_2, goes_3, ne10, if_false, if_true, om_0, om_1]) ?_
    simp only [m1, mb2_s, Option.bind_some, xb_l, xb_r, goes_0, goes_1, goes_2, goes_3, ne10, if_false, if_true, om_0, om_1]
theorem sim_refuse (h : RC t g u) (x1 : Int32) : SimW [0, 2] (fC_Court_refuse g x1) (fM_refuse u x1) g := by
  have h0 := h.1
  have hz := h.thr 0
  have h1 := hz.1
  have hT := h1.aT
  unfold fC_Court_refuse fC_Court_refuse_19 fM_refuse
  unfold fC_Court_refuseUnless fM_turn fM_turn_32
  rcases s_isRequest h0 x1 with ⟨r, hr, rfl, c1, m1⟩ | ⟨c1, m1⟩
  · have h40 := h0.r40 hr
    have e41 := ((h0.aZ r h40).1 hr).1
    by_cases e : sI g 7 r 5 = 0
    · have t6 : sI (uI g 7 r 5 2) 0 0 6 = nI t := by rw [sI_n _ _ _ _ _ (by omega)]; exact hT.1
      exact simW_r (r := nI t + 30) (by simp only [c1, ck7 hr, e, t6, sI_at, mb2_s, Option.bind_some, xb_l, xb_r, goes_0, goes_1, goes_2, goes_3, ne10, if_false, if_true, om_0, om_1]) (by simp only [m1, md41 h40, e41, e, mt41 h40, mt42 h40, md42 h40, kn (show 1 ≠ 41 by decide), hT.2.2, mup_at, mb2_s, Option.bind_some, xb_l, xb_r, goes_0, goes_1, goes_2, goes_3, ne10, if_false, if_true, om_0, om_1]) (by rw [kn (by decide), kn (by decide)]; exact mup_at _ _ _ _) (RC.mk0 (up_rq1 h1 hr 2 (nI t + 30)) fun q hq => Cn_uI (Cn_uI (h.2 q hq) (by omega)) (by omega))
    · exact simW_x h 1 rfl (by simp only [c1, ck7 hr, e, mb2_s, Option.bind_some, xb_l, xb_r, goes_0, goes_1, goes_2, goes_3, ne10, if_false, if_true, om_0, om_1]) (by simp only [m1, md41 h40, e41, e, mb2_s, Option.bind_some, xb_l, xb_r, goes_0, goes_1, goes_2, goes_3, ne10, if_false, if_true, om_0, om_1])
  · exact simW_x h 0 rfl (by simp only [c1, mb2_s, Option.bind_some, xb_l, xb_r, goes_0, goes_1, goes_2, goes_3, ne10, if_false, if_true, om_0, om_1]) (by simp only [m1, mb2_s, Option.bind_some, xb_l, xb_r, goes_0, goes_1, goes_2, goes_3, ne10, if_false, if_true, om_0, om_1])
theorem sim_appeal (h : RC t g u) (x1 : Int32) : SimW [0, 2] (fC_Court_appeal g x1) (fM_appeal u x1) g := by
  have h0 := h.1
  have hz := h.thr 0
  have h1 := hz.1
  have hT := h1.aT
  unfold fC_Court_appeal fC_Court_appeal_20 fM_appeal
  unfold fC_Court_refuseUnless fM_turn fM_turn_32
  rcases s_isRequest h0 x1 with ⟨r, hr, rfl, c1, m1⟩ | ⟨c1, m1⟩
  · have h40 := h0.r40 hr
    have e41 := ((h0.aZ r h40).1 hr).1
    by_cases e : sI g 7 r 5 = 2
    · have t6 : sI (uI g 7 r 5 3) 0 0 6 = nI t := by rw [sI_n _ _ _ _ _ (by omega)]; exact hT.1
      exact simW_r (r := nI t + 60) (by simp only [c1, ck7 hr, e, t6, sI_at, mb2_s, Option.bind_some, xb_l, xb_r, goes_0, goes_1, goes_2, goes_3, ne10, if_false, if_true, om_0, om_1]) (by simp only [m1, md41 h40, e41, e, mt41 h40, mt42 h40, md42 h40, kn (show 1 ≠ 41 by decide), hT.2.2, mup_at, mb2_s, Option.bind_some, xb_l, xb_r, goes_0, goes_1, goes_2, goes_3, ne10, if_false, if_true, om_0, om_1]) (by rw [kn (by decide), kn (by decide)]; exact mup_at _ _ _ _) (RC.mk0 (up_rq1 h1 hr 3 (nI t + 60)) fun q hq => Cn_uI (Cn_uI (h.2 q hq) (by omega)) (by omega))
    · exact simW_x h 1 rfl (by simp only [c1, ck7 hr, e, mb2_s, Option.bind_some, xb_l, xb_r, goes_0, goes_1, goes_2, goes_3, ne10, if_false, if_true, om_0, om_1]) (by simp only [m1, md41 h40, e41, e, mb2_s, Option.bind_some, xb_l, xb_r, goes_0, goes_1, goes_2, goes_3, ne10, if_false, if_true, om_0, om_1])
  · exact simW_x h 0 rfl (by simp only [c1, mb2_s, Option.bind_some, xb_l, xb_r, goes_0, goes_1, goes_2, goes_3, ne10, if_false, if_true, om_0, om_1]) (by simp only [m1, mb2_s, Option.bind_some, xb_l, xb_r, goes_0, goes_1, goes_2, goes_3, ne10, if_false, if_true, om_0, om_1])
theorem sim_judge (h : RC t g u) (x1 : Int32) (b : Bool) : SimW [0, 2] (fC_Court_judge g x1 (zB b)) (fM_judge u x1 (zB b)) g := by
  have h0 := h.1
  have hz := h.thr 0
  have h1 := hz.1
  have hT := h1.aT
  unfold fC_Court_judge fC_Court_judge_20 fC_Court_judge_33 fM_judge fM_judge_12 fM_judge_34
  unfold fC_Court_refuseUnless fM_turn fM_turn_32
  have t1 : ¬ mup u 0 0 (nI (0 + 1)) 0 0 = 0 := by rw [mup_at]; decide +kernel
  have t2 : ¬ mup u 0 0 (nI (1 + 1)) 0 0 = 0 := by rw [mup_at]; decide +kernel
  rcases s_isRequest h0 x1 with ⟨r, hr, rfl, c1, m1⟩ | ⟨c1, m1⟩
  · have h40 := h0.r40 hr
    have e41 := ((h0.aZ r h40).1 hr).1
    by_cases e : sI g 7 r 5 = 3
    · have k7 : ∀ x, ck (uI g 7 r 5 x) 7 r = some () := fun x => ck7 hr
      cases b
      · exact simW_r (r := 4) (by simp only [c1, ck7 hr, k7, e, zB_f, sI_at, mb2_s, Option.bind_some, xb_l, xb_r, goes_0, goes_1, goes_2, goes_3, ne10, if_false, if_true, om_0, om_1]) (by simp only [m1, md41 h40, e41, e, mt41 h40, mt42 h40, md42 h40, kn (show 1 ≠ 41 by decide), kn (show 0 ≠ 41 by decide), kn (show 0 ≠ 42 by decide), kn (show 41 ≠ 42 by decide), hT.2.2, mup_at, zB_f, mb2_s, Option.bind_some, xb_l, xb_r, goes_0, goes_1, goes_2, goes_3, ne10, if_false, if_true, om_0, om_1]) (by rw [kn (by decide), kn (by decide)]; exact mup_at _ _ _ _) (RC.mk0 (up_rq2 h1 hr 4 (nI t + 0) (by decide)) fun q hq => Cn_uI (h.2 q hq) (by omega))
      · exact simW_r (r := 0) (by simp only [c1, ck7 hr, k7, e, zB_t, sI_at, mb2_s, Option.bind_some, xb_l, xb_r, goes_0, goes_1, goes_2, goes_3, ne10, if_false, if_true, om_0, om_1]) (by simp only [m1, md41 h40, e41, e, mt41 h40, mt42 h40, md42 h40, kn (show 1 ≠ 41 by decide), kn (show 0 ≠ 41 by decide), kn (show 0 ≠ 42 by decide), kn (show 41 ≠ 42 by decide), hT.2.2, mup_at, zB_t, mb2_s, Option.bind_some, xb_l, xb_r, goes_0, goes_1, goes_2, goes_3, ne10, if_false, if_true, om_0, om_1]) (by rw [kn (by decide), kn (by decide)]; exact mup_at _ _ _ _) (RC.mk0 (up_rq2 h1 hr 0 (nI t + 0) (by decide)) fun q hq => Cn_uI (h.2 q hq) (by omega))
    · cases b
      · exact simW_x h 1 rfl (by simp only [c1, ck7 hr, e, mb2_s, Option.bind_some, xb_l, xb_r, goes_0, goes_1, goes_2, goes_3, ne10, if_false, if_true, om_0, om_1]) (by simp only [m1, md41 h40, e41, e, t2, zB_f, mb2_s, Option.bind_some, xb_l, xb_r, goes_0, goes_1, goes_2, goes_3, ne10, if_false, if_true, om_0, om_1])
      · exact simW_x h 1 rfl (by simp only [c1, ck7 hr, e, mb2_s, Option.bind_some, xb_l, xb_r, goes_0, goes_1, goes_2, goes_3, ne10, if_false, if_true, om_0, om_1]) (by simp only [m1, md41 h40, e41, e, t2, zB_t, mb2_s, Option.bind_some, xb_l, xb_r, goes_0, goes_1, goes_2, goes_3, ne10, if_false, if_true, om_0, om_1])
  · cases b
    · exact simW_x h 0 rfl (by simp only [c1, mb2_s, Option.bind_some, xb_l, xb_r, goes_0, goes_1, goes_2, goes_3, ne10, if_false, if_true, om_0, om_1]) (by simp only [m1, t1, zB_f, mb2_s, Option.bind_some, xb_l, xb_r, goes_0, goes_1, goes_2, goes_3, ne10, if_false, if_true, om_0, om_1])
    · exact simW_x h 0 rfl (by simp only [c1, mb2_s, Option.bind_some, xb_l, xb_r, goes_0, goes_1, goes_2, goes_3, ne10, if_false, if_true, om_0, om_1]) (by simp only [m1, t1, zB_t, mb2_s, Option.bind_some, xb_l, xb_r, goes_0, goes_1, goes_2, goes_3, ne10, if_false, if_true, om_0, om_1])
theorem sim_withdraw (h : RC t g u) (x1 : Int32) : SimW [0, 2] (fC_Court_withdraw g x1) (fM_withdraw u x1) g := by
  have h0 := h.1
  have hz := h.thr 0
  have h1 := hz.1
  have hT := h1.aT
  unfold fC_Court_withdraw fC_Court_withdraw_19 fM_withdraw fM_withdraw_31
  unfold fC_Court_refuseUnless fM_turn fM_turn_32
  have t1 : ¬ mup u 0 0 (nI (0 + 1)) 0 0 = 0 := by rw [mup_at]; decide +kernel
  have t2 : ¬ mup u 0 0 (nI (1 + 1)) 0 0 = 0 := by rw [mup_at]; decide +kernel
  rcases s_isRequest h0 x1 with ⟨r, hr, rfl, c1, m1⟩ | ⟨c1, m1⟩
  · have h40 := h0.r40 hr
    have e41 := ((h0.aZ r h40).1 hr).1
    have e40 := (h1.aQ r hr).2.2.2.2.1
    by_cases e : sI g 7 r 5 = 0
    · have t6 : sI (uI g 7 r 5 4) 0 0 6 = nI t := by rw [sI_n _ _ _ _ _ (by omega)]; exact hT.1
      have t4 : sI (uI g 7 r 5 4) 7 r 4 = sI g 7 r 4 := sI_n _ _ _ _ _ (by omega)
      exact simW_r (r := nI t - sI g 7 r 4) (by simp only [c1, ck7 hr, e, t6, t4, mb2_s, Option.bind_some, xb_l, xb_r, goes_0, goes_1, goes_2, goes_3, ne10, if_false, if_true, om_0, om_1]) (by simp only [m1, md41 h40, e41, e, mt41 h40, mt42 h40, md42 h40, md40 h40, kn (show 40 ≠ 41 by decide), kn (show 40 ≠ 42 by decide), e40, kn (show 1 ≠ 41 by decide), kn (show 1 ≠ 42 by decide), kn (show 0 ≠ 41 by decide), kn (show 0 ≠ 42 by decide), hT.2.2, mup_at, mb2_s, Option.bind_some, xb_l, xb_r, goes_0, goes_1, goes_2, goes_3, ne10, if_false, if_true, om_0, om_1]) (by rw [kn (by decide), kn (by decide)]; exact mup_at _ _ _ _) (RC.mk0 (up_rq2 h1 hr 4 (nI t + 0) (by decide)) fun q hq => Cn_uI (h.2 q hq) (by omega))
    · exact simW_x h 1 rfl (by simp only [c1, ck7 hr, e, mb2_s, Option.bind_some, xb_l, xb_r, goes_0, goes_1, goes_2, goes_3, ne10, if_false, if_true, om_0, om_1]) (by simp only [m1, md41 h40, e41, e, t2, mb2_s, Option.bind_some, xb_l, xb_r, goes_0, goes_1, goes_2, goes_3, ne10, if_false, if_true, om_0, om_1])
  · exact simW_x h 0 rfl (by simp only [c1, mb2_s, Option.bind_some, xb_l, xb_r, goes_0, goes_1, goes_2, goes_3, ne10, if_false, if_true, om_0, om_1]) (by simp only [m1, t1, mb2_s, Option.bind_some, xb_l, xb_r, goes_0, goes_1, goes_2, goes_3, ne10, if_false, if_true, om_0, om_1])
end PH
