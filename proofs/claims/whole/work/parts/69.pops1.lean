/-! ===== the calls that write, first lot ===== -/
section PH
variable {t : Nat} {g : CS} {u : MS}
theorem RC.mk0 {g2 : CS} {u2 : MS} (hR : R0 t g2 u2) (hC : ∀ p, p < sN g2 1 → Cn g2 p (t + 1)) : RC t g2 u2 := ⟨hR, hC⟩
theorem kn {k n : Nat} (h : n ≠ k) (w : MS) (j : Nat) (x : Int32) : mup w k j x n = w n := mup_ne w j x h
theorem sim_land (h : RC t g u) (b1 b2 b3 : Bool) (x4 : Int32) : SimW [1, 2] (fC_Court_land g (zB b1) (zB b2) (zB b3) x4) (fM_land u (zB b1) (zB b2) (zB b3) x4) g := by
  have h0 := h.1
  have h1 := (h.thr 0).1
  have hN := h0.aN
  have hN1 := h1.aN
  unfold fC_Court_land fC_Court_land_12 fM_land fM_land_30
  by_cases e1 : x4 < 0
  · exact simW_x h 0 rfl (by simp only [e1, mb2_s, Option.bind_some, xb_l, xb_r, goes_0, goes_1, goes_2, goes_3, ne10, if_false, if_true, om_0, om_1]) (by simp only [in_lo e1, mb2_s, Option.bind_some, xb_l, xb_r, goes_0, goes_1, goes_2, goes_3, ne10, if_false, if_true, om_0, om_1])
  · by_cases e2 : x4 ≤ 30
    · have e3 : ¬ 30 < x4 := Int32.not_lt.mpr e2
      by_cases e4 : sN g 0 < 8
      · have q1 : nI (sN g 0) < 8 := nI_lt (b := 8) e4 (by decide)
        have q2 : ¬ nI (sN g 0) = 8 := fun z => absurd ((zT1 (b := 8) (by omega) (by decide)).mp z) (by omega)
        refine simW_r (r := nI (sN g 0)) (u2 := mup (mup (mup (mup (mup (mup u 0 0 0) 3 (sN g 0) (zB b1)) 4 (sN g 0) (zB b2)) 5 (sN g 0) (zB b3)) 6 (sN g 0) x4) 2 0 (nI (sN g 0 + 1))) (by simp only [e1, e2, q1, zB_m, show ∀ a b c d, sI (gnew g 0 (LLand (nI (sN g 0)) a b c d)) 4 (lix 0 (sN g 0)) 0 = nI (sN g 0) from fun a b c d => gI_s g _ (by decide) rfl 0, mb2_s, Option.bind_some, xb_l, xb_r, goes_0, goes_1, goes_2, goes_3, ne10, if_false, if_true, om_0, om_1]) (by simp only [in_ok e1 e3, hN.2.1, q2, hN1.2.1, zB_m, mt3 e4, mt4 e4, mt5 e4, mt6 e4, kn (show 2 ≠ 3 by decide), kn (show 2 ≠ 4 by decide), kn (show 2 ≠ 5 by decide), kn (show 2 ≠ 6 by decide), mup_at, zp1, zm1, mb2_s, Option.bind_some, xb_l, xb_r, goes_0, goes_1, goes_2, goes_3, ne10, if_false, if_true, om_0, om_1]) ?_ (RC.mk0 (up_land h1 e4 b1 b2 b3 x4) fun p hp => ?_)
        · simp only [kn (show 0 ≠ 2 by decide), kn (show 0 ≠ 3 by decide), kn (show 0 ≠ 4 by decide), kn (show 0 ≠ 5 by decide), kn (show 0 ≠ 6 by decide), mup_at]
        · rw [gN_n g _ (by decide)] at hp
          have := h0.aT.2.1
          exact Cn_land h0 hp (by omega) (h.2 p hp)
      · have e5 : sN g 0 = 8 := by omega
        have q1 : ¬ nI (sN g 0) < 8 := by rw [e5]; decide +kernel
        have q2 : nI (sN g 0) = 8 := by rw [e5]; rfl
        exact simW_x h 1 rfl (by simp only [e1, e2, q1, mb2_s, Option.bind_some, xb_l, xb_r, goes_0, goes_1, goes_2, goes_3, ne10, if_false, if_true, om_0, om_1]) (by simp only [in_ok e1 e3, hN.2.1, q2, mb2_s, Option.bind_some, xb_l, xb_r, goes_0, goes_1, goes_2, goes_3, ne10, if_false, if_true, om_0, om_1])
    · have e3 : 30 < x4 := Int32.not_le.mp e2
      exact simW_x h 0 rfl (by simp only [e1, e2, mb2_s, Option.bind_some, xb_l, xb_r, goes_0, goes_1, goes_2, goes_3, ne10, if_false, if_true, om_0, om_1]) (by simp only [in_hi e3, mb2_s, Option.bind_some, xb_l, xb_r, goes_0, goes_1, goes_2, goes_3, ne10, if_false, if_true, om_0, om_1])
theorem sim_waive (h : RC t g u) (x1 x2 : Int32) (b : Bool) : SimW [0, 1] (fC_Court_waive g x1 x2 (zB b)) (fM_waive u x1 x2 (zB b)) g := by
  have h0 := h.1
  unfold fC_Court_waive fC_Court_waive_74 fM_waive fM_waive_20 fM_waive_21 fM_waive_43
  rcases s_isLand h0 x1 with ⟨l, hl, rfl, c1, m1⟩ | ⟨c1, m1⟩
  · have h8 := h0.l8 hl
    rcases s_isLand h0 x2 with ⟨n, hn, rfl, c2, m2⟩ | ⟨c2, m2⟩
    · have h9 := h0.l8 hn
      by_cases e : l = n
      · subst e
        exact simW_x h 1 rfl (by simp only [c1, mb2_s, Option.bind_some, xb_l, xb_r, goes_0, goes_1, goes_2, goes_3, ne10, if_false, if_true, om_0, om_1]) (by simp only [m1, mbo0, mb2_s, Option.bind_some, xb_l, xb_r, goes_0, goes_1, goes_2, goes_3, ne10, if_false, if_true, om_0, om_1])
      · have e1 : ¬ nI l = nI n := fun z => e ((zT1 (by omega) (by omega)).mp z)
        have hw := ((h0.aW l h8).1 hl).1 n h9
        have hk : ∀ X, (∀ i, hb X i = if i = n then b else hb (sI g 4 l 6) i) → RC t (uI g 4 l 6 X) (mup (mup u 0 0 0) 7 (8 * l + n) (zB b)) := fun X hX => ⟨up_waive (h.thr 0).1 hl hn hX, fun p hp => Cn_uI (h.2 p hp) (by decide)⟩
        have hcl : fC_Land_waivesFor l g ((1 : Int32) <<< (nI n &&& 31)) = some (zB (hb (sI g 4 l 6) n)) := by
          unfold fC_Land_waivesFor fC_Land_waivesFor_14
          simp only [ck4 hl, Option.bind_some]
          by_cases z : hb (sI g 4 l 6) n = true
          · rw [if_neg (fun q => by rw [(hb_zero _ (by omega)).mp q] at z; cases z), z]; rfl
          · rw [if_pos ((hb_zero _ (by omega)).mpr (Bool.eq_false_iff.mpr z)), Bool.eq_false_iff.mpr z]; rfl
        have e7 : mup u 0 0 0 7 (8 * l + n) = zB (hb (sI g 4 l 6) n) := by rw [kn (by decide), hw]
        cases b
        · refine simW_r (r := zB (hb (sI g 4 l 6) n)) (g2 := uI g 4 l 6 (sI g 4 l 6 &&& ((1 : Int32) <<< (nI n &&& 31) ^^^ -1))) (u2 := mup (mup u 0 0 0) 7 (8 * l + n) (zB false)) (by simp only [c1, c2, e1, ck4 hl, ck4 hn, s_bit h0 hn, hcl, zB_m, zB_f, mb2_s, Option.bind_some, xb_l, xb_r, goes_0, goes_1, goes_2, goes_3, ne10, if_false, if_true, om_0, om_1]) (by simp only [m1, m2, e1, z8, md7 (show 8 * l + n < 64 by omega), e7, mt7 (show 8 * l + n < 64 by omega), zB_m, mb2_s, Option.bind_some, xb_l, xb_r, goes_0, goes_1, goes_2, goes_3, ne10, if_false, if_true, om_0, om_1]) (by rw [kn (by decide)]; exact mup_at _ _ _ _) (hk _ (fun i => ?_))
          rw [hb_and, hb_xor, hb_bit (by omega)]
          by_cases z : i < 32
          · rw [hb_m1 i z]
            by_cases z2 : i = n
            · subst z2; simp
            · simp [z2, show ¬ n = i from fun q => z2 q.symm]
          · rw [hb_big (by omega), if_neg (by omega)]
            rfl
        · refine simW_r (r := zB (hb (sI g 4 l 6) n)) (g2 := uI g 4 l 6 (sI g 4 l 6 ||| ((1 : Int32) <<< (nI n &&& 31)))) (u2 := mup (mup u 0 0 0) 7 (8 * l + n) (zB true)) (by simp only [c1, c2, e1, ck4 hl, ck4 hn, s_bit h0 hn, hcl, zB_m, zB_t, mb2_s, Option.bind_some, xb_l, xb_r, goes_0, goes_1, goes_2, goes_3, ne10, if_false, if_true, om_0, om_1]) (by simp only [m1, m2, e1, z8, md7 (show 8 * l + n < 64 by omega), e7, mt7 (show 8 * l + n < 64 by omega), zB_m, mb2_s, Option.bind_some, xb_l, xb_r, goes_0, goes_1, goes_2, goes_3, ne10, if_false, if_true, om_0, om_1]) (by rw [kn (by decide)]; exact mup_at _ _ _ _) (hk _ (fun i => ?_))
          rw [hb_or, hb_bit (by omega)]
          by_cases z2 : i = n
          · subst z2; simp
          · simp [z2, show ¬ n = i from fun q => z2 q.symm]
    · exact simW_x h 0 rfl (by simp only [c1, c2, mb2_s, Option.bind_some, xb_l, xb_r, goes_0, goes_1, goes_2, goes_3, ne10, if_false, if_true, om_0, om_1]) (by simp only [m1, m2, mbo0, mb2_s, Option.bind_some, xb_l, xb_r, goes_0, goes_1, goes_2, goes_3, ne10, if_false, if_true, om_0, om_1])
  · exact simW_x h 0 rfl (by simp only [c1, mb2_s, Option.bind_some, xb_l, xb_r, goes_0, goes_1, goes_2, goes_3, ne10, if_false, if_true, om_0, om_1]) (by simp only [m1, mbo0, mb2_s, Option.bind_some, xb_l, xb_r, goes_0, goes_1, goes_2, goes_3, ne10, if_false, if_true, om_0, om_1])
theorem z1to {x : Int32} {M : Nat} (hM : M < 1000000) (h1 : ¬ x < 1) (h2 : x ≤ nI M) : ∃ w, 1 ≤ w ∧ w ≤ M ∧ x = nI w := by
  have h3 : ¬ x < 0 := fun z => h1 (by rw [Int32.lt_iff_toInt_lt] at z ⊢; rw [show (0 : Int32).toInt = 0 from by decide] at z; rw [show (1 : Int32).toInt = 1 from by decide]; omega)
  obtain ⟨w, hw, rfl⟩ := nI_of h3
  refine ⟨w, ?_, ?_, rfl⟩
  · have : ¬ nI w < nI 1 := h1
    rw [zltI hw (by decide)] at this
    omega
  · exact (zleI hw (by omega)).mp h2
theorem sim_rule (h : RC t g u) (x1 x2 x3 : Int32) : SimW [1, 2] (fC_Court_rule g x1 x2 x3) (fM_rule u x1 x2 x3) g := by
  have h0 := h.1
  have h1 := (h.thr 0).1
  have hT := h0.aT
  have hN := h0.aN.2.2.2.2.2.2.2.2
  have hN1 := h1.aN.2.2.2.2.2.2.2.2
  have q0 : fC_Court_countRules g = some (nI (sN g 4 + 1)) := by
    unfold fC_Court_countRules
    rw [Int32.add_comm, zp1]
  have q9 : ∀ L, fC_Court_countRules (gnew g 4 L) = some (nI (sN g 4 + 1 + 1)) := fun L => by
    unfold fC_Court_countRules
    rw [gN_s, Int32.add_comm, zp1]
  unfold fC_Court_rule fC_Court_rule_38 fM_rule fM_rule_40 fM_rule_41 fM_rule_67
  by_cases e1 : x1 < nI t
  · exact simW_x h 0 rfl (by simp only [hT.1, e1, mb2_s, Option.bind_some, xb_l, xb_r, goes_0, goes_1, goes_2, goes_3, ne10, if_false, if_true, om_0, om_1]) (by simp only [hT.2.2, in_lo e1, mb2_s, Option.bind_some, xb_l, xb_r, goes_0, goes_1, goes_2, goes_3, ne10, if_false, if_true, om_0, om_1])
  by_cases e2 : 3600 < x1
  · exact simW_x h 0 rfl (by simp only [hT.1, e1, e2, mb2_s, Option.bind_some, xb_l, xb_r, goes_0, goes_1, goes_2, goes_3, ne10, if_false, if_true, om_0, om_1]) (by simp only [hT.2.2, in_hi e2, mb2_s, Option.bind_some, xb_l, xb_r, goes_0, goes_1, goes_2, goes_3, ne10, if_false, if_true, om_0, om_1])
  by_cases e3 : x2 < 0
  · exact simW_x h 0 rfl (by simp only [hT.1, e1, e2, e3, mb2_s, Option.bind_some, xb_l, xb_r, goes_0, goes_1, goes_2, goes_3, ne10, if_false, if_true, om_0, om_1]) (by simp only [hT.2.2, in_ok e1 e2, in_lo e3, mb2_s, Option.bind_some, xb_l, xb_r, goes_0, goes_1, goes_2, goes_3, ne10, if_false, if_true, om_0, om_1])
  by_cases e4 : 180 < x2
  · exact simW_x h 0 rfl (by simp only [hT.1, e1, e2, e3, e4, mb2_s, Option.bind_some, xb_l, xb_r, goes_0, goes_1, goes_2, goes_3, ne10, if_false, if_true, om_0, om_1]) (by simp only [hT.2.2, in_ok e1 e2, in_hi e4, mb2_s, Option.bind_some, xb_l, xb_r, goes_0, goes_1, goes_2, goes_3, ne10, if_false, if_true, om_0, om_1])
  by_cases e5 : x3 < 1
  · exact simW_x h 0 rfl (by simp only [hT.1, e1, e2, e3, e4, e5, mb2_s, Option.bind_some, xb_l, xb_r, goes_0, goes_1, goes_2, goes_3, ne10, if_false, if_true, om_0, om_1]) (by simp only [hT.2.2, in_ok e1 e2, in_ok e3 e4, in_lo e5, mb2_s, Option.bind_some, xb_l, xb_r, goes_0, goes_1, goes_2, goes_3, ne10, if_false, if_true, om_0, om_1])
  by_cases e6 : x3 ≤ 360
  · have e7 : ¬ 360 < x3 := Int32.not_lt.mpr e6
    obtain ⟨w, w1, w2, rfl⟩ := z1to (M := 360) (by decide) e5 e6
    by_cases e8 : sN g 4 < 9
    · have q1 : nI (sN g 4 + 1) < 10 := nI_lt (b := 10) (by omega) (by decide)
      have q2 : ¬ nI (sN g 4 + 1) = 10 := fun z => absurd ((zT1 (b := 10) (by omega) (by decide)).mp z) (by omega)
      have e9 : sN g 4 + 1 < 10 := by omega
      refine simW_r (r := nI (sN g 4 + 1 + 1)) (u2 := mup (mup (mup (mup (mup u 0 0 0) 10 (sN g 4 + 1) x1) 11 (sN g 4 + 1) x2) 12 (sN g 4 + 1) (nI w)) 9 0 (nI (sN g 4 + 1 + 1))) (by simp only [hT.1, e1, e2, e3, e4, e5, e6, q0, q1, q9, mb2_s, Option.bind_some, xb_l, xb_r, goes_0, goes_1, goes_2, goes_3, ne10, if_false, if_true, om_0, om_1]) (by simp only [hT.2.2, in_ok e1 e2, in_ok e3 e4, in_ok e5 e7, hN.2, q2, hN1.2, mt10 e9, mt11 e9, mt12 e9, kn (show 9 ≠ 10 by decide), kn (show 9 ≠ 11 by decide), kn (show 9 ≠ 12 by decide), mup_at, zp1, mb2_s, Option.bind_some, xb_l, xb_r, goes_0, goes_1, goes_2, goes_3, ne10, if_false, if_true, om_0, om_1]) ?_ (RC.mk0 (up_rule h1 e8 x1 x2 ⟨w1, w2⟩) fun p hp => ?_)
      · simp only [kn (show 0 ≠ 9 by decide), kn (show 0 ≠ 10 by decide), kn (show 0 ≠ 11 by decide), kn (show 0 ≠ 12 by decide), mup_at]
      · rw [gN_n g _ (by decide)] at hp
        exact Cn_new (by decide) hp (h.2 p hp)
    · have e9 : sN g 4 = 9 := by omega
      have q1 : ¬ nI (sN g 4 + 1) < 10 := by rw [e9]; decide +kernel
      have q2 : nI (sN g 4 + 1) = 10 := by rw [e9]; rfl
      exact simW_x h 1 rfl (by simp only [hT.1, e1, e2, e3, e4, e5, e6, q0, q1, mb2_s, Option.bind_some, xb_l, xb_r, goes_0, goes_1, goes_2, goes_3, ne10, if_false, if_true, om_0, om_1]) (by simp only [hT.2.2, in_ok e1 e2, in_ok e3 e4, in_ok e5 e7, hN.2, q2, mb2_s, Option.bind_some, xb_l, xb_r, goes_0, goes_1, goes_2, goes_3, ne10, if_false, if_true, om_0, om_1])
  · have e7 : 360 < x3 := Int32.not_le.mp e6
    exact simW_x h 0 rfl (by simp only [hT.1, e1, e2, e3, e4, e5, e6, mb2_s, Option.bind_some, xb_l, xb_r, goes_0, goes_1, goes_2, goes_3, ne10, if_false, if_true, om_0, om_1]) (by simp only [hT.2.2, in_ok e1 e2, in_ok e3 e4, in_hi e7, mb2_s, Option.bind_some, xb_l, xb_r, goes_0, goes_1, goes_2, goes_3, ne10, if_false, if_true, om_0, om_1])
/-- the room for one more person -/
theorem m_make (h : R0 t g u) (h16 : sN g 1 < 16) (x1 x2 : Int32) : fM_make u x1 x2 = some (nI (sN g 1), mup (mup (mup (mup (mup (mup (mup u 15 (sN g 1) x1) 14 (sN g 1) x2) 16 (sN g 1) (-1)) 17 (sN g 1) (-1)) 18 (sN g 1) (-1)) 20 (sN g 1) (-1)) 13 0 (nI (sN g 1 + 1))) := by
  have hN := h.aN
  unfold fM_make
  simp only [hN.2.2.2.1, mt15 h16, mt14 h16, mt16 h16, mt17 h16, mt18 h16, mt20 h16, kn (show 13 ≠ 15 by decide), kn (show 13 ≠ 14 by decide), kn (show 13 ≠ 16 by decide), kn (show 13 ≠ 17 by decide), kn (show 13 ≠ 18 by decide), kn (show 13 ≠ 20 by decide), mup_at, zp1, zm1, Option.bind_some]
theorem sim_person (h : RC t g u) (x1 x2 : Int32) : SimW [0, 1, 2] (fC_Court_person g x1 x2) (fM_person u x1 x2) g := by
  have h0 := h.1
  have h1 := (h.thr 0).1
  have hT := h0.aT
  have hT1 := h1.aT
  have hN := h0.aN
  have fin : ∀ y : Int32, (¬ x1 = -1 → y = (1 : Int32) <<< (x1 &&& 31)) → (x1 = -1 → y = 0) → SimW [0, 1, 2] (fC_Court_person_17 g x2 y) (fM_person_18 u x1 x2 1) g := fun y hy1 hy2 => by
    unfold fC_Court_person_17 fC_Court_person_28 fC_Court_refuseMorePersons fC_Court_addPerson fM_person_18 fM_person_56 fM_person_77
    by_cases e1 : x2 < 0
    · exact simW_x h 1 rfl (by simp only [e1, mb2_s, Option.bind_some, xb_l, xb_r, goes_0, goes_1, goes_2, goes_3, ne10, if_false, if_true, om_0, om_1]) (by simp only [in_lo e1, mb2_s, Option.bind_some, xb_l, xb_r, goes_0, goes_1, goes_2, goes_3, ne10, if_false, if_true, om_0, om_1])
    by_cases e2 : x2 ≤ 99
    · have e3 : ¬ 99 < x2 := Int32.not_lt.mpr e2
      by_cases e4 : sN g 1 < 16
      · have q1 : nI (sN g 1) < 16 := nI_lt (b := 16) e4 (by decide)
        have q2 : ¬ nI (sN g 1) = 16 := fun z => absurd ((zT1 (b := 16) (by omega) (by decide)).mp z) (by omega)
        have q3 : ∀ L, ck (gnew g 1 L) 5 (sN g 1) = some () := fun L => ck5 (by rw [gN_s]; omega)
        have q4 : ∀ bd a b na, sI (gnew g 1 (LPer (nI (sN g 1)) bd a b na)) 5 (sN g 1) 0 = nI (sN g 1) := fun bd a b na => gI_s g _ (by decide) rfl 0
        have mk := m_make h1 e4
        refine simW_r (r := nI (sN g 1)) (g2 := gnew g 1 (LPer (nI (sN g 1)) (nI t - x2 * 360) (-1) (-1) y)) (u2 := mup (mup (mup (mup (mup (mup (mup (mup u 0 0 0) 15 (sN g 1) y) 14 (sN g 1) (nI t - x2 * 360)) 16 (sN g 1) (-1)) 17 (sN g 1) (-1)) 18 (sN g 1) (-1)) 20 (sN g 1) (-1)) 13 0 (nI (sN g 1 + 1))) (by simp only [e1, e2, q1, q3, q4, hT.1, mb2_s, Option.bind_some, xb_l, xb_r, goes_0, goes_1, goes_2, goes_3, ne10, if_false, if_true, om_0, om_1]) ?_ ?_ (RC.mk0 (up_per h1 e4 _ y) fun p hp => ?_)
        · by_cases e5 : x1 = -1
          · simp only [in_ok e1 e3, hN.2.2.2.1, q2, mk, hT1.2.2, e5, hy2 e5, Int32.mul_comm x2 360, mb2_s, Option.bind_some, xb_l, xb_r, goes_0, goes_1, goes_2, goes_3, ne10, if_false, if_true, om_0, om_1]
          · simp only [in_ok e1 e3, hN.2.2.2.1, q2, mk, hT1.2.2, e5, hy1 e5, Int32.mul_comm x2 360, mb2_s, Option.bind_some, xb_l, xb_r, goes_0, goes_1, goes_2, goes_3, ne10, if_false, if_true, om_0, om_1]
        · simp only [kn (show 0 ≠ 13 by decide), kn (show 0 ≠ 15 by decide), kn (show 0 ≠ 14 by decide), kn (show 0 ≠ 16 by decide), kn (show 0 ≠ 17 by decide), kn (show 0 ≠ 18 by decide), kn (show 0 ≠ 20 by decide), mup_at]
        · rw [gN_s] at hp
          have := hT.2.1
          by_cases e6 : p = sN g 1
          · subst e6; exact Cn_per (by omega)
          · exact Cn_new (by decide) (by omega) (h.2 p (by omega))
      · have e5 : sN g 1 = 16 := by have := hN.2.2.1; omega
        have q1 : ¬ nI (sN g 1) < 16 := by rw [e5]; decide +kernel
        have q2 : nI (sN g 1) = 16 := by rw [e5]; rfl
        exact simW_x h 2 rfl (by simp only [e1, e2, q1, mb2_s, Option.bind_some, xb_l, xb_r, goes_0, goes_1, goes_2, goes_3, ne10, if_false, if_true, om_0, om_1]) (by simp only [in_ok e1 e3, hN.2.2.2.1, q2, mb2_s, Option.bind_some, xb_l, xb_r, goes_0, goes_1, goes_2, goes_3, ne10, if_false, if_true, om_0, om_1])
    · have e3 : 99 < x2 := Int32.not_le.mp e2
      exact simW_x h 1 rfl (by simp only [e1, e2, mb2_s, Option.bind_some, xb_l, xb_r, goes_0, goes_1, goes_2, goes_3, ne10, if_false, if_true, om_0, om_1]) (by simp only [in_hi e3, mb2_s, Option.bind_some, xb_l, xb_r, goes_0, goes_1, goes_2, goes_3, ne10, if_false, if_true, om_0, om_1])
  unfold fC_Court_person fM_person fM_person_13
  by_cases e : x1 = -1
  · rw [if_pos e, if_pos e]
    exact fin 0 (fun z => absurd e z) (fun _ => rfl)
  · rw [if_neg e, if_neg e]
    rcases s_isLand h0 x1 with ⟨l, hl, rfl, c1, m1⟩ | ⟨c1, m1⟩
    · simp only [c1, m1, ck4 hl, s_bit h0 hl, mb2_s, Option.bind_some, xb_l, xb_r, goes_0, goes_1, goes_2, goes_3, ne10, if_false, if_true, om_0, om_1]
      exact fin _ (fun _ => rfl) (fun z => absurd z e)
    · refine simW_x h 0 rfl (by simp only [c1, mb2_s, Option.bind_some, xb_l, xb_r, goes_0, goes_1, goes_2, goes_3, ne10, if_false, if_true, om_0, om_1]) ?_
      unfold fM_person_18 fM_person_56
      simp only [m1, mb2_s, Option.bind_some, xb_l, xb_r, goes_0, goes_1, goes_2, goes_3, ne10, if_false, if_true, om_0, om_1]
theorem sim_nation (h : RC t g u) (x1 x2 : Int32) (b : Bool) : SimW [0] (fC_Court_nation g x1 x2 (zB b)) (fM_nation u x1 x2 (zB b)) g := by
  have h0 := h.1
  have h1 := (h.thr 0).1
  unfold fC_Court_nation fC_Court_nation_44 fM_nation fM_nation_21 fM_nation_22 fM_nation_64
  rcases s_isPerson h0 x1 with ⟨p, hp, rfl, c1, m1⟩ | ⟨c1, m1⟩
  · have h16 := h0.p16 hp
    rcases s_isLand h0 x2 with ⟨l, hl, rfl, c2, m2⟩ | ⟨c2, m2⟩
    · have ck' : ∀ x, ck (uI g 5 p 8 x) 5 p = some () := fun x => ck5 hp
      have e15 : mup u 0 0 0 15 p = sI g 5 p 8 := h1.aA p hp
      have hk : ∀ X, RC t (uI g 5 p 8 X) (mup (mup u 0 0 0) 15 p X) := fun X => ⟨up_nat h1 X, fun q hq => Cn_uI (h.2 q hq) (by decide)⟩
      cases b
      · exact simW_r (by simp only [c1, c2, ck4 hl, ck5 hp, ck', s_bit h0 hl, zB_f, sI_at, mb2_s, Option.bind_some, xb_l, xb_r, goes_0, goes_1, goes_2, goes_3, ne10, if_false, if_true, om_0, om_1]; rfl) (by simp only [m1, m2, md15 h16, e15, mt15 h16, mup_at, zB_f, mb2_s, Option.bind_some, xb_l, xb_r, goes_0, goes_1, goes_2, goes_3, ne10, if_false, if_true, om_0, om_1]) (by rw [kn (by decide)]; exact mup_at _ _ _ _) (hk _)
      · exact simW_r (by simp only [c1, c2, ck4 hl, ck5 hp, ck', s_bit h0 hl, zB_t, sI_at, mb2_s, Option.bind_some, xb_l, xb_r, goes_0, goes_1, goes_2, goes_3, ne10, if_false, if_true, om_0, om_1]; rfl) (by simp only [m1, m2, md15 h16, e15, mt15 h16, mup_at, zB_t, mb2_s, Option.bind_some, xb_l, xb_r, goes_0, goes_1, goes_2, goes_3, ne10, if_false, if_true, om_0, om_1]) (by rw [kn (by decide)]; exact mup_at _ _ _ _) (hk _)
    · exact simW_x h 0 rfl (by simp only [c1, c2, mb2_s, Option.bind_some, xb_l, xb_r, goes_0, goes_1, goes_2, goes_3, ne10, if_false, if_true, om_0, om_1]) (by simp only [m1, m2, mb2_s, Option.bind_some, xb_l, xb_r, goes_0, goes_1, goes_2, goes_3, ne10, if_false, if_true, om_0, om_1])
  · exact simW_x h 0 rfl (by simp only [c1, mb2_s, Option.bind_some, xb_l, xb_r, goes_0, goes_1, goes_2, goes_3, ne10, if_false, if_true, om_0, om_1]) (by simp only [m1, mb2_s, Option.bind_some, xb_l, xb_r, goes_0, goes_1, goes_2, goes_3, ne10, if_false, if_true, om_0, om_1])
theorem sim_visa (h : RC t g u) (x1 x2 x3 x4 x5 x6 : Int32) : SimW [0, 1, 2] (fC_Court_visa g x1 x2 x3 x4 x5 x6) (fM_visa u x1 x2 x3 x4 x5 x6) g := by
  have h0 := h.1
  have h1 := (h.thr 0).1
  have hT := h0.aT
  have hN := h0.aN.2.2.2.2
  have hN1 := h1.aN.2.2.2.2
  unfold fC_Court_visa fC_Court_visa_79 fC_Court_visa_43 fM_visa fM_visa_20 fM_visa_21 fM_visa_75 fM_visa_76 fM_visa_111
  rcases s_isPerson h0 x1 with ⟨p, hp, rfl, c1, m1⟩ | ⟨c1, m1⟩
  · rcases s_isLand h0 x2 with ⟨l, hl, rfl, c2, m2⟩ | ⟨c2, m2⟩
    · by_cases e1 : x3 < nI t
      · exact simW_x h 1 rfl (by simp only [c1, c2, hT.1, e1, mb2_s, Option.bind_some, xb_l, xb_r, goes_0, goes_1, goes_2, goes_3, ne10, if_false, if_true, om_0, om_1]) (by simp only [m1, m2, hT.2.2, in_lo e1, mb2_s, Option.bind_some, xb_l, xb_r, goes_0, goes_1, goes_2, goes_3, ne10, if_false, if_true, om_0, om_1])
      by_cases e2 : 3600 < x3
      · exact simW_x h 1 rfl (by simp only [c1, c2, hT.1, e1, e2, mb2_s, Option.bind_some, xb_l, xb_r, goes_0, goes_1, goes_2, goes_3, ne10, if_false, if_true, om_0, om_1]) (by simp only [m1, m2, hT.2.2, in_hi e2, mb2_s, Option.bind_some, xb_l, xb_r, goes_0, goes_1, goes_2, goes_3, ne10, if_false, if_true, om_0, om_1])
      by_cases e3 : x4 < x3
      · exact simW_x h 1 rfl (by simp only [c1, c2, hT.1, e1, e2, e3, mb2_s, Option.bind_some, xb_l, xb_r, goes_0, goes_1, goes_2, goes_3, ne10, if_false, if_true, om_0, om_1]) (by simp only [m1, m2, hT.2.2, in_ok e1 e2, in_lo e3, mb2_s, Option.bind_some, xb_l, xb_r, goes_0, goes_1, goes_2, goes_3, ne10, if_false, if_true, om_0, om_1])
      by_cases e4 : x4 ≤ 3600
      · have f4 : ¬ 3600 < x4 := Int32.not_lt.mpr e4
        by_cases e5 : x5 < 1
        · exact simW_x h 1 rfl (by simp only [c1, c2, hT.1, e1, e2, e3, e4, e5, mb2_s, Option.bind_some, xb_l, xb_r, goes_0, goes_1, goes_2, goes_3, ne10, if_false, if_true, om_0, om_1]) (by simp only [m1, m2, hT.2.2, in_ok e1 e2, in_ok e3 f4, in_lo e5, mb2_s, Option.bind_some, xb_l, xb_r, goes_0, goes_1, goes_2, goes_3, ne10, if_false, if_true, om_0, om_1])
        by_cases e6 : 9 < x5
        · exact simW_x h 1 rfl (by simp only [c1, c2, hT.1, e1, e2, e3, e4, e5, e6, mb2_s, Option.bind_some, xb_l, xb_r, goes_0, goes_1, goes_2, goes_3, ne10, if_false, if_true, om_0, om_1]) (by simp only [m1, m2, hT.2.2, in_ok e1 e2, in_ok e3 f4, in_hi e6, mb2_s, Option.bind_some, xb_l, xb_r, goes_0, goes_1, goes_2, goes_3, ne10, if_false, if_true, om_0, om_1])
        by_cases e7 : x6 < 1
        · exact simW_x h 1 rfl (by simp only [c1, c2, hT.1, e1, e2, e3, e4, e5, e6, e7, mb2_s, Option.bind_some, xb_l, xb_r, goes_0, goes_1, goes_2, goes_3, ne10, if_false, if_true, om_0, om_1]) (by simp only [m1, m2, hT.2.2, in_ok e1 e2, in_ok e3 f4, in_ok e5 e6, in_lo e7, mb2_s, Option.bind_some, xb_l, xb_r, goes_0, goes_1, goes_2, goes_3, ne10, if_false, if_true, om_0, om_1])
        by_cases e8 : x6 ≤ 90
        · have f8 : ¬ 90 < x6 := Int32.not_lt.mpr e8
          by_cases e9 : sN g 2 < 60
          · have q1 : nI (sN g 2) < 60 := nI_lt (b := 60) e9 (by decide)
            have q2 : ¬ nI (sN g 2) = 60 := fun z => absurd ((zT1 (b := 60) (by omega) (by decide)).mp z) (by omega)
            refine simW_r (r := nI (sN g 2)) (g2 := gnew g 2 (LVisa (nI (sN g 2)) (nI p) l x3 x4 x5 x6)) (u2 := mup (mup (mup (mup (mup (mup (mup (mup (mup u 0 0 0) 29 (sN g 2) (nI p)) 30 (sN g 2) (nI l)) 31 (sN g 2) x3) 32 (sN g 2) x4) 33 (sN g 2) x5) 34 (sN g 2) x6) 35 (sN g 2) (-1)) 28 0 (nI (sN g 2 + 1))) (by simp only [c1, c2, hT.1, e1, e2, e3, e4, e5, e6, e7, e8, q1, ck5 hp, ck4 hl, (h0.aP p hp).1, show ∀ a, sI (gnew g 2 (LVisa (nI (sN g 2)) a l x3 x4 x5 x6)) 6 (lix 2 (sN g 2)) 0 = nI (sN g 2) from fun a => gI_s g _ (by decide) rfl 0, mb2_s, Option.bind_some, xb_l, xb_r, goes_0, goes_1, goes_2, goes_3, ne10, if_false, if_true, om_0, om_1]) (by simp only [m1, m2, hT.2.2, in_ok e1 e2, in_ok e3 f4, in_ok e5 e6, in_ok e7 f8, hN.2.1, q2, hN1.2.1, mt29 e9, mt30 e9, mt31 e9, mt32 e9, mt33 e9, mt34 e9, mt35 e9, kn (show 28 ≠ 29 by decide), kn (show 28 ≠ 30 by decide), kn (show 28 ≠ 31 by decide), kn (show 28 ≠ 32 by decide), kn (show 28 ≠ 33 by decide), kn (show 28 ≠ 34 by decide), kn (show 28 ≠ 35 by decide), mup_at, zp1, zm1, mb2_s, Option.bind_some, xb_l, xb_r, goes_0, goes_1, goes_2, goes_3, ne10, if_false, if_true, om_0, om_1]) ?_ (RC.mk0 (up_visa h1 e9 (nI p) hl x3 x4 x5 x6) fun q hq => ?_)
            · simp only [kn (show 0 ≠ 28 by decide), kn (show 0 ≠ 29 by decide), kn (show 0 ≠ 30 by decide), kn (show 0 ≠ 31 by decide), kn (show 0 ≠ 32 by decide), kn (show 0 ≠ 33 by decide), kn (show 0 ≠ 34 by decide), kn (show 0 ≠ 35 by decide), mup_at]
            · rw [gN_n g _ (by decide)] at hq
              exact Cn_new (by decide) hq (h.2 q hq)
          · have e10 : sN g 2 = 60 := by omega
            have q1 : ¬ nI (sN g 2) < 60 := by rw [e10]; decide +kernel
            have q2 : nI (sN g 2) = 60 := by rw [e10]; rfl
            exact simW_x h 2 rfl (by simp only [c1, c2, hT.1, e1, e2, e3, e4, e5, e6, e7, e8, q1, mb2_s, Option.bind_some, xb_l, xb_r, goes_0, goes_1, goes_2, goes_3, ne10, if_false, if_true, om_0, om_1]) (by simp only [m1, m2, hT.2.2, in_ok e1 e2, in_ok e3 f4, in_ok e5 e6, in_ok e7 f8, hN.2.1, q2, mb2_s, Option.bind_some, xb_l, xb_r, goes_0, goes_1, goes_2, goes_3, ne10, if_false, if_true, om_0, om_1])
        · have f8 : 90 < x6 := Int32.not_le.mp e8
          exact simW_x h 1 rfl (by simp only [c1, c2, hT.1, e1, e2, e3, e4, e5, e6, e7, e8, mb2_s, Option.bind_some, xb_l, xb_r, goes_0, goes_1, goes_2, goes_3, ne10, if_false, if_true, om_0, om_1]) (by simp only [m1, m2, hT.2.2, in_ok e1 e2, in_ok e3 f4, in_ok e5 e6, in_hi f8, mb2_s, Option.bind_some, xb_l, xb_r, goes_0, goes_1, goes_2, goes_3, ne10, if_false, if_true, om_0, om_1])
      · have f4 : 3600 < x4 := Int32.not_le.mp e4
        exact simW_x h 1 rfl (by simp only [c1, c2, hT.1, e1, e2, e3, e4, mb2_s, Option.bind_some, xb_l, xb_r, goes_0, goes_1, goes_2, goes_3, ne10, if_false, if_true, om_0, om_1]) (by simp only [m1, m2, hT.2.2, in_ok e1 e2, in_hi f4, mb2_s, Option.bind_some, xb_l, xb_r, goes_0, goes_1, goes_2, goes_3, ne10, if_false, if_true, om_0, om_1])
    · refine simW_x h 0 rfl (by simp only [c1, c2, mb2_s, Option.bind_some, xb_l, xb_r, goes_0, goes_1, goes_2, goes_3, ne10, if_false, if_true, om_0, om_1]) ?_
      simp only [m1, m2, mb2_s, Option.bind_some, xb_l, xb_r, goes_0, goes_1, goes_2, goes_3, ne10, if_false, if_true, om_0, om_1]
      simp only [s_in, mb2_s, Option.bind_some, xb_l, xb_r, goes_0, goes_1, goes_2, goes_3, ne10, if_false, if_true, om_0, om_1, ite_self]
  · refine simW_x h 0 rfl (by simp only [c1, mb2_s, Option.bind_some, xb_l, xb_r, goes_0, goes_1, goes_2, goes_3, ne10, if_false, if_true, om_0, om_1]) ?_
    simp only [m1, mb2_s, Option.bind_some, xb_l, xb_r, goes_0, goes_1, goes_2, goes_3, ne10, if_false, if_true, om_0, om_1]
    simp only [s_in, mb2_s, Option.bind_some, xb_l, xb_r, goes_0, goes_1, goes_2, goes_3, ne10, if_false, if_true, om_0, om_1, ite_self]
end PH
