/-! ===== the questions alike ===== -/
section PH
variable {t : Nat} {g : CS} {u : MS}
theorem in_lo {x a b : Int32} (h : x < a) : fM_in u x a b = some (0, u) := by rw [s_in]; simp [h, zB]
theorem in_hi {x a b : Int32} (h : b < x) : fM_in u x a b = some (0, u) := by rw [s_in]; simp [h, zB]
theorem in_ok {x a b : Int32} (h : ¬ x < a) (h2 : ¬ b < x) : fM_in u x a b = some (1, u) := by rw [s_in]; simp [h, h2, zB]
theorem c_stat0 {p : Nat} (hp : p < sN g 1) (j : sJ g 5 p 9 = none) : fC_Court_statusToday g p = some 0 := by
  unfold fC_Court_statusToday fC_Court_statusToday_25
  simp only [ck5 hp, j, mb2_s, Option.bind_some, xb_l, xb_r, goes_0, goes_1, goes_2, goes_3, ne10, if_false, if_true, om_0, om_1]
theorem sim_status (h : RC t g u) (x1 : Int32) : SimQ [0] (fC_Court_status g x1) (fM_status u x1) g := by
  have h0 := h.1
  have h1 := (h.thr 0).1
  have hT := h1.aT
  unfold fC_Court_status fM_status fM_status_14 fM_status_51 fM_status_52
  rcases s_isPerson h0 x1 with ⟨p, hp, rfl, c1, m1⟩ | ⟨c1, m1⟩
  · have h16 := h0.p16 hp
    rcases h1.here hp with ⟨j, w⟩ | ⟨l, hl, j, w⟩
    · exact simQ_r h 0 (by simp only [c1, c_stat0 hp j, mb2_s, Option.bind_some, xb_l, xb_r, goes_0, goes_1, goes_2, goes_3, ne10, if_false, if_true, om_0, om_1]) (by simp only [m1, w, mb2_s, Option.bind_some, xb_l, xb_r, goes_0, goes_1, goes_2, goes_3, ne10, if_false, if_true, om_0, om_1])
    · have hl8 := h0.l8 hl
      obtain ⟨m, e1, e2, e3, e4, e5⟩ := h1.rec hp (show t < 3601 by omega)
      obtain ⟨s, s1, s2, s3⟩ := c_today h1 hp j
      have s4 := s3 m e1 e4
      subst s4
      exact simQ_r h (nI (m % 10)) (by simp only [c1, s2, mb2_s, Option.bind_some, xb_l, xb_r, goes_0, goes_1, goes_2, goes_3, ne10, if_false, if_true, om_0, om_1]) (by simp only [m1, w, zne1 (show l < 2147483648 by omega), hT.2.2, m22 h16 (show t < 3601 by omega), e5, zr10 (show m < 2147483648 by omega), mb2_s, Option.bind_some, xb_l, xb_r, goes_0, goes_1, goes_2, goes_3, ne10, if_false, if_true, om_0, om_1])
  · exact simQ_x h 0 rfl (by simp only [c1, mb2_s, Option.bind_some, xb_l, xb_r, goes_0, goes_1, goes_2, goes_3, ne10, if_false, if_true, om_0, om_1]) (by simp only [m1, mb2_s, Option.bind_some, xb_l, xb_r, goes_0, goes_1, goes_2, goes_3, ne10, if_false, if_true, om_0, om_1])
theorem sim_was (h : RC t g u) (x1 x2 : Int32) : SimQ [0, 1] (fC_Court_was g x1 x2) (fM_was u x1 x2) g := by
  have h0 := h.1
  have h1 := (h.thr 0).1
  have hT := h0.aT
  unfold fC_Court_was fC_Court_was_18 fM_was fM_was_32 fM_was_54
  rcases s_isPerson h0 x1 with ⟨p, hp, rfl, c1, m1⟩ | ⟨c1, m1⟩
  · have h16 := h0.p16 hp
    by_cases e1 : x2 < 0
    · exact simQ_x h 1 rfl (by simp only [c1, e1, mb2_s, Option.bind_some, xb_l, xb_r, goes_0, goes_1, goes_2, goes_3, ne10, if_false, if_true, om_0, om_1]) (by simp only [m1, in_lo e1, mb2_s, Option.bind_some, xb_l, xb_r, goes_0, goes_1, goes_2, goes_3, ne10, if_false, if_true, om_0, om_1])
    · obtain ⟨d, hd, rfl⟩ := nI_of e1
      by_cases e2 : d ≤ t
      · have e3 : nI d ≤ nI t := nI_le e2 (by omega)
        have e4 : ¬ nI t < nI d := nI_nlt e2 (by omega)
        obtain ⟨m, q1, q2, q3, q4, q5⟩ := h1.rec hp (show d < 3601 by omega)
        exact simQ_r h (nI m) (by simp only [c1, e1, hT.1, e3, ck5 hp, at9 hp (show d < 3601 by omega), q4, mb2_s, Option.bind_some, xb_l, xb_r, goes_0, goes_1, goes_2, goes_3, ne10, if_false, if_true, om_0, om_1]) (by simp only [m1, hT.2.2, in_ok e1 e4, m22 h16 (show d < 3601 by omega), q5, mb2_s, Option.bind_some, xb_l, xb_r, goes_0, goes_1, goes_2, goes_3, ne10, if_false, if_true, om_0, om_1])
      · have e3 : ¬ nI d ≤ nI t := nI_ge (by omega) (by omega)
        have e4 : nI t < nI d := nI_lt (by omega) (by omega)
        exact simQ_x h 1 rfl (by simp only [c1, e1, hT.1, e3, mb2_s, Option.bind_some, xb_l, xb_r, goes_0, goes_1, goes_2, goes_3, ne10, if_false, if_true, om_0, om_1]) (by simp only [m1, hT.2.2, in_hi e4, mb2_s, Option.bind_some, xb_l, xb_r, goes_0, goes_1, goes_2, goes_3, ne10, if_false, if_true, om_0, om_1])
  · exact simQ_x h 0 rfl (by simp only [c1, mb2_s, Option.bind_some, xb_l, xb_r, goes_0, goes_1, goes_2, goes_3, ne10, if_false, if_true, om_0, om_1]) (by simp only [m1, mb2_s, Option.bind_some, xb_l, xb_r, goes_0, goes_1, goes_2, goes_3, ne10, if_false, if_true, om_0, om_1])
theorem sim_reason (h : RC t g u) (x1 x2 : Int32) : SimQ [0] (fC_Court_reason g x1 x2) (fM_reason u x1 x2) g := by
  have h0 := h.1
  unfold fC_Court_reason fM_reason fM_reason_21 fM_reason_22 fM_reason_38
  rcases s_isPerson h0 x1 with ⟨p, hp, rfl, c1, m1⟩ | ⟨c1, m1⟩
  · rcases s_isLand h0 x2 with ⟨l, hl, rfl, c2, m2⟩ | ⟨c2, m2⟩
    · obtain ⟨r, rc, rm⟩ := s_why (h.thr 0) hp hl
      exact simQ_r h r (by simp only [c1, c2, rc, mb2_s, Option.bind_some, xb_l, xb_r, goes_0, goes_1, goes_2, goes_3, ne10, if_false, if_true, om_0, om_1]) (by simp only [m1, m2, rm, mb2_s, Option.bind_some, xb_l, xb_r, goes_0, goes_1, goes_2, goes_3, ne10, if_false, if_true, om_0, om_1])
    · exact simQ_x h 0 rfl (by simp only [c1, c2, mb2_s, Option.bind_some, xb_l, xb_r, goes_0, goes_1, goes_2, goes_3, ne10, if_false, if_true, om_0, om_1]) (by simp only [m1, m2, mb2_s, Option.bind_some, xb_l, xb_r, goes_0, goes_1, goes_2, goes_3, ne10, if_false, if_true, om_0, om_1])
  · exact simQ_x h 0 rfl (by simp only [c1, mb2_s, Option.bind_some, xb_l, xb_r, goes_0, goes_1, goes_2, goes_3, ne10, if_false, if_true, om_0, om_1]) (by simp only [m1, mb2_s, Option.bind_some, xb_l, xb_r, goes_0, goes_1, goes_2, goes_3, ne10, if_false, if_true, om_0, om_1])
theorem sim_permit (h : RC t g u) (x1 x2 : Int32) : SimQ [0] (fC_Court_permit g x1 x2) (fM_permit u x1 x2) g := by
  have h0 := h.1
  have h1 := (h.thr 0).1
  have hT := h0.aT
  unfold fC_Court_permit fC_Court_permit_51 fM_permit fM_permit_21 fM_permit_22 fM_permit_54
  rcases s_isPerson h0 x1 with ⟨p, hp, rfl, c1, m1⟩ | ⟨c1, m1⟩
  · have h16 := h0.p16 hp
    rcases s_isLand h0 x2 with ⟨l, hl, rfl, c2, m2⟩ | ⟨c2, m2⟩
    · have h8 := h0.l8 hl
      have q := ((h1.aM p h16 l h8).1 hp).1
      have vc := c_valid h0 hp h8
      have vm := m_valid h1 hp h8
      cases hz : zP t g p l
      · rw [hz] at vc vm
        exact simQ_r h (-1) (by simp only [c1, c2, ck5 hp, ck4 hl, (h0.aL l hl).1, hT.1, vc, zB_f, mb2_s, Option.bind_some, xb_l, xb_r, goes_0, goes_1, goes_2, goes_3, ne10, if_false, if_true, om_0, om_1]) (by simp only [m1, m2, vm, zB_f, mb2_s, Option.bind_some, xb_l, xb_r, goes_0, goes_1, goes_2, goes_3, ne10, if_false, if_true, om_0, om_1])
      · rw [hz] at vc vm
        exact simQ_r h (sI g 23 p l) (by simp only [c1, c2, ck5 hp, ck4 hl, (h0.aL l hl).1, hT.1, vc, zB_t, at15 hp h8, mb2_s, Option.bind_some, xb_l, xb_r, goes_0, goes_1, goes_2, goes_3, ne10, if_false, if_true, om_0, om_1]) (by simp only [m1, m2, vm, zB_t, z8, md23 (show 8 * p + l < 128 by omega), q, mb2_s, Option.bind_some, xb_l, xb_r, goes_0, goes_1, goes_2, goes_3, ne10, if_false, if_true, om_0, om_1])
    · exact simQ_x h 0 rfl (by simp only [c1, c2, mb2_s, Option.bind_some, xb_l, xb_r, goes_0, goes_1, goes_2, goes_3, ne10, if_false, if_true, om_0, om_1]) (by simp only [m1, m2, mb2_s, Option.bind_some, xb_l, xb_r, goes_0, goes_1, goes_2, goes_3, ne10, if_false, if_true, om_0, om_1])
  · exact simQ_x h 0 rfl (by simp only [c1, mb2_s, Option.bind_some, xb_l, xb_r, goes_0, goes_1, goes_2, goes_3, ne10, if_false, if_true, om_0, om_1]) (by simp only [m1, mb2_s, Option.bind_some, xb_l, xb_r, goes_0, goes_1, goes_2, goes_3, ne10, if_false, if_true, om_0, om_1])
theorem sim_banned (h : RC t g u) (x1 x2 x3 : Int32) : SimQ [0] (fC_Court_banned g x1 x2 x3) (fM_banned u x1 x2 x3) g := by
  have h0 := h.1
  have h1 := (h.thr 0).1
  have hT := h0.aT
  unfold fC_Court_banned fC_Court_banned_54 fM_banned fM_banned_29 fM_banned_30 fM_banned_63
  rcases s_isLand h0 x1 with ⟨l, hl, rfl, c1, m1⟩ | ⟨c1, m1⟩
  · have h8 := h0.l8 hl
    rcases s_isPerson h0 x2 with ⟨p, hp, rfl, c2, m2⟩ | ⟨c2, m2⟩
    · have h16 := h0.p16 hp
      rcases s_isLand h0 x3 with ⟨k, hk, rfl, c3, m3⟩ | ⟨c3, m3⟩
      · obtain ⟨b, km, kc⟩ := s_known h1 hp hl hk
        have st := (s_stands h0 hp h8).1
        have q := ((h1.aB p h16 l h8).1 hp).1
        by_cases e : sI g 20 p l < nI t
        · have st2 : fC_Bans_stands p g (nI l) (nI t) = some 0 := by rw [st]; simp [e, zB]
          have km2 : fM_knows (mup u 0 0 0) (nI l) (nI p) (nI k) = some (0, mup u 0 0 0) := by rw [km]; simp [e, zB]
          exact simQ_r h (-1) (by simp only [c1, c2, c3, ck5 hp, ck4 hl, (h0.aL l hl).1, hT.1, st2, mb2_s, Option.bind_some, xb_l, xb_r, goes_0, goes_1, goes_2, goes_3, ne10, if_false, if_true, om_0, om_1]) (by simp only [m1, m2, m3, km2, mb2_s, Option.bind_some, xb_l, xb_r, goes_0, goes_1, goes_2, goes_3, ne10, if_false, if_true, om_0, om_1])
        · have st2 : fC_Bans_stands p g (nI l) (nI t) = some 1 := by rw [st]; simp [e, zB]
          have km2 : fM_knows (mup u 0 0 0) (nI l) (nI p) (nI k) = some (zB b, mup u 0 0 0) := by rw [km]; simp [e]
          have kc2 := kc e
          cases b
          · exact simQ_r h (-1) (by simp only [c1, c2, c3, ck5 hp, ck4 hl, (h0.aL l hl).1, hT.1, st2, kc2, zB_f, mb2_s, Option.bind_some, xb_l, xb_r, goes_0, goes_1, goes_2, goes_3, ne10, if_false, if_true, om_0, om_1]) (by simp only [m1, m2, m3, km2, zB_f, mb2_s, Option.bind_some, xb_l, xb_r, goes_0, goes_1, goes_2, goes_3, ne10, if_false, if_true, om_0, om_1])
          · exact simQ_r h (sI g 20 p l) (by simp only [c1, c2, c3, ck5 hp, ck4 hl, (h0.aL l hl).1, hT.1, st2, kc2, zB_t, at12 hp h8, mb2_s, Option.bind_some, xb_l, xb_r, goes_0, goes_1, goes_2, goes_3, ne10, if_false, if_true, om_0, om_1]) (by simp only [m1, m2, m3, km2, zB_t, z8, md25 (show 8 * p + l < 128 by omega), q, mb2_s, Option.bind_some, xb_l, xb_r, goes_0, goes_1, goes_2, goes_3, ne10, if_false, if_true, om_0, om_1])
      · exact simQ_x h 0 rfl (by simp only [c1, c2, c3, mb2_s, Option.bind_some, xb_l, xb_r, goes_0, goes_1, goes_2, goes_3, ne10, if_false, if_true, om_0, om_1]) (by simp only [m1, m2, m3, mb2_s, Option.bind_some, xb_l, xb_r, goes_0, goes_1, goes_2, goes_3, ne10, if_false, if_true, om_0, om_1])
    · exact simQ_x h 0 rfl (by simp only [c1, c2, mb2_s, Option.bind_some, xb_l, xb_r, goes_0, goes_1, goes_2, goes_3, ne10, if_false, if_true, om_0, om_1]) (by simp only [m1, m2, mb2_s, Option.bind_some, xb_l, xb_r, goes_0, goes_1, goes_2, goes_3, ne10, if_false, if_true, om_0, om_1])
  · exact simQ_x h 0 rfl (by simp only [c1, mb2_s, Option.bind_some, xb_l, xb_r, goes_0, goes_1, goes_2, goes_3, ne10, if_false, if_true, om_0, om_1]) (by simp only [m1, mb2_s, Option.bind_some, xb_l, xb_r, goes_0, goes_1, goes_2, goes_3, ne10, if_false, if_true, om_0, om_1])
theorem in_small (n : Nat) (hn : n < 1000) (x : Int32) : (∃ j, j ≤ n ∧ x = nI j ∧ fM_in u x 0 (nI n) = some (1, u)) ∨ ((∀ j, j ≤ n → ¬ x = nI j) ∧ fM_in u x 0 (nI n) = some (0, u)) := by
  by_cases e1 : x < 0
  · refine Or.inr ⟨fun j hj e => ?_, in_lo e1⟩
    rw [e] at e1
    exact nI_pos (by omega) e1
  · obtain ⟨d, hd, rfl⟩ := nI_of e1
    by_cases e2 : d ≤ n
    · exact Or.inl ⟨d, e2, rfl, in_ok e1 (nI_nlt e2 (by omega))⟩
    · refine Or.inr ⟨fun j hj e => ?_, in_hi (nI_lt (by omega) hd)⟩
      have := (zT1 hd (by omega)).mp e
      omega
theorem sim_ofVisa (h : RC t g u) (x1 x2 : Int32) : SimQ [0, 1] (fC_Court_ofVisa g x1 x2) (fM_ofVisa u x1 x2) g := by
  have h0 := h.1
  have h1 := (h.thr 0).1
  unfold fC_Court_ofVisa fM_ofVisa fM_ofVisa_35 fM_ofVisa_76
  rcases s_visaAt h0 x1 with ⟨v, hv, rfl, c1, m1⟩ | ⟨c1, m1⟩
  · have h60 := h0.v60 hv
    have q29 := (h1.aV v hv).2.1
    obtain ⟨q33, q34, -⟩ := h1.aX v hv
    rcases in_small (u := u) 2 (by decide) x2 with ⟨j, hj, rfl, m2⟩ | ⟨hn, m2⟩
    · have m2' : fM_in u (nI j) 0 2 = some (1, u) := m2
      rcases (show j = 0 ∨ j = 1 ∨ j = 2 by omega) with rfl | rfl | rfl
      · exact simQ_r h (sI g 6 v 5) (by simp only [c1, ck6 hv, show nI 0 = (0 : Int32) from rfl, mb2_s, Option.bind_some, xb_l, xb_r, goes_0, goes_1, goes_2, goes_3, ne10, if_false, if_true, om_0, om_1]) (by simp only [m1, show fM_in u (0 : Int32) 0 2 = some (1, u) from m2, show nI 0 = (0 : Int32) from rfl, md33 h60, q33, mb2_s, Option.bind_some, xb_l, xb_r, goes_0, goes_1, goes_2, goes_3, ne10, if_false, if_true, om_0, om_1])
      · exact simQ_r h (sI g 6 v 6) (by simp only [c1, ck6 hv, show nI 1 = (1 : Int32) from rfl, mb2_s, Option.bind_some, xb_l, xb_r, goes_0, goes_1, goes_2, goes_3, ne10, if_false, if_true, om_0, om_1]) (by simp only [m1, show fM_in u (1 : Int32) 0 2 = some (1, u) from m2, show nI 1 = (1 : Int32) from rfl, md34 h60, q34, mb2_s, Option.bind_some, xb_l, xb_r, goes_0, goes_1, goes_2, goes_3, ne10, if_false, if_true, om_0, om_1])
      · exact simQ_r h (sI g 6 v 1) (by simp only [c1, ck6 hv, show nI 2 = (2 : Int32) from rfl, show ¬ (2 : Int32) = 0 by decide, show ¬ (2 : Int32) = 1 by decide, mb2_s, Option.bind_some, xb_l, xb_r, goes_0, goes_1, goes_2, goes_3, ne10, if_false, if_true, om_0, om_1]) (by simp only [m1, show fM_in u (2 : Int32) 0 2 = some (1, u) from m2, show nI 2 = (2 : Int32) from rfl, show ¬ (2 : Int32) = 0 by decide, show ¬ (2 : Int32) = 1 by decide, md29 h60, q29, mb2_s, Option.bind_some, xb_l, xb_r, goes_0, goes_1, goes_2, goes_3, ne10, if_false, if_true, om_0, om_1])
    · have m2' : fM_in u x2 0 2 = some (0, u) := m2
      have n0 : ¬ x2 = 0 := hn 0 (by decide)
      have n1 : ¬ x2 = 1 := hn 1 (by decide)
      have n2 : ¬ x2 = 2 := hn 2 (by decide)
      exact simQ_x h 1 rfl (by simp only [c1, n0, n1, n2, mb2_s, Option.bind_some, xb_l, xb_r, goes_0, goes_1, goes_2, goes_3, ne10, if_false, if_true, om_0, om_1]) (by simp only [m1, m2', mb2_s, Option.bind_some, xb_l, xb_r, goes_0, goes_1, goes_2, goes_3, ne10, if_false, if_true, om_0, om_1])
  · exact simQ_x h 0 rfl (by simp only [c1, mb2_s, Option.bind_some, xb_l, xb_r, goes_0, goes_1, goes_2, goes_3, ne10, if_false, if_true, om_0, om_1]) (by simp only [m1, mb2_s, Option.bind_some, xb_l, xb_r, goes_0, goes_1, goes_2, goes_3, ne10, if_false, if_true, om_0, om_1])
theorem sim_daysAnew (h : RC t g u) (x1 : Int32) : SimQ [0] (fC_Court_daysAnew g x1) (fM_daysAnew u x1) g := by
  have h0 := h.1
  have h1 := (h.thr 0).1
  have hT := h1.aT
  have hN := h1.aN.2.2.2.2.2.2.2.2.1
  obtain ⟨b, hb, rc, rm⟩ := s_rule h1
  obtain ⟨w, w1, w2, w3, w4⟩ := h1.rule hb
  have lp : ∀ {p : Nat}, p < sN g 1 → ∀ k i n a, i + k = t + 1 → k < n → fC_Court_daysAnew_28 n g p a (nI i) = some (.inr (a + zS (zc g p) i k)) := fun {p} hp k => by
    induction k with
    | zero =>
      intro i n a hi hn
      obtain ⟨n, rfl⟩ : ∃ m, n = m + 1 := ⟨n - 1, by omega⟩
      rw [fC_Court_daysAnew_28, hT.1, if_pos (nI_lt (by omega) (by omega))]
      simp [zS]
    | succ k ih =>
      intro i n a hi hn
      obtain ⟨n, rfl⟩ : ∃ m, n = m + 1 := ⟨n - 1, by omega⟩
      obtain ⟨m, e1, e2, e3, e4, e5⟩ := h1.rec hp (show i < 3601 by omega)
      have ez : zc g p i = zB (vC g (nI m)) := by unfold zc; rw [e4]
      rw [fC_Court_daysAnew_28, hT.1, if_neg (nI_nlt (by omega) (by omega))]
      unfold fC_Court_daysAnew_56
      simp only [ck5 hp, at9 hp (show i < 3601 by omega), e4, c_counting h1 e1, zp1, zB_0, zS, ez, Option.bind_some]
      rw [ih (i + 1) n _ (by omega) (by omega), ih (i + 1) n _ (by omega) (by omega)]
      rcases Bool.eq_false_or_eq_true (vC g (nI m)) with e | e
      · rw [if_neg (by rw [e]; decide), e, Int32.add_assoc]
        rfl
      · rw [if_pos e, e]
        simp [zB]
  rcases s_isPerson h0 x1 with ⟨p, hp, rfl, c1, m1⟩ | ⟨c1, m1⟩
  · have ct := m_countTo h1 hp (E := t + 1) (by omega) (by omega) (zlast hT.2.1) hb rm ⟨w1, w2⟩ w4
    have lq := lp hp (t + 1 - (t + 1 - w)) (t + 1 - w) 4096 0 (by omega) (by omega)
    rw [← zfrom1 hT.2.1 ⟨w1, w2⟩, Int32.zero_add] at lq
    unfold fC_Court_daysAnew fM_daysAnew fM_daysAnew_14 fM_daysAnew_33
    exact simQ_r h (zS (zc g p) (t + 1 - w) (t + 1 - (t + 1 - w))) (by simp only [c1, rc, ck3 hb, hT.1, w3, lq, mb2_s, Option.bind_some, xb_l, xb_r, goes_0, goes_1, goes_2, goes_3, ne10, if_false, if_true, om_0, om_1]) (by simp only [m1, hT.2.2, ct, mb2_s, Option.bind_some, xb_l, xb_r, goes_0, goes_1, goes_2, goes_3, ne10, if_false, if_true, om_0, om_1])
  · unfold fC_Court_daysAnew fM_daysAnew fM_daysAnew_14 fM_daysAnew_33
    exact simQ_x h 0 rfl (by simp only [c1, mb2_s, Option.bind_some, xb_l, xb_r, goes_0, goes_1, goes_2, goes_3, ne10, if_false, if_true, om_0, om_1]) (by simp only [m1, mb2_s, Option.bind_some, xb_l, xb_r, goes_0, goes_1, goes_2, goes_3, ne10, if_false, if_true, om_0, om_1])
theorem sim_about (h : RC t g u) (x1 x2 : Int32) : SimQ [0, 1] (fC_Court_about g x1 x2) (fM_about u x1 x2) g := by
  have h0 := h.1
  have h1 := (h.thr 0).1
  have hT := h1.aT
  have hN := h1.aN.2.2.2.2.2.2.2.2.1
  unfold fC_Court_about fC_Court_about_131 fC_Court_about_114 fC_Court_about_58 fM_about fM_about_29 fM_about_100
  rcases s_isPerson h0 x1 with ⟨p, hp, rfl, c1, m1⟩ | ⟨c1, m1⟩
  · have h16 := h0.p16 hp
    have hCp := h.2 p hp
    rcases in_small (u := u) 4 (by decide) x2 with ⟨j, hj, rfl, m2⟩ | ⟨hn, m2⟩
    · have m2' : fM_in u (nI j) 0 4 = some (1, u) := m2
      rcases (show j = 0 ∨ j = 1 ∨ j = 2 ∨ j = 3 ∨ j = 4 by omega) with rfl | rfl | rfl | rfl | rfl
      · rcases h1.here hp with ⟨j, w⟩ | ⟨l, hl, j, w⟩
        · exact simQ_r h (-1) (by simp only [c1, ck5 hp, j, show nI 0 = (0 : Int32) from rfl, mb2_s, Option.bind_some, xb_l, xb_r, goes_0, goes_1, goes_2, goes_3, ne10, if_false, if_true, om_0, om_1]) (by simp only [m1, show fM_in u (0 : Int32) 0 4 = some (1, u) from m2, w, show nI 0 = (0 : Int32) from rfl, mb2_s, Option.bind_some, xb_l, xb_r, goes_0, goes_1, goes_2, goes_3, ne10, if_false, if_true, om_0, om_1])
        · exact simQ_r h (nI l) (by simp only [c1, ck5 hp, j, ck4 hl, (h0.aL l hl).1, show nI 0 = (0 : Int32) from rfl, mb2_s, Option.bind_some, xb_l, xb_r, goes_0, goes_1, goes_2, goes_3, ne10, if_false, if_true, om_0, om_1]) (by simp only [m1, show fM_in u (0 : Int32) 0 4 = some (1, u) from m2, w, show nI 0 = (0 : Int32) from rfl, mb2_s, Option.bind_some, xb_l, xb_r, goes_0, goes_1, goes_2, goes_3, ne10, if_false, if_true, om_0, om_1])
      · exact simQ_r h (sI g 5 p 8) (by simp only [c1, ck5 hp, show nI 1 = (1 : Int32) from rfl, mb2_s, Option.bind_some, xb_l, xb_r, goes_0, goes_1, goes_2, goes_3, ne10, if_false, if_true, om_0, om_1]) (by simp only [m1, show fM_in u (1 : Int32) 0 4 = some (1, u) from m2, show nI 1 = (1 : Int32) from rfl, r15 h1 hp, mb2_s, Option.bind_some, xb_l, xb_r, goes_0, goes_1, goes_2, goes_3, ne10, if_false, if_true, om_0, om_1])
      · obtain ⟨b, hb, rc, rm⟩ := s_rule h1
        obtain ⟨w, w1, w2, w3, w4⟩ := h1.rule hb
        have ct := m_countTo h1 hp (E := t + 1) (by omega) (by omega) (zlast hT.2.1) hb rm ⟨w1, w2⟩ w4
        have s1 := c_sumw h0 hp hCp (show t ≤ t + 1 by omega) (by omega) ⟨w1, w2⟩
        have s2 : fC_Row_at 10 p g (nI t) = some (zS (zc g p) 0 (t + 1)) := by rw [at10 hp (by omega), hCp t (by omega)]
        exact simQ_r h (zS (zc g p) (t + 1 - w) (t + 1 - (t + 1 - w))) (by simp only [c1, ck5 hp, hT.1, rc, ck3 hb, w3, s1, s2, zS_diff (zc g p) (show t + 1 - w ≤ t + 1 by omega), show nI 2 = (2 : Int32) from rfl, show ¬ (2 : Int32) = 0 by decide, show ¬ (2 : Int32) = 1 by decide, mb2_s, Option.bind_some, xb_l, xb_r, goes_0, goes_1, goes_2, goes_3, ne10, if_false, if_true, om_0, om_1]) (by simp only [m1, show fM_in u (2 : Int32) 0 4 = some (1, u) from m2, hT.2.2, ct, show nI 2 = (2 : Int32) from rfl, show ¬ (2 : Int32) = 0 by decide, show ¬ (2 : Int32) = 1 by decide, mb2_s, Option.bind_some, xb_l, xb_r, goes_0, goes_1, goes_2, goes_3, ne10, if_false, if_true, om_0, om_1])
      · have q : ¬ (3 : Int32) = 0 ∧ ¬ (3 : Int32) = 1 ∧ ¬ (3 : Int32) = 2 := by decide
        rcases h1.aI p hp with ⟨j, w⟩ | ⟨v, hv, j, w⟩
        · exact simQ_r h (-1) (by simp only [c1, ck5 hp, j, show nI 3 = (3 : Int32) from rfl, q, mb2_s, Option.bind_some, xb_l, xb_r, goes_0, goes_1, goes_2, goes_3, ne10, if_false, if_true, om_0, om_1]) (by simp only [m1, show fM_in u (3 : Int32) 0 4 = some (1, u) from m2, md20 h16, w, show nI 3 = (3 : Int32) from rfl, q, mb2_s, Option.bind_some, xb_l, xb_r, goes_0, goes_1, goes_2, goes_3, ne10, if_false, if_true, om_0, om_1])
        · exact simQ_r h (nI v) (by simp only [c1, ck5 hp, j, ck6 hv, (h0.aV v hv).1, show nI 3 = (3 : Int32) from rfl, q, mb2_s, Option.bind_some, xb_l, xb_r, goes_0, goes_1, goes_2, goes_3, ne10, if_false, if_true, om_0, om_1]) (by simp only [m1, show fM_in u (3 : Int32) 0 4 = some (1, u) from m2, md20 h16, w, show nI 3 = (3 : Int32) from rfl, q, mb2_s, Option.bind_some, xb_l, xb_r, goes_0, goes_1, goes_2, goes_3, ne10, if_false, if_true, om_0, om_1])
      · have q : ¬ (4 : Int32) = 0 ∧ ¬ (4 : Int32) = 1 ∧ ¬ (4 : Int32) = 2 ∧ ¬ (4 : Int32) = 3 := by decide
        rcases h1.here hp with ⟨j, w⟩ | ⟨l, hl, j, w⟩
        · obtain ⟨f, f1, f2, f3⟩ := (h1.aE p h16).1 hp
          have ov : fM_overstayed (mup u 0 0 0) (nI p) = some (0, mup u 0 0 0) := by
            unfold fM_overstayed
            rw [md21 h16, f3]
            simp only [Option.bind_some]
            rw [show (4096 : Nat) = 4095 + 1 from rfl, fM_overstayed_9]
            unfold fM_overstayed_60
            simp only [w, mb2_s, Option.bind_some, xb_l, xb_r, goes_0, goes_1, goes_2, goes_3, ne10, if_false, if_true, om_0, om_1, ite_self]
          exact simQ_r h 0 (by simp only [c1, ck5 hp, j, show nI 4 = (4 : Int32) from rfl, q, mb2_s, Option.bind_some, xb_l, xb_r, goes_0, goes_1, goes_2, goes_3, ne10, if_false, if_true, om_0, om_1]) (by simp only [m1, show fM_in u (4 : Int32) 0 4 = some (1, u) from m2, ov, show nI 4 = (4 : Int32) from rfl, q, mb2_s, Option.bind_some, xb_l, xb_r, goes_0, goes_1, goes_2, goes_3, ne10, if_false, if_true, om_0, om_1])
        · obtain ⟨r, oc, om⟩ := s_over h1 hp j
          exact simQ_r h r (by simp only [c1, ck5 hp, j, oc, show nI 4 = (4 : Int32) from rfl, q, mb2_s, Option.bind_some, xb_l, xb_r, goes_0, goes_1, goes_2, goes_3, ne10, if_false, if_true, om_0, om_1]) (by simp only [m1, show fM_in u (4 : Int32) 0 4 = some (1, u) from m2, om, show nI 4 = (4 : Int32) from rfl, q, mb2_s, Option.bind_some, xb_l, xb_r, goes_0, goes_1, goes_2, goes_3, ne10, if_false, if_true, om_0, om_1])
    · have m2' : fM_in u x2 0 4 = some (0, u) := m2
      have n0 : ¬ x2 = 0 := hn 0 (by decide)
      have n1 : ¬ x2 = 1 := hn 1 (by decide)
      have n2 : ¬ x2 = 2 := hn 2 (by decide)
      have n3 : ¬ x2 = 3 := hn 3 (by decide)
      have n4 : ¬ x2 = 4 := hn 4 (by decide)
      exact simQ_x h 1 rfl (by simp only [c1, n0, n1, n2, n3, n4, mb2_s, Option.bind_some, xb_l, xb_r, goes_0, goes_1, goes_2, goes_3, ne10, if_false, if_true, om_0, om_1]) (by simp only [m1, m2', mb2_s, Option.bind_some, xb_l, xb_r, goes_0, goes_1, goes_2, goes_3, ne10, if_false, if_true, om_0, om_1])
  · exact simQ_x h 0 rfl (by simp only [c1, mb2_s, Option.bind_some, xb_l, xb_r, goes_0, goes_1, goes_2, goes_3, ne10, if_false, if_true, om_0, om_1]) (by simp only [m1, mb2_s, Option.bind_some, xb_l, xb_r, goes_0, goes_1, goes_2, goes_3, ne10, if_false, if_true, om_0, om_1])
end PH
