/-! ===== the calls alike: what throws, and the questions ===== -/
/-- a call that may write: both throw alike, or both answer alike -/
def SimW (es : List Nat) (c : Option (Nat ⊕ (Int32 × CS))) (m : Option (Int32 × MS)) (g : CS) : Prop := (∃ k e r u2, es[k]? = some e ∧ c = some (.inl e) ∧ m = some (r, u2) ∧ u2 0 0 = nI (k + 1) ∧ RR g u2) ∨ ∃ r g2 u2, c = some (.inr (r, g2)) ∧ m = some (r, u2) ∧ u2 0 0 = 0 ∧ RR g2 u2
def SimQ (es : List Nat) (c : Option (Nat ⊕ Int32)) (m : Option (Int32 × MS)) (g : CS) : Prop := (∃ k e r u2, es[k]? = some e ∧ c = some (.inl e) ∧ m = some (r, u2) ∧ u2 0 0 = nI (k + 1) ∧ RR g u2) ∨ ∃ r u2, c = some (.inr r) ∧ m = some (r, u2) ∧ u2 0 0 = 0 ∧ RR g u2
section PH
variable {t : Nat} {g : CS} {u : MS}
def RC (t : Nat) (g : CS) (u : MS) : Prop := R0 t g u ∧ ∀ p, p < sN g 1 → Cn g p (t + 1)
theorem RC.thr (h : RC t g u) (x : Int32) : RC t g (mup u 0 0 x) := ⟨up_thr h.1 x, h.2⟩
theorem RC.rr (h : RC t g u) : RR g u := ⟨t, h⟩
theorem simW_x {es : List Nat} {c : Option (Nat ⊕ (Int32 × CS))} {m : Option (Int32 × MS)} (h : RC t g u) (k : Nat) {e : Nat} (he : es[k]? = some e) (hc : c = some (.inl e)) (hm : m = some (0, mup u 0 0 (nI (k + 1)))) : SimW es c m g := Or.inl ⟨k, e, 0, _, he, hc, hm, mup_at _ _ _ _, (h.thr _).rr⟩
theorem simQ_x {es : List Nat} {c : Option (Nat ⊕ Int32)} {m : Option (Int32 × MS)} (h : RC t g u) (k : Nat) {e : Nat} (he : es[k]? = some e) (hc : c = some (.inl e)) (hm : m = some (0, mup u 0 0 (nI (k + 1)))) : SimQ es c m g := Or.inl ⟨k, e, 0, _, he, hc, hm, mup_at _ _ _ _, (h.thr _).rr⟩
theorem simQ_r {es : List Nat} {c : Option (Nat ⊕ Int32)} {m : Option (Int32 × MS)} (h : RC t g u) (r : Int32) (hc : c = some (.inr r)) (hm : m = some (r, mup u 0 0 0)) : SimQ es c m g := Or.inr ⟨r, _, hc, hm, mup_at _ _ _ _, (h.thr _).rr⟩
theorem simW_r {es : List Nat} {c : Option (Nat ⊕ (Int32 × CS))} {m : Option (Int32 × MS)} {r : Int32} {g2 : CS} {u2 : MS} {t2 : Nat} (hc : c = some (.inr (r, g2))) (hm : m = some (r, u2)) (h0 : u2 0 0 = 0) (h : RC t2 g2 u2) : SimW es c m g := Or.inr ⟨r, g2, u2, hc, hm, h0, h.rr⟩
theorem goes_0 (u : MS) : fM_goesWell u 0 = some (1, mup u 0 0 0) := by rw [s_goes]; rfl
theorem goes_1 (u : MS) : fM_goesWell u 1 = some (0, mup u 0 0 (nI (0 + 1))) := by rw [s_goes]; rfl
theorem goes_2 (u : MS) : fM_goesWell u 2 = some (0, mup u 0 0 (nI (1 + 1))) := by rw [s_goes]; rfl
theorem goes_3 (u : MS) : fM_goesWell u 3 = some (0, mup u 0 0 (nI (2 + 1))) := by rw [s_goes]; rfl
theorem ne10 : ¬ (1 : Int32) = 0 := by decide
/-! a person and its land, on both sides -/
theorem R0.here (h : R0 t g u) {p : Nat} (hp : p < sN g 1) : (sJ g 5 p 9 = none ∧ mld u 18 (nI p) = some (-1)) ∨ ∃ l, l < sN g 0 ∧ sJ g 5 p 9 = some l ∧ mld u 18 (nI p) = some (nI l) := by
  rw [md18 (h.p16 hp)]
  rcases h.aH p hp with ⟨a, b⟩ | ⟨l, a, b, c⟩
  · exact Or.inl ⟨a, by rw [b]⟩
  · exact Or.inr ⟨l, a, b, by rw [c]⟩
theorem c_today (h : R0 t g u) {p l : Nat} (hp : p < sN g 1) (hw : sJ g 5 p 9 = some l) : ∃ s, s < 10 ∧ fC_Court_statusToday g p = some (nI s) ∧ ∀ m, m < 80 → sI g 17 p t = nI m → s = m % 10 := by
  have hT := h.aT
  obtain ⟨m, h1, h2, h3, h4, h5⟩ := h.rec hp (show t < 3601 by omega)
  refine ⟨m % 10, by omega, ?_, fun m2 hm2 e => by rw [h4] at e; rw [(zT1 (by omega) (by omega)).mp e]⟩
  unfold fC_Court_statusToday fC_Court_statusToday_25
  simp only [ck5 hp, hw, om_1, hT.1, at9 hp (show t < 3601 by omega), h4, zr10 (show m < 2147483648 by omega), Option.bind_some]
/-! days of a stay that were OVERSTAYED -/
theorem s_over_loop (h : R0 t g u) {p l : Nat} (hp : p < sN g 1) (hw : sJ g 5 p 9 = some l) (k : Nat) : ∀ (i n n2 : Nat) (a : Int32), i + k = t + 1 → k < n → k < n2 → ∃ r, fC_Court_overstayedDays_7 n g p a (nI i) = some r ∧ fM_overstayed_9 n2 u (nI p) a (nI i) = some (r, u) := by
  have hT := h.aT
  have h16 := h.p16 hp
  have hwm : ∃ l2, mld u 18 (nI p) = some (nI l2) ∧ l2 < 8 := by
    rcases h.here hp with ⟨a, b⟩ | ⟨l2, a, b, c⟩
    · rw [hw] at a; cases a
    · exact ⟨l2, c, h.l8 a⟩
  obtain ⟨l2, hw2, hl2⟩ := hwm
  induction k with
  | zero =>
    intro i n n2 a hi hn hn2
    obtain ⟨n, rfl⟩ : ∃ m, n = m + 1 := ⟨n - 1, by omega⟩
    obtain ⟨n2, rfl⟩ : ∃ m, n2 = m + 1 := ⟨n2 - 1, by omega⟩
    rw [fC_Court_overstayedDays_7, fM_overstayed_9]
    unfold fM_overstayed_60
    rw [hT.1, hT.2.2, if_pos (nI_lt (by omega) (by omega)), if_pos (nI_lt (by omega) (by omega))]
    exact ⟨a, rfl, rfl⟩
  | succ k ih =>
    intro i n n2 a hi hn hn2
    obtain ⟨n, rfl⟩ : ∃ m, n = m + 1 := ⟨n - 1, by omega⟩
    obtain ⟨n2, rfl⟩ : ∃ m, n2 = m + 1 := ⟨n2 - 1, by omega⟩
    obtain ⟨m, h1, h2, h3, h4, h5⟩ := h.rec hp (show i < 3601 by omega)
    rw [fC_Court_overstayedDays_7, fM_overstayed_9]
    unfold fM_overstayed_52 fC_Court_overstayedDays_33
    rw [hT.1, hT.2.2, if_neg (nI_nlt (by omega) (by omega)), if_neg (nI_nlt (by omega) (by omega))]
    simp only [ck5 hp, at9 hp (show i < 3601 by omega), h4, hw2, zne1 (show l2 < 2147483648 by omega), if_false, m22 h16 (show i < 3601 by omega), h5, zp1, Option.bind_some]
    by_cases e : nI m - nI m / 10 * 10 = 4
    · rw [if_pos e, if_pos e]
      exact ih (i + 1) n n2 (a + 1) (by omega) (by omega) (by omega)
    · rw [if_neg e, if_neg e, Int32.add_zero]
      exact ih (i + 1) n n2 a (by omega) (by omega) (by omega)
theorem s_over (h : R0 t g u) {p l : Nat} (hp : p < sN g 1) (hw : sJ g 5 p 9 = some l) : ∃ r, fC_Court_overstayedDays g p = some r ∧ fM_overstayed u (nI p) = some (r, u) := by
  have hT := h.aT
  have h16 := h.p16 hp
  obtain ⟨f, f1, f2, f3⟩ := (h.aE p h16).1 hp
  obtain ⟨r, c, m⟩ := s_over_loop h hp hw (t + 1 - f) f 4096 4096 0 (by omega) (by omega) (by omega)
  refine ⟨r, ?_, ?_⟩
  · unfold fC_Court_overstayedDays
    rw [ck5 hp, f2]
    exact c
  · unfold fM_overstayed
    rw [md21 h16, f3]
    exact m
/-! the bans -/
theorem s_stands (h : R0 t g u) {p l : Nat} (hp : p < sN g 1) (hl : l < 8) : fC_Bans_stands p g (nI l) (nI t) = some (zB (!decide (sI g 20 p l < nI t))) ∧ mld u 25 (8 * nI p + nI l) = some (sI g 20 p l) := by
  have h16 := h.p16 hp
  constructor
  · unfold fC_Bans_stands fC_Bans_stands_17
    simp only [ck5 hp, at12 hp hl, Option.bind_some]
    by_cases e : sI g 20 p l < nI t <;> simp [e, zB, mbo]
  · rw [z8, md25 (by omega), ((h.aB p h16 l hl).1 hp).1]
theorem zge {x : Int32} (h : ¬ x < nI t) (ht : t ≤ 3600) : 0 ≤ x := by
  rw [Int32.lt_iff_toInt_lt, nI_toInt (by omega)] at h
  rw [Int32.le_iff_toInt_le, show (0 : Int32).toInt = 0 from by decide]
  omega
/-- who knows of a ban that stands -/
theorem s_known (h : R0 t g u) {p l k : Nat} (hp : p < sN g 1) (hl : l < sN g 0) (hk : k < sN g 0) : ∃ b : Bool, fM_knows u (nI l) (nI p) (nI k) = some (zB (!decide (sI g 20 p l < nI t) && b), u) ∧ (¬ sI g 20 p l < nI t → fC_Court_isKnown g p l k = some (zB b)) := by
  have h16 := h.p16 hp
  have h8 := h.l8 hl
  have h9 := h.l8 hk
  have hT := h.aT
  have hb9 := (h.aB p h16 l h8).1 hp
  have e6 := (h.aL k hk).2.2.2.2
  unfold fM_knows fM_knows_35 fM_knows_31 fM_knows_36 fM_knows_78 fM_knows_82 fM_knows_83 fC_Court_isKnown fC_Court_isKnown_19 fC_Court_isKnown_45 fC_Court_isKnown_50
  simp only [ck5 hp, ck4 hl, ck4 hk, (h.aL l hl).1, hT.1, hT.2.2, (h.reg hl).1, (h.reg hk).1, md3 (j := l) h8, md3 (j := k) h9, (h.reg hl).2, (h.reg hk).2, z8, md25 (j := 8 * p + l) (by omega), md27 (j := 8 * p + l) (by omega), hb9.1, md6 (j := k) h9, e6, at13 hp h8, Option.bind_some, zB_0, zT1 (show l < 2147483648 by omega) (show k < 2147483648 by omega), ne10, if_false, if_true]
  by_cases e : sI g 20 p l < nI t
  · refine ⟨false, ?_, fun z => absurd e z⟩
    by_cases e1 : l = k
    · subst e1; simp [e, zB, mbo]
    · cases zR g l <;> cases zR g k <;> simp [e, e1, zB, mbo]
  · rw [(hb9.2 (zge e hT.2.1)).2]
    by_cases e1 : l = k
    · subst e1
      exact ⟨true, by simp [e, zB, mbo], fun _ => by simp [zB, mbo]⟩
    · by_cases e2 : nI t < sI g 21 p l + sI g 4 k 4
      · cases zR g l <;> cases zR g k
        · exact ⟨false, by simp [e, e1, e2, zB, mbo], fun _ => by simp [e1, e2, zB, mbo]⟩
        · exact ⟨false, by simp [e, e1, e2, zB, mbo], fun _ => by simp [e1, e2, zB, mbo]⟩
        · exact ⟨false, by simp [e, e1, e2, zB, mbo], fun _ => by simp [e1, e2, zB, mbo]⟩
        · exact ⟨true, by simp [e, e1, e2, zB, mbo], fun _ => by simp [e1, e2, zB, mbo]⟩
      · refine ⟨true, ?_, fun _ => ?_⟩
        · cases zR g l <;> cases zR g k <;> simp [e, e1, e2, zB, mbo]
        · cases zR g l <;> cases zR g k <;> simp [e1, e2, zB, mbo]
theorem m_ban_1 (h : R0 t g u) {p k : Nat} (m : Nat) : ∀ (i n : Nat), i + m = sN g 0 → m < n → fM_isBanned_5 n u (nI p) (nI k) 1 (nI i) = some (1, u) := by
  have hN := h.aN
  induction m with
  | zero =>
    intro i n hi hn
    obtain ⟨n, rfl⟩ : ∃ m, n = m + 1 := ⟨n - 1, by omega⟩
    rw [fM_isBanned_5, hN.2.1, if_pos (nI_le (by omega) (by omega))]
    rfl
  | succ m ih =>
    intro i n hi hn
    obtain ⟨n, rfl⟩ : ∃ m, n = m + 1 := ⟨n - 1, by omega⟩
    rw [fM_isBanned_5, hN.2.1, if_neg (nI_ge (by omega) (by omega)), if_neg ne10]
    unfold fM_isBanned_48 fM_isBanned_53
    rw [zp1]
    exact ih (i + 1) n (by omega) (by omega)
theorem s_ban_loop (h : R0 t g u) {p k : Nat} (hp : p < sN g 1) (hk : k < sN g 0) (m : Nat) : ∀ (i n n2 : Nat), i + m = sN g 0 → m < n → m < n2 → ∃ b, fC_Court_isBannedAt_2 n g p k (nI i) = some (zB b) ∧ fM_isBanned_5 n2 u (nI p) (nI k) 0 (nI i) = some (zB b, u) := by
  have hN := h.aN
  have hT := h.aT
  have h16 := h.p16 hp
  have hCc := h.aC 0 (by decide)
  induction m with
  | zero =>
    intro i n n2 hi hn hn2
    obtain ⟨n, rfl⟩ : ∃ m, n = m + 1 := ⟨n - 1, by omega⟩
    obtain ⟨n2, rfl⟩ : ∃ m, n2 = m + 1 := ⟨n2 - 1, by omega⟩
    rw [fC_Court_isBannedAt_2, fM_isBanned_5, hN.2.1, if_pos (nI_le (by omega) (by omega)), if_pos (nI_le (by omega) (by omega))]
    exact ⟨false, rfl, rfl⟩
  | succ m ih =>
    intro i n n2 hi hn hn2
    obtain ⟨n, rfl⟩ : ∃ m, n = m + 1 := ⟨n - 1, by omega⟩
    obtain ⟨n2, rfl⟩ : ∃ m, n2 = m + 1 := ⟨n2 - 1, by omega⟩
    have hi0 : i < sN g 0 := by omega
    have hi8 := h.l8 hi0
    obtain ⟨b, kM, kC⟩ := s_known h hp hi0 hk
    have hb9 := (h.aB p h16 i hi8).1 hp
    have hh : fC_Bans_holds p g (nI i) (nI t) = some (zB (!decide (nI t < sI g 19 p i) && !decide (sI g 20 p i < nI t))) := by
      unfold fC_Bans_holds fC_Bans_holds_25 fC_Bans_holds_26
      simp only [ck5 hp, at11 hp hi8, (s_stands h hp hi8).1, Option.bind_some, zB_0]
      by_cases e1 : nI t < sI g 19 p i
      · simp [e1, zB, mbo]
      · by_cases e2 : sI g 20 p i < nI t <;> simp [e1, e2, zB, mbo]
    rw [fC_Court_isBannedAt_2, fM_isBanned_5, hN.2.1, if_neg (nI_ge (by omega) (by omega)), if_neg (nI_ge (by omega) (by omega)), if_pos rfl]
    unfold fC_Court_isBannedAt_50 fM_isBanned_48 fM_isBanned_52 fM_isBanned_53
    simp only [ck5 hp, hT.1, hh, kM, mb2_s, Option.bind_some, zB_0, cget_ok hi0 hCc.1 (show sN g 0 < 2147483648 by omega), show lix 0 i = i from rfl, ck4 hi0, z8, md26 (j := 8 * p + i) (by omega), hT.2.2, zp1, m_ban_1 h m (i + 1) n2 (by omega) (by omega)]
    have hi9 := ih (i + 1) n n2 (by omega) (by omega) (by omega)
    by_cases e2 : sI g 20 p i < nI t
    · obtain ⟨b2, q1, q2⟩ := hi9
      exact ⟨b2, by simp [e2, q1], by simp [e2, q2]⟩
    · rw [(hb9.2 (zge e2 hT.2.1)).1, kC e2]
      simp only [Option.bind_some, zB_0]
      by_cases e1 : nI t < sI g 19 p i
      · obtain ⟨b2, q1, q2⟩ := hi9
        exact ⟨b2, by simp [e1, e2, q1], by cases b <;> simp [e1, e2, q2]⟩
      · cases b
        · obtain ⟨b2, q1, q2⟩ := hi9
          exact ⟨b2, by simp [e1, e2, q1], by simp [e1, e2, q2]⟩
        · exact ⟨true, by simp [e1, e2, zB, mbo], by simp [e1, e2, zB]⟩
theorem s_banned (h : R0 t g u) {p k : Nat} (hp : p < sN g 1) (hk : k < sN g 0) : ∃ b, fC_Court_isBannedAt g p k = some (zB b) ∧ fM_isBanned u (nI p) (nI k) = some (zB b, u) := by
  have hN := h.aN
  exact s_ban_loop h hp hk (sN g 0) 0 4096 4096 (by omega) (by omega) (by omega)
/-! the lowest visa -/
theorem s_low_loop (h : R0 t g u) {p l : Nat} (hp : p < sN g 1) (hl : l < sN g 0) (m : Nat) : ∀ (i n n2 : Nat), i + m = sN g 2 → m < n → m < n2 → (fC_Court_lowestVisa_2 n g p l (nI i) = some none ∧ fM_visaFor_2 n2 u (nI p) (nI l) (nI i) = some (-1, u)) ∨ ∃ v, v < sN g 2 ∧ fC_Court_lowestVisa_2 n g p l (nI i) = some (some v) ∧ fM_visaFor_2 n2 u (nI p) (nI l) (nI i) = some (nI v, u) := by
  have hN := h.aN
  have hT := h.aT
  have hCc := h.aC 2 (by decide)
  induction m with
  | zero =>
    intro i n n2 hi hn hn2
    obtain ⟨n, rfl⟩ : ∃ m, n = m + 1 := ⟨n - 1, by omega⟩
    obtain ⟨n2, rfl⟩ : ∃ m, n2 = m + 1 := ⟨n2 - 1, by omega⟩
    rw [fC_Court_lowestVisa_2, fM_visaFor_2, hN.2.2.2.2.2.1, if_pos (nI_le (by omega) (by omega)), if_pos (nI_le (by omega) (by omega))]
    exact Or.inl ⟨rfl, rfl⟩
  | succ m ih =>
    intro i n n2 hi hn hn2
    obtain ⟨n, rfl⟩ : ∃ m, n = m + 1 := ⟨n - 1, by omega⟩
    obtain ⟨n2, rfl⟩ : ∃ m, n2 = m + 1 := ⟨n2 - 1, by omega⟩
    have hi0 : i < sN g 2 := by omega
    have h60 := h.v60 hi0
    obtain ⟨b, gc, gm⟩ := s_good h hi0 hl
    have e29 := (h.aV i hi0).2.1
    have e33 := (h.aX i hi0).1
    rw [fC_Court_lowestVisa_2, fM_visaFor_2, hN.2.2.2.2.2.1, if_neg (nI_ge (by omega) (by omega)), if_neg (nI_ge (by omega) (by omega))]
    unfold fC_Court_lowestVisa_62 fM_visaFor_40
    simp only [cget_ok hi0 hCc.1 (show sN g 2 < 2147483648 by omega), show lix 2 i = i from rfl, ck6 hi0, ck5 hp, (h.aP p hp).1, md29 h60, e29, md33 h60, e33, gm, gc, hT.1, mb2_s, Option.bind_some, zB_0, zp1]
    have hi9 := ih (i + 1) n n2 (by omega) (by omega) (by omega)
    by_cases e1 : sI g 6 i 1 = nI p
    · by_cases e2 : sI g 6 i 5 ≤ 0
      · simp only [e1, e2, if_true]; exact hi9
      · cases b
        · simp only [e1, e2, if_true, if_false]; exact hi9
        · simp only [e1, e2, if_true, if_false, Bool.true_eq_false]
          exact Or.inr ⟨i, hi0, rfl, rfl⟩
    · simp only [e1, if_false]; exact hi9
theorem s_low (h : R0 t g u) {p l : Nat} (hp : p < sN g 1) (hl : l < sN g 0) : (fC_Court_lowestVisa g p l = some none ∧ fM_visaFor u (nI p) (nI l) = some (-1, u)) ∨ ∃ v, v < sN g 2 ∧ fC_Court_lowestVisa g p l = some (some v) ∧ fM_visaFor u (nI p) (nI l) = some (nI v, u) := by
  have hN := h.aN
  exact s_low_loop h hp hl (sN g 2) 0 4096 4096 (by omega) (by omega) (by omega)
/-! the reason -/
theorem s_why (h : RC t g u) {p l : Nat} (hp : p < sN g 1) (hl : l < sN g 0) : ∃ r, fC_Court_whyNot g p l = some r ∧ fM_reasonOf u (nI p) (nI l) = some (r, u) := by
  obtain ⟨h0, hC⟩ := h
  have hT := h0.aT
  obtain ⟨b, bc, bm⟩ := s_banned h0 hp hl
  obtain ⟨d, dc, dm⟩ := s_days h0 hp hl (Cn_le (hC p hp) (Nat.le_succ t)) (nI t)
  obtain ⟨fc, fm⟩ := s_free h0 hp hl
  have rc := c_root h0 hp hl
  have rm := m_root h0 hp hl
  generalize zRt t g p l = r at rc rm
  generalize zAny (zFr t g p l) 0 (sN g 0) = f at fc fm
  have nc : fC_Court_needsVisa g p l = some (zB (!r && !f)) := by
    unfold fC_Court_needsVisa fC_Court_needsVisa_22 fC_Court_needsVisa_23
    simp only [rc, fc, Option.bind_some, zB_0]
    cases r <;> cases f <;> rfl
  unfold fC_Court_whyNot fC_Court_whyNot_42 fC_Court_whyNot_60 fM_reasonOf fM_reasonOf_47 fM_reasonOf_65
  simp only [rc, rm, bc, bm, nc, fm, hT.1, hT.2.2, dc, dm, mb2_s, Option.bind_some, zB_0]
  rcases s_low h0 hp hl with ⟨lc, lm⟩ | ⟨v, hv, lc, lm⟩
  · simp only [lc, lm, hT.2.2, dm, mb2_s, Option.bind_some, om_0, if_true, zB_0]
    cases r <;> cases b <;> cases f <;> cases d <;> exact ⟨_, rfl, rfl⟩
  · simp only [lc, lm, hT.2.2, dm, mb2_s, Option.bind_some, om_1, zB_0, zne1 (show v < 2147483648 by have := h0.v60 hv; omega), if_false]
    cases r <;> cases b <;> cases f <;> cases d <;> exact ⟨_, rfl, rfl⟩
end PH
