/-! ===== followers; births ===== -/
theorem hb_zF (F : Nat → Int32) (b m : Nat) (hF : ∀ k, k < m → ∃ a, a < 16 ∧ F (b + k) = nI a) {a : Nat} (ha : a < 32) : hb (zF F b m) a = true ↔ ∃ k, k < m ∧ F (b + k) = nI a := by
  induction m with
  | zero =>
    simp only [zF, hb_z]
    exact ⟨fun z => absurd z (by decide), fun ⟨k, h1, _⟩ => absurd h1 (Nat.not_lt_zero _)⟩
  | succ m ih =>
    obtain ⟨c, c1, c2⟩ := hF m (by omega)
    simp only [zF]
    rw [hb_or, c2, hb_bit (by omega), Bool.or_eq_true, ih (fun k hk => hF k (by omega)), decide_eq_true_eq]
    constructor
    · rintro (⟨k, k1, k2⟩ | e)
      · exact ⟨k, by omega, k2⟩
      · exact ⟨m, by omega, by rw [c2, e]⟩
    · rintro ⟨k, k1, k2⟩
      by_cases e : k = m
      · subst e
        rw [c2] at k2
        exact Or.inr ((zT1 (by omega) (by omega)).mp k2)
      · exact Or.inl ⟨k, by omega, k2⟩
theorem bc0 : fC_bitCount 0 = some 0 := by decide +kernel
theorem bc1 : ∀ a, a < 16 → fC_bitCount (0 ||| ((1 : Int32) <<< (nI a &&& 31))) = some 1 := by decide +kernel
theorem bc2 : ∀ a, a < 16 → ∀ b, b < 16 → a ≠ b → fC_bitCount ((0 ||| ((1 : Int32) <<< (nI a &&& 31))) ||| ((1 : Int32) <<< (nI b &&& 31))) = some 2 := by decide +kernel
def bcP (a b c : Nat) : Bool := decide (a = b) || decide (a = c) || decide (b = c) || decide (fC_bitCount (((0 ||| ((1 : Int32) <<< (nI a &&& 31))) ||| ((1 : Int32) <<< (nI b &&& 31))) ||| ((1 : Int32) <<< (nI c &&& 31))) = some 3)
theorem bcQ : ∀ a, a < 16 → ∀ b, b < 16 → ∀ c, c < 16 → bcP a b c = true := by decide +kernel
theorem bc3 (a : Nat) (ha : a < 16) (b : Nat) (hb : b < 16) (c : Nat) (hc : c < 16) (h1 : a ≠ b) (h2 : a ≠ c) (h3 : b ≠ c) : fC_bitCount (((0 ||| ((1 : Int32) <<< (nI a &&& 31))) ||| ((1 : Int32) <<< (nI b &&& 31))) ||| ((1 : Int32) <<< (nI c &&& 31))) = some 3 := by
  have := bcQ a ha b hb c hc
  unfold bcP at this
  simpa [h1, h2, h3] using this
theorem bc_zF (F : Nat → Int32) (b m : Nat) (hm : m ≤ 3) (hF : ∀ k, k < m → ∃ a, a < 16 ∧ F (b + k) = nI a) (hd : ∀ k k2, k < k2 → k2 < m → F (b + k) ≠ F (b + k2)) : fC_bitCount (zF F b m) = some (nI m) := by
  rcases (show m = 0 ∨ m = 1 ∨ m = 2 ∨ m = 3 by omega) with rfl | rfl | rfl | rfl
  · exact bc0
  · obtain ⟨a, a1, a2⟩ := hF 0 (by omega)
    simp only [zF]
    rw [a2]
    exact bc1 a a1
  · obtain ⟨a, a1, a2⟩ := hF 0 (by omega)
    obtain ⟨c, c1, c2⟩ := hF 1 (by omega)
    have d1 := hd 0 1 (by omega) (by omega)
    rw [a2, c2] at d1
    simp only [zF]
    rw [a2, c2]
    exact bc2 a a1 c c1 (fun z => d1 (by rw [z]))
  · obtain ⟨a, a1, a2⟩ := hF 0 (by omega)
    obtain ⟨c, c1, c2⟩ := hF 1 (by omega)
    obtain ⟨e, e1, e2⟩ := hF 2 (by omega)
    have d1 := hd 0 1 (by omega) (by omega)
    have d2 := hd 0 2 (by omega) (by omega)
    have d3 := hd 1 2 (by omega) (by omega)
    rw [a2, c2] at d1
    rw [a2, e2] at d2
    rw [c2, e2] at d3
    simp only [zF]
    rw [a2, c2, e2]
    exact bc3 a a1 c c1 e e1 (fun z => d1 (by rw [z])) (fun z => d2 (by rw [z])) (fun z => d3 (by rw [z]))
section PH
variable {t : Nat} {g : CS} {u : MS}
def zFo (u : MS) (r p : Nat) : Nat → Bool := fun k => decide (u 44 (3 * r + k) = nI p)
theorem s_cnt (h : R0 t g u) {r : Nat} (hr : r < sN g 3) : ∃ m, m ≤ 3 ∧ u 43 r = nI m ∧ sI g 7 r 7 = zF (u 44) (3 * r) m ∧ (∀ k, k < m → ∃ a, a < sN g 1 ∧ u 44 (3 * r + k) = nI a) ∧ fC_Request_countFollowers r g = some (nI m) ∧ ∀ p, p < 16 → fC_Request_isFollowedBy r g (nI p) = some (zB (zAny (zFo u r p) 0 m)) := by
  have hN := h.aN.2.2.1
  obtain ⟨m, m1, m2, m3, m4, m5⟩ := (h.aF r (h.r40 hr)).1 hr
  have hF : ∀ k, k < m → ∃ a, a < 16 ∧ u 44 (3 * r + k) = nI a := fun k hk => by
    obtain ⟨a, a1, a2⟩ := m4 k hk
    exact ⟨a, by omega, a2⟩
  refine ⟨m, m1, m2, m3, m4, ?_, fun p hp => ?_⟩
  · unfold fC_Request_countFollowers
    rw [ck7 hr, m3]
    simp only [Option.bind_some]
    rw [bc_zF _ _ _ m1 hF m5]
    rfl
  · unfold fC_Request_isFollowedBy fC_Request_isFollowedBy_16
    rw [ck7 hr, m3]
    simp only [Option.bind_some]
    have hz := hb_zF (u 44) (3 * r) m hF (a := p) (by omega)
    have e : zAny (zFo u r p) 0 m = hb (zF (u 44) (3 * r) m) p := by
      rw [Bool.eq_iff_iff, hz, zAny_iff]
      simp only [zFo, decide_eq_true_eq]
      exact ⟨fun ⟨k, _, k2, k3⟩ => ⟨k, by omega, k3⟩, fun ⟨k, k2, k3⟩ => ⟨k, by omega, by omega, k3⟩⟩
    rw [e]
    by_cases e1 : hb (zF (u 44) (3 * r) m) p = true
    · rw [if_neg (fun z => by rw [(hb_zero _ (by omega)).mp z] at e1; cases e1), e1]; rfl
    · rw [if_pos ((hb_zero _ (by omega)).mpr (Bool.eq_false_iff.mpr e1)), Bool.eq_false_iff.mpr e1]; rfl
theorem m_fol_loop {r p m : Nat} (hr : r < 40) (hp : p < 16) (hm : m ≤ 3) (h43 : u 43 r = nI m) (d : Nat) : ∀ (i n : Nat) (c : Bool), i + d = m → d < n → fM_mayJoin_38 n u (nI r) (nI p) (zB c) (nI i) = fM_mayJoin_38 1 u (nI r) (nI p) (zB (c && !zAny (zFo u r p) i d)) (nI m) := by
  induction d with
  | zero =>
    intro i n c hi hn
    obtain ⟨n, rfl⟩ : ∃ m, n = m + 1 := ⟨n - 1, by omega⟩
    have : i = m := by omega
    subst this
    rw [show zAny (zFo u r p) i 0 = false from rfl, Bool.not_false, Bool.and_true, show (1 : Nat) = 0 + 1 from rfl, fM_mayJoin_38, fM_mayJoin_38, md43 hr, h43]
    simp only [Option.bind_some]
    rw [if_pos (Int32.le_refl _), if_pos (Int32.le_refl _)]
  | succ d ih =>
    intro i n c hi hn
    obtain ⟨n, rfl⟩ : ∃ m, n = m + 1 := ⟨n - 1, by omega⟩
    have e0 := ih (i + 1) n false (by omega) (by omega)
    have e1 := ih (i + 1) n c (by omega) (by omega)
    rw [fM_mayJoin_38]
    unfold fM_mayJoin_72 fM_mayJoin_73
    rw [md43 hr, h43]
    simp only [Option.bind_some]
    rw [if_neg (nI_ge (by omega) (by omega)), z3, md44 (by omega)]
    simp only [Option.bind_some, zp1]
    rw [show (0 : Int32) = zB false from rfl, show (1 : Int32) = zB true from rfl]
    cases c
    · rw [if_pos (show zB false = zB false from rfl), e0]
      simp
    · rw [if_neg (show ¬ zB true = zB false by decide)]
      by_cases e : u 44 (3 * r + i) = nI p
      · rw [if_pos e, e0]
        simp [zAny, zFo, e]
      · rw [if_neg e, e1]
        simp [zAny, zFo, e]
theorem s_old (h : R0 t g u) {r p : Nat} (hr : r < sN g 3) (hp : p < sN g 1) : ∃ old, fC_Court_isTooOldFor g r p = some (zB old) ∧ ∀ c : Bool, ∀ m, m ≤ 3 → u 43 r = nI m → fM_mayJoin_38 1 u (nI r) (nI p) (zB c) (nI m) = some (zB (c && !old), u) := by
  have h40 := h.r40 hr
  have h16 := h.p16 hp
  obtain ⟨-, q14, q16, q17⟩ := h.aP p hp
  obtain ⟨-, ⟨q, _, q2, q3⟩, -, -, q40, -⟩ := h.aQ r hr
  refine ⟨(decide (sI g 5 p 2 = nI q) || decide (sI g 5 p 3 = nI q)) && !decide (sI g 7 r 4 - sI g 5 p 1 < 6480), ?_, fun c m hm h43 => ?_⟩
  · unfold fC_Court_isTooOldFor fC_Court_isTooOldFor_22 fC_Court_isTooOldFor_27 fC_Court_isTooOldFor_51 fC_Court_isTooOldFor_52
    simp only [ck5 hp, ck7 hr, q2, mb2_s, Option.bind_some, xb_l, xb_r, goes_0, goes_1, goes_2, goes_3, ne10, if_false, if_true, om_0, om_1]
    by_cases e3 : sI g 7 r 4 - sI g 5 p 1 < 6480
    · by_cases e1 : sI g 5 p 2 = nI q <;> by_cases e2 : sI g 5 p 3 = nI q <;> simp [e1, e2, e3, zB, mbo]
    · by_cases e1 : sI g 5 p 2 = nI q <;> by_cases e2 : sI g 5 p 3 = nI q <;> simp [e1, e2, e3, zB, mbo]
  · rw [show (1 : Nat) = 0 + 1 from rfl, fM_mayJoin_38]
    unfold fM_mayJoin_110 fM_mayJoin_115 fM_mayJoin_145 fM_mayJoin_149 fM_mayJoin_150
    rw [md43 h40, h43]
    simp only [Option.bind_some]
    rw [if_pos (Int32.le_refl _)]
    simp only [md16 h16, q16, md17 h16, q17, md37 h40, q3, md40 h40, q40, md14 h16, q14, mb2_s, Option.bind_some, xb_l, xb_r, goes_0, goes_1, goes_2, goes_3, ne10, if_false, if_true, om_0, om_1]
    by_cases e3 : sI g 7 r 4 - sI g 5 p 1 < 6480
    · have e4 : ¬ 6480 ≤ sI g 7 r 4 - sI g 5 p 1 := Int32.not_le.mpr e3
      cases c <;> by_cases e1 : sI g 5 p 2 = nI q <;> by_cases e2 : sI g 5 p 3 = nI q <;> simp [e1, e2, e3, e4, zB, mbo]
    · have e4 : 6480 ≤ sI g 7 r 4 - sI g 5 p 1 := Int32.not_lt.mp e3
      cases c <;> by_cases e1 : sI g 5 p 2 = nI q <;> by_cases e2 : sI g 5 p 3 = nI q <;> simp [e1, e2, e3, e4, zB, mbo]
theorem sim_join (h : RC t g u) (x1 x2 : Int32) : SimW [0, 2] (fC_Court_join g x1 x2) (fM_join u x1 x2) g := by
  have h0 := h.1
  have hz := h.thr 0
  have h1 := hz.1
  unfold fC_Court_join fC_Court_join_26 fC_Court_join_71 fM_join fM_join_20 fM_join_21 fM_join_45
  unfold fC_Court_refuseUnless
  rcases s_isRequest h0 x1 with ⟨r, hr, rfl, c1, m1⟩ | ⟨c1, m1⟩
  · have h40 := h0.r40 hr
    rcases s_isPerson h0 x2 with ⟨p, hp, rfl, c2, m2⟩ | ⟨c2, m2⟩
    · have h16 := h0.p16 hp
      have e41 := ((h0.aZ r h40).1 hr).1
      obtain ⟨-, ⟨q, _, q2, q3⟩, -⟩ := h0.aQ r hr
      obtain ⟨m, k1, k2, k3, k4, k5, k6⟩ := s_cnt h0 hr
      obtain ⟨old, oc, om⟩ := s_old h0 hr hp
      have lp := fun c => (m_fol_loop (u := u) (r := r) h40 h16 k1 k2 m 0 4096 c (by omega) (by omega)).trans (om _ m k1 k2)
      have l0 : fM_mayJoin_38 4096 u (nI r) (nI p) 0 0 = some (0, u) := lp false
      have l1 : fM_mayJoin_38 4096 u (nI r) (nI p) 1 0 = some (zB ((true && !zAny (zFo u r p) 0 m) && !old), u) := lp true
      have kf := k6 p h16
      have n0 := (h0.aP p hp).1
      have mj : fM_mayJoin u (nI r) (nI p) = some (zB (decide (sI g 7 r 5 = 0) && !decide (nI q = nI p) && !decide (3 ≤ nI m) && !zAny (zFo u r p) 0 m && !old), u) := by
        unfold fM_mayJoin fM_mayJoin_33 fM_mayJoin_34
        simp only [md41 h40, e41, md37 h40, q3, md43 h40, k2, l0, l1, mb2_s, Option.bind_some, xb_l, xb_r, goes_0, goes_1, goes_2, goes_3, ne10, if_false, if_true, om_0, om_1]
        by_cases e1 : sI g 7 r 5 = 0
        · by_cases e2 : nI p = nI q
          · simp [e1, e2, zB]
          · have e2' : ¬ nI q = nI p := fun z => e2 z.symm
            by_cases e3 : 3 ≤ nI m <;> simp [e1, e2, e2', e3, zB]
        · simp [e1, zB]
      have bad : ∀ {P : Prop}, (zB (decide (sI g 7 r 5 = 0) && !decide (nI q = nI p) && !decide (3 ≤ nI m) && !zAny (zFo u r p) 0 m && !old) = 0) → (mb2 (fM_mayJoin u (nI r) (nI p)) fun r11 u10 => if r11 = 0 then fM_join_45 u10 (nI r) (nI p) 2 else fM_join_45 u10 (nI r) (nI p) 0) = some (0, mup u 0 0 (nI (1 + 1))) := fun {P} z => by
        rw [mj, mb2_s, if_pos z]
        unfold fM_join_45
        simp only [mb2_s, Option.bind_some, xb_l, xb_r, goes_0, goes_1, goes_2, goes_3, ne10, if_false, if_true, om_0, om_1]
      have bd := @bad True
      unfold fM_join_45 at bd
      by_cases e1 : sI g 7 r 5 = 0
      · by_cases e2 : nI q = nI p
        · exact simW_x h 1 rfl (by simp only [c1, c2, ck7 hr, ck5 hp, e1, q2, n0, e2, mb2_s, Option.bind_some, xb_l, xb_r, goes_0, goes_1, goes_2, goes_3, ne10, if_false, if_true, om_0, om_1]) (by simp only [m1, m2, ne10, if_false, mb2_s]; exact bd (by simp [e2, zB]))
        · cases e3 : zAny (zFo u r p) 0 m
          · rw [e3] at kf bd
            by_cases e4 : 3 ≤ nI m
            · exact simW_x h 1 rfl (by simp only [c1, c2, ck7 hr, ck5 hp, e1, q2, n0, e2, kf, zB_f, k5, e4, mb2_s, Option.bind_some, xb_l, xb_r, goes_0, goes_1, goes_2, goes_3, ne10, if_false, if_true, om_0, om_1]) (by simp only [m1, m2, ne10, if_false, mb2_s]; exact bd (by simp [e4, zB]))
            · cases old
              · have m3 : m < 3 := by
                  have : ¬ nI 3 ≤ nI m := e4
                  rw [zleI (by decide) (by omega)] at this
                  omega
                have hnew : ∀ k, k < m → u 44 (3 * r + k) ≠ nI p := fun k hk z => by
                  have : zAny (zFo u r p) 0 m = true := (zAny_iff _ _ _).mpr ⟨k, by omega, by omega, decide_eq_true z⟩
                  rw [e3] at this
                  cases this
                have hR := up_join h1 hr m3 hp (by rw [kn (by decide)]; exact k2) (by rw [kn (by decide)]; exact k3) (fun k hk => by rw [kn (by decide)]; exact hnew k hk)
                obtain ⟨m9, a1, a2, -, -, a5, -⟩ := s_cnt hR (r := r) hr
                rw [mup_at] at a2
                have e9 : m9 = m + 1 := ((zT1 (by omega) (by omega)).mp a2).symm
                subst e9
                have k2' : mup u 0 0 0 43 r = nI m := by rw [kn (by decide)]; exact k2
                refine simW_r (r := nI (m + 1)) (by simp only [c1, c2, ck7 hr, ck5 hp, e1, q2, n0, e2, kf, zB_f, k5, e4, oc, a5, mb2_s, Option.bind_some, xb_l, xb_r, goes_0, goes_1, goes_2, goes_3, ne10, if_false, if_true, om_0, om_1]) (by simp only [m1, m2, mj, e1, e2, e4, e3, decide_true, decide_false, Bool.not_false, Bool.and_true, zB_t, md43 h40, k2', z3, mt44 (show 3 * r + m < 120 by omega), kn (show 43 ≠ 44 by decide), mt43 h40, mup_at, zp1, mb2_s, Option.bind_some, xb_l, xb_r, goes_0, goes_1, goes_2, goes_3, ne10, if_false, if_true, om_0, om_1]) (by rw [kn (by decide), kn (by decide)]; exact mup_at _ _ _ _) (RC.mk0 hR fun q hq => Cn_uI (h.2 q hq) (by omega))
              · exact simW_x h 1 rfl (by simp only [c1, c2, ck7 hr, ck5 hp, e1, q2, n0, e2, kf, zB_f, k5, e4, oc, zB_t, mb2_s, Option.bind_some, xb_l, xb_r, goes_0, goes_1, goes_2, goes_3, ne10, if_false, if_true, om_0, om_1]) (by simp only [m1, m2, ne10, if_false, mb2_s]; exact bd (by simp [zB]))
          · rw [e3] at kf bd
            exact simW_x h 1 rfl (by simp only [c1, c2, ck7 hr, ck5 hp, e1, q2, n0, e2, kf, zB_t, mb2_s, Option.bind_some, xb_l, xb_r, goes_0, goes_1, goes_2, goes_3, ne10, if_false, if_true, om_0, om_1]) (by simp only [m1, m2, ne10, if_false, mb2_s]; exact bd (by simp [zB]))
      · exact simW_x h 1 rfl (by simp only [c1, c2, ck7 hr, e1, mb2_s, Option.bind_some, xb_l, xb_r, goes_0, goes_1, goes_2, goes_3, ne10, if_false, if_true, om_0, om_1]) (by simp only [m1, m2, ne10, if_false, mb2_s]; exact bd (by simp [e1, zB]))
    · exact simW_x h 0 rfl (by simp only [c1, c2, mb2_s, Option.bind_some, xb_l, xb_r, goes_0, goes_1, goes_2, goes_3, ne10, if_false, if_true, om_0, om_1]) (by simp only [m1, m2, mb2_s, Option.bind_some, xb_l, xb_r, goes_0, goes_1, goes_2, goes_3, ne10, if_false, if_true, om_0, om_1])
  · exact simW_x h 0 rfl (by simp only [c1, mb2_s, Option.bind_some, xb_l, xb_r, goes_0, goes_1, goes_2, goes_3, ne10, if_false, if_true, om_0, om_1]) (by simp only [m1, mb2_s, Option.bind_some, xb_l, xb_r, goes_0, goes_1, goes_2, goes_3, ne10, if_false, if_true, om_0, om_1])
/-! births -/
def zDs (g : CS) (j : Nat) : Bool := !decide (sI g 4 j 3 = 0)
def zSo (g : CS) (j : Nat) : Bool := !decide (sI g 4 j 2 = 0)
theorem R0.dsc (h : R0 t g u) {l : Nat} (hl : l < sN g 0) : sI g 4 l 3 = zB (zDs g l) ∧ u 5 l = zB (zDs g l) := by
  obtain ⟨b, h1, h2⟩ := (h.aL l hl).2.2.2.1
  have : zDs g l = b := by
    unfold zDs
    rw [h1]
    cases b <;> decide
  rw [this]
  exact ⟨h1, h2⟩
theorem R0.soil (h : R0 t g u) {l : Nat} (hl : l < sN g 0) : sI g 4 l 2 = zB (zSo g l) ∧ u 4 l = zB (zSo g l) := by
  obtain ⟨b, h1, h2⟩ := (h.aL l hl).2.2.1
  have : zSo g l = b := by
    unfold zSo
    rw [h1]
    cases b <;> decide
  rw [this]
  exact ⟨h1, h2⟩
/-- does soil give it? -/
def zRo (t : Nat) (g : CS) (o2 : Option Nat) (l : Nat) : Bool := match o2 with
  | none => false
  | some v => zRt t g v l
def zSl (t : Nat) (g : CS) (i1 : Nat) (o2 : Option Nat) (l : Nat) : Bool := zSo g l && (zRt t g i1 l || zRo t g o2 l)
theorem c_birth_loop (h : R0 t g u) {i1 l : Nat} {o2 : Option Nat} (h1 : i1 < sN g 1) (h2 : ∀ v, o2 = some v → v < sN g 1) (hl : l < sN g 0) (had : Int32) (k : Nat) : ∀ (i n : Nat) (a : Int32), i + k = sN g 0 → k < n → ∃ y, fC_Court_nationsAtBirth_28 n g i1 o2 l had a (nI i) = some y ∧ ∀ j, j < 32 → hb y j = (hb a j || (decide (i ≤ j) && decide (j < sN g 0) && zDs g j && hb had j) || (zSl t g i1 o2 l && decide (l = j))) := by
  have hN := h.aN.1
  have hC := h.aC 0 (by decide)
  have h8 := h.l8 hl
  induction k with
  | zero =>
    intro i n a hi hn
    obtain ⟨n, rfl⟩ : ∃ m, n = m + 1 := ⟨n - 1, by omega⟩
    rw [fC_Court_nationsAtBirth_28]
    unfold fC_Court_nationsAtBirth_119 fC_Court_nationsAtBirth_110
    rw [if_pos (nI_le (by omega) (by omega)), ck4 hl]
    simp only [Option.bind_some, (h.soil hl).1, c_root h h1 hl, s_bit h hl, zB_0]
    have hj : ∀ j, (decide (i ≤ j) && decide (j < sN g 0)) = false := fun j => by
      by_cases z : i ≤ j
      · simp [show ¬ j < sN g 0 by omega]
      · simp [z]
    cases o2 with
    | none =>
      simp only [om_0, zSl, zRo]
      cases zSo g l
      · exact ⟨a, by simp, fun j _ => by rw [hj]; simp⟩
      · cases zRt t g i1 l
        · exact ⟨a, by simp, fun j _ => by rw [hj]; simp⟩
        · exact ⟨_, by simp; rfl, fun j _ => by rw [hj, hb_or, hb_bit (by omega)]; simp⟩
    | some v =>
      have hv := h2 v rfl
      simp only [om_1, zSl, zRo, c_root h hv hl, Option.bind_some, zB_0]
      cases zSo g l
      · exact ⟨a, by simp, fun j _ => by rw [hj]; simp⟩
      · cases zRt t g i1 l
        · cases zRt t g v l
          · exact ⟨a, by simp, fun j _ => by rw [hj]; simp⟩
          · exact ⟨_, by simp; rfl, fun j _ => by rw [hj, hb_or, hb_bit (by omega)]; simp⟩
        · exact ⟨_, by simp; rfl, fun j _ => by rw [hj, hb_or, hb_bit (by omega)]; simp⟩
  | succ k ih =>
    intro i n a hi hn
    obtain ⟨n, rfl⟩ : ∃ m, n = m + 1 := ⟨n - 1, by omega⟩
    have hi0 : i < sN g 0 := by omega
    rw [fC_Court_nationsAtBirth_28]
    unfold fC_Court_nationsAtBirth_75
    rw [if_neg (nI_ge (by omega) (by omega))]
    simp only [cget_ok hi0 hC.1 (show sN g 0 < 2147483648 by omega), show lix 0 i = i from rfl, ck4 hi0, (h.dsc hi0).1, s_bit h hi0, zp1, Option.bind_some, zB_0]
    cases hd : zDs g i
    · obtain ⟨y, y1, y2⟩ := ih (i + 1) n a (by omega) (by omega)
      refine ⟨y, by simp [y1], fun j hj => ?_⟩
      rw [y2 j hj]
      by_cases e : i = j
      · subst e; simp [hd]
      · rw [show decide (i + 1 ≤ j) = decide (i ≤ j) from by simp only [decide_eq_decide]; omega]
    · obtain ⟨y, y1, y2⟩ := ih (i + 1) n (a ||| (had &&& ((1 : Int32) <<< (nI i &&& 31)))) (by omega) (by omega)
      refine ⟨y, by simp [y1], fun j hj => ?_⟩
      rw [y2 j hj, hb_or, hb_and, hb_bit (by omega)]
      by_cases e : i = j
      · subst e; simp [hd, hi0, show ¬ i + 1 ≤ i by omega]
      · rw [show decide (i + 1 ≤ j) = decide (i ≤ j) from by simp only [decide_eq_decide]; omega]
        simp [e]
theorem m_birth_loop (h : R0 t g u) {i1 l : Nat} {o2 : Option Nat} {x2 : Int32} (h1 : i1 < sN g 1) (h2 : (o2 = none ∧ x2 = -1) ∨ ∃ v, v < sN g 1 ∧ o2 = some v ∧ x2 = nI v) (hl : l < sN g 0) (had : Int32) (k : Nat) : ∀ (i n : Nat) (a : Int32), i + k = sN g 0 → k < n → ∃ y, fM_birth_131 n u (nI i1) x2 (nI l) a had (nI i) = (mb2 (fM_make u y (u 1 0)) fun r9 u8 => (mst u8 16 r9 (nI i1)).bind fun u10 => (mst u10 17 r9 x2).bind fun u11 => mb2 (fM_come u11 r9 (nI l) (-1) 0) fun r13 u12 => some (r9, u12)) ∧ ∀ j, j < 32 → hb y j = (hb a j || (decide (i ≤ j) && decide (j < sN g 0) && ((zDs g j && hb had j) || (zSl t g i1 o2 l && decide (l = j))))) := by
  have hN := h.aN
  have h8 := h.l8 hl
  induction k with
  | zero =>
    intro i n a hi hn
    obtain ⟨n, rfl⟩ : ∃ m, n = m + 1 := ⟨n - 1, by omega⟩
    rw [fM_birth_131, hN.2.1, if_pos (nI_le (by omega) (by omega))]
    refine ⟨a, rfl, fun j _ => ?_⟩
    by_cases z : i ≤ j
    · simp [show ¬ j < sN g 0 by omega]
    · simp [z]
  | succ k ih =>
    intro i n a hi hn
    obtain ⟨n, rfl⟩ : ∃ m, n = m + 1 := ⟨n - 1, by omega⟩
    have hi0 : i < sN g 0 := by omega
    have i8 := h.l8 hi0
    have hbl : fM_belongs u x2 (nI i) = some (zB (zRo t g o2 i), u) := by
      rcases h2 with ⟨rfl, rfl⟩ | ⟨v, hv, rfl, rfl⟩
      · unfold fM_belongs fM_belongs_31 fM_belongs_32
        rfl
      · exact m_root h hv hi0
    have hstep : fM_birth_131 (n + 1) u (nI i1) x2 (nI l) a had (nI i) = if ((zDs g i && hb had i) || (zSl t g i1 o2 l && decide (l = i))) = true then fM_birth_131 n u (nI i1) x2 (nI l) (a ||| ((1 : Int32) <<< (nI i &&& 31))) had (nI (i + 1)) else fM_birth_131 n u (nI i1) x2 (nI l) (a ||| 0) had (nI (i + 1)) := by
      rw [fM_birth_131]
      unfold fM_birth_177 fM_birth_181 fM_birth_182 fM_birth_206 fM_birth_211 fM_birth_219
      rw [hN.2.1, if_neg (nI_ge (by omega) (by omega))]
      simp only [md4 (j := i) i8, (h.soil hi0).2, md5 (j := i) i8, (h.dsc hi0).2, m_root h h1 hi0, hbl, s_has u had (show i < 32 by omega), zp1, mb2_s, Option.bind_some, zB_0, zT1 (show i < 2147483648 by omega) (show l < 2147483648 by omega)]
      by_cases e : i = l
      · subst e
        simp only [zSl, decide_true, Bool.and_true]
        cases zSo g i <;> cases zRt t g i1 i <;> cases zRo t g o2 i <;> cases zDs g i <;> cases hb had i <;> simp
      · have e' : ¬ l = i := fun z => e z.symm
        simp only [e, e', decide_false, Bool.and_false, Bool.or_false]
        cases zDs g i <;> cases hb had i <;> simp
    rw [hstep]
    obtain ⟨y0, p0, q0⟩ := ih (i + 1) n (a ||| 0) (by omega) (by omega)
    obtain ⟨y1, p1, q1⟩ := ih (i + 1) n (a ||| ((1 : Int32) <<< (nI i &&& 31))) (by omega) (by omega)
    have fin0 : ((zDs g i && hb had i) || (zSl t g i1 o2 l && decide (l = i))) = false → ∀ j, j < 32 → hb y0 j = (hb a j || (decide (i ≤ j) && decide (j < sN g 0) && ((zDs g j && hb had j) || (zSl t g i1 o2 l && decide (l = j))))) := fun z j hj => by
      rw [q0 j hj, hb_or, hb_z, Bool.or_false]
      by_cases e : i = j
      · subst e; rw [z]; simp
      · rw [show decide (i + 1 ≤ j) = decide (i ≤ j) from by simp only [decide_eq_decide]; omega]
    have fin1 : ((zDs g i && hb had i) || (zSl t g i1 o2 l && decide (l = i))) = true → ∀ j, j < 32 → hb y1 j = (hb a j || (decide (i ≤ j) && decide (j < sN g 0) && ((zDs g j && hb had j) || (zSl t g i1 o2 l && decide (l = j))))) := fun z j hj => by
      rw [q1 j hj, hb_or, hb_bit (by omega)]
      by_cases e : i = j
      · subst e; rw [z]; simp [hi0]
      · rw [show decide (i + 1 ≤ j) = decide (i ≤ j) from by simp only [decide_eq_decide]; omega]
        simp [e]
    by_cases hK : ((zDs g i && hb had i) || (zSl t g i1 o2 l && decide (l = i))) = true
    · rw [if_pos hK]
      exact ⟨y1, p1, fin1 hK⟩
    · rw [if_neg hK]
      exact ⟨y0, p0, fin0 (Bool.eq_false_iff.mpr hK)⟩
end PH
