/-! ===== permits granted, days that pass ===== -/
/-- permits granted to a set of people, on both sides -/
def zMx (t : Nat) (v : Int32) : Int32 := if v < nI (t + 359) then nI (t + 359) else v
def gS (g : CS) (l t : Nat) (S : Nat → Bool) : CS := (g.1, (fun a b c => if a = 23 ∧ c = l ∧ S b = true then zMx t (g.2.1 23 b l) else if a = 22 ∧ c = l ∧ S b = true ∧ g.2.1 23 b l < nI t then nI t else g.2.1 a b c), g.2.2)
def uS (u : MS) (l t : Nat) (S : Nat → Bool) : MS := fun a b => if a = 23 ∧ b % 8 = l ∧ S (b / 8) = true then zMx t (u 23 b) else if a = 24 ∧ b % 8 = l ∧ S (b / 8) = true ∧ u 23 b < nI t then nI t else u a b
theorem zMx_2 {t : Nat} (v : Int32) : zMx t (zMx t v) = zMx t v := by
  unfold zMx
  by_cases e : v < nI (t + 359)
  · rw [if_pos e, if_neg (fun z => Int32.lt_irrefl z)]
  · rw [if_neg e, if_neg e]
theorem zMx_v {t : Nat} (ht : t ≤ 3600) (v : Int32) : ¬ zMx t v < nI t := by
  unfold zMx
  by_cases e : v < nI (t + 359)
  · rw [if_pos e]
    exact nI_nlt (by omega) (by omega)
  · rw [if_neg e]
    intro z
    exact e (Int32.lt_trans z (nI_lt (by omega) (by omega)))
theorem gS_2 {g : CS} {l t : Nat} (ht : t ≤ 3600) (S T : Nat → Bool) : gS (gS g l t S) l t T = gS g l t (fun q => S q || T q) := by
  unfold gS
  refine Prod.ext rfl (Prod.ext ?_ rfl)
  funext a b c
  by_cases hc : c = l
  · subst hc
    by_cases h1 : a = 23
    · subst h1
      rcases Bool.eq_false_or_eq_true (S b) with hS | hS <;> rcases Bool.eq_false_or_eq_true (T b) with hT | hT <;> simp [hS, hT, zMx_2]
    · by_cases h2 : a = 22
      · subst h2
        by_cases h3 : g.2.1 23 b c < nI t
        · rcases Bool.eq_false_or_eq_true (S b) with hS | hS <;> rcases Bool.eq_false_or_eq_true (T b) with hT | hT <;> simp [hS, hT, h3]
        · rcases Bool.eq_false_or_eq_true (S b) with hS | hS <;> rcases Bool.eq_false_or_eq_true (T b) with hT | hT <;> simp [hS, hT, h3, zMx_v ht]
      · simp [h1, h2]
  · simp [hc]
theorem uS_2 {u : MS} {l t : Nat} (ht : t ≤ 3600) (S T : Nat → Bool) : uS (uS u l t S) l t T = uS u l t (fun q => S q || T q) := by
  unfold uS
  funext a b
  by_cases hc : b % 8 = l
  · subst hc
    by_cases h1 : a = 23
    · subst h1
      cases hS : S (b / 8) <;> cases hT : T (b / 8) <;> simp [hS, hT, zMx_2]
    · by_cases h2 : a = 24
      · subst h2
        by_cases h3 : u 23 b < nI t
        · cases hS : S (b / 8) <;> cases hT : T (b / 8) <;> simp [hS, hT, h3]
        · cases hS : S (b / 8) <;> cases hT : T (b / 8) <;> simp [hS, hT, h3, zMx_v ht]
      · simp [h1, h2]
  · simp [hc]
theorem gS_0 (g : CS) (l t : Nat) : gS g l t (fun _ => false) = g := by
  unfold gS
  simp
theorem gS_I {g : CS} {l t : Nat} (S : Nat → Bool) {a : Nat} (h1 : a ≠ 22) (h2 : a ≠ 23) : sI (gS g l t S) a = sI g a := by
  funext b c
  simp [sI, gS, h1, h2]
theorem uS_n {u : MS} {l t : Nat} (S : Nat → Bool) {a : Nat} (h1 : a ≠ 23) (h2 : a ≠ 24) : uS u l t S a = u a := by
  funext b
  simp [uS, h1, h2]
section PH
variable {t : Nat} {g : CS} {u : MS}
theorem Cn_gS {l : Nat} {S : Nat → Bool} {p D : Nat} (h : Cn g p D) : Cn (gS g l t S) p D := Cn_c h rfl (fun k => by rw [gS_I S (by decide) (by decide)]) (fun d => by rw [gS_I S (by decide) (by decide)]) (fun d => by rw [gS_I S (by decide) (by decide)])
theorem up_gS (h : R0 t g u) {l : Nat} (hl : l < 8) {S : Nat → Bool} (hS : ∀ q, S q = true → q < sN g 1) : R0 t (gS g l t S) (uS u l t S) := by
  refine ⟨?_, ?_, ?_, ?_, ?_, ?_, ?_, ?_, ?_, ?_, ?_, ?_, ?_, ?_, ?_, ?_, ?_, ?_, ?_, ?_, ?_, ?_⟩
  · exact aT_c (t := t) (u := u) h.aT (by rw [gS_I S (by decide) (by decide)]) (uS_n S (by decide) (by decide))
  · exact aN_c (t := t) (u := u) h.aN rfl rfl rfl rfl rfl (uS_n S (by decide) (by decide)) (uS_n S (by decide) (by decide)) (uS_n S (by decide) (by decide)) (uS_n S (by decide) (by decide)) (uS_n S (by decide) (by decide))
  · exact aC_c (t := t) (u := u) h.aC (fun _ => rfl) (fun _ => rfl)
  · exact aL_c (t := t) (u := u) h.aL rfl (fun _ => by rw [gS_I S (by decide) (by decide)]) (fun _ => by rw [gS_I S (by decide) (by decide)]) (fun _ => by rw [gS_I S (by decide) (by decide)]) (fun _ => by rw [gS_I S (by decide) (by decide)]) (fun _ => by rw [gS_I S (by decide) (by decide)]) (uS_n S (by decide) (by decide)) (uS_n S (by decide) (by decide)) (uS_n S (by decide) (by decide)) (uS_n S (by decide) (by decide))
  · exact aW_c (t := t) (u := u) h.aW rfl (fun _ => by rw [gS_I S (by decide) (by decide)]) (uS_n S (by decide) (by decide))
  · exact aU_c (t := t) (u := u) h.aU rfl (fun _ _ => by rw [gS_I S (by decide) (by decide)]) (uS_n S (by decide) (by decide))
  · exact aR_c (t := t) (u := u) h.aR rfl (fun _ => by rw [gS_I S (by decide) (by decide)]) (fun _ => by rw [gS_I S (by decide) (by decide)]) (fun _ => by rw [gS_I S (by decide) (by decide)]) (uS_n S (by decide) (by decide)) (uS_n S (by decide) (by decide)) (uS_n S (by decide) (by decide))
  · exact aP_c (t := t) (u := u) h.aP rfl (fun _ => by rw [gS_I S (by decide) (by decide)]) (fun _ => by rw [gS_I S (by decide) (by decide)]) (fun _ => by rw [gS_I S (by decide) (by decide)]) (fun _ => by rw [gS_I S (by decide) (by decide)]) (uS_n S (by decide) (by decide)) (uS_n S (by decide) (by decide)) (uS_n S (by decide) (by decide))
  · exact aA_c (t := t) (u := u) h.aA rfl (fun _ => by rw [gS_I S (by decide) (by decide)]) (uS_n S (by decide) (by decide))
  · exact aH_c (t := t) (u := u) h.aH rfl rfl (fun _ => rfl) (uS_n S (by decide) (by decide))
  · exact aI_c (t := t) (u := u) h.aI rfl rfl (fun _ => rfl) (uS_n S (by decide) (by decide))
  · exact aS_c (t := t) (u := u) h.aS rfl (fun _ => by rw [gS_I S (by decide) (by decide)]) (uS_n S (by decide) (by decide))
  · exact aE_c (t := t) (u := u) h.aE rfl (fun _ => by rw [gS_I S (by decide) (by decide)]) (uS_n S (by decide) (by decide))
  · exact aD_c (t := t) (u := u) h.aD rfl rfl (fun _ _ => by rw [gS_I S (by decide) (by decide)]) (uS_n S (by decide) (by decide))
  · have hN1 := h.aN.2.2.1
    have ht := h.aT.2.1
    intro q9 hq9 k hk
    obtain ⟨h1, h2⟩ := h.aM q9 hq9 k hk
    have d1 : (8 * q9 + k) % 8 = k := by omega
    have d2 : (8 * q9 + k) / 8 = q9 := by omega
    have v23 : uS u l t S 23 (8 * q9 + k) = if k = l ∧ S q9 = true then zMx t (u 23 (8 * q9 + k)) else u 23 (8 * q9 + k) := by simp [uS, d1, d2]
    have v24 : uS u l t S 24 (8 * q9 + k) = if k = l ∧ S q9 = true ∧ u 23 (8 * q9 + k) < nI t then nI t else u 24 (8 * q9 + k) := by simp [uS, d1, d2]
    have w23 : sI (gS g l t S) 23 q9 k = if k = l ∧ S q9 = true then zMx t (sI g 23 q9 l) else sI g 23 q9 k := by simp [sI, gS]
    have w22 : sI (gS g l t S) 22 q9 k = if k = l ∧ S q9 = true ∧ sI g 23 q9 l < nI t then nI t else sI g 22 q9 k := by
      show (if 22 = 23 ∧ k = l ∧ S q9 = true then zMx t (sI g 23 q9 l) else if 22 = 22 ∧ k = l ∧ S q9 = true ∧ sI g 23 q9 l < nI t then nI t else sI g 22 q9 k) = _
      rw [if_neg (by omega)]
      by_cases e : k = l ∧ S q9 = true ∧ sI g 23 q9 l < nI t
      · rw [if_pos e, if_pos ⟨rfl, e⟩]
      · rw [if_neg e, if_neg (fun z => e z.2)]
    rw [v23, v24, w23, w22]
    show (q9 < sN g 1 → _) ∧ (sN g 1 ≤ q9 → _)
    refine ⟨fun hp => ?_, fun hp => ?_⟩
    · obtain ⟨a1, a2⟩ := h1 hp
      by_cases e : k = l ∧ S q9 = true
      · obtain ⟨rfl, e2⟩ := e
        rw [if_pos ⟨rfl, e2⟩, if_pos ⟨rfl, e2⟩, a1]
        refine ⟨rfl, fun _ => ?_⟩
        by_cases e3 : sI g 23 q9 k < nI t
        · rw [if_pos ⟨rfl, e2, e3⟩, if_pos ⟨rfl, e2, e3⟩]
          exact ⟨t, Nat.le_refl _, rfl, rfl⟩
        · rw [if_neg (fun z => e3 z.2.2), if_neg (fun z => e3 z.2.2)]
          exact a2 (zge e3 ht)
      · rw [if_neg e, if_neg e, if_neg (fun z => e ⟨z.1, z.2.1⟩), if_neg (fun z => e ⟨z.1, z.2.1⟩)]
        exact ⟨a1, a2⟩
    · rw [if_neg (fun z => absurd (hS q9 z.2) (by omega))]
      exact h2 hp
  · exact aB_c (t := t) (u := u) h.aB rfl (fun _ _ => by rw [gS_I S (by decide) (by decide)]) (fun _ _ => by rw [gS_I S (by decide) (by decide)]) (fun _ _ => by rw [gS_I S (by decide) (by decide)]) (uS_n S (by decide) (by decide)) (uS_n S (by decide) (by decide)) (uS_n S (by decide) (by decide))
  · exact aV_c (t := t) (u := u) h.aV rfl rfl (fun _ => by rw [gS_I S (by decide) (by decide)]) (fun _ => by rw [gS_I S (by decide) (by decide)]) (fun _ => by rw [gS_I S (by decide) (by decide)]) (fun _ => by rw [gS_I S (by decide) (by decide)]) (fun _ => by rw [gS_I S (by decide) (by decide)]) (uS_n S (by decide) (by decide)) (uS_n S (by decide) (by decide)) (uS_n S (by decide) (by decide)) (uS_n S (by decide) (by decide))
  · exact aX_c (t := t) (u := u) h.aX rfl (fun _ => by rw [gS_I S (by decide) (by decide)]) (fun _ => by rw [gS_I S (by decide) (by decide)]) (fun _ => by rw [gS_I S (by decide) (by decide)]) (uS_n S (by decide) (by decide)) (uS_n S (by decide) (by decide)) (uS_n S (by decide) (by decide))
  · exact aQ_c (t := t) (u := u) h.aQ rfl rfl rfl (fun _ => by rw [gS_I S (by decide) (by decide)]) (fun _ => by rw [gS_I S (by decide) (by decide)]) (fun _ => by rw [gS_I S (by decide) (by decide)]) (fun _ => by rw [gS_I S (by decide) (by decide)]) (fun _ => by rw [gS_I S (by decide) (by decide)]) (uS_n S (by decide) (by decide)) (uS_n S (by decide) (by decide)) (uS_n S (by decide) (by decide)) (uS_n S (by decide) (by decide))
  · exact aO_c (t := t) (u := u) h.aO rfl (fun _ => by rw [gS_I S (by decide) (by decide)])
  · exact aZ_c (t := t) (u := u) h.aZ rfl (fun _ => by rw [gS_I S (by decide) (by decide)]) (fun _ => by rw [gS_I S (by decide) (by decide)]) (uS_n S (by decide) (by decide)) (uS_n S (by decide) (by decide))
  · exact aF_c (t := t) (u := u) h.aF rfl rfl (fun _ => by rw [gS_I S (by decide) (by decide)]) (uS_n S (by decide) (by decide)) (uS_n S (by decide) (by decide))
theorem c_grant1 (h : sI g 0 0 6 = nI t) (ht : t ≤ 3600) {p l : Nat} (hp : p < sN g 1) (hl : l < 8) : fC_Permits_grantOn p g (nI l) (nI t) = some (gS g l t (fun q => decide (q = p))) := by
  have eZ : nI t + 360 - 1 = nI (t + 359) := by
    rw [show (360 : Int32) = nI 360 from rfl, nI_add, show t + 360 = (t + 359) + 1 from rfl, zm1]
  unfold fC_Permits_grantOn fC_Permits_grantOn_18 fC_Permits_isValid fC_Permits_isValid_17
  by_cases e : sI g 23 p l < nI t
  · have k5 : ck (uI g 22 p l (nI t)) 5 p = some () := ck5 hp
    have a15 : fC_Row_at 15 p (uI g 22 p l (nI t)) (nI l) = some (sI g 23 p l) := by rw [at15 (g := uI g 22 p l (nI t)) hp hl, sI_n _ _ _ _ _ (by omega)]
    have p15 : ∀ x, fC_Row_put 15 p (uI g 22 p l (nI t)) (nI l) x = some (uI (uI g 22 p l (nI t)) 23 p l x) := fun x => put15 x (g := uI g 22 p l (nI t)) hp hl
    simp only [ck5 hp, at15 hp hl, e, mbo0, put14 _ hp hl, k5, a15, p15, eZ, mb2_s, Option.bind_some, xb_l, xb_r, goes_0, goes_1, goes_2, goes_3, ne10, if_false, if_true, om_0, om_1]
    refine congrArg some (Prod.ext rfl (Prod.ext ?_ rfl))
    funext a b c
    simp only [uI, gS, zMx, decide_eq_true_eq]
    by_cases hb : b = p
    · subst hb
      by_cases hc : c = l
      · subst hc
        by_cases h1 : a = 23
        · subst h1; simp [sI]; rfl
        · by_cases h2 : a = 22
          · subst h2; simp [show g.2.1 23 b c < nI t from e]
          · simp [h1, h2]
      · simp [hc]
    · simp [hb]
  · simp only [ck5 hp, at15 hp hl, e, mbo1, put15 _ hp hl, eZ, mb2_s, Option.bind_some, xb_l, xb_r, goes_0, goes_1, goes_2, goes_3, ne10, if_false, if_true, om_0, om_1]
    refine congrArg some (Prod.ext rfl (Prod.ext ?_ rfl))
    funext a b c
    simp only [uI, gS, zMx, decide_eq_true_eq]
    by_cases hb : b = p
    · subst hb
      by_cases hc : c = l
      · subst hc
        by_cases h1 : a = 23
        · subst h1; simp [sI]; rfl
        · by_cases h2 : a = 22
          · subst h2; simp [show ¬ g.2.1 23 b c < nI t from e]
          · simp [h1, h2]
      · simp [hc]
    · simp [hb]
theorem m_grant1 (hT : u 1 0 = nI t) (ht : t ≤ 3600) {p l : Nat} (hp : p < 16) (hl : l < 8) : fM_permitFor u (nI p) (nI l) = some (uS u l t (fun q => decide (q = p))) := by
  have i128 : 8 * p + l < 128 := by omega
  have eZ : nI t + 360 - 1 = nI (t + 359) := by
    rw [show (360 : Int32) = nI 360 from rfl, nI_add, show t + 360 = (t + 359) + 1 from rfl, zm1]
  have fin : ∀ x y, (x = if u 23 (8 * p + l) < nI t then nI t else u 24 (8 * p + l)) → y = zMx t (u 23 (8 * p + l)) → mup (mup u 24 (8 * p + l) x) 23 (8 * p + l) y = uS u l t (fun q => decide (q = p)) := fun x y hx hy => by
    subst hx hy
    funext a b
    unfold uS mup
    simp only [decide_eq_true_eq]
    by_cases hb : b = 8 * p + l
    · subst hb
      have d1 : (8 * p + l) % 8 = l := by omega
      have d2 : (8 * p + l) / 8 = p := by omega
      by_cases h1 : a = 23
      · subst h1; simp [d1, d2]
      · by_cases h2 : a = 24
        · subst h2
          by_cases h3 : u 23 (8 * p + l) < nI t <;> simp [d1, d2, h3]
        · simp [h1, h2]
    · have d : ¬ (b % 8 = l ∧ b / 8 = p) := fun z => hb (by omega)
      by_cases h1 : b % 8 = l
      · have h2 : ¬ b / 8 = p := fun z => d ⟨h1, z⟩
        simp [hb, h2]
      · simp [hb, h1]
  unfold fM_permitFor fM_permitFor_34 fM_permitFor_78 fM_hasPermit fM_hasPermit_23
  by_cases e : u 23 (8 * p + l) < nI t
  · simp only [z8, md23 i128, hT, e, mbo0, mt24 i128, kn (show 1 ≠ 24 by decide), kn (show 23 ≠ 24 by decide), eZ, mt23 i128, mb2_s, Option.bind_some, xb_l, xb_r, goes_0, goes_1, goes_2, goes_3, ne10, if_false, if_true, om_0, om_1]
    by_cases e2 : u 23 (8 * p + l) ≤ nI (t + 359)
    · rw [if_pos e2]
      refine congrArg some (fin _ _ (by rw [if_pos e]) ?_)
      unfold zMx
      by_cases e3 : u 23 (8 * p + l) < nI (t + 359)
      · rw [if_pos e3]
      · rw [if_neg e3]; exact Int32.le_antisymm (Int32.not_lt.mp e3) e2
    · rw [if_neg e2]
      refine congrArg some (fin _ _ (by rw [if_pos e]) ?_)
      unfold zMx
      rw [if_neg (fun z => e2 (Int32.le_of_lt z))]
  · simp only [z8, md23 i128, md24 i128, hT, e, mbo1, mt24 i128, kn (show 1 ≠ 24 by decide), kn (show 23 ≠ 24 by decide), eZ, mt23 i128, mb2_s, Option.bind_some, xb_l, xb_r, goes_0, goes_1, goes_2, goes_3, ne10, if_false, if_true, om_0, om_1]
    by_cases e2 : u 23 (8 * p + l) ≤ nI (t + 359)
    · rw [if_pos e2]
      refine congrArg some (fin _ _ (by rw [if_neg e]) ?_)
      unfold zMx
      by_cases e3 : u 23 (8 * p + l) < nI (t + 359)
      · rw [if_pos e3]
      · rw [if_neg e3]; exact Int32.le_antisymm (Int32.not_lt.mp e3) e2
    · rw [if_neg e2]
      refine congrArg some (fin _ _ (by rw [if_neg e]) ?_)
      unfold zMx
      rw [if_neg (fun z => e2 (Int32.le_of_lt z))]
/-- who gets a permit with a request -/
def zG (g : CS) (u : MS) (r m : Nat) : Nat → Bool := fun q => decide (sI g 7 r 1 = nI q) || zAny (zFo u r q) 0 m
theorem c_grant_loop {r l : Nat} (ht : t ≤ 3600) (hr : r < sN g 3) (hN : sN g 1 ≤ 16) (hCc : sN g 1 ≤ sC g 1) (hl : l < 8) (hrl : sI g 7 r 2 = nI l) (hT : sI g 0 0 6 = nI t) {G : Nat → Bool} (hF : ∀ q, q < 16 → fC_Request_isFollowedBy r g (nI q) = some (zB (G q))) (k : Nat) : ∀ (i n : Nat) (S : Nat → Bool), i + k = sN g 1 → k < n → fC_Court_grant_7 n (gS g l t S) r (nI i) = some (gS g l t (fun q => S q || (decide (i ≤ q) && decide (q < sN g 1) && (decide (sI g 7 r 1 = nI q) || G q)))) := by
  induction k with
  | zero =>
    intro i n S hi hn
    obtain ⟨n, rfl⟩ : ∃ m, n = m + 1 := ⟨n - 1, by omega⟩
    rw [fC_Court_grant_7]
    rw [show sN (gS g l t S) 1 = sN g 1 from rfl, if_pos (nI_le (by omega) (by omega))]
    refine congrArg (fun z => some (gS g l t z)) ?_
    funext q
    by_cases z : i ≤ q
    · simp [show ¬ q < sN g 1 by omega]
    · simp [z]
  | succ k ih =>
    intro i n S hi hn
    obtain ⟨n, rfl⟩ : ∃ m, n = m + 1 := ⟨n - 1, by omega⟩
    have hi0 : i < sN g 1 := by omega
    have hi0' : i < sN (gS g l t S) 1 := hi0
    have e7 : ∀ b c, sI (gS g l t S) 7 b c = sI g 7 b c := fun b c => by rw [gS_I S (by decide) (by decide)]
    have e0 : sI (gS g l t S) 0 0 6 = nI t := by rw [gS_I S (by decide) (by decide)]; exact hT
    have k7 : ck (gS g l t S) 7 r = some () := ck7 hr
    have kc : cget (gS g l t S) 1 (nI i) = some i := cget_ok (g := gS g l t S) (j := 1) hi0 hCc (by show sN g 1 < _; omega)
    have k5 : ck (gS g l t S) 5 i = some () := ck5 hi0
    have fo : fC_Request_isFollowedBy r (gS g l t S) (nI i) = some (zB (G i)) := by
      rw [← hF i (by omega)]
      unfold fC_Request_isFollowedBy fC_Request_isFollowedBy_16
      rw [k7, ck7 hr, e7]
    have gr := c_grant1 (g := gS g l t S) e0 ht hi0' hl
    rw [gS_2 ht] at gr
    rw [fC_Court_grant_7]
    unfold fC_Court_grant_34 fC_Court_grant_59
    rw [show sN (gS g l t S) 1 = sN g 1 from rfl, if_neg (nI_ge (by omega) (by omega))]
    simp only [k7, e7, kc, k5, fo, hrl, e0, gr, zp1, zB_0, Option.bind_some]
    rw [ih (i + 1) n S (by omega) (by omega), ih (i + 1) n _ (by omega) (by omega)]
    have ext : ∀ {A B : Nat → Bool}, (∀ q, A q = B q) → some (gS g l t A) = some (gS g l t B) := fun {A B} z => by rw [show A = B from funext z]
    have f0 : (sI g 7 r 1 = nI i ∨ G i = true) → some (gS g l t (fun q => (S q || decide (q = i)) || (decide (i + 1 ≤ q) && decide (q < sN g 1) && (decide (sI g 7 r 1 = nI q) || G q)))) = some (gS g l t (fun q => S q || (decide (i ≤ q) && decide (q < sN g 1) && (decide (sI g 7 r 1 = nI q) || G q)))) := fun z => ext fun q => by
      by_cases e : q = i
      · subst e
        have : (decide (sI g 7 r 1 = nI q) || G q) = true := by
          rcases z with z | z <;> simp [z]
        simp [this, hi0]
      · rw [show decide (i + 1 ≤ q) = decide (i ≤ q) from by simp only [decide_eq_decide]; omega]
        simp [e]
    have f1 : ¬ (sI g 7 r 1 = nI i ∨ G i = true) → some (gS g l t (fun q => S q || (decide (i + 1 ≤ q) && decide (q < sN g 1) && (decide (sI g 7 r 1 = nI q) || G q)))) = some (gS g l t (fun q => S q || (decide (i ≤ q) && decide (q < sN g 1) && (decide (sI g 7 r 1 = nI q) || G q)))) := fun z => ext fun q => by
      by_cases e : q = i
      · subst e
        have z1 : ¬ sI g 7 r 1 = nI q := fun y => z (Or.inl y)
        have z2 : G q = false := Bool.eq_false_iff.mpr fun y => z (Or.inr y)
        simp [z1, z2]
      · rw [show decide (i + 1 ≤ q) = decide (i ≤ q) from by simp only [decide_eq_decide]; omega]
    by_cases z1 : sI g 7 r 1 = nI i
    · rw [if_pos z1]
      exact f0 (Or.inl z1)
    · rw [if_neg z1]
      by_cases z2 : G i = false
      · rw [if_pos z2]
        exact f1 (fun y => y.elim z1 (fun y => by rw [z2] at y; cases y))
      · rw [if_neg z2]
        exact f0 (Or.inr (by cases hg : G i; exact absurd hg z2; rfl))
end PH
