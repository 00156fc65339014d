/-! ===== the helpers alike ===== -/
def zAny (f : Nat → Bool) : Nat → Nat → Bool
  | _, 0 => false
  | i, k + 1 => f i || zAny f (i + 1) k
theorem zAny_iff (f : Nat → Bool) (k : Nat) : ∀ i, zAny f i k = true ↔ ∃ j, i ≤ j ∧ j < i + k ∧ f j = true := by
  induction k with
  | zero => intro i; exact ⟨fun z => absurd z (by simp [zAny]), fun ⟨j, h1, h2, _⟩ => (by omega)⟩
  | succ k ih =>
    intro i
    simp only [zAny, Bool.or_eq_true, ih (i + 1)]
    constructor
    · rintro (z | ⟨j, h1, h2, h3⟩)
      · exact ⟨i, by omega, by omega, z⟩
      · exact ⟨j, by omega, by omega, h3⟩
    · rintro ⟨j, h1, h2, h3⟩
      by_cases e : j = i
      · subst e; exact Or.inl h3
      · exact Or.inr ⟨j, by omega, by omega, h3⟩
theorem zpred {N j : Nat} (hN : N < 1000000) (hj : j < 2147483648) : nI N - 1 < nI j ↔ N ≤ j := by
  cases N with
  | zero =>
    rw [show nI 0 - 1 = (-1 : Int32) from by decide +kernel, Int32.lt_iff_toInt_lt, nI_toInt hj, show (-1 : Int32).toInt = -1 from by decide]
    exact ⟨fun _ => Nat.zero_le _, fun _ => by omega⟩
  | succ N =>
    rw [zm1, zltI (by omega) hj]
    exact ⟨fun z => by omega, fun z => by omega⟩
theorem s_in (u : MS) (x a b : Int32) : fM_in u x a b = some (zB (!decide (x < a) && !decide (b < x)), u) := by
  unfold fM_in fM_in_14 fM_in_15
  by_cases h1 : x < a
  · simp [h1, zB, mbo]
  · by_cases h2 : b < x <;> simp [h1, h2, zB, mbo]
theorem s_goes (u : MS) (x : Int32) : fM_goesWell u x = some (zB (decide (x = 0)), mup u 0 0 x) := by
  unfold fM_goesWell fM_goesWell_14
  simp only [Option.bind_some]
  by_cases h1 : x = 0 <;> simp [h1, zB, mbo]
theorem s_has (u : MS) (x : Int32) {l : Nat} (hl : l < 32) : fM_has u x (nI l) = some (zB (hb x l), u) := by
  unfold fM_has fM_has_14
  by_cases h1 : hb x l = true
  · rw [if_pos ((hb_has x hl).mpr h1), h1]
    rfl
  · rw [if_neg (fun z => h1 ((hb_has x hl).mp z)), Bool.eq_false_iff.mpr h1]
    rfl
section PH
variable {t : Nat} {g : CS} {u : MS}
theorem s_isLand (h : R0 t g u) (x : Int32) : (∃ l, l < sN g 0 ∧ x = nI l ∧ fC_Court_landAt g x = some (.inr l) ∧ fM_isLand u x = some (1, u)) ∨ (fC_Court_landAt g x = some (.inl 0) ∧ fM_isLand u x = some (0, u)) := by
  have hN := h.aN.1
  have hC := h.aC 0 (by decide)
  unfold fM_isLand fC_Court_landAt fC_Court_landAt_15
  rw [s_in, h.aN.2.1]
  simp only [mb2_s, zB_m, Option.bind_some]
  by_cases hx : x < 0
  · exact Or.inr ⟨by rw [if_pos hx], by simp [hx, zB]⟩
  · obtain ⟨l, hl, rfl⟩ := nI_of hx
    rw [if_neg hx]
    by_cases h2 : l < sN g 0
    · refine Or.inl ⟨l, h2, rfl, ?_, ?_⟩
      · rw [if_pos (nI_lt h2 (by omega)), cget_ok h2 hC.1 (by omega)]
        simp only [Option.bind_some]
        rw [show lix 0 l = l from rfl, ck4 h2]
        rfl
      · have h3 : ¬ nI (sN g 0) - 1 < nI l := fun z => absurd ((zpred (by omega) hl).mp z) (by omega)
        simp [hx, h3, zB]
    · refine Or.inr ⟨?_, ?_⟩
      · rw [if_neg (nI_nlt (by omega) hl)]
      · have h3 : nI (sN g 0) - 1 < nI l := (zpred (by omega) hl).mpr (by omega)
        simp [h3, zB]
theorem s_isPerson (h : R0 t g u) (x : Int32) : (∃ l, l < sN g 1 ∧ x = nI l ∧ fC_Court_personAt g x = some (.inr l) ∧ fM_isPerson u x = some (1, u)) ∨ (fC_Court_personAt g x = some (.inl 0) ∧ fM_isPerson u x = some (0, u)) := by
  have hN := h.aN.2.2.1
  have hC := h.aC 1 (by decide)
  unfold fM_isPerson fC_Court_personAt fC_Court_personAt_15
  rw [s_in, h.aN.2.2.2.1]
  simp only [mb2_s, zB_m, Option.bind_some]
  by_cases hx : x < 0
  · exact Or.inr ⟨by rw [if_pos hx], by simp [hx, zB]⟩
  · obtain ⟨l, hl, rfl⟩ := nI_of hx
    rw [if_neg hx]
    by_cases h2 : l < sN g 1
    · refine Or.inl ⟨l, h2, rfl, ?_, ?_⟩
      · rw [if_pos (nI_lt h2 (by omega)), cget_ok h2 hC.1 (by omega)]
        simp only [Option.bind_some]
        rw [show lix 1 l = l from rfl, ck5 h2]
        rfl
      · have h3 : ¬ nI (sN g 1) - 1 < nI l := fun z => absurd ((zpred (by omega) hl).mp z) (by omega)
        simp [hx, h3, zB]
    · refine Or.inr ⟨?_, ?_⟩
      · rw [if_neg (nI_nlt (by omega) hl)]
      · have h3 : nI (sN g 1) - 1 < nI l := (zpred (by omega) hl).mpr (by omega)
        simp [h3, zB]
theorem s_isRequest (h : R0 t g u) (x : Int32) : (∃ l, l < sN g 3 ∧ x = nI l ∧ fC_Court_requestAt g x = some (.inr l) ∧ fM_isRequest u x = some (1, u)) ∨ (fC_Court_requestAt g x = some (.inl 0) ∧ fM_isRequest u x = some (0, u)) := by
  have hN := h.aN.2.2.2.2.2.2.1
  have hC := h.aC 3 (by decide)
  unfold fM_isRequest fC_Court_requestAt fC_Court_requestAt_15
  rw [s_in, h.aN.2.2.2.2.2.2.2.1]
  simp only [mb2_s, zB_m, Option.bind_some]
  by_cases hx : x < 0
  · exact Or.inr ⟨by rw [if_pos hx], by simp [hx, zB]⟩
  · obtain ⟨l, hl, rfl⟩ := nI_of hx
    rw [if_neg hx]
    by_cases h2 : l < sN g 3
    · refine Or.inl ⟨l, h2, rfl, ?_, ?_⟩
      · rw [if_pos (nI_lt h2 (by omega)), cget_ok h2 hC.1 (by omega)]
        simp only [Option.bind_some]
        rw [show lix 3 l = l from rfl, ck7 h2]
        rfl
      · have h3 : ¬ nI (sN g 3) - 1 < nI l := fun z => absurd ((zpred (by omega) hl).mp z) (by omega)
        simp [hx, h3, zB]
    · refine Or.inr ⟨?_, ?_⟩
      · rw [if_neg (nI_nlt (by omega) hl)]
      · have h3 : nI (sN g 3) - 1 < nI l := (zpred (by omega) hl).mpr (by omega)
        simp [h3, zB]
theorem s_visaAt (h : R0 t g u) (x : Int32) : (∃ l, l < sN g 2 ∧ x = nI l ∧ fC_Court_visaAt g x = some (.inr l) ∧ fM_in u x 0 (u 28 0 - 1) = some (1, u)) ∨ (fC_Court_visaAt g x = some (.inl 0) ∧ fM_in u x 0 (u 28 0 - 1) = some (0, u)) := by
  have hN := h.aN.2.2.2.2.1
  have hC := h.aC 2 (by decide)
  unfold fC_Court_visaAt fC_Court_visaAt_15
  rw [s_in, h.aN.2.2.2.2.2.1]
  by_cases hx : x < 0
  · exact Or.inr ⟨by rw [if_pos hx], by simp [hx, zB]⟩
  · obtain ⟨l, hl, rfl⟩ := nI_of hx
    rw [if_neg hx]
    by_cases h2 : l < sN g 2
    · refine Or.inl ⟨l, h2, rfl, ?_, ?_⟩
      · rw [if_pos (nI_lt h2 (by omega)), cget_ok h2 hC.1 (by omega)]
        simp only [Option.bind_some]
        rw [show lix 2 l = l from rfl, ck6 h2]
        rfl
      · have h3 : ¬ nI (sN g 2) - 1 < nI l := fun z => absurd ((zpred (by omega) hl).mp z) (by omega)
        simp [hx, h3, zB]
    · refine Or.inr ⟨?_, ?_⟩
      · rw [if_neg (nI_nlt (by omega) hl)]
      · have h3 : nI (sN g 2) - 1 < nI l := (zpred (by omega) hl).mpr (by omega)
        simp [h3, zB]
theorem s_bit (h : R0 t g u) {l : Nat} (hl : l < sN g 0) : fC_Land_bit l g = some ((1 : Int32) <<< (nI l &&& 31)) := by
  unfold fC_Land_bit
  rw [ck4 hl, (h.aL l hl).1]
  rfl
def zR (g : CS) (l : Nat) : Bool := !decide (sI g 4 l 1 = 0)
theorem R0.reg (h : R0 t g u) {l : Nat} (hl : l < sN g 0) : sI g 4 l 1 = zB (zR g l) ∧ u 3 l = zB (zR g l) := by
  obtain ⟨b, h1, h2⟩ := (h.aL l hl).2.1
  have : zR g l = b := by
    unfold zR
    rw [h1]
    cases b <;> decide
  rw [this]
  exact ⟨h1, h2⟩
theorem R0.l8 (h : R0 t g u) {l : Nat} (hl : l < sN g 0) : l < 8 := by have := h.aN.1; omega
theorem R0.p16 (h : R0 t g u) {p : Nat} (hp : p < sN g 1) : p < 16 := by have := h.aN.2.2.1; omega
theorem R0.v60 (h : R0 t g u) {v : Nat} (hv : v < sN g 2) : v < 60 := by have := h.aN.2.2.2.2.1; omega
theorem R0.r40 (h : R0 t g u) {r : Nat} (hr : r < sN g 3) : r < 40 := by have := h.aN.2.2.2.2.2.2.1; omega
theorem s_of (h : R0 t g u) {p l : Nat} (hp : p < sN g 1) (hl : l < sN g 0) : fC_Person_isOf p g l = some (zB (hb (sI g 5 p 8) l)) := by
  have h8 := h.l8 hl
  unfold fC_Person_isOf fC_Person_isOf_17
  rw [ck5 hp, ck4 hl, s_bit h hl]
  simp only [Option.bind_some]
  by_cases h1 : hb (sI g 5 p 8) l = true
  · rw [if_neg (fun z => by rw [(hb_zero _ (by omega)).mp z] at h1; cases h1), h1]
    rfl
  · rw [if_pos ((hb_zero _ (by omega)).mpr (Bool.eq_false_iff.mpr h1)), Bool.eq_false_iff.mpr h1]
    rfl
theorem r15 (h : R0 t g u) {p : Nat} (hp : p < sN g 1) : mld u 15 (nI p) = some (sI g 5 p 8) := by
  have := h.p16 hp
  rw [md15 (by omega), h.aA p hp]
def zP (t : Nat) (g : CS) (p l : Nat) : Bool := !decide (sI g 23 p l < nI t)
theorem c_valid (h : R0 t g u) {p l : Nat} (hp : p < sN g 1) (hl : l < 8) : fC_Permits_isValid p g (nI l) (nI t) = some (zB (zP t g p l)) := by
  unfold fC_Permits_isValid fC_Permits_isValid_17 zP
  rw [ck5 hp, at15 hp hl]
  simp only [Option.bind_some]
  by_cases h1 : sI g 23 p l < nI t <;> simp [h1, zB, mbo]
theorem m_valid (h : R0 t g u) {p l : Nat} (hp : p < sN g 1) (hl : l < 8) : fM_hasPermit u (nI p) (nI l) = some (zB (zP t g p l), u) := by
  have h16 := h.p16 hp
  unfold fM_hasPermit fM_hasPermit_23 zP
  rw [z8, md23 (by omega), ((h.aM p h16 l hl).1 hp).1, h.aT.2.2]
  simp only [Option.bind_some]
  by_cases h1 : sI g 23 p l < nI t <;> simp [h1, zB, mbo]
def zRt (t : Nat) (g : CS) (p l : Nat) : Bool := hb (sI g 5 p 8) l || zP t g p l
theorem c_root (h : R0 t g u) {p l : Nat} (hp : p < sN g 1) (hl : l < sN g 0) : fC_Court_isRootedIn g p l = some (zB (zRt t g p l)) := by
  have h8 := h.l8 hl
  unfold fC_Court_isRootedIn fC_Court_isRootedIn_26 fC_Court_isRootedIn_31 zRt
  rw [ck5 hp, ck4 hl, s_of h hp hl, (h.aL l hl).1, h.aT.1, c_valid h hp h8]
  simp only [Option.bind_some, zB_0]
  cases hb (sI g 5 p 8) l <;> cases zP t g p l <;> rfl
theorem m_root (h : R0 t g u) {p l : Nat} (hp : p < sN g 1) (hl : l < sN g 0) : fM_belongs u (nI p) (nI l) = some (zB (zRt t g p l), u) := by
  have h8 := h.l8 hl
  have h16 := h.p16 hp
  unfold fM_belongs fM_belongs_27 fM_belongs_31 fM_belongs_32 zRt
  rw [if_neg (zne1 (by omega)), r15 h hp]
  simp only [Option.bind_some]
  rw [s_has _ _ (by omega)]
  simp only [mb2_s]
  rw [m_valid h hp h8]
  simp only [mb2_s, zB_0]
  cases hb (sI g 5 p 8) l <;> cases zP t g p l <;> rfl
/-! free of visas -/
def zFr (t : Nat) (g : CS) (p l : Nat) : Nat → Bool := fun n => (hb (sI g 5 p 8) n && hb (sI g 4 l 6) n) || (zR g l && zR g n && zP t g p n)
theorem c_free_loop (h : R0 t g u) {p l : Nat} (hp : p < sN g 1) (hl : l < sN g 0) (k : Nat) : ∀ (i n : Nat) (b : Bool), i + k = sN g 0 → k < n → fC_Court_isFreeOfVisas_12 n g p l (zB b) (nI i) = some (zB (b || (zR g l && zAny (fun n => zR g n && zP t g p n) i k))) := by
  have hN := h.aN.1
  have hC := h.aC 0 (by decide)
  induction k with
  | zero =>
    intro i n b hi hn
    obtain ⟨n, rfl⟩ : ∃ m, n = m + 1 := ⟨n - 1, by omega⟩
    rw [fC_Court_isFreeOfVisas_12]
    unfold fC_Court_isFreeOfVisas_81
    rw [if_pos (nI_le (by omega) (by omega)), zB_m]
    simp [zAny]
  | succ k ih =>
    intro i n b hi hn
    obtain ⟨n, rfl⟩ : ∃ m, n = m + 1 := ⟨n - 1, by omega⟩
    rw [fC_Court_isFreeOfVisas_12]
    unfold fC_Court_isFreeOfVisas_81 fC_Court_isFreeOfVisas_73 fC_Court_isFreeOfVisas_74
    rw [if_neg (nI_ge (by omega) (by omega)), ck4 hl]
    simp only [Option.bind_some]
    rw [(h.reg hl).1]
    cases hr : zR g l
    · rw [if_pos (show zB false = 0 from rfl), zB_m]
      simp
    · rw [if_neg (show ¬ zB true = 0 by decide)]
      cases b
      · rw [if_pos (show zB false = 0 from rfl), cget_ok (by omega) hC.1 (by omega)]
        simp only [Option.bind_some]
        rw [show lix 0 i = i from rfl, ck4 (by omega)]
        simp only [Option.bind_some]
        have e0 := ih (i + 1) n false (by omega) (by omega)
        have e1 := ih (i + 1) n true (by omega) (by omega)
        rw [hr] at e0 e1
        have e9 : fC_Court_isFreeOfVisas_12 n g p l 1 (nI i + 1) = some (zB (true || (true && zAny (fun n => zR g n && zP t g p n) (i + 1) k))) := by rw [zp1]; exact e1
        have e8 : fC_Court_isFreeOfVisas_12 n g p l 0 (nI i + 1) = some (zB (false || (true && zAny (fun n => zR g n && zP t g p n) (i + 1) k))) := by rw [zp1]; exact e0
        rw [(h.reg (l := i) (by omega)).1, h.aT.1, ck5 hp, c_valid h hp (by omega), e9, e8]
        simp only [Option.bind_some, zB_0]
        simp only [zAny]
        cases zR g i <;> cases zP t g p i <;> simp
      · rw [if_neg (show ¬ zB true = 0 by decide), zB_m]
        simp
theorem m_free_loop (h : R0 t g u) {p l : Nat} (hp : p < sN g 1) (hl : l < sN g 0) (k : Nat) : ∀ (i n : Nat) (b : Bool), i + k = sN g 0 → k < n → fM_isFree_5 n u (nI p) (nI l) (zB b) (nI i) = some (zB (b || zAny (zFr t g p l) i k), u) := by
  have hN := h.aN.1
  have h8 := h.l8 hl
  have h16 := h.p16 hp
  induction k with
  | zero =>
    intro i n b hi hn
    obtain ⟨n, rfl⟩ : ∃ m, n = m + 1 := ⟨n - 1, by omega⟩
    rw [fM_isFree_5]
    rw [h.aN.2.1, if_pos (nI_le (by omega) (by omega)), zB_m]
    simp [zAny]
  | succ k ih =>
    intro i n b hi hn
    obtain ⟨n, rfl⟩ : ∃ m, n = m + 1 := ⟨n - 1, by omega⟩
    have e0 := ih (i + 1) n false (by omega) (by omega)
    have e1 := ih (i + 1) n true (by omega) (by omega)
    rw [fM_isFree_5]
    unfold fM_isFree_47 fM_isFree_76 fM_isFree_80 fM_isFree_81
    rw [h.aN.2.1, if_neg (nI_ge (by omega) (by omega))]
    have e9 : fM_isFree_5 n u (nI p) (nI l) 1 (nI i + 1) = some (zB (true || zAny (zFr t g p l) (i + 1) k), u) := by rw [zp1]; exact e1
    have e8 : fM_isFree_5 n u (nI p) (nI l) 0 (nI i + 1) = some (zB (false || zAny (zFr t g p l) (i + 1) k), u) := by rw [zp1]; exact e0
    cases b
    · rw [if_pos (show zB false = 0 from rfl), r15 h hp]
      simp only [Option.bind_some]
      rw [s_has _ _ (by omega)]
      simp only [mb2_s]
      rw [z8, md7 (by omega), ((h.aW l (by omega)).1 hl).1 i (by omega), md3 (j := l) (by omega), (h.reg hl).2, md3 (j := i) (by omega), (h.reg (l := i) (by omega)).2, m_valid h hp (by omega)]
      simp only [Option.bind_some, mb2_s, zB_0, e8, e9]
      simp only [zAny, zFr]
      cases hb (sI g 5 p 8) i <;> cases hb (sI g 4 l 6) i <;> cases zR g l <;> cases zR g i <;> cases zP t g p i <;> simp
    · rw [if_neg (show ¬ zB true = 0 by decide), e9]
      simp
theorem s_free (h : R0 t g u) {p l : Nat} (hp : p < sN g 1) (hl : l < sN g 0) : fC_Court_isFreeOfVisas g p l = some (zB (zAny (zFr t g p l) 0 (sN g 0))) ∧ fM_isFree u (nI p) (nI l) = some (zB (zAny (zFr t g p l) 0 (sN g 0)), u) := by
  have hN := h.aN.1
  constructor
  · unfold fC_Court_isFreeOfVisas fC_Land_waivesFor fC_Land_waivesFor_14
    rw [ck5 hp, ck4 hl]
    simp only [Option.bind_some]
    have e : ∀ b, (some (zB b)).bind (fun r14 => fC_Court_isFreeOfVisas_12 4096 g p l r14 0) = some (zB (b || (zR g l && zAny (fun n => zR g n && zP t g p n) 0 (sN g 0)))) := fun b => c_free_loop h hp hl (sN g 0) 0 4096 b (by omega) (by omega)
    have e3 : ∀ b, (b = true ↔ ∃ n, n < sN g 0 ∧ hb (sI g 5 p 8) n = true ∧ hb (sI g 4 l 6) n = true) → (b || (zR g l && zAny (fun n => zR g n && zP t g p n) 0 (sN g 0))) = zAny (zFr t g p l) 0 (sN g 0) := fun b hb9 => by
      rw [Bool.eq_iff_iff, Bool.or_eq_true, Bool.and_eq_true, zAny_iff, zAny_iff, hb9]
      simp only [zFr, Bool.or_eq_true, Bool.and_eq_true]
      constructor
      · rintro (⟨n, a, b, c⟩ | ⟨a, n, b, c, d, e⟩)
        · exact ⟨n, by omega, by omega, Or.inl ⟨b, c⟩⟩
        · exact ⟨n, b, c, Or.inr ⟨⟨a, d⟩, e⟩⟩
      · rintro ⟨n, a, b, (⟨c, d⟩ | ⟨⟨c, d⟩, e⟩)⟩
        · exact Or.inl ⟨n, by omega, c, d⟩
        · exact Or.inr ⟨c, n, a, b, d, e⟩
    have hw := (h.aW l (h.l8 hl)).1 hl
    by_cases h1 : sI g 4 l 6 &&& sI g 5 p 8 = 0
    · rw [if_pos h1, ← e3 false ⟨fun z => by (cases z), fun ⟨n, a, b, c⟩ => ?_⟩]
      · exact e false
      · have := congrArg (fun z => hb z n) h1
        simp only [hb_and, hb_z, b, c] at this
        exact absurd this (by decide)
    · rw [if_neg h1, ← e3 true ⟨fun _ => ?_, fun _ => rfl⟩]
      · exact e true
      · refine Classical.byContradiction fun hn => h1 (hb_ext fun i hi => ?_)
        rw [hb_and, hb_z]
        by_cases hi9 : i < sN g 0
        · cases e7 : hb (sI g 4 l 6) i
          · rfl
          · cases e8 : hb (sI g 5 p 8) i
            · rfl
            · exact absurd ⟨i, hi9, e8, e7⟩ hn
        · rw [hw.2 i (by omega)]
          rfl
  · unfold fM_isFree
    exact (m_free_loop h hp hl (sN g 0) 0 4096 false (by omega) (by omega)).trans (by simp)
/-! the rule of today -/
theorem s_rule_loop (h : R0 t g u) (k : Nat) : ∀ (i n n2 b : Nat), i + k = sN g 4 → k < n → k < n2 → b ≤ sN g 4 → ∃ b2, b2 ≤ sN g 4 ∧ fC_Court_ruleToday_7 n g b (nI i) = some b2 ∧ fM_ruleOf_4 n2 u (nI t) (nI b) (nI (i + 1)) = some (nI b2, u) := by
  have hN := h.aN.2.2.2.2.2.2.2.2
  have hC := h.aC 4 (by decide)
  induction k with
  | zero =>
    intro i n n2 b hi hn hn2 hb9
    obtain ⟨n, rfl⟩ : ∃ m, n = m + 1 := ⟨n - 1, by omega⟩
    obtain ⟨n2, rfl⟩ : ∃ m, n2 = m + 1 := ⟨n2 - 1, by omega⟩
    rw [fC_Court_ruleToday_7, fM_ruleOf_4]
    rw [if_pos (nI_le (by omega) (by omega)), hN.2, if_pos (nI_le (by omega) (by omega))]
    exact ⟨b, hb9, rfl, rfl⟩
  | succ k ih =>
    intro i n n2 b hi hn hn2 hb9
    obtain ⟨n, rfl⟩ : ∃ m, n = m + 1 := ⟨n - 1, by omega⟩
    obtain ⟨n2, rfl⟩ : ∃ m, n2 = m + 1 := ⟨n2 - 1, by omega⟩
    rw [fC_Court_ruleToday_7, fM_ruleOf_4]
    unfold fC_Court_ruleToday_54 fM_ruleOf_41 fM_ruleOf_42
    rw [if_neg (nI_ge (by omega) (by omega)), hN.2, if_neg (nI_ge (by omega) (by omega)), cget_ok (by omega) hC.1 (by omega)]
    simp only [Option.bind_some]
    rw [show lix 4 i = i + 1 from rfl, ck3 (by omega), ck3 (by omega), h.aT.1, md10 (j := i + 1) (by omega), md10 (j := b) (by omega), (h.aR (i + 1) (by omega)).1, (h.aR b (by omega)).1, zp1, zp1]
    simp only [Option.bind_some]
    by_cases h1 : nI t < sI g 3 (i + 1) 0
    · rw [if_pos h1, if_pos h1]
      exact ih (i + 1) n n2 b (by omega) (by omega) (by omega) hb9
    · rw [if_neg h1, if_neg h1]
      by_cases h2 : sI g 3 (i + 1) 0 < sI g 3 b 0
      · rw [if_pos h2, if_pos h2]
        exact ih (i + 1) n n2 b (by omega) (by omega) (by omega) hb9
      · rw [if_neg h2, if_neg h2]
        exact ih (i + 1) n n2 (i + 1) (by omega) (by omega) (by omega) (by omega)
theorem s_rule (h : R0 t g u) : ∃ b, b ≤ sN g 4 ∧ fC_Court_ruleToday g = some b ∧ fM_ruleOf u (nI t) = some (nI b, u) := by
  have hN := h.aN.2.2.2.2.2.2.2.2
  exact s_rule_loop h (sN g 4) 0 4096 4096 0 (by omega) (by omega) (by omega) (by omega)
end PH
