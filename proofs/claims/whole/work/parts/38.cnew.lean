/-! ===== making objects: a new object beside the class's world, and the list that takes it ===== -/
def grp (j k : Nat) : Bool := match j with
  | 0 => decide (k = 4 ∨ k = 8 ∨ k = 16)
  | 1 => decide (k = 5 ∨ (9 ≤ k ∧ k ≤ 15) ∨ (17 ≤ k ∧ k ≤ 25))
  | 2 => decide (k = 6)
  | 3 => decide (k = 7)
  | _ => decide (k = 3)
def lcap (n cap : Nat) : Nat := if n < cap then cap else if cap = 0 then 10 else lnew cap
theorem lcap_pos (n cap : Nat) : 0 < lcap n cap := by
  unfold lcap lnew
  repeat' split
  all_goals omega
def gnew (g : CS) (j : Nat) (L : Nat → Nat → Int32) : CS := ((fun i => if i = j then g.1 i + 1 else g.1 i), (fun a b c => if grp j a = true ∧ b = lix j (g.1 j) then L a c else if a = 1 ∧ b = j ∧ c = 0 then g.2.1 a b c + 1 else g.2.1 a b c), (fun a b c => if grp j a = true ∧ b = lix j (g.1 j) then none else g.2.2.1 a b c), (fun i => if i = j then lcap (g.1 j) (g.2.2.2 j) else g.2.2.2 i))
def anew (ad : Nat → Nat → Nat) (g : CS) (j a2 : Nat) (na : Nat → Nat) : Nat → Nat → Nat := fun k i => if k = 2 ∧ i = j then a2 else if grp j k = true ∧ i = lix j (sN g j) then na k else ad k i
def refsOK (g : CS) : Prop := (∀ p v, p < sN g 1 → sJ g 5 p 9 = some v → v < sN g 0) ∧ (∀ p v, p < sN g 1 → sJ g 5 p 10 = some v → v < sN g 2) ∧ ∀ x, x < sN g 2 → (sI g 6 x 2).toNatClampNeg < sN g 0
theorem k26 {P : Nat → Prop} {k : Nat} (hk : k < 26) (h0 : P 0) (h1 : P 1) (h2 : P 2) (h3 : P 3) (h4 : P 4) (h5 : P 5) (h6 : P 6) (h7 : P 7) (h8 : P 8) (h9 : P 9) (h10 : P 10) (h11 : P 11) (h12 : P 12) (h13 : P 13) (h14 : P 14) (h15 : P 15) (h16 : P 16) (h17 : P 17) (h18 : P 18) (h19 : P 19) (h20 : P 20) (h21 : P 21) (h22 : P 22) (h23 : P 23) (h24 : P 24) (h25 : P 25) : P k := by
  rcases (show k = 0 ∨ k = 1 ∨ k = 2 ∨ k = 3 ∨ k = 4 ∨ k = 5 ∨ k = 6 ∨ k = 7 ∨ k = 8 ∨ k = 9 ∨ k = 10 ∨ k = 11 ∨ k = 12 ∨ k = 13 ∨ k = 14 ∨ k = 15 ∨ k = 16 ∨ k = 17 ∨ k = 18 ∨ k = 19 ∨ k = 20 ∨ k = 21 ∨ k = 22 ∨ k = 23 ∨ k = 24 ∨ k = 25 by omega) with rfl | rfl | rfl | rfl | rfl | rfl | rfl | rfl | rfl | rfl | rfl | rfl | rfl | rfl | rfl | rfl | rfl | rfl | rfl | rfl | rfl | rfl | rfl | rfl | rfl | rfl <;> assumption
theorem clvb_lt {g : CS} {k i : Nat} (h : clvb g k i = true) : k < 26 := by
  rcases Nat.lt_or_ge k 26 with z | z
  · exact z
  · exfalso
    unfold clvb at h
    split at h <;> first | omega | cases h
theorem clvb_new (g : CS) {j : Nat} (hj : j < 5) (L : Nat → Nat → Int32) (k i : Nat) : clvb (gnew g j L) k i = true ↔ clvb g k i = true ∨ (grp j k = true ∧ i = lix j (sN g j)) ∨ (k = 2 ∧ i = j) := by
  by_cases hk : k < 26
  · have hp := lcap_pos (g.1 j) (g.2.2.2 j)
    revert k
    intro k hk
    rcases (show j = 0 ∨ j = 1 ∨ j = 2 ∨ j = 3 ∨ j = 4 by omega) with rfl | rfl | rfl | rfl | rfl
    all_goals
      revert i
      refine k26 (P := fun k => ∀ i, clvb (gnew g _ L) k i = true ↔ clvb g k i = true ∨ (grp _ k = true ∧ i = lix _ (sN g _)) ∨ (k = 2 ∧ i = _)) hk ?_ ?_ ?_ ?_ ?_ ?_ ?_ ?_ ?_ ?_ ?_ ?_ ?_ ?_ ?_ ?_ ?_ ?_ ?_ ?_ ?_ ?_ ?_ ?_ ?_ ?_
      all_goals
        intro i
        simp only [clvb, grp, lix, decide_eq_true_eq, Bool.and_eq_true]
        try simp only [gnew, sN, sC]
        try simp
        try omega
        try exact ⟨fun h => decide_eq_true h, fun h => of_decide_eq_true h⟩
        try (by_cases h0 : i = 0 <;> by_cases h1 : i = 1 <;> by_cases h2 : i = 2 <;> by_cases h3 : i = 3 <;> by_cases h4 : i = 4 <;> simp [h0, h1, h2, h3, h4] <;> omega)
  · constructor
    · intro h; exact absurd (clvb_lt h) hk
    · rintro (h | ⟨h, -⟩ | ⟨h, -⟩)
      · exact absurd (clvb_lt h) hk
      · exfalso
        unfold grp at h
        split at h <;> simp at h <;> omega
      · omega
theorem grp_own {g : CS} {j k : Nat} (hj : j < 5) (h : grp j k = true) : clvb g k (lix j (sN g j)) = false ∧ k ≠ 2 ∧ k ≠ 1 := by
  rcases (show j = 0 ∨ j = 1 ∨ j = 2 ∨ j = 3 ∨ j = 4 by omega) with rfl | rfl | rfl | rfl | rfl <;> simp only [grp, decide_eq_true_eq] at h
  · rcases h with rfl | rfl | rfl <;> simp [clvb, lix]
  · rcases (show k = 5 ∨ k = 9 ∨ k = 10 ∨ k = 11 ∨ k = 12 ∨ k = 13 ∨ k = 14 ∨ k = 15 ∨ k = 17 ∨ k = 18 ∨ k = 19 ∨ k = 20 ∨ k = 21 ∨ k = 22 ∨ k = 23 ∨ k = 24 ∨ k = 25 by omega) with rfl | rfl | rfl | rfl | rfl | rfl | rfl | rfl | rfl | rfl | rfl | rfl | rfl | rfl | rfl | rfl | rfl <;> simp [clvb, lix]
  · subst h; simp [clvb, lix]
  · subst h; simp [clvb, lix]
  · subst h; simp [clvb, lix]
theorem anew_old (ad : Nat → Nat → Nat) {g : CS} {j a2 : Nat} (na : Nat → Nat) (hj : j < 5) {k i : Nat} (h : clvb g k i = true) (h2 : ¬ (k = 2 ∧ i = j)) : anew ad g j a2 na k i = ad k i := by
  unfold anew
  rw [if_neg h2, if_neg]
  rintro ⟨h3, rfl⟩
  rw [(grp_own hj h3).1] at h
  cases h

