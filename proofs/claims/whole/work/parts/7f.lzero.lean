/-! ===== the class and the reference, new ===== -/
def g00 : CS := (fun _ => 0, fun k _ f => if k = 3 then (if f = 1 then 90 else if f = 2 then 180 else 0) else 0, fun _ _ _ => none, fun _ => 0)
def ad00 (h0 z0 : Nat) (q : Nat → Nat) : Nat → Nat → Nat := fun k i => match k with
  | 0 => h0
  | 1 => match i with
    | 0 => q 0
    | 1 => q 1
    | 2 => q 2
    | 3 => q 3
    | _ => q 5
  | 2 => z0
  | _ => q 4
theorem mU0_z {a : Nat} (b : Nat) (h : a ≠ 9 ∧ a ≠ 11 ∧ a ≠ 12 ∧ a ≠ 23 ∧ a ≠ 25) : mU0 a b = 0 := by
  obtain ⟨h1, h2, h3, h4, h5⟩ := h
  simp [mU0, mVL, mV3, mV2, mV1, mV0, mup, h1, h2, h3, h4, h5]
theorem mU0_m {a b : Nat} (h : a = 23 ∨ a = 25) (hb : b < 128) : mU0 a b = -1 := by
  simp [mU0, mVL, h, hb]
theorem RR0 : RR g00 mU0 := by
  have no : ∀ {P : Prop} (j x : Nat), x < sN g00 j → P := fun j x h => absurd h (Nat.not_lt_zero _)
  refine ⟨0, ⟨?_, ?_, ?_, ?_, ?_, ?_, ?_, ?_, ?_, ?_, ?_, ?_, ?_, ?_, ?_, ?_, ?_, ?_, ?_, ?_, ?_, ?_⟩, fun p h => no 1 p h⟩
  · exact ⟨rfl, by decide, mU0_z 0 (by decide)⟩
  · exact ⟨Nat.zero_le _, mU0_z 0 (by decide), Nat.zero_le _, mU0_z 0 (by decide), Nat.zero_le _, mU0_z 0 (by decide), Nat.zero_le _, mU0_z 0 (by decide), Nat.zero_le _, by decide⟩
  · exact fun j hj => ⟨Nat.zero_le _, Nat.zero_le _⟩
  · exact fun l h => no 0 l h
  · exact fun l hl => ⟨fun h => no 0 l h, fun _ n hn => mU0_z _ (by decide)⟩
  · exact fun l hl j hj => ⟨fun h => no 0 l h, fun _ => mU0_z _ (by decide)⟩
  · intro i hi
    have hi0 : i = 0 := Nat.le_zero.mp hi
    subst hi0
    exact ⟨by decide, by decide, 180, by decide, by decide, by decide, by decide⟩
  · exact fun p h => no 1 p h
  · exact fun p h => no 1 p h
  · exact fun p h => no 1 p h
  · exact fun p h => no 1 p h
  · exact fun p hp => ⟨fun h => no 1 p h, fun _ => mU0_z _ (by decide)⟩
  · exact fun p hp => ⟨fun h => no 1 p h, fun _ => mU0_z _ (by decide)⟩
  · exact fun p hp d hd => ⟨fun h => no 1 p h, fun _ => mU0_z _ (by decide)⟩
  · exact fun p hp l hl => ⟨fun h => no 1 p h, fun _ => mU0_m (Or.inl rfl) (by omega)⟩
  · exact fun p hp l hl => ⟨fun h => no 1 p h, fun _ => mU0_m (Or.inr rfl) (by omega)⟩
  · exact fun v h => no 2 v h
  · exact fun v h => no 2 v h
  · exact fun r h => no 3 r h
  · exact fun r q _ h => no 3 q h
  · exact fun r hr => ⟨fun h => no 3 r h, fun _ => mU0_z _ (by decide)⟩
  · exact fun r hr => ⟨fun h => no 3 r h, fun _ => mU0_z _ (by decide)⟩
/-- what there is at the start -/
def ws00 (h0 z0 : Nat) (q : Nat → Nat) : va_W := [(h0, .inr (9, [.ref (q 0), .ref (q 1), .ref (q 2), .ref (q 3), .ref (q 4), .ref (q 5), .int 0])), (q 0, .inr (0, [.int 0, .ref z0, .int 0])), (q 1, .inr (0, [.int 0, .ref z0, .int 0])), (q 2, .inr (0, [.int 0, .ref z0, .int 0])), (q 3, .inr (0, [.int 0, .ref z0, .int 0])), (q 4, .inr (7, [.int 0, .int 90, .int 180])), (q 5, .inr (0, [.int 0, .ref z0, .int 0]))]
def pos00 (k i : Nat) : Nat := match k with
  | 0 => 0
  | 1 => if i < 4 then i + 1 else 6
  | _ => 5
theorem clv00 {k i : Nat} (h : clvb g00 k i = true) : (k = 0 ∧ i = 0) ∨ (k = 1 ∧ i = 0) ∨ (k = 1 ∧ i = 1) ∨ (k = 1 ∧ i = 2) ∨ (k = 1 ∧ i = 3) ∨ (k = 1 ∧ i = 4) ∨ (k = 3 ∧ i = 0) := by
  unfold clvb at h
  split at h <;> simp [g00, sN, sC] at h <;> omega
theorem ws00_at (yI yO : ClassId) (h0 z0 : Nat) (q : Nat → Nat) {k i : Nat} (h : clvb g00 k i = true) : (ws00 h0 z0 q)[pos00 k i]? = some (ad00 h0 z0 q k i, cent yI yO (ad00 h0 z0 q) g00 k i) := by
  rcases clv00 h with ⟨rfl, rfl⟩ | ⟨rfl, rfl⟩ | ⟨rfl, rfl⟩ | ⟨rfl, rfl⟩ | ⟨rfl, rfl⟩ | ⟨rfl, rfl⟩ | ⟨rfl, rfl⟩ <;> rfl
theorem pos00_inj {k i k' i' : Nat} (h : clvb g00 k i = true) (h' : clvb g00 k' i' = true) (e : pos00 k i = pos00 k' i') : k = k' ∧ i = i' := by
  rcases clv00 h with ⟨rfl, rfl⟩ | ⟨rfl, rfl⟩ | ⟨rfl, rfl⟩ | ⟨rfl, rfl⟩ | ⟨rfl, rfl⟩ | ⟨rfl, rfl⟩ | ⟨rfl, rfl⟩ <;> rcases clv00 h' with ⟨rfl, rfl⟩ | ⟨rfl, rfl⟩ | ⟨rfl, rfl⟩ | ⟨rfl, rfl⟩ | ⟨rfl, rfl⟩ | ⟨rfl, rfl⟩ | ⟨rfl, rfl⟩ <;> revert e <;> decide
theorem cw00 {D : va_G} {yI yO : ClassId} {h0 z0 : Nat} {q : Nat → Nat} {A : Nat → Prop} {H : Heap} (hP : va_P D vwCl (ws00 h0 z0 q) H) (hD : va_D A (ws00 h0 z0 q)) : cw D yI yO z0 (ad00 h0 z0 q) g00 H ∧ ∀ k i, clvb g00 k i = true → A (ad00 h0 z0 q k i) :=
  ⟨⟨fun k i h => hP _ _ (ws00_at yI yO h0 z0 q h), fun k i k' i' h h' e => pos00_inj h h' (hD.1 _ _ _ _ (ws00_at yI yO h0 z0 q h) (ws00_at yI yO h0 z0 q h') e), fun _ _ _ => rfl⟩, fun k i h => hD.2 _ _ (ws00_at yI yO h0 z0 q h)⟩
