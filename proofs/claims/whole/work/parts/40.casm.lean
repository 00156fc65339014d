/-! ===== the class's world takes a new object in ===== -/
theorem anew_new (ad : Nat → Nat → Nat) {g : CS} {j k : Nat} (a2 : Nat) (na : Nat → Nat) (hj : j < 5) (h : grp j k = true) : anew ad g j a2 na k (lix j (sN g j)) = na k := by
  unfold anew
  rw [if_neg (fun z => (grp_own (g := g) hj h).2.1 z.1), if_pos ⟨h, rfl⟩]
theorem anew_arr (ad : Nat → Nat → Nat) (g : CS) (j a2 : Nat) (na : Nat → Nat) : anew ad g j a2 na 2 j = a2 := if_pos ⟨rfl, rfl⟩
theorem anew_arr2 (ad : Nat → Nat → Nat) (g : CS) {j i : Nat} (a2 : Nat) (na : Nat → Nat) (hj : j < 5) (h : i ≠ j) : anew ad g j a2 na 2 i = ad 2 i := by
  unfold anew
  rw [if_neg (fun z => h z.2), if_neg (fun z => (grp_own (g := g) hj z.1).2.1 rfl)]
theorem gnew_sI (g : CS) {j k i : Nat} (L : Nat → Nat → Int32) (hj : j < 5) (h : clvb g k i = true) (h1 : ¬ (k = 1 ∧ i = j)) : sI (gnew g j L) k i = sI g k i := by
  funext c
  show (if grp j k = true ∧ i = lix j (g.1 j) then L k c else if k = 1 ∧ i = j ∧ c = 0 then g.2.1 k i c + 1 else g.2.1 k i c) = g.2.1 k i c
  rw [if_neg, if_neg (fun z => h1 ⟨z.1, z.2.1⟩)]
  rintro ⟨h3, rfl⟩
  have := (grp_own (g := g) hj h3).1
  rw [show lix j (g.1 j) = lix j (sN g j) from rfl] at h
  rw [this] at h
  cases h
theorem gnew_sJ (g : CS) {j k i : Nat} (L : Nat → Nat → Int32) (hj : j < 5) (h : clvb g k i = true) : sJ (gnew g j L) k i = sJ g k i := by
  funext c
  show (if grp j k = true ∧ i = lix j (g.1 j) then none else g.2.2.1 k i c) = g.2.2.1 k i c
  rw [if_neg]
  rintro ⟨h3, rfl⟩
  have := (grp_own (g := g) hj h3).1
  rw [show lix j (g.1 j) = lix j (sN g j) from rfl] at h
  rw [this] at h
  cases h
theorem gnew_nI (g : CS) {j k : Nat} (L : Nat → Nat → Int32) (h : grp j k = true) : sI (gnew g j L) k (lix j (sN g j)) = L k := by
  funext c
  exact if_pos ⟨h, rfl⟩
theorem gnew_nJ (g : CS) {j k : Nat} (L : Nat → Nat → Int32) (h : grp j k = true) : sJ (gnew g j L) k (lix j (sN g j)) = fun _ => none := by
  funext c
  exact if_pos ⟨h, rfl⟩
theorem gnew_sN (g : CS) {j i : Nat} (L : Nat → Nat → Int32) (h : i ≠ j) : sN (gnew g j L) i = sN g i := if_neg h
theorem gnew_sC (g : CS) {j i : Nat} (L : Nat → Nat → Int32) (h : i ≠ j) : sC (gnew g j L) i = sC g i := if_neg h
theorem gnew_sNj (g : CS) (j : Nat) (L : Nat → Nat → Int32) : sN (gnew g j L) j = sN g j + 1 := if_pos rfl
theorem gnew_sCj (g : CS) (j : Nat) (L : Nat → Nat → Int32) : sC (gnew g j L) j = lcap (sN g j) (sC g j) := if_pos rfl
theorem omap_old {α β : Type} (o : Option α) {f g : α → β} (h : ∀ v, o = some v → f v = g v) : o.map f = o.map g := by
  cases o with
  | none => rfl
  | some v => exact congrArg some (h v rfl)
theorem cent_old (yI yO : ClassId) (ad : Nat → Nat → Nat) {g : CS} {j : Nat} (a2 : Nat) (na : Nat → Nat) (L : Nat → Nat → Int32) (hj : j < 5) (hr : refsOK g) {k i : Nat} (h : clvb g k i = true) (h1 : ¬ (k = 1 ∧ i = j)) (h2 : ¬ (k = 2 ∧ i = j)) : cent yI yO (anew ad g j a2 na) (gnew g j L) k i = cent yI yO ad g k i := by
  unfold cent
  rw [gnew_sI g L hj h h1, gnew_sJ g L hj h]
  have hk := clvb_lt h
  revert h h1 h2
  refine k26 (P := fun k => clvb g k i = true → ¬ (k = 1 ∧ i = j) → ¬ (k = 2 ∧ i = j) → centf yI yO (anew ad g j a2 na) (sN (gnew g j L)) (sC (gnew g j L)) (sI g k i) (sJ g k i) k i = centf yI yO ad (sN g) (sC g) (sI g k i) (sJ g k i) k i) hk ?_ ?_ ?_ ?_ ?_ ?_ ?_ ?_ ?_ ?_ ?_ ?_ ?_ ?_ ?_ ?_ ?_ ?_ ?_ ?_ ?_ ?_ ?_ ?_ ?_ ?_
  all_goals intro h h1 h2
  · simp only [centf]
    rw [anew_old ad na hj (k := 1) (i := 0) (a2 := a2) (by simp [clvb]) (by omega), anew_old ad na hj (k := 1) (i := 1) (a2 := a2) (by simp [clvb]) (by omega), anew_old ad na hj (k := 1) (i := 2) (a2 := a2) (by simp [clvb]) (by omega), anew_old ad na hj (k := 1) (i := 3) (a2 := a2) (by simp [clvb]) (by omega), anew_old ad na hj (k := 1) (i := 4) (a2 := a2) (by simp [clvb]) (by omega), anew_old ad na hj (k := 3) (i := 0) (a2 := a2) (by simp [clvb]) (by omega)]
  · simp only [centf]
    have h3 : i ≠ j := fun z => h1 ⟨rfl, z⟩
    rw [anew_arr2 ad g a2 na hj h3, gnew_sN g L h3]
  · have h3 : i ≠ j := fun z => h2 ⟨rfl, z⟩
    have hi : i < 5 := by simp only [clvb, Bool.and_eq_true, decide_eq_true_eq] at h; exact h.1
    have e : (fun x => if x < sN g i then some (anew ad g j a2 na (lkd i) (lix i x)) else none) = (fun x => if x < sN g i then some (ad (lkd i) (lix i x)) else none) := by
      funext x
      split
      · next hx => rw [anew_old ad na hj (lkd_live hi hx) (fun z => (lkd_ne hi).2 z.1)]
      · rfl
    show (Sum.inl (yO, sC (gnew g j L) i, .inr (.inr (.inr (.inr (fun x => if x < sN (gnew g j L) i then some (anew ad g j a2 na (lkd i) (lix i x)) else none))))) : va_E) = .inl (yO, sC g i, .inr (.inr (.inr (.inr (fun x => if x < sN g i then some (ad (lkd i) (lix i x)) else none)))))
    rw [gnew_sC g L h3, gnew_sN g L h3, e]
  · rfl
  · simp only [centf]
    rw [anew_old ad na hj (k := 8) (i := i) (a2 := a2) h (by omega)]
  · simp only [centf]
    have hp : i < sN g 1 := by simp only [clvb, decide_eq_true_eq] at h; exact h
    rw [anew_old ad na hj (k := 9) (i := i) (a2 := a2) h (by omega), anew_old ad na hj (k := 10) (i := i) (a2 := a2) h (by omega), anew_old ad na hj (k := 24) (i := i) (a2 := a2) h (by omega), anew_old ad na hj (k := 25) (i := i) (a2 := a2) h (by omega), omap_old (sJ g 5 i 9) (fun v hv => anew_old ad na hj (k := 4) (i := v) (a2 := a2) (by simp [clvb, hr.1 i v hp hv]) (by omega)), omap_old (sJ g 5 i 10) (fun v hv => anew_old ad na hj (k := 6) (i := v) (a2 := a2) (by simp [clvb, hr.2.1 i v hp hv]) (by omega))]
  · simp only [centf]
    have hp : i < sN g 2 := by simp only [clvb, decide_eq_true_eq] at h; exact h
    rw [anew_old ad na hj (k := 4) (i := (sI g 6 i 2).toNatClampNeg) (a2 := a2) (by simp [clvb, hr.2.2 i hp]) (by omega)]
  · rfl
  · simp only [centf]
    rw [anew_old ad na hj (k := 16) (i := i) (a2 := a2) h (by omega)]
  · simp only [centf]
    rw [anew_old ad na hj (k := 17) (i := i) (a2 := a2) h (by omega)]
  · simp only [centf]
    rw [anew_old ad na hj (k := 18) (i := i) (a2 := a2) h (by omega)]
  · simp only [centf]
    rw [anew_old ad na hj (k := 19) (i := i) (a2 := a2) h (by omega)]
  · simp only [centf]
    rw [anew_old ad na hj (k := 20) (i := i) (a2 := a2) h (by omega)]
  · simp only [centf]
    rw [anew_old ad na hj (k := 21) (i := i) (a2 := a2) h (by omega)]
  · simp only [centf]
    rw [anew_old ad na hj (k := 22) (i := i) (a2 := a2) h (by omega)]
  · simp only [centf]
    rw [anew_old ad na hj (k := 23) (i := i) (a2 := a2) h (by omega)]
  · rfl
  · rfl
  · rfl
  · rfl
  · rfl
  · rfl
  · rfl
  · rfl
  · simp only [centf]
    rw [anew_old ad na hj (k := 11) (i := i) (a2 := a2) h (by omega), anew_old ad na hj (k := 12) (i := i) (a2 := a2) h (by omega), anew_old ad na hj (k := 13) (i := i) (a2 := a2) h (by omega)]
  · simp only [centf]
    rw [anew_old ad na hj (k := 14) (i := i) (a2 := a2) h (by omega), anew_old ad na hj (k := 15) (i := i) (a2 := a2) h (by omega)]
section CN
variable {s : State} {H : Heap} {locs : List Loc} {D : va_G} {yI yO : ClassId} {z0 : Nat} {ad : Nat → Nat → Nat} {g : CS} {A : Nat → Prop} {ws : va_W}
theorem cX_new {j : Nat} (hj : j < 5) (hr : refsOK g) (hN : nX D yI yO z0 ad g A s H locs ws) (hA : ∀ q, s.heap.size ≤ q → A q) {v i0 : Nat} {e0 : va_E} (hv : ws[i0]? = some (v, e0)) (ix na : Nat → Nat) (L : Nat → Nat → Int32) (hna : na (lkd j) = v)
    (hw : ∀ a2 k, grp j k = true → ws[ix k]? = some (na k, cent yI yO (anew ad g j a2 na) (gnew g j L) k (lix j (sN g j)))) (hinj : ∀ k k', grp j k = true → grp j k' = true → ix k = ix k' → k = k')
    {a2 : Nat} {H1 : Heap} {locs1 : List Loc} (h : addR D yO ad g A s j v e0 H a2 H1 locs1) : cX D yI yO z0 (anew ad g j a2 na) (gnew g j L) A s H1 locs1 := by
  obtain ⟨hX, hP, hD, hnf⟩ := hN
  obtain ⟨r1, r2, r3, r4, r5, r6, r7⟩ := h
  have hl1 : clvb g 1 j = true := by simp [clvb, hj]
  have hl2 : 0 < sC g j → clvb g 2 j = true := fun z => by simp [clvb, hj, z]
  have hcls : ∀ k i, clvb (gnew g j L) k i = true → (clvb g k i = true ∧ ¬ (k = 2 ∧ i = j) ∧ anew ad g j a2 na k i = ad k i) ∨ (grp j k = true ∧ i = lix j (sN g j) ∧ anew ad g j a2 na k i = na k) ∨ (k = 2 ∧ i = j ∧ anew ad g j a2 na k i = a2) := by
    intro k i hki
    by_cases h2 : k = 2 ∧ i = j
    · obtain ⟨rfl, rfl⟩ := h2
      exact Or.inr (Or.inr ⟨rfl, rfl, anew_arr ad g i a2 na⟩)
    · rcases (clvb_new g hj L k i).mp hki with h | ⟨h, rfl⟩ | h
      · exact Or.inl ⟨h, h2, anew_old ad na hj h h2⟩
      · exact Or.inr (Or.inl ⟨h, rfl, anew_new ad a2 na hj h⟩)
      · exact absurd h h2
  have hnlt : ∀ k, grp j k = true → na k < H.size := fun k hk => (hP _ _ (hw a2 k hk)).lt
  have hnF : ∀ k, grp j k = true → ¬ cF ad g (na k) := fun k hk => hnf _ _ (hw a2 k hk)
  have ha2o : ∀ k i, clvb g k i = true → ¬ (k = 2 ∧ i = j) → ad k i ≠ a2 := by
    intro k i h1 h2 e
    rcases r5 with ⟨e1, z⟩ | z
    · exact h2 (hX.1.2.1 k i 2 j h1 (hl2 z) (e.trans e1))
    · have := (hX.1.1 k i h1).lt
      simp only at this
      omega
  have ha2n : ∀ k, grp j k = true → na k ≠ a2 := by
    intro k hk e
    rcases r5 with ⟨e1, z⟩ | z
    · exact hnF k hk ⟨2, j, hl2 z, (e.trans e1).symm⟩
    · have := hnlt k hk
      omega
  refine ⟨⟨fun k i hki => ?_, fun k i k' i' hki hki' he => ?_, fun i hi hc => ?_⟩, fun k i hki => ?_, r7⟩
  · rcases hcls k i hki with ⟨h1, h2, e⟩ | ⟨h1, rfl, e⟩ | ⟨rfl, rfl, e⟩
    · rw [e]
      by_cases h3 : k = 1 ∧ i = j
      · obtain ⟨rfl, rfl⟩ := h3
        have e9 : cent yI yO (anew ad g i a2 na) (gnew g i L) 1 i = .inr (0, [.int (sI g 1 i 0 + 1), .ref a2, .int (nI (sN g i + 1))]) := by
          unfold cent
          simp only [centf]
          rw [anew_arr, gnew_sNj]
          have e8 : sI (gnew g i L) 1 i 0 = sI g 1 i 0 + 1 := by
            show (if grp i 1 = true ∧ i = lix i (g.1 i) then L 1 0 else if 1 = 1 ∧ i = i ∧ 0 = 0 then g.2.1 1 i 0 + 1 else g.2.1 1 i 0) = g.2.1 1 i 0 + 1
            rw [if_neg (fun z => (grp_own (g := g) hj z.1).2.2 rfl), if_pos ⟨rfl, rfl, rfl⟩]
          rw [e8]
        rw [e9]
        exact r1
      · rw [cent_old yI yO ad a2 na L hj hr h1 h3 h2]
        have h4 := hX.1.1 k i h1
        refine h4.kept (r4 _ h4.lt (fun z => h3 (hX.1.2.1 k i 1 j h1 hl1 z)) (fun z => ?_) (fun z => ?_))
        · exact hnf i0 _ hv ⟨k, i, h1, z⟩
        · rcases Nat.eq_zero_or_pos (sC g j) with z9 | z9
          · exact z9
          · exact absurd (hX.1.2.1 k i 2 j h1 (hl2 z9) z) h2
    · rw [e]
      have h4 := hw a2 k h1
      have h5 := hP _ _ h4
      by_cases h6 : na k = v
      · have h7 : ix k = i0 := hD.1 _ _ _ _ h4 hv h6
        rw [h7, hv] at h4
        have h8 := (Prod.mk.inj (Option.some.inj h4)).2
        rw [← h8, h6]
        exact r3
      · refine h5.kept (r4 _ h5.lt (fun z => hnF k h1 ⟨1, j, hl1, z.symm⟩) h6 (fun z => ?_))
        rcases Nat.eq_zero_or_pos (sC g j) with z9 | z9
        · exact z9
        · exact absurd ⟨2, j, hl2 z9, z.symm⟩ (hnF k h1)
    · rw [e]
      have e9 : cent yI yO (anew ad g i a2 na) (gnew g i L) 2 i = .inl (yO, rfs (lcap (sN g i) (sC g i)) (fun x => if x = sN g i then some v else if x < sN g i then some (ad (lkd i) (lix i x)) else none)) := by
        have e8 : (fun x => if x < sN (gnew g i L) i then some (anew ad g i a2 na (lkd i) (lix i x)) else none) = (fun x => if x = sN g i then some v else if x < sN g i then some (ad (lkd i) (lix i x)) else none) := by
          funext x
          rw [gnew_sNj]
          by_cases hx : x = sN g i
          · subst hx
            rw [if_pos (Nat.lt_succ_self _), if_pos rfl, anew_new ad a2 na hj (lkd_grp hj), hna]
          · rw [if_neg hx]
            by_cases hx2 : x < sN g i
            · rw [if_pos (by omega), if_pos hx2, anew_old ad na hj (lkd_live hj hx2) (fun z => (lkd_ne hj).2 z.1)]
            · rw [if_neg (by omega), if_neg hx2]
        show (Sum.inl (yO, sC (gnew g i L) i, .inr (.inr (.inr (.inr (fun x => if x < sN (gnew g i L) i then some (anew ad g i a2 na (lkd i) (lix i x)) else none))))) : va_E) = _
        rw [e8, gnew_sCj]
        rfl
      rw [e9]
      exact r2
  · rcases hcls k i hki with ⟨h1, h2, e⟩ | ⟨h1, rfl, e⟩ | ⟨rfl, rfl, e⟩ <;> rcases hcls k' i' hki' with ⟨h1', h2', e'⟩ | ⟨h1', rfl, e'⟩ | ⟨rfl, rfl, e'⟩ <;> replace he := e.symm.trans (he.trans e')
    · exact hX.1.2.1 k i k' i' h1 h1' he
    · exact absurd ⟨k, i, h1, he⟩ (hnF k' h1')
    · exact absurd he (ha2o k i h1 h2)
    · exact absurd ⟨k', i', h1', he.symm⟩ (hnF k h1)
    · exact ⟨hinj k k' h1 h1' (hD.1 _ _ _ _ (hw a2 k h1) (hw a2 k' h1') he), rfl⟩
    · exact absurd he (ha2n k h1)
    · exact absurd he.symm (ha2o k' i' h1' h2')
    · exact absurd he.symm (ha2n k' h1')
    · exact ⟨rfl, rfl⟩
  · by_cases h3 : i = j
    · subst h3
      rw [gnew_sCj] at hc
      exact absurd hc (Nat.ne_of_gt (lcap_pos _ _))
    · rw [anew_arr2 ad g a2 na hj h3]
      rw [gnew_sC g L h3] at hc
      exact hX.1.2.2 i hi hc
  · rcases hcls k i hki with ⟨h1, h2, e⟩ | ⟨h1, rfl, e⟩ | ⟨rfl, rfl, e⟩ <;> rw [e]
    · exact hX.2.1 k i h1
    · exact hD.2 _ _ (hw a2 k h1)
    · rcases r5 with ⟨e1, z⟩ | z
      · rw [e1]; exact hX.2.1 2 i (hl2 z)
      · exact hA a2 (Nat.le_trans hX.2.2.1 z)
end CN
