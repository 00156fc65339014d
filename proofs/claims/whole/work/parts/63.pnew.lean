/-! ===== new objects ===== -/
theorem gN_s (g : CS) (j : Nat) (L : Nat → Nat → Int32) : sN (gnew g j L) j = sN g j + 1 := if_pos rfl
theorem gN_n (g : CS) {j i : Nat} (L : Nat → Nat → Int32) (h : i ≠ j) : sN (gnew g j L) i = sN g i := if_neg h
theorem gC_n (g : CS) {j i : Nat} (L : Nat → Nat → Int32) (h : i ≠ j) : sC (gnew g j L) i = sC g i := if_neg h
theorem gC_s (g : CS) (j : Nat) (L : Nat → Nat → Int32) : sC (gnew g j L) j = lcap (sN g j) (sC g j) := if_pos rfl
theorem gI_s (g : CS) {j a : Nat} (L : Nat → Nat → Int32) (h : grp j a = true) {b : Nat} (hb : b = lix j (sN g j)) (c : Nat) : sI (gnew g j L) a b c = L a c := if_pos ⟨h, hb⟩
theorem gI_n (g : CS) {j a b : Nat} (L : Nat → Nat → Int32) (h : ¬ (grp j a = true ∧ b = lix j (sN g j))) (h1 : a ≠ 1) (c : Nat) : sI (gnew g j L) a b c = sI g a b c := (if_neg h).trans (if_neg (fun z => h1 z.1))
theorem gJ_s (g : CS) {j a : Nat} (L : Nat → Nat → Int32) (h : grp j a = true) {b : Nat} (hb : b = lix j (sN g j)) (c : Nat) : sJ (gnew g j L) a b c = none := if_pos ⟨h, hb⟩
theorem gJ_n (g : CS) {j a b : Nat} (L : Nat → Nat → Int32) (h : ¬ (grp j a = true ∧ b = lix j (sN g j))) (c : Nat) : sJ (gnew g j L) a b c = sJ g a b c := if_neg h
theorem gC_ok {t : Nat} {g : CS} {u : MS} (h : aC t g u) {j : Nat} (L : Nat → Nat → Int32) (hN : sN g j ≤ 60) (hj : j < 5) (u2 : MS) : aC t (gnew g j L) u2 := by
  intro i hi
  by_cases e : i = j
  · subst e
    have := h i hi
    rw [gN_s, gC_s]
    unfold lcap
    split
    · omega
    · split
      · omega
      · have e8 : sC g i + 1 ≤ lnew (sC g i) ∧ lnew (sC g i) ≤ sC g i + sC g i / 2 + 1 := by
          unfold lnew
          split <;> omega
        omega
  · rw [gN_n g L e, gC_n g L e]
    exact h i hi
theorem up_land {t : Nat} {g : CS} {u : MS} (h : R0 t g u) (h8 : sN g 0 < 8) (b1 b2 b3 : Bool) (x4 : Int32) : R0 t (gnew g 0 (LLand (nI (sN g 0)) (zB b1) (zB b2) (zB b3) x4)) (mup (mup (mup (mup (mup u 3 (sN g 0) (zB b1)) 4 (sN g 0) (zB b2)) 5 (sN g 0) (zB b3)) 6 (sN g 0) x4) 2 0 (nI (sN g 0 + 1))) := by
  have E0 : sN (gnew g 0 (LLand (nI (sN g 0)) (zB b1) (zB b2) (zB b3) x4)) 0 = sN g 0 + 1 := gN_s g _ _
  have E1 : sN (gnew g 0 (LLand (nI (sN g 0)) (zB b1) (zB b2) (zB b3) x4)) 1 = sN g 1 := gN_n g _ (by decide)
  have E2 : sN (gnew g 0 (LLand (nI (sN g 0)) (zB b1) (zB b2) (zB b3) x4)) 2 = sN g 2 := gN_n g _ (by decide)
  have E3 : sN (gnew g 0 (LLand (nI (sN g 0)) (zB b1) (zB b2) (zB b3) x4)) 3 = sN g 3 := gN_n g _ (by decide)
  have E4 : sN (gnew g 0 (LLand (nI (sN g 0)) (zB b1) (zB b2) (zB b3) x4)) 4 = sN g 4 := gN_n g _ (by decide)
  obtain ⟨n0, v0, n1, v1, n2, v2, n3, v3, n4, v4⟩ := h.aN
  refine ⟨?_, ?_, ?_, ?_, ?_, ?_, ?_, ?_, ?_, ?_, ?_, ?_, ?_, ?_, ?_, ?_, ?_, ?_, ?_, ?_, ?_, ?_⟩
  · exact aT_c (t := t) (u := u) h.aT (gI_n g _ (by simp [grp]) (by decide) _) (by funext j; simp [mup])
  · unfold aN
    rw [E0, E1, E2, E3, E4]
    exact ⟨by omega, by simp [mup], n1, by simpa [mup] using v1, n2, by simpa [mup] using v2, n3, by simpa [mup] using v3, n4, by simpa [mup] using v4⟩
  · exact gC_ok (u := u) h.aC _ (by omega) (by decide) _
  · intro k hk
    rw [E0] at hk
    by_cases e : k = sN g 0
    · subst e
      have q : ∀ c, sI (gnew g 0 (LLand (nI (sN g 0)) (zB b1) (zB b2) (zB b3) x4)) 4 (sN g 0) c = (LLand (nI (sN g 0)) (zB b1) (zB b2) (zB b3) x4) 4 c := fun c => gI_s g _ (by decide) rfl c
      exact ⟨by rw [q]; rfl, ⟨b1, by rw [q]; rfl, by simp [mup]⟩, ⟨b2, by rw [q]; rfl, by simp [mup]⟩, ⟨b3, by rw [q]; rfl, by simp [mup]⟩, by rw [q]; simp [mup, LLand]⟩
    · have q : ∀ c, sI (gnew g 0 (LLand (nI (sN g 0)) (zB b1) (zB b2) (zB b3) x4)) 4 k c = sI g 4 k c := fun c => gI_n g _ (fun z => e z.2) (by decide) c
      simp only [q]
      have h9 := h.aL k (by omega)
      simpa [mup, e] using h9
  · intro k hk
    obtain ⟨h1, h2⟩ := h.aW k hk
    by_cases e : k = sN g 0
    · subst e
      have q : ∀ c, sI (gnew g 0 (LLand (nI (sN g 0)) (zB b1) (zB b2) (zB b3) x4)) 4 (sN g 0) c = (LLand (nI (sN g 0)) (zB b1) (zB b2) (zB b3) x4) 4 c := fun c => gI_s g _ (by decide) rfl c
      refine ⟨fun _ => ⟨fun n hn => ?_, fun n _ => ?_⟩, fun z => absurd z (by rw [E0]; omega)⟩
      · rw [q]
        show _ = zB (hb 0 n)
        rw [hb_z]
        simpa [mup, zB] using h2 (Nat.le_refl _) n hn
      · rw [q]; exact hb_z n
    · have q : ∀ c, sI (gnew g 0 (LLand (nI (sN g 0)) (zB b1) (zB b2) (zB b3) x4)) 4 k c = sI g 4 k c := fun c => gI_n g _ (fun z => e z.2) (by decide) c
      refine ⟨fun z => ?_, fun z n hn => ?_⟩
      · rw [E0] at z
        simp only [q]
        obtain ⟨a, b⟩ := h1 (by omega)
        exact ⟨fun n hn => by simpa [mup] using a n hn, fun n hn => b n (by rw [E0] at hn; omega)⟩
      · rw [E0] at z
        simpa [mup] using h2 (by omega) n hn
  · intro k hk j hj
    obtain ⟨h1, h2⟩ := h.aU k hk j hj
    by_cases e : k = sN g 0
    · subst e
      have q : ∀ c, sI (gnew g 0 (LLand (nI (sN g 0)) (zB b1) (zB b2) (zB b3) x4)) 16 (sN g 0) c = (LLand (nI (sN g 0)) (zB b1) (zB b2) (zB b3) x4) 16 c := fun c => gI_s g _ (by decide) rfl c
      refine ⟨fun _ => ?_, fun z => absurd z (by rw [E0]; omega)⟩
      rw [q]
      show _ = kfill 3 0 j
      have h9 : kfill 3 0 j = 0 := by unfold kfill; split <;> rfl
      rw [h9]
      simpa [mup] using h2 (Nat.le_refl _)
    · have q : ∀ c, sI (gnew g 0 (LLand (nI (sN g 0)) (zB b1) (zB b2) (zB b3) x4)) 16 k c = sI g 16 k c := fun c => gI_n g _ (fun z => e z.2) (by decide) c
      refine ⟨fun z => ?_, fun z => ?_⟩
      · rw [E0] at z
        rw [q]
        simpa [mup] using h1 (by omega)
      · rw [E0] at z
        simpa [mup] using h2 (by omega)
  · exact aR_c (t := t) (u := u) h.aR (gN_n g _ (by decide)) (fun _ => gI_n g _ (by simp [grp]) (by decide) _) (fun _ => gI_n g _ (by simp [grp]) (by decide) _) (fun _ => gI_n g _ (by simp [grp]) (by decide) _) (by funext j; simp [mup]) (by funext j; simp [mup]) (by funext j; simp [mup])
  · exact aP_c (t := t) (u := u) h.aP (gN_n g _ (by decide)) (fun _ => gI_n g _ (by simp [grp]) (by decide) _) (fun _ => gI_n g _ (by simp [grp]) (by decide) _) (fun _ => gI_n g _ (by simp [grp]) (by decide) _) (fun _ => gI_n g _ (by simp [grp]) (by decide) _) (by funext j; simp [mup]) (by funext j; simp [mup]) (by funext j; simp [mup])
  · exact aA_c (t := t) (u := u) h.aA (gN_n g _ (by decide)) (fun _ => gI_n g _ (by simp [grp]) (by decide) _) (by funext j; simp [mup])
  · intro p hp
    rw [E1] at hp
    rw [show sJ (gnew g 0 (LLand (nI (sN g 0)) (zB b1) (zB b2) (zB b3) x4)) 5 p 9 = sJ g 5 p 9 from gJ_n g _ (by simp [grp]) _, E0]
    rcases h.aH p hp with ⟨a, b⟩ | ⟨l, hl, a, b⟩
    · exact Or.inl ⟨a, by simpa [mup] using b⟩
    · exact Or.inr ⟨l, by omega, a, by simpa [mup] using b⟩
  · exact aI_c (t := t) (u := u) h.aI (gN_n g _ (by decide)) (gN_n g _ (by decide)) (fun _ => gJ_n g _ (by simp [grp]) _) (by funext j; simp [mup])
  · exact aS_c (t := t) (u := u) h.aS (gN_n g _ (by decide)) (fun _ => gI_n g _ (by simp [grp]) (by decide) _) (by funext j; simp [mup])
  · exact aE_c (t := t) (u := u) h.aE (gN_n g _ (by decide)) (fun _ => gI_n g _ (by simp [grp]) (by decide) _) (by funext j; simp [mup])
  · intro p hp d hd
    obtain ⟨h1, h2⟩ := h.aD p hp d hd
    have q : ∀ c, sI (gnew g 0 (LLand (nI (sN g 0)) (zB b1) (zB b2) (zB b3) x4)) 17 p c = sI g 17 p c := fun c => gI_n g _ (by simp [grp]) (by decide) c
    rw [q, E1, E0]
    refine ⟨fun z => ?_, fun z => by simpa [mup] using h2 z⟩
    obtain ⟨a, ⟨m, m1, m2, m3⟩, b⟩ := h1 z
    exact ⟨by simpa [mup] using a, ⟨m, m1, by omega, m3⟩, b⟩
  · exact aM_c (t := t) (u := u) h.aM (gN_n g _ (by decide)) (fun _ _ => gI_n g _ (by simp [grp]) (by decide) _) (fun _ _ => gI_n g _ (by simp [grp]) (by decide) _) (by funext j; simp [mup]) (by funext j; simp [mup])
  · exact aB_c (t := t) (u := u) h.aB (gN_n g _ (by decide)) (fun _ _ => gI_n g _ (by simp [grp]) (by decide) _) (fun _ _ => gI_n g _ (by simp [grp]) (by decide) _) (fun _ _ => gI_n g _ (by simp [grp]) (by decide) _) (by funext j; simp [mup]) (by funext j; simp [mup]) (by funext j; simp [mup])
  · intro v hv
    rw [E2] at hv
    have q : ∀ c, sI (gnew g 0 (LLand (nI (sN g 0)) (zB b1) (zB b2) (zB b3) x4)) 6 v c = sI g 6 v c := fun c => gI_n g _ (by simp [grp]) (by decide) c
    simp only [q, E0]
    obtain ⟨a1, a2, ⟨l, l1, l2, l3⟩, a4, a5⟩ := h.aV v hv
    exact ⟨a1, by simpa [mup] using a2, ⟨l, by omega, l2, by simpa [mup] using l3⟩, by simpa [mup] using a4, by simpa [mup] using a5⟩
  · exact aX_c (t := t) (u := u) h.aX (gN_n g _ (by decide)) (fun _ => gI_n g _ (by simp [grp]) (by decide) _) (fun _ => gI_n g _ (by simp [grp]) (by decide) _) (fun _ => gI_n g _ (by simp [grp]) (by decide) _) (by funext j; simp [mup]) (by funext j; simp [mup]) (by funext j; simp [mup])
  · intro r hr
    rw [E3] at hr
    have q : ∀ c, sI (gnew g 0 (LLand (nI (sN g 0)) (zB b1) (zB b2) (zB b3) x4)) 7 r c = sI g 7 r c := fun c => gI_n g _ (by simp [grp]) (by decide) c
    simp only [q, E0, E1]
    obtain ⟨a1, a2, ⟨l, l1, l2, l3⟩, a4, a5, a6⟩ := h.aQ r hr
    exact ⟨a1, by simpa [mup] using a2, ⟨l, by omega, l2, by simpa [mup] using l3⟩, by simpa [mup] using a4, by simpa [mup] using a5, a6⟩
  · exact aO_c (t := t) (u := u) h.aO (gN_n g _ (by decide)) (fun _ => gI_n g _ (by simp [grp]) (by decide) _)
  · exact aZ_c (t := t) (u := u) h.aZ (gN_n g _ (by decide)) (fun _ => gI_n g _ (by simp [grp]) (by decide) _) (fun _ => gI_n g _ (by simp [grp]) (by decide) _) (by funext j; simp [mup]) (by funext j; simp [mup])
  · exact aF_c (t := t) (u := u) h.aF (gN_n g _ (by decide)) (gN_n g _ (by decide)) (fun _ => gI_n g _ (by simp [grp]) (by decide) _) (by funext j; simp [mup]) (by funext j; simp [mup])
theorem up_rule {t : Nat} {g : CS} {u : MS} (h : R0 t g u) (h9 : sN g 4 < 9) (x1 x2 : Int32) {w : Nat} (hw : 1 ≤ w ∧ w ≤ 360) : R0 t (gnew g 4 (LRule x1 x2 (nI w))) (mup (mup (mup (mup u 10 (sN g 4 + 1) x1) 11 (sN g 4 + 1) x2) 12 (sN g 4 + 1) (nI w)) 9 0 (nI (sN g 4 + 1 + 1))) := by
  have E0 : sN (gnew g 4 (LRule x1 x2 (nI w))) 0 = sN g 0 := gN_n g _ (by decide)
  have E1 : sN (gnew g 4 (LRule x1 x2 (nI w))) 1 = sN g 1 := gN_n g _ (by decide)
  have E2 : sN (gnew g 4 (LRule x1 x2 (nI w))) 2 = sN g 2 := gN_n g _ (by decide)
  have E3 : sN (gnew g 4 (LRule x1 x2 (nI w))) 3 = sN g 3 := gN_n g _ (by decide)
  have E4 : sN (gnew g 4 (LRule x1 x2 (nI w))) 4 = sN g 4 + 1 := gN_s g _ _
  obtain ⟨n0, v0, n1, v1, n2, v2, n3, v3, n4, v4⟩ := h.aN
  refine ⟨?_, ?_, ?_, ?_, ?_, ?_, ?_, ?_, ?_, ?_, ?_, ?_, ?_, ?_, ?_, ?_, ?_, ?_, ?_, ?_, ?_, ?_⟩
  · exact aT_c (t := t) (u := u) h.aT (gI_n g _ (by simp [grp]) (by decide) _) (by funext j; simp [mup])
  · unfold aN
    rw [E0, E1, E2, E3, E4]
    exact ⟨n0, by simpa [mup] using v0, n1, by simpa [mup] using v1, n2, by simpa [mup] using v2, n3, by simpa [mup] using v3, by omega, by simp [mup]⟩
  · exact gC_ok (u := u) h.aC _ (by omega) (by decide) _
  · exact aL_c (t := t) (u := u) h.aL (gN_n g _ (by decide)) (fun _ => gI_n g _ (by simp [grp]) (by decide) _) (fun _ => gI_n g _ (by simp [grp]) (by decide) _) (fun _ => gI_n g _ (by simp [grp]) (by decide) _) (fun _ => gI_n g _ (by simp [grp]) (by decide) _) (fun _ => gI_n g _ (by simp [grp]) (by decide) _) (by funext j; simp [mup]) (by funext j; simp [mup]) (by funext j; simp [mup]) (by funext j; simp [mup])
  · exact aW_c (t := t) (u := u) h.aW (gN_n g _ (by decide)) (fun _ => gI_n g _ (by simp [grp]) (by decide) _) (by funext j; simp [mup])
  · exact aU_c (t := t) (u := u) h.aU (gN_n g _ (by decide)) (fun _ _ => gI_n g _ (by simp [grp]) (by decide) _) (by funext j; simp [mup])
  · intro k hk
    rw [E4] at hk
    by_cases e : k = sN g 4 + 1
    · subst e
      have q : ∀ c, sI (gnew g 4 (LRule x1 x2 (nI w))) 3 (sN g 4 + 1) c = (LRule x1 x2 (nI w)) 3 c := fun c => gI_s g _ (by decide) rfl c
      exact ⟨by rw [q]; simp [mup, LRule], by rw [q]; simp [mup, LRule], w, hw.1, hw.2, by rw [q]; rfl, by simp [mup]⟩
    · have q : ∀ c, sI (gnew g 4 (LRule x1 x2 (nI w))) 3 k c = sI g 3 k c := fun c => gI_n g _ (fun z => e z.2) (by decide) c
      simp only [q]
      have h9 := h.aR k (by omega)
      simpa [mup, e] using h9
  · exact aP_c (t := t) (u := u) h.aP (gN_n g _ (by decide)) (fun _ => gI_n g _ (by simp [grp]) (by decide) _) (fun _ => gI_n g _ (by simp [grp]) (by decide) _) (fun _ => gI_n g _ (by simp [grp]) (by decide) _) (fun _ => gI_n g _ (by simp [grp]) (by decide) _) (by funext j; simp [mup]) (by funext j; simp [mup]) (by funext j; simp [mup])
  · exact aA_c (t := t) (u := u) h.aA (gN_n g _ (by decide)) (fun _ => gI_n g _ (by simp [grp]) (by decide) _) (by funext j; simp [mup])
  · exact aH_c (t := t) (u := u) h.aH (gN_n g _ (by decide)) (gN_n g _ (by decide)) (fun _ => gJ_n g _ (by simp [grp]) _) (by funext j; simp [mup])
  · exact aI_c (t := t) (u := u) h.aI (gN_n g _ (by decide)) (gN_n g _ (by decide)) (fun _ => gJ_n g _ (by simp [grp]) _) (by funext j; simp [mup])
  · exact aS_c (t := t) (u := u) h.aS (gN_n g _ (by decide)) (fun _ => gI_n g _ (by simp [grp]) (by decide) _) (by funext j; simp [mup])
  · exact aE_c (t := t) (u := u) h.aE (gN_n g _ (by decide)) (fun _ => gI_n g _ (by simp [grp]) (by decide) _) (by funext j; simp [mup])
  · exact aD_c (t := t) (u := u) h.aD (gN_n g _ (by decide)) (gN_n g _ (by decide)) (fun _ _ => gI_n g _ (by simp [grp]) (by decide) _) (by funext j; simp [mup])
  · exact aM_c (t := t) (u := u) h.aM (gN_n g _ (by decide)) (fun _ _ => gI_n g _ (by simp [grp]) (by decide) _) (fun _ _ => gI_n g _ (by simp [grp]) (by decide) _) (by funext j; simp [mup]) (by funext j; simp [mup])
  · exact aB_c (t := t) (u := u) h.aB (gN_n g _ (by decide)) (fun _ _ => gI_n g _ (by simp [grp]) (by decide) _) (fun _ _ => gI_n g _ (by simp [grp]) (by decide) _) (fun _ _ => gI_n g _ (by simp [grp]) (by decide) _) (by funext j; simp [mup]) (by funext j; simp [mup]) (by funext j; simp [mup])
  · exact aV_c (t := t) (u := u) h.aV (gN_n g _ (by decide)) (gN_n g _ (by decide)) (fun _ => gI_n g _ (by simp [grp]) (by decide) _) (fun _ => gI_n g _ (by simp [grp]) (by decide) _) (fun _ => gI_n g _ (by simp [grp]) (by decide) _) (fun _ => gI_n g _ (by simp [grp]) (by decide) _) (fun _ => gI_n g _ (by simp [grp]) (by decide) _) (by funext j; simp [mup]) (by funext j; simp [mup]) (by funext j; simp [mup]) (by funext j; simp [mup])
  · exact aX_c (t := t) (u := u) h.aX (gN_n g _ (by decide)) (fun _ => gI_n g _ (by simp [grp]) (by decide) _) (fun _ => gI_n g _ (by simp [grp]) (by decide) _) (fun _ => gI_n g _ (by simp [grp]) (by decide) _) (by funext j; simp [mup]) (by funext j; simp [mup]) (by funext j; simp [mup])
  · exact aQ_c (t := t) (u := u) h.aQ (gN_n g _ (by decide)) (gN_n g _ (by decide)) (gN_n g _ (by decide)) (fun _ => gI_n g _ (by simp [grp]) (by decide) _) (fun _ => gI_n g _ (by simp [grp]) (by decide) _) (fun _ => gI_n g _ (by simp [grp]) (by decide) _) (fun _ => gI_n g _ (by simp [grp]) (by decide) _) (fun _ => gI_n g _ (by simp [grp]) (by decide) _) (by funext j; simp [mup]) (by funext j; simp [mup]) (by funext j; simp [mup]) (by funext j; simp [mup])
  · exact aO_c (t := t) (u := u) h.aO (gN_n g _ (by decide)) (fun _ => gI_n g _ (by simp [grp]) (by decide) _)
  · exact aZ_c (t := t) (u := u) h.aZ (gN_n g _ (by decide)) (fun _ => gI_n g _ (by simp [grp]) (by decide) _) (fun _ => gI_n g _ (by simp [grp]) (by decide) _) (by funext j; simp [mup]) (by funext j; simp [mup])
  · exact aF_c (t := t) (u := u) h.aF (gN_n g _ (by decide)) (gN_n g _ (by decide)) (fun _ => gI_n g _ (by simp [grp]) (by decide) _) (by funext j; simp [mup]) (by funext j; simp [mup])
theorem up_visa {t : Nat} {g : CS} {u : MS} (h : R0 t g u) (h60 : sN g 2 < 60) (x1 : Int32) {l : Nat} (hl : l < sN g 0) (x3 x4 x5 x6 : Int32) : R0 t (gnew g 2 (LVisa (nI (sN g 2)) x1 l x3 x4 x5 x6)) (mup (mup (mup (mup (mup (mup (mup (mup u 29 (sN g 2) x1) 30 (sN g 2) (nI l)) 31 (sN g 2) x3) 32 (sN g 2) x4) 33 (sN g 2) x5) 34 (sN g 2) x6) 35 (sN g 2) (-1)) 28 0 (nI (sN g 2 + 1))) := by
  have E0 : sN (gnew g 2 (LVisa (nI (sN g 2)) x1 l x3 x4 x5 x6)) 0 = sN g 0 := gN_n g _ (by decide)
  have E1 : sN (gnew g 2 (LVisa (nI (sN g 2)) x1 l x3 x4 x5 x6)) 1 = sN g 1 := gN_n g _ (by decide)
  have E2 : sN (gnew g 2 (LVisa (nI (sN g 2)) x1 l x3 x4 x5 x6)) 2 = sN g 2 + 1 := gN_s g _ _
  have E3 : sN (gnew g 2 (LVisa (nI (sN g 2)) x1 l x3 x4 x5 x6)) 3 = sN g 3 := gN_n g _ (by decide)
  have E4 : sN (gnew g 2 (LVisa (nI (sN g 2)) x1 l x3 x4 x5 x6)) 4 = sN g 4 := gN_n g _ (by decide)
  obtain ⟨n0, v0, n1, v1, n2, v2, n3, v3, n4, v4⟩ := h.aN
  refine ⟨?_, ?_, ?_, ?_, ?_, ?_, ?_, ?_, ?_, ?_, ?_, ?_, ?_, ?_, ?_, ?_, ?_, ?_, ?_, ?_, ?_, ?_⟩
  · exact aT_c (t := t) (u := u) h.aT (gI_n g _ (by simp [grp]) (by decide) _) (by funext j; simp [mup])
  · unfold aN
    rw [E0, E1, E2, E3, E4]
    exact ⟨n0, by simpa [mup] using v0, n1, by simpa [mup] using v1, by omega, by simp [mup], n3, by simpa [mup] using v3, n4, by simpa [mup] using v4⟩
  · exact gC_ok (u := u) h.aC _ (by omega) (by decide) _
  · exact aL_c (t := t) (u := u) h.aL (gN_n g _ (by decide)) (fun _ => gI_n g _ (by simp [grp]) (by decide) _) (fun _ => gI_n g _ (by simp [grp]) (by decide) _) (fun _ => gI_n g _ (by simp [grp]) (by decide) _) (fun _ => gI_n g _ (by simp [grp]) (by decide) _) (fun _ => gI_n g _ (by simp [grp]) (by decide) _) (by funext j; simp [mup]) (by funext j; simp [mup]) (by funext j; simp [mup]) (by funext j; simp [mup])
  · exact aW_c (t := t) (u := u) h.aW (gN_n g _ (by decide)) (fun _ => gI_n g _ (by simp [grp]) (by decide) _) (by funext j; simp [mup])
  · exact aU_c (t := t) (u := u) h.aU (gN_n g _ (by decide)) (fun _ _ => gI_n g _ (by simp [grp]) (by decide) _) (by funext j; simp [mup])
  · exact aR_c (t := t) (u := u) h.aR (gN_n g _ (by decide)) (fun _ => gI_n g _ (by simp [grp]) (by decide) _) (fun _ => gI_n g _ (by simp [grp]) (by decide) _) (fun _ => gI_n g _ (by simp [grp]) (by decide) _) (by funext j; simp [mup]) (by funext j; simp [mup]) (by funext j; simp [mup])
  · exact aP_c (t := t) (u := u) h.aP (gN_n g _ (by decide)) (fun _ => gI_n g _ (by simp [grp]) (by decide) _) (fun _ => gI_n g _ (by simp [grp]) (by decide) _) (fun _ => gI_n g _ (by simp [grp]) (by decide) _) (fun _ => gI_n g _ (by simp [grp]) (by decide) _) (by funext j; simp [mup]) (by funext j; simp [mup]) (by funext j; simp [mup])
  · exact aA_c (t := t) (u := u) h.aA (gN_n g _ (by decide)) (fun _ => gI_n g _ (by simp [grp]) (by decide) _) (by funext j; simp [mup])
  · exact aH_c (t := t) (u := u) h.aH (gN_n g _ (by decide)) (gN_n g _ (by decide)) (fun _ => gJ_n g _ (by simp [grp]) _) (by funext j; simp [mup])
  · intro p hp
    rw [E1] at hp
    rw [show sJ (gnew g 2 (LVisa (nI (sN g 2)) x1 l x3 x4 x5 x6)) 5 p 10 = sJ g 5 p 10 from gJ_n g _ (by simp [grp]) _, E2]
    rcases h.aI p hp with ⟨a, b⟩ | ⟨l, hl, a, b⟩
    · exact Or.inl ⟨a, by simpa [mup] using b⟩
    · exact Or.inr ⟨l, by omega, a, by simpa [mup] using b⟩
  · exact aS_c (t := t) (u := u) h.aS (gN_n g _ (by decide)) (fun _ => gI_n g _ (by simp [grp]) (by decide) _) (by funext j; simp [mup])
  · exact aE_c (t := t) (u := u) h.aE (gN_n g _ (by decide)) (fun _ => gI_n g _ (by simp [grp]) (by decide) _) (by funext j; simp [mup])
  · exact aD_c (t := t) (u := u) h.aD (gN_n g _ (by decide)) (gN_n g _ (by decide)) (fun _ _ => gI_n g _ (by simp [grp]) (by decide) _) (by funext j; simp [mup])
  · exact aM_c (t := t) (u := u) h.aM (gN_n g _ (by decide)) (fun _ _ => gI_n g _ (by simp [grp]) (by decide) _) (fun _ _ => gI_n g _ (by simp [grp]) (by decide) _) (by funext j; simp [mup]) (by funext j; simp [mup])
  · exact aB_c (t := t) (u := u) h.aB (gN_n g _ (by decide)) (fun _ _ => gI_n g _ (by simp [grp]) (by decide) _) (fun _ _ => gI_n g _ (by simp [grp]) (by decide) _) (fun _ _ => gI_n g _ (by simp [grp]) (by decide) _) (by funext j; simp [mup]) (by funext j; simp [mup]) (by funext j; simp [mup])
  · intro k hk
    rw [E2] at hk
    by_cases e : k = sN g 2
    · subst e
      have q : ∀ c, sI (gnew g 2 (LVisa (nI (sN g 2)) x1 l x3 x4 x5 x6)) 6 (sN g 2) c = (LVisa (nI (sN g 2)) x1 l x3 x4 x5 x6) 6 c := fun c => gI_s g _ (by decide) rfl c
      exact ⟨by rw [q]; rfl, by rw [q]; simp [mup, LVisa], ⟨l, by rw [E0]; exact hl, by rw [q]; rfl, by simp [mup]⟩, by rw [q]; simp [mup, LVisa], by rw [q]; simp [mup, LVisa]⟩
    · have q : ∀ c, sI (gnew g 2 (LVisa (nI (sN g 2)) x1 l x3 x4 x5 x6)) 6 k c = sI g 6 k c := fun c => gI_n g _ (fun z => e z.2) (by decide) c
      simp only [q, E0]
      have h9 := h.aV k (by omega)
      simpa [mup, e] using h9
  · intro k hk
    rw [E2] at hk
    by_cases e : k = sN g 2
    · subst e
      have q : ∀ c, sI (gnew g 2 (LVisa (nI (sN g 2)) x1 l x3 x4 x5 x6)) 6 (sN g 2) c = (LVisa (nI (sN g 2)) x1 l x3 x4 x5 x6) 6 c := fun c => gI_s g _ (by decide) rfl c
      exact ⟨by rw [q]; simp [mup, LVisa], by rw [q]; simp [mup, LVisa], by rw [q]; simp [mup, LVisa]⟩
    · have q : ∀ c, sI (gnew g 2 (LVisa (nI (sN g 2)) x1 l x3 x4 x5 x6)) 6 k c = sI g 6 k c := fun c => gI_n g _ (fun z => e z.2) (by decide) c
      simp only [q]
      have h9 := h.aX k (by omega)
      simpa [mup, e] using h9
  · exact aQ_c (t := t) (u := u) h.aQ (gN_n g _ (by decide)) (gN_n g _ (by decide)) (gN_n g _ (by decide)) (fun _ => gI_n g _ (by simp [grp]) (by decide) _) (fun _ => gI_n g _ (by simp [grp]) (by decide) _) (fun _ => gI_n g _ (by simp [grp]) (by decide) _) (fun _ => gI_n g _ (by simp [grp]) (by decide) _) (fun _ => gI_n g _ (by simp [grp]) (by decide) _) (by funext j; simp [mup]) (by funext j; simp [mup]) (by funext j; simp [mup]) (by funext j; simp [mup])
  · exact aO_c (t := t) (u := u) h.aO (gN_n g _ (by decide)) (fun _ => gI_n g _ (by simp [grp]) (by decide) _)
  · exact aZ_c (t := t) (u := u) h.aZ (gN_n g _ (by decide)) (fun _ => gI_n g _ (by simp [grp]) (by decide) _) (fun _ => gI_n g _ (by simp [grp]) (by decide) _) (by funext j; simp [mup]) (by funext j; simp [mup])
  · exact aF_c (t := t) (u := u) h.aF (gN_n g _ (by decide)) (gN_n g _ (by decide)) (fun _ => gI_n g _ (by simp [grp]) (by decide) _) (by funext j; simp [mup]) (by funext j; simp [mup])
theorem up_ask {t : Nat} {g : CS} {u : MS} (h : R0 t g u) (h40 : sN g 3 < 40) {p l : Nat} (hp : p < sN g 1) (hl : l < sN g 0) (x3 : Int32) : R0 t (gnew g 3 (LReq (nI (sN g 3)) (nI p) (nI l) x3 (nI t))) (mup (mup (mup (mup (mup u 37 (sN g 3) (nI p)) 38 (sN g 3) (nI l)) 39 (sN g 3) x3) 40 (sN g 3) (nI t)) 36 0 (nI (sN g 3 + 1))) := by
  have E0 : sN (gnew g 3 (LReq (nI (sN g 3)) (nI p) (nI l) x3 (nI t))) 0 = sN g 0 := gN_n g _ (by decide)
  have E1 : sN (gnew g 3 (LReq (nI (sN g 3)) (nI p) (nI l) x3 (nI t))) 1 = sN g 1 := gN_n g _ (by decide)
  have E2 : sN (gnew g 3 (LReq (nI (sN g 3)) (nI p) (nI l) x3 (nI t))) 2 = sN g 2 := gN_n g _ (by decide)
  have E3 : sN (gnew g 3 (LReq (nI (sN g 3)) (nI p) (nI l) x3 (nI t))) 3 = sN g 3 + 1 := gN_s g _ _
  have E4 : sN (gnew g 3 (LReq (nI (sN g 3)) (nI p) (nI l) x3 (nI t))) 4 = sN g 4 := gN_n g _ (by decide)
  obtain ⟨n0, v0, n1, v1, n2, v2, n3, v3, n4, v4⟩ := h.aN
  refine ⟨?_, ?_, ?_, ?_, ?_, ?_, ?_, ?_, ?_, ?_, ?_, ?_, ?_, ?_, ?_, ?_, ?_, ?_, ?_, ?_, ?_, ?_⟩
  · exact aT_c (t := t) (u := u) h.aT (gI_n g _ (by simp [grp]) (by decide) _) (by funext j; simp [mup])
  · unfold aN
    rw [E0, E1, E2, E3, E4]
    exact ⟨n0, by simpa [mup] using v0, n1, by simpa [mup] using v1, n2, by simpa [mup] using v2, by omega, by simp [mup], n4, by simpa [mup] using v4⟩
  · exact gC_ok (u := u) h.aC _ (by omega) (by decide) _
  · exact aL_c (t := t) (u := u) h.aL (gN_n g _ (by decide)) (fun _ => gI_n g _ (by simp [grp]) (by decide) _) (fun _ => gI_n g _ (by simp [grp]) (by decide) _) (fun _ => gI_n g _ (by simp [grp]) (by decide) _) (fun _ => gI_n g _ (by simp [grp]) (by decide) _) (fun _ => gI_n g _ (by simp [grp]) (by decide) _) (by funext j; simp [mup]) (by funext j; simp [mup]) (by funext j; simp [mup]) (by funext j; simp [mup])
  · exact aW_c (t := t) (u := u) h.aW (gN_n g _ (by decide)) (fun _ => gI_n g _ (by simp [grp]) (by decide) _) (by funext j; simp [mup])
  · exact aU_c (t := t) (u := u) h.aU (gN_n g _ (by decide)) (fun _ _ => gI_n g _ (by simp [grp]) (by decide) _) (by funext j; simp [mup])
  · exact aR_c (t := t) (u := u) h.aR (gN_n g _ (by decide)) (fun _ => gI_n g _ (by simp [grp]) (by decide) _) (fun _ => gI_n g _ (by simp [grp]) (by decide) _) (fun _ => gI_n g _ (by simp [grp]) (by decide) _) (by funext j; simp [mup]) (by funext j; simp [mup]) (by funext j; simp [mup])
  · exact aP_c (t := t) (u := u) h.aP (gN_n g _ (by decide)) (fun _ => gI_n g _ (by simp [grp]) (by decide) _) (fun _ => gI_n g _ (by simp [grp]) (by decide) _) (fun _ => gI_n g _ (by simp [grp]) (by decide) _) (fun _ => gI_n g _ (by simp [grp]) (by decide) _) (by funext j; simp [mup]) (by funext j; simp [mup]) (by funext j; simp [mup])
  · exact aA_c (t := t) (u := u) h.aA (gN_n g _ (by decide)) (fun _ => gI_n g _ (by simp [grp]) (by decide) _) (by funext j; simp [mup])
  · exact aH_c (t := t) (u := u) h.aH (gN_n g _ (by decide)) (gN_n g _ (by decide)) (fun _ => gJ_n g _ (by simp [grp]) _) (by funext j; simp [mup])
  · exact aI_c (t := t) (u := u) h.aI (gN_n g _ (by decide)) (gN_n g _ (by decide)) (fun _ => gJ_n g _ (by simp [grp]) _) (by funext j; simp [mup])
  · exact aS_c (t := t) (u := u) h.aS (gN_n g _ (by decide)) (fun _ => gI_n g _ (by simp [grp]) (by decide) _) (by funext j; simp [mup])
  · exact aE_c (t := t) (u := u) h.aE (gN_n g _ (by decide)) (fun _ => gI_n g _ (by simp [grp]) (by decide) _) (by funext j; simp [mup])
  · exact aD_c (t := t) (u := u) h.aD (gN_n g _ (by decide)) (gN_n g _ (by decide)) (fun _ _ => gI_n g _ (by simp [grp]) (by decide) _) (by funext j; simp [mup])
  · exact aM_c (t := t) (u := u) h.aM (gN_n g _ (by decide)) (fun _ _ => gI_n g _ (by simp [grp]) (by decide) _) (fun _ _ => gI_n g _ (by simp [grp]) (by decide) _) (by funext j; simp [mup]) (by funext j; simp [mup])
  · exact aB_c (t := t) (u := u) h.aB (gN_n g _ (by decide)) (fun _ _ => gI_n g _ (by simp [grp]) (by decide) _) (fun _ _ => gI_n g _ (by simp [grp]) (by decide) _) (fun _ _ => gI_n g _ (by simp [grp]) (by decide) _) (by funext j; simp [mup]) (by funext j; simp [mup]) (by funext j; simp [mup])
  · exact aV_c (t := t) (u := u) h.aV (gN_n g _ (by decide)) (gN_n g _ (by decide)) (fun _ => gI_n g _ (by simp [grp]) (by decide) _) (fun _ => gI_n g _ (by simp [grp]) (by decide) _) (fun _ => gI_n g _ (by simp [grp]) (by decide) _) (fun _ => gI_n g _ (by simp [grp]) (by decide) _) (fun _ => gI_n g _ (by simp [grp]) (by decide) _) (by funext j; simp [mup]) (by funext j; simp [mup]) (by funext j; simp [mup]) (by funext j; simp [mup])
  · exact aX_c (t := t) (u := u) h.aX (gN_n g _ (by decide)) (fun _ => gI_n g _ (by simp [grp]) (by decide) _) (fun _ => gI_n g _ (by simp [grp]) (by decide) _) (fun _ => gI_n g _ (by simp [grp]) (by decide) _) (by funext j; simp [mup]) (by funext j; simp [mup]) (by funext j; simp [mup])
  · intro k hk
    rw [E3] at hk
    by_cases e : k = sN g 3
    · subst e
      have q : ∀ c, sI (gnew g 3 (LReq (nI (sN g 3)) (nI p) (nI l) x3 (nI t))) 7 (sN g 3) c = (LReq (nI (sN g 3)) (nI p) (nI l) x3 (nI t)) 7 c := fun c => gI_s g _ (by decide) rfl c
      exact ⟨by rw [q]; rfl, ⟨p, by rw [E1]; exact hp, by rw [q]; rfl, by simp [mup]⟩, ⟨l, by rw [E0]; exact hl, by rw [q]; rfl, by simp [mup]⟩, by rw [q]; simp [mup, LReq], by rw [q]; simp [mup, LReq], t, Nat.le_refl _, by rw [q]; rfl⟩
    · have q : ∀ c, sI (gnew g 3 (LReq (nI (sN g 3)) (nI p) (nI l) x3 (nI t))) 7 k c = sI g 7 k c := fun c => gI_n g _ (fun z => e z.2) (by decide) c
      simp only [q, E0, E1]
      have h9 := h.aQ k (by omega)
      simpa [mup, e] using h9
  · intro i k hi hk
    rw [E3] at hk
    have hT := h.aT.2.1
    have e : ¬ i = sN g 3 := by omega
    have q : ∀ c, sI (gnew g 3 (LReq (nI (sN g 3)) (nI p) (nI l) x3 (nI t))) 7 i c = sI g 7 i c := fun c => gI_n g _ (fun z => e z.2) (by decide) c
    rw [q]
    clear q
    by_cases e : k = sN g 3
    · subst e
      have q : ∀ c, sI (gnew g 3 (LReq (nI (sN g 3)) (nI p) (nI l) x3 (nI t))) 7 (sN g 3) c = (LReq (nI (sN g 3)) (nI p) (nI l) x3 (nI t)) 7 c := fun c => gI_s g _ (by decide) rfl c
      rw [q]
      obtain ⟨-, -, -, -, -, d, d1, d2⟩ := h.aQ i (by omega)
      rw [d2]
      exact nI_le d1 (by omega)
    · have q : ∀ c, sI (gnew g 3 (LReq (nI (sN g 3)) (nI p) (nI l) x3 (nI t))) 7 k c = sI g 7 k c := fun c => gI_n g _ (fun z => e z.2) (by decide) c
      rw [q]
      exact h.aO i k hi (by omega)
  · intro k hk
    obtain ⟨h1, h2⟩ := h.aZ k hk
    by_cases e : k = sN g 3
    · subst e
      have q : ∀ c, sI (gnew g 3 (LReq (nI (sN g 3)) (nI p) (nI l) x3 (nI t))) 7 (sN g 3) c = (LReq (nI (sN g 3)) (nI p) (nI l) x3 (nI t)) 7 c := fun c => gI_s g _ (by decide) rfl c
      refine ⟨fun _ => ⟨?_, fun z => ?_⟩, fun z => absurd z (by rw [E3]; omega)⟩
      · rw [q]
        show _ = (0 : Int32)
        simpa [mup] using h2 (Nat.le_refl _)
      · rw [q] at z
        exact absurd z (by show ¬ ((0 : Int32) = 2 ∨ (0 : Int32) = 3); decide)
    · have q : ∀ c, sI (gnew g 3 (LReq (nI (sN g 3)) (nI p) (nI l) x3 (nI t))) 7 k c = sI g 7 k c := fun c => gI_n g _ (fun z => e z.2) (by decide) c
      simp only [q, E3]
      refine ⟨fun z => ?_, fun z => ?_⟩
      · simpa [mup] using h1 (by omega)
      · simpa [mup] using h2 (by omega)
  · intro k hk
    obtain ⟨h1, h2⟩ := h.aF k hk
    by_cases e : k = sN g 3
    · subst e
      have q : ∀ c, sI (gnew g 3 (LReq (nI (sN g 3)) (nI p) (nI l) x3 (nI t))) 7 (sN g 3) c = (LReq (nI (sN g 3)) (nI p) (nI l) x3 (nI t)) 7 c := fun c => gI_s g _ (by decide) rfl c
      refine ⟨fun _ => ⟨0, by omega, ?_, by rw [q]; rfl, fun i hi => absurd hi (Nat.not_lt_zero _), fun i i2 _ hi => absurd hi (Nat.not_lt_zero _)⟩, fun z => absurd z (by rw [E3]; omega)⟩
      show _ = (0 : Int32)
      simpa [mup] using h2 (Nat.le_refl _)
    · have q : ∀ c, sI (gnew g 3 (LReq (nI (sN g 3)) (nI p) (nI l) x3 (nI t))) 7 k c = sI g 7 k c := fun c => gI_n g _ (fun z => e z.2) (by decide) c
      simp only [q, E3, E1]
      rw [show mup (mup (mup (mup (mup u 37 (sN g 3) (nI p)) 38 (sN g 3) (nI l)) 39 (sN g 3) x3) 40 (sN g 3) (nI t)) 36 0 (nI (sN g 3 + 1)) 44 = u 44 from by funext j; simp [mup]]
      refine ⟨fun z => ?_, fun z => ?_⟩
      · simpa [mup] using h1 (by omega)
      · simpa [mup] using h2 (by omega)
theorem up_per {t : Nat} {g : CS} {u : MS} (h : R0 t g u) (h16 : sN g 1 < 16) (bd na : Int32) : R0 t (gnew g 1 (LPer (nI (sN g 1)) bd (-1) (-1) na)) (mup (mup (mup (mup (mup (mup (mup u 15 (sN g 1) na) 14 (sN g 1) bd) 16 (sN g 1) (-1)) 17 (sN g 1) (-1)) 18 (sN g 1) (-1)) 20 (sN g 1) (-1)) 13 0 (nI (sN g 1 + 1))) := by
  have E0 : sN (gnew g 1 (LPer (nI (sN g 1)) bd (-1) (-1) na)) 0 = sN g 0 := gN_n g _ (by decide)
  have E1 : sN (gnew g 1 (LPer (nI (sN g 1)) bd (-1) (-1) na)) 1 = sN g 1 + 1 := gN_s g _ _
  have E2 : sN (gnew g 1 (LPer (nI (sN g 1)) bd (-1) (-1) na)) 2 = sN g 2 := gN_n g _ (by decide)
  have E3 : sN (gnew g 1 (LPer (nI (sN g 1)) bd (-1) (-1) na)) 3 = sN g 3 := gN_n g _ (by decide)
  have E4 : sN (gnew g 1 (LPer (nI (sN g 1)) bd (-1) (-1) na)) 4 = sN g 4 := gN_n g _ (by decide)
  obtain ⟨n0, v0, n1, v1, n2, v2, n3, v3, n4, v4⟩ := h.aN
  refine ⟨?_, ?_, ?_, ?_, ?_, ?_, ?_, ?_, ?_, ?_, ?_, ?_, ?_, ?_, ?_, ?_, ?_, ?_, ?_, ?_, ?_, ?_⟩
  · exact aT_c (t := t) (u := u) h.aT (gI_n g _ (by simp [grp]) (by decide) _) (by funext j; simp [mup])
  · unfold aN
    rw [E0, E1, E2, E3, E4]
    exact ⟨n0, by simpa [mup] using v0, by omega, by simp [mup], n2, by simpa [mup] using v2, n3, by simpa [mup] using v3, n4, by simpa [mup] using v4⟩
  · exact gC_ok (u := u) h.aC _ (by omega) (by decide) _
  · exact aL_c (t := t) (u := u) h.aL (gN_n g _ (by decide)) (fun _ => gI_n g _ (by simp [grp]) (by decide) _) (fun _ => gI_n g _ (by simp [grp]) (by decide) _) (fun _ => gI_n g _ (by simp [grp]) (by decide) _) (fun _ => gI_n g _ (by simp [grp]) (by decide) _) (fun _ => gI_n g _ (by simp [grp]) (by decide) _) (by funext j; simp [mup]) (by funext j; simp [mup]) (by funext j; simp [mup]) (by funext j; simp [mup])
  · exact aW_c (t := t) (u := u) h.aW (gN_n g _ (by decide)) (fun _ => gI_n g _ (by simp [grp]) (by decide) _) (by funext j; simp [mup])
  · exact aU_c (t := t) (u := u) h.aU (gN_n g _ (by decide)) (fun _ _ => gI_n g _ (by simp [grp]) (by decide) _) (by funext j; simp [mup])
  · exact aR_c (t := t) (u := u) h.aR (gN_n g _ (by decide)) (fun _ => gI_n g _ (by simp [grp]) (by decide) _) (fun _ => gI_n g _ (by simp [grp]) (by decide) _) (fun _ => gI_n g _ (by simp [grp]) (by decide) _) (by funext j; simp [mup]) (by funext j; simp [mup]) (by funext j; simp [mup])
  · intro k hk
    rw [E1] at hk
    by_cases e : k = sN g 1
    · subst e
      have q : ∀ c, sI (gnew g 1 (LPer (nI (sN g 1)) bd (-1) (-1) na)) 5 (sN g 1) c = (LPer (nI (sN g 1)) bd (-1) (-1) na) 5 c := fun c => gI_s g _ (by decide) rfl c
      exact ⟨by rw [q]; rfl, by rw [q]; simp [mup, LPer], by rw [q]; simp [mup, LPer], by rw [q]; simp [mup, LPer]⟩
    · have q : ∀ c, sI (gnew g 1 (LPer (nI (sN g 1)) bd (-1) (-1) na)) 5 k c = sI g 5 k c := fun c => gI_n g _ (fun z => e z.2) (by decide) c
      simp only [q]
      have h9 := h.aP k (by omega)
      simpa [mup, e] using h9
  · intro k hk
    rw [E1] at hk
    by_cases e : k = sN g 1
    · subst e
      have q : ∀ c, sI (gnew g 1 (LPer (nI (sN g 1)) bd (-1) (-1) na)) 5 (sN g 1) c = (LPer (nI (sN g 1)) bd (-1) (-1) na) 5 c := fun c => gI_s g _ (by decide) rfl c
      rw [q]
      simp [mup, LPer]
    · have q : ∀ c, sI (gnew g 1 (LPer (nI (sN g 1)) bd (-1) (-1) na)) 5 k c = sI g 5 k c := fun c => gI_n g _ (fun z => e z.2) (by decide) c
      simp only [q]
      have h9 := h.aA k (by omega)
      simpa [mup, e] using h9
  · intro k hk
    rw [E1] at hk
    rw [E0]
    by_cases e : k = sN g 1
    · subst e
      have qj : sJ (gnew g 1 (LPer (nI (sN g 1)) bd (-1) (-1) na)) 5 (sN g 1) 9 = none := gJ_s g _ (by decide) rfl _
      exact Or.inl ⟨qj, by simp [mup]⟩
    · have qj : sJ (gnew g 1 (LPer (nI (sN g 1)) bd (-1) (-1) na)) 5 k 9 = sJ g 5 k 9 := gJ_n g _ (fun z => e z.2) _
      simp only [qj]
      have h9 := h.aH k (by omega)
      simpa [mup, e] using h9
  · intro k hk
    rw [E1] at hk
    rw [E2]
    by_cases e : k = sN g 1
    · subst e
      have qj : sJ (gnew g 1 (LPer (nI (sN g 1)) bd (-1) (-1) na)) 5 (sN g 1) 10 = none := gJ_s g _ (by decide) rfl _
      exact Or.inl ⟨qj, by simp [mup]⟩
    · have qj : sJ (gnew g 1 (LPer (nI (sN g 1)) bd (-1) (-1) na)) 5 k 10 = sJ g 5 k 10 := gJ_n g _ (fun z => e z.2) _
      simp only [qj]
      have h9 := h.aI k (by omega)
      simpa [mup, e] using h9
  · intro k hk
    obtain ⟨h1, h2⟩ := h.aS k hk
    by_cases e : k = sN g 1
    · subst e
      have q : ∀ c, sI (gnew g 1 (LPer (nI (sN g 1)) bd (-1) (-1) na)) 5 (sN g 1) c = (LPer (nI (sN g 1)) bd (-1) (-1) na) 5 c := fun c => gI_s g _ (by decide) rfl c
      refine ⟨fun _ => ⟨false, by rw [q]; rfl, by simpa [mup, zB] using h2 (Nat.le_refl _)⟩, fun z => absurd z (by rw [E1]; omega)⟩
    · have q : ∀ c, sI (gnew g 1 (LPer (nI (sN g 1)) bd (-1) (-1) na)) 5 k c = sI g 5 k c := fun c => gI_n g _ (fun z => e z.2) (by decide) c
      simp only [q, E1]
      refine ⟨fun z => ?_, fun z => ?_⟩
      · simpa [mup] using h1 (by omega)
      · simpa [mup] using h2 (by omega)
  · intro k hk
    obtain ⟨h1, h2⟩ := h.aE k hk
    by_cases e : k = sN g 1
    · subst e
      have q : ∀ c, sI (gnew g 1 (LPer (nI (sN g 1)) bd (-1) (-1) na)) 5 (sN g 1) c = (LPer (nI (sN g 1)) bd (-1) (-1) na) 5 c := fun c => gI_s g _ (by decide) rfl c
      refine ⟨fun _ => ⟨0, Nat.zero_le _, by rw [q]; rfl, by show _ = (0 : Int32); simpa [mup] using h2 (Nat.le_refl _)⟩, fun z => absurd z (by rw [E1]; omega)⟩
    · have q : ∀ c, sI (gnew g 1 (LPer (nI (sN g 1)) bd (-1) (-1) na)) 5 k c = sI g 5 k c := fun c => gI_n g _ (fun z => e z.2) (by decide) c
      simp only [q, E1]
      refine ⟨fun z => ?_, fun z => ?_⟩
      · simpa [mup] using h1 (by omega)
      · simpa [mup] using h2 (by omega)
  · intro k hk d hd
    obtain ⟨h1, h2⟩ := h.aD k hk d hd
    by_cases e : k = sN g 1
    · subst e
      have q17 : ∀ c, sI (gnew g 1 (LPer (nI (sN g 1)) bd (-1) (-1) na)) 17 (sN g 1) c = (LPer (nI (sN g 1)) bd (-1) (-1) na) 17 c := fun c => gI_s g _ (by decide) rfl c
      refine ⟨fun _ => by
        have z0 : sI (gnew g 1 (LPer (nI (sN g 1)) bd (-1) (-1) na)) 17 (sN g 1) d = 0 := by rw [q17]; show kfill 3601 0 d = 0; unfold kfill; split <;> rfl
        exact ⟨by rw [z0]; simpa [mup] using h2 (Nat.le_refl _), ⟨0, by decide, Or.inl rfl, z0⟩, fun _ => z0⟩, fun z => absurd z (by rw [E1]; omega)⟩
    · have q17 : ∀ c, sI (gnew g 1 (LPer (nI (sN g 1)) bd (-1) (-1) na)) 17 k c = sI g 17 k c := fun c => gI_n g _ (fun z => e z.2) (by decide) c
      simp only [q17, E0, E1]
      refine ⟨fun z => ?_, fun z => ?_⟩
      · simpa [mup] using h1 (by omega)
      · simpa [mup] using h2 (by omega)
  · intro k hk j hj
    obtain ⟨h1, h2⟩ := h.aM k hk j hj
    by_cases e : k = sN g 1
    · subst e
      have q22 : ∀ c, sI (gnew g 1 (LPer (nI (sN g 1)) bd (-1) (-1) na)) 22 (sN g 1) c = (LPer (nI (sN g 1)) bd (-1) (-1) na) 22 c := fun c => gI_s g _ (by decide) rfl c
      have q23 : ∀ c, sI (gnew g 1 (LPer (nI (sN g 1)) bd (-1) (-1) na)) 23 (sN g 1) c = (LPer (nI (sN g 1)) bd (-1) (-1) na) 23 c := fun c => gI_s g _ (by decide) rfl c
      refine ⟨fun _ => by
        have z0 : sI (gnew g 1 (LPer (nI (sN g 1)) bd (-1) (-1) na)) 23 (sN g 1) j = -1 := by rw [q23]; show kfill 8 (-1) j = -1; unfold kfill; rw [if_pos hj]
        exact ⟨by rw [z0]; simpa [mup] using h2 (Nat.le_refl _), fun z => absurd (z0 ▸ z) (by decide)⟩, fun z => absurd z (by rw [E1]; omega)⟩
    · have q22 : ∀ c, sI (gnew g 1 (LPer (nI (sN g 1)) bd (-1) (-1) na)) 22 k c = sI g 22 k c := fun c => gI_n g _ (fun z => e z.2) (by decide) c
      have q23 : ∀ c, sI (gnew g 1 (LPer (nI (sN g 1)) bd (-1) (-1) na)) 23 k c = sI g 23 k c := fun c => gI_n g _ (fun z => e z.2) (by decide) c
      simp only [q22, q23, E0, E1]
      refine ⟨fun z => ?_, fun z => ?_⟩
      · simpa [mup] using h1 (by omega)
      · simpa [mup] using h2 (by omega)
  · intro k hk j hj
    obtain ⟨h1, h2⟩ := h.aB k hk j hj
    by_cases e : k = sN g 1
    · subst e
      have q19 : ∀ c, sI (gnew g 1 (LPer (nI (sN g 1)) bd (-1) (-1) na)) 19 (sN g 1) c = (LPer (nI (sN g 1)) bd (-1) (-1) na) 19 c := fun c => gI_s g _ (by decide) rfl c
      have q20 : ∀ c, sI (gnew g 1 (LPer (nI (sN g 1)) bd (-1) (-1) na)) 20 (sN g 1) c = (LPer (nI (sN g 1)) bd (-1) (-1) na) 20 c := fun c => gI_s g _ (by decide) rfl c
      have q21 : ∀ c, sI (gnew g 1 (LPer (nI (sN g 1)) bd (-1) (-1) na)) 21 (sN g 1) c = (LPer (nI (sN g 1)) bd (-1) (-1) na) 21 c := fun c => gI_s g _ (by decide) rfl c
      refine ⟨fun _ => by
        have z0 : sI (gnew g 1 (LPer (nI (sN g 1)) bd (-1) (-1) na)) 20 (sN g 1) j = -1 := by rw [q20]; show kfill 8 (-1) j = -1; unfold kfill; rw [if_pos hj]
        exact ⟨by rw [z0]; simpa [mup] using h2 (Nat.le_refl _), fun z => absurd (z0 ▸ z) (by decide)⟩, fun z => absurd z (by rw [E1]; omega)⟩
    · have q19 : ∀ c, sI (gnew g 1 (LPer (nI (sN g 1)) bd (-1) (-1) na)) 19 k c = sI g 19 k c := fun c => gI_n g _ (fun z => e z.2) (by decide) c
      have q20 : ∀ c, sI (gnew g 1 (LPer (nI (sN g 1)) bd (-1) (-1) na)) 20 k c = sI g 20 k c := fun c => gI_n g _ (fun z => e z.2) (by decide) c
      have q21 : ∀ c, sI (gnew g 1 (LPer (nI (sN g 1)) bd (-1) (-1) na)) 21 k c = sI g 21 k c := fun c => gI_n g _ (fun z => e z.2) (by decide) c
      simp only [q19, q20, q21, E0, E1]
      refine ⟨fun z => ?_, fun z => ?_⟩
      · simpa [mup] using h1 (by omega)
      · simpa [mup] using h2 (by omega)
  · exact aV_c (t := t) (u := u) h.aV (gN_n g _ (by decide)) (gN_n g _ (by decide)) (fun _ => gI_n g _ (by simp [grp]) (by decide) _) (fun _ => gI_n g _ (by simp [grp]) (by decide) _) (fun _ => gI_n g _ (by simp [grp]) (by decide) _) (fun _ => gI_n g _ (by simp [grp]) (by decide) _) (fun _ => gI_n g _ (by simp [grp]) (by decide) _) (by funext j; simp [mup]) (by funext j; simp [mup]) (by funext j; simp [mup]) (by funext j; simp [mup])
  · exact aX_c (t := t) (u := u) h.aX (gN_n g _ (by decide)) (fun _ => gI_n g _ (by simp [grp]) (by decide) _) (fun _ => gI_n g _ (by simp [grp]) (by decide) _) (fun _ => gI_n g _ (by simp [grp]) (by decide) _) (by funext j; simp [mup]) (by funext j; simp [mup]) (by funext j; simp [mup])
  · intro r hr
    rw [E3] at hr
    have q : ∀ c, sI (gnew g 1 (LPer (nI (sN g 1)) bd (-1) (-1) na)) 7 r c = sI g 7 r c := fun c => gI_n g _ (by simp [grp]) (by decide) c
    simp only [q, E0, E1]
    obtain ⟨a1, ⟨p, p1, p2, p3⟩, a3, a4, a5, a6⟩ := h.aQ r hr
    exact ⟨a1, ⟨p, by omega, p2, by simpa [mup] using p3⟩, by simpa [mup] using a3, by simpa [mup] using a4, by simpa [mup] using a5, a6⟩
  · exact aO_c (t := t) (u := u) h.aO (gN_n g _ (by decide)) (fun _ => gI_n g _ (by simp [grp]) (by decide) _)
  · exact aZ_c (t := t) (u := u) h.aZ (gN_n g _ (by decide)) (fun _ => gI_n g _ (by simp [grp]) (by decide) _) (fun _ => gI_n g _ (by simp [grp]) (by decide) _) (by funext j; simp [mup]) (by funext j; simp [mup])
  · intro r hr
    have q : ∀ c, sI (gnew g 1 (LPer (nI (sN g 1)) bd (-1) (-1) na)) 7 r c = sI g 7 r c := fun c => gI_n g _ (by simp [grp]) (by decide) c
    simp only [q, E3, E1]
    obtain ⟨h1, h2⟩ := h.aF r hr
    have e44 : (mup (mup (mup (mup (mup (mup (mup u 15 (sN g 1) na) 14 (sN g 1) bd) 16 (sN g 1) (-1)) 17 (sN g 1) (-1)) 18 (sN g 1) (-1)) 20 (sN g 1) (-1)) 13 0 (nI (sN g 1 + 1))) 44 = u 44 := by funext j; simp [mup]
    rw [e44]
    refine ⟨fun z => ?_, fun z => by simpa [mup] using h2 z⟩
    obtain ⟨m, m1, m2, m3, m4, m5⟩ := h1 z
    exact ⟨m, m1, by simpa [mup] using m2, m3, fun k hk => by obtain ⟨a, a1, a2⟩ := m4 k hk; exact ⟨a, by omega, a2⟩, m5⟩
theorem up_birth {t : Nat} {g : CS} {u : MS} (h : R0 t g u) (h16 : sN g 1 < 16) (bd na : Int32) (x1 x2 : Int32) : R0 t (gnew g 1 (LPer (nI (sN g 1)) bd x1 x2 na)) (mup (mup (mup (mup (mup (mup (mup (mup (mup u 15 (sN g 1) na) 14 (sN g 1) bd) 16 (sN g 1) (-1)) 17 (sN g 1) (-1)) 18 (sN g 1) (-1)) 20 (sN g 1) (-1)) 13 0 (nI (sN g 1 + 1))) 16 (sN g 1) x1) 17 (sN g 1) x2) := by
  have E0 : sN (gnew g 1 (LPer (nI (sN g 1)) bd x1 x2 na)) 0 = sN g 0 := gN_n g _ (by decide)
  have E1 : sN (gnew g 1 (LPer (nI (sN g 1)) bd x1 x2 na)) 1 = sN g 1 + 1 := gN_s g _ _
  have E2 : sN (gnew g 1 (LPer (nI (sN g 1)) bd x1 x2 na)) 2 = sN g 2 := gN_n g _ (by decide)
  have E3 : sN (gnew g 1 (LPer (nI (sN g 1)) bd x1 x2 na)) 3 = sN g 3 := gN_n g _ (by decide)
  have E4 : sN (gnew g 1 (LPer (nI (sN g 1)) bd x1 x2 na)) 4 = sN g 4 := gN_n g _ (by decide)
  obtain ⟨n0, v0, n1, v1, n2, v2, n3, v3, n4, v4⟩ := h.aN
  refine ⟨?_, ?_, ?_, ?_, ?_, ?_, ?_, ?_, ?_, ?_, ?_, ?_, ?_, ?_, ?_, ?_, ?_, ?_, ?_, ?_, ?_, ?_⟩
  · exact aT_c (t := t) (u := u) h.aT (gI_n g _ (by simp [grp]) (by decide) _) (by funext j; simp [mup])
  · unfold aN
    rw [E0, E1, E2, E3, E4]
    exact ⟨n0, by simpa [mup] using v0, by omega, by simp [mup], n2, by simpa [mup] using v2, n3, by simpa [mup] using v3, n4, by simpa [mup] using v4⟩
  · exact gC_ok (u := u) h.aC _ (by omega) (by decide) _
  · exact aL_c (t := t) (u := u) h.aL (gN_n g _ (by decide)) (fun _ => gI_n g _ (by simp [grp]) (by decide) _) (fun _ => gI_n g _ (by simp [grp]) (by decide) _) (fun _ => gI_n g _ (by simp [grp]) (by decide) _) (fun _ => gI_n g _ (by simp [grp]) (by decide) _) (fun _ => gI_n g _ (by simp [grp]) (by decide) _) (by funext j; simp [mup]) (by funext j; simp [mup]) (by funext j; simp [mup]) (by funext j; simp [mup])
  · exact aW_c (t := t) (u := u) h.aW (gN_n g _ (by decide)) (fun _ => gI_n g _ (by simp [grp]) (by decide) _) (by funext j; simp [mup])
  · exact aU_c (t := t) (u := u) h.aU (gN_n g _ (by decide)) (fun _ _ => gI_n g _ (by simp [grp]) (by decide) _) (by funext j; simp [mup])
  · exact aR_c (t := t) (u := u) h.aR (gN_n g _ (by decide)) (fun _ => gI_n g _ (by simp [grp]) (by decide) _) (fun _ => gI_n g _ (by simp [grp]) (by decide) _) (fun _ => gI_n g _ (by simp [grp]) (by decide) _) (by funext j; simp [mup]) (by funext j; simp [mup]) (by funext j; simp [mup])
  · intro k hk
    rw [E1] at hk
    by_cases e : k = sN g 1
    · subst e
      have q : ∀ c, sI (gnew g 1 (LPer (nI (sN g 1)) bd x1 x2 na)) 5 (sN g 1) c = (LPer (nI (sN g 1)) bd x1 x2 na) 5 c := fun c => gI_s g _ (by decide) rfl c
      exact ⟨by rw [q]; rfl, by rw [q]; simp [mup, LPer], by rw [q]; simp [mup, LPer], by rw [q]; simp [mup, LPer]⟩
    · have q : ∀ c, sI (gnew g 1 (LPer (nI (sN g 1)) bd x1 x2 na)) 5 k c = sI g 5 k c := fun c => gI_n g _ (fun z => e z.2) (by decide) c
      simp only [q]
      have h9 := h.aP k (by omega)
      simpa [mup, e] using h9
  · intro k hk
    rw [E1] at hk
    by_cases e : k = sN g 1
    · subst e
      have q : ∀ c, sI (gnew g 1 (LPer (nI (sN g 1)) bd x1 x2 na)) 5 (sN g 1) c = (LPer (nI (sN g 1)) bd x1 x2 na) 5 c := fun c => gI_s g _ (by decide) rfl c
      rw [q]
      simp [mup, LPer]
    · have q : ∀ c, sI (gnew g 1 (LPer (nI (sN g 1)) bd x1 x2 na)) 5 k c = sI g 5 k c := fun c => gI_n g _ (fun z => e z.2) (by decide) c
      simp only [q]
      have h9 := h.aA k (by omega)
      simpa [mup, e] using h9
  · intro k hk
    rw [E1] at hk
    rw [E0]
    by_cases e : k = sN g 1
    · subst e
      have qj : sJ (gnew g 1 (LPer (nI (sN g 1)) bd x1 x2 na)) 5 (sN g 1) 9 = none := gJ_s g _ (by decide) rfl _
      exact Or.inl ⟨qj, by simp [mup]⟩
    · have qj : sJ (gnew g 1 (LPer (nI (sN g 1)) bd x1 x2 na)) 5 k 9 = sJ g 5 k 9 := gJ_n g _ (fun z => e z.2) _
      simp only [qj]
      have h9 := h.aH k (by omega)
      simpa [mup, e] using h9
  · intro k hk
    rw [E1] at hk
    rw [E2]
    by_cases e : k = sN g 1
    · subst e
      have qj : sJ (gnew g 1 (LPer (nI (sN g 1)) bd x1 x2 na)) 5 (sN g 1) 10 = none := gJ_s g _ (by decide) rfl _
      exact Or.inl ⟨qj, by simp [mup]⟩
    · have qj : sJ (gnew g 1 (LPer (nI (sN g 1)) bd x1 x2 na)) 5 k 10 = sJ g 5 k 10 := gJ_n g _ (fun z => e z.2) _
      simp only [qj]
      have h9 := h.aI k (by omega)
      simpa [mup, e] using h9
  · intro k hk
    obtain ⟨h1, h2⟩ := h.aS k hk
    by_cases e : k = sN g 1
    · subst e
      have q : ∀ c, sI (gnew g 1 (LPer (nI (sN g 1)) bd x1 x2 na)) 5 (sN g 1) c = (LPer (nI (sN g 1)) bd x1 x2 na) 5 c := fun c => gI_s g _ (by decide) rfl c
      refine ⟨fun _ => ⟨false, by rw [q]; rfl, by simpa [mup, zB] using h2 (Nat.le_refl _)⟩, fun z => absurd z (by rw [E1]; omega)⟩
    · have q : ∀ c, sI (gnew g 1 (LPer (nI (sN g 1)) bd x1 x2 na)) 5 k c = sI g 5 k c := fun c => gI_n g _ (fun z => e z.2) (by decide) c
      simp only [q, E1]
      refine ⟨fun z => ?_, fun z => ?_⟩
      · simpa [mup] using h1 (by omega)
      · simpa [mup] using h2 (by omega)
  · intro k hk
    obtain ⟨h1, h2⟩ := h.aE k hk
    by_cases e : k = sN g 1
    · subst e
      have q : ∀ c, sI (gnew g 1 (LPer (nI (sN g 1)) bd x1 x2 na)) 5 (sN g 1) c = (LPer (nI (sN g 1)) bd x1 x2 na) 5 c := fun c => gI_s g _ (by decide) rfl c
      refine ⟨fun _ => ⟨0, Nat.zero_le _, by rw [q]; rfl, by show _ = (0 : Int32); simpa [mup] using h2 (Nat.le_refl _)⟩, fun z => absurd z (by rw [E1]; omega)⟩
    · have q : ∀ c, sI (gnew g 1 (LPer (nI (sN g 1)) bd x1 x2 na)) 5 k c = sI g 5 k c := fun c => gI_n g _ (fun z => e z.2) (by decide) c
      simp only [q, E1]
      refine ⟨fun z => ?_, fun z => ?_⟩
      · simpa [mup] using h1 (by omega)
      · simpa [mup] using h2 (by omega)
  · intro k hk d hd
    obtain ⟨h1, h2⟩ := h.aD k hk d hd
    by_cases e : k = sN g 1
    · subst e
      have q17 : ∀ c, sI (gnew g 1 (LPer (nI (sN g 1)) bd x1 x2 na)) 17 (sN g 1) c = (LPer (nI (sN g 1)) bd x1 x2 na) 17 c := fun c => gI_s g _ (by decide) rfl c
      refine ⟨fun _ => by
        have z0 : sI (gnew g 1 (LPer (nI (sN g 1)) bd x1 x2 na)) 17 (sN g 1) d = 0 := by rw [q17]; show kfill 3601 0 d = 0; unfold kfill; split <;> rfl
        exact ⟨by rw [z0]; simpa [mup] using h2 (Nat.le_refl _), ⟨0, by decide, Or.inl rfl, z0⟩, fun _ => z0⟩, fun z => absurd z (by rw [E1]; omega)⟩
    · have q17 : ∀ c, sI (gnew g 1 (LPer (nI (sN g 1)) bd x1 x2 na)) 17 k c = sI g 17 k c := fun c => gI_n g _ (fun z => e z.2) (by decide) c
      simp only [q17, E0, E1]
      refine ⟨fun z => ?_, fun z => ?_⟩
      · simpa [mup] using h1 (by omega)
      · simpa [mup] using h2 (by omega)
  · intro k hk j hj
    obtain ⟨h1, h2⟩ := h.aM k hk j hj
    by_cases e : k = sN g 1
    · subst e
      have q22 : ∀ c, sI (gnew g 1 (LPer (nI (sN g 1)) bd x1 x2 na)) 22 (sN g 1) c = (LPer (nI (sN g 1)) bd x1 x2 na) 22 c := fun c => gI_s g _ (by decide) rfl c
      have q23 : ∀ c, sI (gnew g 1 (LPer (nI (sN g 1)) bd x1 x2 na)) 23 (sN g 1) c = (LPer (nI (sN g 1)) bd x1 x2 na) 23 c := fun c => gI_s g _ (by decide) rfl c
      refine ⟨fun _ => by
        have z0 : sI (gnew g 1 (LPer (nI (sN g 1)) bd x1 x2 na)) 23 (sN g 1) j = -1 := by rw [q23]; show kfill 8 (-1) j = -1; unfold kfill; rw [if_pos hj]
        exact ⟨by rw [z0]; simpa [mup] using h2 (Nat.le_refl _), fun z => absurd (z0 ▸ z) (by decide)⟩, fun z => absurd z (by rw [E1]; omega)⟩
    · have q22 : ∀ c, sI (gnew g 1 (LPer (nI (sN g 1)) bd x1 x2 na)) 22 k c = sI g 22 k c := fun c => gI_n g _ (fun z => e z.2) (by decide) c
      have q23 : ∀ c, sI (gnew g 1 (LPer (nI (sN g 1)) bd x1 x2 na)) 23 k c = sI g 23 k c := fun c => gI_n g _ (fun z => e z.2) (by decide) c
      simp only [q22, q23, E0, E1]
      refine ⟨fun z => ?_, fun z => ?_⟩
      · simpa [mup] using h1 (by omega)
      · simpa [mup] using h2 (by omega)
  · intro k hk j hj
    obtain ⟨h1, h2⟩ := h.aB k hk j hj
    by_cases e : k = sN g 1
    · subst e
      have q19 : ∀ c, sI (gnew g 1 (LPer (nI (sN g 1)) bd x1 x2 na)) 19 (sN g 1) c = (LPer (nI (sN g 1)) bd x1 x2 na) 19 c := fun c => gI_s g _ (by decide) rfl c
      have q20 : ∀ c, sI (gnew g 1 (LPer (nI (sN g 1)) bd x1 x2 na)) 20 (sN g 1) c = (LPer (nI (sN g 1)) bd x1 x2 na) 20 c := fun c => gI_s g _ (by decide) rfl c
      have q21 : ∀ c, sI (gnew g 1 (LPer (nI (sN g 1)) bd x1 x2 na)) 21 (sN g 1) c = (LPer (nI (sN g 1)) bd x1 x2 na) 21 c := fun c => gI_s g _ (by decide) rfl c
      refine ⟨fun _ => by
        have z0 : sI (gnew g 1 (LPer (nI (sN g 1)) bd x1 x2 na)) 20 (sN g 1) j = -1 := by rw [q20]; show kfill 8 (-1) j = -1; unfold kfill; rw [if_pos hj]
        exact ⟨by rw [z0]; simpa [mup] using h2 (Nat.le_refl _), fun z => absurd (z0 ▸ z) (by decide)⟩, fun z => absurd z (by rw [E1]; omega)⟩
    · have q19 : ∀ c, sI (gnew g 1 (LPer (nI (sN g 1)) bd x1 x2 na)) 19 k c = sI g 19 k c := fun c => gI_n g _ (fun z => e z.2) (by decide) c
      have q20 : ∀ c, sI (gnew g 1 (LPer (nI (sN g 1)) bd x1 x2 na)) 20 k c = sI g 20 k c := fun c => gI_n g _ (fun z => e z.2) (by decide) c
      have q21 : ∀ c, sI (gnew g 1 (LPer (nI (sN g 1)) bd x1 x2 na)) 21 k c = sI g 21 k c := fun c => gI_n g _ (fun z => e z.2) (by decide) c
      simp only [q19, q20, q21, E0, E1]
      refine ⟨fun z => ?_, fun z => ?_⟩
      · simpa [mup] using h1 (by omega)
      · simpa [mup] using h2 (by omega)
  · exact aV_c (t := t) (u := u) h.aV (gN_n g _ (by decide)) (gN_n g _ (by decide)) (fun _ => gI_n g _ (by simp [grp]) (by decide) _) (fun _ => gI_n g _ (by simp [grp]) (by decide) _) (fun _ => gI_n g _ (by simp [grp]) (by decide) _) (fun _ => gI_n g _ (by simp [grp]) (by decide) _) (fun _ => gI_n g _ (by simp [grp]) (by decide) _) (by funext j; simp [mup]) (by funext j; simp [mup]) (by funext j; simp [mup]) (by funext j; simp [mup])
  · exact aX_c (t := t) (u := u) h.aX (gN_n g _ (by decide)) (fun _ => gI_n g _ (by simp [grp]) (by decide) _) (fun _ => gI_n g _ (by simp [grp]) (by decide) _) (fun _ => gI_n g _ (by simp [grp]) (by decide) _) (by funext j; simp [mup]) (by funext j; simp [mup]) (by funext j; simp [mup])
  · intro r hr
    rw [E3] at hr
    have q : ∀ c, sI (gnew g 1 (LPer (nI (sN g 1)) bd x1 x2 na)) 7 r c = sI g 7 r c := fun c => gI_n g _ (by simp [grp]) (by decide) c
    simp only [q, E0, E1]
    obtain ⟨a1, ⟨p, p1, p2, p3⟩, a3, a4, a5, a6⟩ := h.aQ r hr
    exact ⟨a1, ⟨p, by omega, p2, by simpa [mup] using p3⟩, by simpa [mup] using a3, by simpa [mup] using a4, by simpa [mup] using a5, a6⟩
  · exact aO_c (t := t) (u := u) h.aO (gN_n g _ (by decide)) (fun _ => gI_n g _ (by simp [grp]) (by decide) _)
  · exact aZ_c (t := t) (u := u) h.aZ (gN_n g _ (by decide)) (fun _ => gI_n g _ (by simp [grp]) (by decide) _) (fun _ => gI_n g _ (by simp [grp]) (by decide) _) (by funext j; simp [mup]) (by funext j; simp [mup])
  · intro r hr
    have q : ∀ c, sI (gnew g 1 (LPer (nI (sN g 1)) bd x1 x2 na)) 7 r c = sI g 7 r c := fun c => gI_n g _ (by simp [grp]) (by decide) c
    simp only [q, E3, E1]
    obtain ⟨h1, h2⟩ := h.aF r hr
    have e44 : (mup (mup (mup (mup (mup (mup (mup (mup (mup u 15 (sN g 1) na) 14 (sN g 1) bd) 16 (sN g 1) (-1)) 17 (sN g 1) (-1)) 18 (sN g 1) (-1)) 20 (sN g 1) (-1)) 13 0 (nI (sN g 1 + 1))) 16 (sN g 1) x1) 17 (sN g 1) x2) 44 = u 44 := by funext j; simp [mup]
    rw [e44]
    refine ⟨fun z => ?_, fun z => by simpa [mup] using h2 z⟩
    obtain ⟨m, m1, m2, m3, m4, m5⟩ := h1 z
    exact ⟨m, m1, by simpa [mup] using m2, m3, fun k hk => by obtain ⟨a, a1, a2⟩ := m4 k hk; exact ⟨a, by omega, a2⟩, m5⟩
theorem vC_land {g : CS} {L : Nat → Nat → Int32} {m : Nat} (hm : m < 2147483648) (h : m % 10 ≤ 4 ∧ (m = 0 ∨ m / 10 < sN g 0)) : vC (gnew g 0 L) (nI m) = vC g (nI m) := by
  unfold vC
  rw [nI_clamp hm, gN_s]
  rcases h.2 with rfl | h2
  · simp
  · rw [gI_n g L (fun z => absurd z.2 (by show ¬ m / 10 = sN g 0; omega)) (by decide) 1]
    simp [h2, show m / 10 < sN g 0 + 1 from by omega]
theorem Cn_land {t : Nat} {g : CS} {u : MS} (h : R0 t g u) {L : Nat → Nat → Int32} {p D : Nat} (hp : p < sN g 1) (hD : D ≤ 3601) (hC : Cn g p D) : Cn (gnew g 0 L) p D := by
  intro d hd
  have hN := h.aN
  rw [gI_n g L (by simp [grp]) (by decide), hC d hd]
  refine zS_congr _ _ fun j _ hj => ?_
  obtain ⟨-, ⟨m, m1, m2, m3⟩, -⟩ := (h.aD p (by omega) j (by omega)).1 hp
  show zB (vC g (sI g 17 p j)) = zB (vC (gnew g 0 L) (sI (gnew g 0 L) 17 p j))
  rw [gI_n g L (by simp [grp]) (by decide), m3, vC_land (by omega) ⟨m1, m2⟩]
theorem Cn_new {g : CS} {j : Nat} {L : Nat → Nat → Int32} {p D : Nat} (hj : j = 1 ∨ j = 2 ∨ j = 3 ∨ j = 4) (hp : p < sN g 1) (hC : Cn g p D) : Cn (gnew g j L) p D := by
  refine Cn_c hC (gN_n g L (by omega)) (fun l => ?_) (fun d => ?_) (fun d => ?_) <;> refine gI_n g L (fun z => ?_) (by decide) _
  · rcases hj with rfl | rfl | rfl | rfl <;> exact absurd z.1 (by decide)
  · rcases hj with rfl | rfl | rfl | rfl
    · exact absurd z.2 (by show ¬ p = sN g 1; omega)
    all_goals exact absurd z.1 (by decide)
  · rcases hj with rfl | rfl | rfl | rfl
    · exact absurd z.2 (by show ¬ p = sN g 1; omega)
    all_goals exact absurd z.1 (by decide)
theorem zS_zero {f : Nat → Int32} (k : Nat) : ∀ i, (∀ j, i ≤ j → j < i + k → f j = 0) → zS f i k = 0 := by
  induction k with
  | zero => intro i _; rfl
  | succ k ih =>
    intro i hj
    simp only [zS]
    rw [hj i (by omega) (by omega), ih (i + 1) (fun j h1 h2 => hj j (by omega) (by omega))]
    rfl
theorem Cn_per {g : CS} {x0 bd x1 x2 na : Int32} {D : Nat} (hD : D ≤ 3601) : Cn (gnew g 1 (LPer x0 bd x1 x2 na)) (sN g 1) D := by
  have k0 : ∀ d, kfill 3601 0 d = 0 := fun d => by unfold kfill; split <;> rfl
  have e17 : ∀ d, sI (gnew g 1 (LPer x0 bd x1 x2 na)) 17 (sN g 1) d = 0 := fun d => (gI_s g _ (by decide) rfl d).trans (k0 d)
  have e18 : ∀ d, sI (gnew g 1 (LPer x0 bd x1 x2 na)) 18 (sN g 1) d = 0 := fun d => (gI_s g _ (by decide) rfl d).trans (k0 d)
  intro d hd
  rw [e18, zS_zero]
  intro j _ _
  show zB (vC _ _) = 0
  rw [e17]
  simp [vC, zB]
