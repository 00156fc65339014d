theorem up_thr {t : Nat} {g : CS} {u : MS} (h : R0 t g u) (x : Int32) : R0 t (g) (mup u 0 0 x) := by
  refine ⟨?_, ?_, ?_, ?_, ?_, ?_, ?_, ?_, ?_, ?_, ?_, ?_, ?_, ?_, ?_, ?_, ?_, ?_, ?_, ?_, ?_, ?_⟩
  · exact aT_c (t := t) (u := u) h.aT (by intros; simp [sI, sJ, sN, sC, uI, uJ]) (by funext j; simp [mup])
  · exact aN_c (t := t) (u := u) h.aN rfl rfl rfl rfl rfl (by funext j; simp [mup]) (by funext j; simp [mup]) (by funext j; simp [mup]) (by funext j; simp [mup]) (by funext j; simp [mup])
  · exact aC_c (t := t) (u := u) h.aC (fun _ => rfl) (fun _ => rfl)
  · exact aL_c (t := t) (u := u) h.aL rfl (by intros; simp [sI, sJ, sN, sC, uI, uJ]) (by intros; simp [sI, sJ, sN, sC, uI, uJ]) (by intros; simp [sI, sJ, sN, sC, uI, uJ]) (by intros; simp [sI, sJ, sN, sC, uI, uJ]) (by intros; simp [sI, sJ, sN, sC, uI, uJ]) (by funext j; simp [mup]) (by funext j; simp [mup]) (by funext j; simp [mup]) (by funext j; simp [mup])
  · exact aW_c (t := t) (u := u) h.aW rfl (by intros; simp [sI, sJ, sN, sC, uI, uJ]) (by funext j; simp [mup])
  · exact aU_c (t := t) (u := u) h.aU rfl (by intros; simp [sI, sJ, sN, sC, uI, uJ]) (by funext j; simp [mup])
  · exact aR_c (t := t) (u := u) h.aR rfl (by intros; simp [sI, sJ, sN, sC, uI, uJ]) (by intros; simp [sI, sJ, sN, sC, uI, uJ]) (by intros; simp [sI, sJ, sN, sC, uI, uJ]) (by funext j; simp [mup]) (by funext j; simp [mup]) (by funext j; simp [mup])
  · exact aP_c (t := t) (u := u) h.aP rfl (by intros; simp [sI, sJ, sN, sC, uI, uJ]) (by intros; simp [sI, sJ, sN, sC, uI, uJ]) (by intros; simp [sI, sJ, sN, sC, uI, uJ]) (by intros; simp [sI, sJ, sN, sC, uI, uJ]) (by funext j; simp [mup]) (by funext j; simp [mup]) (by funext j; simp [mup])
  · exact aA_c (t := t) (u := u) h.aA rfl (by intros; simp [sI, sJ, sN, sC, uI, uJ]) (by funext j; simp [mup])
  · exact aH_c (t := t) (u := u) h.aH rfl rfl (by intros; simp [sI, sJ, sN, sC, uI, uJ]) (by funext j; simp [mup])
  · exact aI_c (t := t) (u := u) h.aI rfl rfl (by intros; simp [sI, sJ, sN, sC, uI, uJ]) (by funext j; simp [mup])
  · exact aS_c (t := t) (u := u) h.aS rfl (by intros; simp [sI, sJ, sN, sC, uI, uJ]) (by funext j; simp [mup])
  · exact aE_c (t := t) (u := u) h.aE rfl (by intros; simp [sI, sJ, sN, sC, uI, uJ]) (by funext j; simp [mup])
  · exact aD_c (t := t) (u := u) h.aD rfl rfl (by intros; simp [sI, sJ, sN, sC, uI, uJ]) (by funext j; simp [mup])
  · exact aM_c (t := t) (u := u) h.aM rfl (by intros; simp [sI, sJ, sN, sC, uI, uJ]) (by intros; simp [sI, sJ, sN, sC, uI, uJ]) (by funext j; simp [mup]) (by funext j; simp [mup])
  · exact aB_c (t := t) (u := u) h.aB rfl (by intros; simp [sI, sJ, sN, sC, uI, uJ]) (by intros; simp [sI, sJ, sN, sC, uI, uJ]) (by intros; simp [sI, sJ, sN, sC, uI, uJ]) (by funext j; simp [mup]) (by funext j; simp [mup]) (by funext j; simp [mup])
  · exact aV_c (t := t) (u := u) h.aV rfl rfl (by intros; simp [sI, sJ, sN, sC, uI, uJ]) (by intros; simp [sI, sJ, sN, sC, uI, uJ]) (by intros; simp [sI, sJ, sN, sC, uI, uJ]) (by intros; simp [sI, sJ, sN, sC, uI, uJ]) (by intros; simp [sI, sJ, sN, sC, uI, uJ]) (by funext j; simp [mup]) (by funext j; simp [mup]) (by funext j; simp [mup]) (by funext j; simp [mup])
  · exact aX_c (t := t) (u := u) h.aX rfl (by intros; simp [sI, sJ, sN, sC, uI, uJ]) (by intros; simp [sI, sJ, sN, sC, uI, uJ]) (by intros; simp [sI, sJ, sN, sC, uI, uJ]) (by funext j; simp [mup]) (by funext j; simp [mup]) (by funext j; simp [mup])
  · exact aQ_c (t := t) (u := u) h.aQ rfl rfl rfl (by intros; simp [sI, sJ, sN, sC, uI, uJ]) (by intros; simp [sI, sJ, sN, sC, uI, uJ]) (by intros; simp [sI, sJ, sN, sC, uI, uJ]) (by intros; simp [sI, sJ, sN, sC, uI, uJ]) (by intros; simp [sI, sJ, sN, sC, uI, uJ]) (by funext j; simp [mup]) (by funext j; simp [mup]) (by funext j; simp [mup]) (by funext j; simp [mup])
  · exact aO_c (t := t) (u := u) h.aO rfl (by intros; simp [sI, sJ, sN, sC, uI, uJ])
  · exact aZ_c (t := t) (u := u) h.aZ rfl (by intros; simp [sI, sJ, sN, sC, uI, uJ]) (by intros; simp [sI, sJ, sN, sC, uI, uJ]) (by funext j; simp [mup]) (by funext j; simp [mup])
  · exact aF_c (t := t) (u := u) h.aF rfl rfl (by intros; simp [sI, sJ, sN, sC, uI, uJ]) (by funext j; simp [mup]) (by funext j; simp [mup])
theorem up_waive {t : Nat} {g : CS} {u : MS} (h : R0 t g u) {l n : Nat} (hl : l < sN g 0) (hn : n < sN g 0) {X : Int32} {b : Bool} (hX : ∀ i, hb X i = if i = n then b else hb (sI g 4 l 6) i) : R0 t (uI g 4 l 6 X) (mup u 7 (8 * l + n) (zB b)) := by
  refine ⟨?_, ?_, ?_, ?_, ?_, ?_, ?_, ?_, ?_, ?_, ?_, ?_, ?_, ?_, ?_, ?_, ?_, ?_, ?_, ?_, ?_, ?_⟩
  · exact aT_c (t := t) (u := u) h.aT (by intros; simp [sI, sJ, sN, sC, uI, uJ]) (by funext j; simp [mup])
  · exact aN_c (t := t) (u := u) h.aN rfl rfl rfl rfl rfl (by funext j; simp [mup]) (by funext j; simp [mup]) (by funext j; simp [mup]) (by funext j; simp [mup]) (by funext j; simp [mup])
  · exact aC_c (t := t) (u := u) h.aC (fun _ => rfl) (fun _ => rfl)
  · exact aL_c (t := t) (u := u) h.aL rfl (by intros; simp [sI, sJ, sN, sC, uI, uJ]) (by intros; simp [sI, sJ, sN, sC, uI, uJ]) (by intros; simp [sI, sJ, sN, sC, uI, uJ]) (by intros; simp [sI, sJ, sN, sC, uI, uJ]) (by intros; simp [sI, sJ, sN, sC, uI, uJ]) (by funext j; simp [mup]) (by funext j; simp [mup]) (by funext j; simp [mup]) (by funext j; simp [mup])
  · have hN0 := h.aN.1
    intro k hk
    obtain ⟨h1, h2⟩ := h.aW k hk
    by_cases e : k = l
    · subst e
      refine ⟨fun hl9 => ⟨fun m hm => ?_, fun m hm => ?_⟩, fun hl9 => absurd hl9 (Nat.not_le.mpr hl)⟩
      · rw [sI_at, hX]
        by_cases e2 : m = n
        · subst e2; rw [mup_at, if_pos rfl]
        · rw [mup_nj _ _ _ (by omega), if_neg e2]; exact (h1 hl).1 m hm
      · have hm9 : sN g 0 ≤ m := hm
        rw [sI_at, hX, if_neg (by omega)]; exact (h1 hl).2 m hm
    · refine ⟨fun hl9 => ⟨fun m hm => ?_, fun m hm => ?_⟩, fun hl9 m hm => ?_⟩
      · rw [mup_nj _ _ _ (by omega), sI_n2 _ _ _ _ e]; exact (h1 hl9).1 m hm
      · rw [sI_n2 _ _ _ _ e]; exact (h1 hl9).2 m hm
      · rw [mup_nj _ _ _ (by omega)]; exact h2 hl9 m hm
  · exact aU_c (t := t) (u := u) h.aU rfl (by intros; simp [sI, sJ, sN, sC, uI, uJ]) (by funext j; simp [mup])
  · exact aR_c (t := t) (u := u) h.aR rfl (by intros; simp [sI, sJ, sN, sC, uI, uJ]) (by intros; simp [sI, sJ, sN, sC, uI, uJ]) (by intros; simp [sI, sJ, sN, sC, uI, uJ]) (by funext j; simp [mup]) (by funext j; simp [mup]) (by funext j; simp [mup])
  · exact aP_c (t := t) (u := u) h.aP rfl (by intros; simp [sI, sJ, sN, sC, uI, uJ]) (by intros; simp [sI, sJ, sN, sC, uI, uJ]) (by intros; simp [sI, sJ, sN, sC, uI, uJ]) (by intros; simp [sI, sJ, sN, sC, uI, uJ]) (by funext j; simp [mup]) (by funext j; simp [mup]) (by funext j; simp [mup])
  · exact aA_c (t := t) (u := u) h.aA rfl (by intros; simp [sI, sJ, sN, sC, uI, uJ]) (by funext j; simp [mup])
  · exact aH_c (t := t) (u := u) h.aH rfl rfl (by intros; simp [sI, sJ, sN, sC, uI, uJ]) (by funext j; simp [mup])
  · exact aI_c (t := t) (u := u) h.aI rfl rfl (by intros; simp [sI, sJ, sN, sC, uI, uJ]) (by funext j; simp [mup])
  · exact aS_c (t := t) (u := u) h.aS rfl (by intros; simp [sI, sJ, sN, sC, uI, uJ]) (by funext j; simp [mup])
  · exact aE_c (t := t) (u := u) h.aE rfl (by intros; simp [sI, sJ, sN, sC, uI, uJ]) (by funext j; simp [mup])
  · exact aD_c (t := t) (u := u) h.aD rfl rfl (by intros; simp [sI, sJ, sN, sC, uI, uJ]) (by funext j; simp [mup])
  · exact aM_c (t := t) (u := u) h.aM rfl (by intros; simp [sI, sJ, sN, sC, uI, uJ]) (by intros; simp [sI, sJ, sN, sC, uI, uJ]) (by funext j; simp [mup]) (by funext j; simp [mup])
  · exact aB_c (t := t) (u := u) h.aB rfl (by intros; simp [sI, sJ, sN, sC, uI, uJ]) (by intros; simp [sI, sJ, sN, sC, uI, uJ]) (by intros; simp [sI, sJ, sN, sC, uI, uJ]) (by funext j; simp [mup]) (by funext j; simp [mup]) (by funext j; simp [mup])
  · exact aV_c (t := t) (u := u) h.aV rfl rfl (by intros; simp [sI, sJ, sN, sC, uI, uJ]) (by intros; simp [sI, sJ, sN, sC, uI, uJ]) (by intros; simp [sI, sJ, sN, sC, uI, uJ]) (by intros; simp [sI, sJ, sN, sC, uI, uJ]) (by intros; simp [sI, sJ, sN, sC, uI, uJ]) (by funext j; simp [mup]) (by funext j; simp [mup]) (by funext j; simp [mup]) (by funext j; simp [mup])
  · exact aX_c (t := t) (u := u) h.aX rfl (by intros; simp [sI, sJ, sN, sC, uI, uJ]) (by intros; simp [sI, sJ, sN, sC, uI, uJ]) (by intros; simp [sI, sJ, sN, sC, uI, uJ]) (by funext j; simp [mup]) (by funext j; simp [mup]) (by funext j; simp [mup])
  · exact aQ_c (t := t) (u := u) h.aQ rfl rfl rfl (by intros; simp [sI, sJ, sN, sC, uI, uJ]) (by intros; simp [sI, sJ, sN, sC, uI, uJ]) (by intros; simp [sI, sJ, sN, sC, uI, uJ]) (by intros; simp [sI, sJ, sN, sC, uI, uJ]) (by intros; simp [sI, sJ, sN, sC, uI, uJ]) (by funext j; simp [mup]) (by funext j; simp [mup]) (by funext j; simp [mup]) (by funext j; simp [mup])
  · exact aO_c (t := t) (u := u) h.aO rfl (by intros; simp [sI, sJ, sN, sC, uI, uJ])
  · exact aZ_c (t := t) (u := u) h.aZ rfl (by intros; simp [sI, sJ, sN, sC, uI, uJ]) (by intros; simp [sI, sJ, sN, sC, uI, uJ]) (by funext j; simp [mup]) (by funext j; simp [mup])
  · exact aF_c (t := t) (u := u) h.aF rfl rfl (by intros; simp [sI, sJ, sN, sC, uI, uJ]) (by funext j; simp [mup]) (by funext j; simp [mup])
theorem up_quota {t : Nat} {g : CS} {u : MS} (h : R0 t g u) {l j : Nat} (hl : l < sN g 0) (hj : j < 3) (x : Int32) : R0 t (uI g 16 l j x) (mup u 8 (3 * l + j) x) := by
  refine ⟨?_, ?_, ?_, ?_, ?_, ?_, ?_, ?_, ?_, ?_, ?_, ?_, ?_, ?_, ?_, ?_, ?_, ?_, ?_, ?_, ?_, ?_⟩
  · exact aT_c (t := t) (u := u) h.aT (by intros; simp [sI, sJ, sN, sC, uI, uJ]) (by funext j; simp [mup])
  · exact aN_c (t := t) (u := u) h.aN rfl rfl rfl rfl rfl (by funext j; simp [mup]) (by funext j; simp [mup]) (by funext j; simp [mup]) (by funext j; simp [mup]) (by funext j; simp [mup])
  · exact aC_c (t := t) (u := u) h.aC (fun _ => rfl) (fun _ => rfl)
  · exact aL_c (t := t) (u := u) h.aL rfl (by intros; simp [sI, sJ, sN, sC, uI, uJ]) (by intros; simp [sI, sJ, sN, sC, uI, uJ]) (by intros; simp [sI, sJ, sN, sC, uI, uJ]) (by intros; simp [sI, sJ, sN, sC, uI, uJ]) (by intros; simp [sI, sJ, sN, sC, uI, uJ]) (by funext j; simp [mup]) (by funext j; simp [mup]) (by funext j; simp [mup]) (by funext j; simp [mup])
  · exact aW_c (t := t) (u := u) h.aW rfl (by intros; simp [sI, sJ, sN, sC, uI, uJ]) (by funext j; simp [mup])
  · have hN0 := h.aN.1
    intro k hk m hm
    obtain ⟨h1, h2⟩ := h.aU k hk m hm
    by_cases e : k = l ∧ m = j
    · obtain ⟨rfl, rfl⟩ := e
      exact ⟨fun _ => by rw [sI_at, mup_at], fun hl9 => absurd hl9 (Nat.not_le.mpr hl)⟩
    · rw [mup_nj _ _ _ (by omega), sI_n _ _ _ _ _ (by omega)]
      exact ⟨h1, h2⟩
  · exact aR_c (t := t) (u := u) h.aR rfl (by intros; simp [sI, sJ, sN, sC, uI, uJ]) (by intros; simp [sI, sJ, sN, sC, uI, uJ]) (by intros; simp [sI, sJ, sN, sC, uI, uJ]) (by funext j; simp [mup]) (by funext j; simp [mup]) (by funext j; simp [mup])
  · exact aP_c (t := t) (u := u) h.aP rfl (by intros; simp [sI, sJ, sN, sC, uI, uJ]) (by intros; simp [sI, sJ, sN, sC, uI, uJ]) (by intros; simp [sI, sJ, sN, sC, uI, uJ]) (by intros; simp [sI, sJ, sN, sC, uI, uJ]) (by funext j; simp [mup]) (by funext j; simp [mup]) (by funext j; simp [mup])
  · exact aA_c (t := t) (u := u) h.aA rfl (by intros; simp [sI, sJ, sN, sC, uI, uJ]) (by funext j; simp [mup])
  · exact aH_c (t := t) (u := u) h.aH rfl rfl (by intros; simp [sI, sJ, sN, sC, uI, uJ]) (by funext j; simp [mup])
  · exact aI_c (t := t) (u := u) h.aI rfl rfl (by intros; simp [sI, sJ, sN, sC, uI, uJ]) (by funext j; simp [mup])
  · exact aS_c (t := t) (u := u) h.aS rfl (by intros; simp [sI, sJ, sN, sC, uI, uJ]) (by funext j; simp [mup])
  · exact aE_c (t := t) (u := u) h.aE rfl (by intros; simp [sI, sJ, sN, sC, uI, uJ]) (by funext j; simp [mup])
  · exact aD_c (t := t) (u := u) h.aD rfl rfl (by intros; simp [sI, sJ, sN, sC, uI, uJ]) (by funext j; simp [mup])
  · exact aM_c (t := t) (u := u) h.aM rfl (by intros; simp [sI, sJ, sN, sC, uI, uJ]) (by intros; simp [sI, sJ, sN, sC, uI, uJ]) (by funext j; simp [mup]) (by funext j; simp [mup])
  · exact aB_c (t := t) (u := u) h.aB rfl (by intros; simp [sI, sJ, sN, sC, uI, uJ]) (by intros; simp [sI, sJ, sN, sC, uI, uJ]) (by intros; simp [sI, sJ, sN, sC, uI, uJ]) (by funext j; simp [mup]) (by funext j; simp [mup]) (by funext j; simp [mup])
  · exact aV_c (t := t) (u := u) h.aV rfl rfl (by intros; simp [sI, sJ, sN, sC, uI, uJ]) (by intros; simp [sI, sJ, sN, sC, uI, uJ]) (by intros; simp [sI, sJ, sN, sC, uI, uJ]) (by intros; simp [sI, sJ, sN, sC, uI, uJ]) (by intros; simp [sI, sJ, sN, sC, uI, uJ]) (by funext j; simp [mup]) (by funext j; simp [mup]) (by funext j; simp [mup]) (by funext j; simp [mup])
  · exact aX_c (t := t) (u := u) h.aX rfl (by intros; simp [sI, sJ, sN, sC, uI, uJ]) (by intros; simp [sI, sJ, sN, sC, uI, uJ]) (by intros; simp [sI, sJ, sN, sC, uI, uJ]) (by funext j; simp [mup]) (by funext j; simp [mup]) (by funext j; simp [mup])
  · exact aQ_c (t := t) (u := u) h.aQ rfl rfl rfl (by intros; simp [sI, sJ, sN, sC, uI, uJ]) (by intros; simp [sI, sJ, sN, sC, uI, uJ]) (by intros; simp [sI, sJ, sN, sC, uI, uJ]) (by intros; simp [sI, sJ, sN, sC, uI, uJ]) (by intros; simp [sI, sJ, sN, sC, uI, uJ]) (by funext j; simp [mup]) (by funext j; simp [mup]) (by funext j; simp [mup]) (by funext j; simp [mup])
  · exact aO_c (t := t) (u := u) h.aO rfl (by intros; simp [sI, sJ, sN, sC, uI, uJ])
  · exact aZ_c (t := t) (u := u) h.aZ rfl (by intros; simp [sI, sJ, sN, sC, uI, uJ]) (by intros; simp [sI, sJ, sN, sC, uI, uJ]) (by funext j; simp [mup]) (by funext j; simp [mup])
  · exact aF_c (t := t) (u := u) h.aF rfl rfl (by intros; simp [sI, sJ, sN, sC, uI, uJ]) (by funext j; simp [mup]) (by funext j; simp [mup])
theorem up_nat {t : Nat} {g : CS} {u : MS} (h : R0 t g u) {p : Nat} (x : Int32) : R0 t (uI g 5 p 8 x) (mup u 15 p x) := by
  refine ⟨?_, ?_, ?_, ?_, ?_, ?_, ?_, ?_, ?_, ?_, ?_, ?_, ?_, ?_, ?_, ?_, ?_, ?_, ?_, ?_, ?_, ?_⟩
  · exact aT_c (t := t) (u := u) h.aT (by intros; simp [sI, sJ, sN, sC, uI, uJ]) (by funext j; simp [mup])
  · exact aN_c (t := t) (u := u) h.aN rfl rfl rfl rfl rfl (by funext j; simp [mup]) (by funext j; simp [mup]) (by funext j; simp [mup]) (by funext j; simp [mup]) (by funext j; simp [mup])
  · exact aC_c (t := t) (u := u) h.aC (fun _ => rfl) (fun _ => rfl)
  · exact aL_c (t := t) (u := u) h.aL rfl (by intros; simp [sI, sJ, sN, sC, uI, uJ]) (by intros; simp [sI, sJ, sN, sC, uI, uJ]) (by intros; simp [sI, sJ, sN, sC, uI, uJ]) (by intros; simp [sI, sJ, sN, sC, uI, uJ]) (by intros; simp [sI, sJ, sN, sC, uI, uJ]) (by funext j; simp [mup]) (by funext j; simp [mup]) (by funext j; simp [mup]) (by funext j; simp [mup])
  · exact aW_c (t := t) (u := u) h.aW rfl (by intros; simp [sI, sJ, sN, sC, uI, uJ]) (by funext j; simp [mup])
  · exact aU_c (t := t) (u := u) h.aU rfl (by intros; simp [sI, sJ, sN, sC, uI, uJ]) (by funext j; simp [mup])
  · exact aR_c (t := t) (u := u) h.aR rfl (by intros; simp [sI, sJ, sN, sC, uI, uJ]) (by intros; simp [sI, sJ, sN, sC, uI, uJ]) (by intros; simp [sI, sJ, sN, sC, uI, uJ]) (by funext j; simp [mup]) (by funext j; simp [mup]) (by funext j; simp [mup])
  · exact aP_c (t := t) (u := u) h.aP rfl (by intros; simp [sI, sJ, sN, sC, uI, uJ]) (by intros; simp [sI, sJ, sN, sC, uI, uJ]) (by intros; simp [sI, sJ, sN, sC, uI, uJ]) (by intros; simp [sI, sJ, sN, sC, uI, uJ]) (by funext j; simp [mup]) (by funext j; simp [mup]) (by funext j; simp [mup])
  · intro q9 hq9
    have h9 := h.aA q9 hq9
    by_cases e9 : q9 = p
    · subst e9
      simp [sI, sJ, sN, uI, uJ, mup]
    · simpa [sI, sJ, sN, uI, uJ, mup, e9] using h9
  · exact aH_c (t := t) (u := u) h.aH rfl rfl (by intros; simp [sI, sJ, sN, sC, uI, uJ]) (by funext j; simp [mup])
  · exact aI_c (t := t) (u := u) h.aI rfl rfl (by intros; simp [sI, sJ, sN, sC, uI, uJ]) (by funext j; simp [mup])
  · exact aS_c (t := t) (u := u) h.aS rfl (by intros; simp [sI, sJ, sN, sC, uI, uJ]) (by funext j; simp [mup])
  · exact aE_c (t := t) (u := u) h.aE rfl (by intros; simp [sI, sJ, sN, sC, uI, uJ]) (by funext j; simp [mup])
  · exact aD_c (t := t) (u := u) h.aD rfl rfl (by intros; simp [sI, sJ, sN, sC, uI, uJ]) (by funext j; simp [mup])
  · exact aM_c (t := t) (u := u) h.aM rfl (by intros; simp [sI, sJ, sN, sC, uI, uJ]) (by intros; simp [sI, sJ, sN, sC, uI, uJ]) (by funext j; simp [mup]) (by funext j; simp [mup])
  · exact aB_c (t := t) (u := u) h.aB rfl (by intros; simp [sI, sJ, sN, sC, uI, uJ]) (by intros; simp [sI, sJ, sN, sC, uI, uJ]) (by intros; simp [sI, sJ, sN, sC, uI, uJ]) (by funext j; simp [mup]) (by funext j; simp [mup]) (by funext j; simp [mup])
  · exact aV_c (t := t) (u := u) h.aV rfl rfl (by intros; simp [sI, sJ, sN, sC, uI, uJ]) (by intros; simp [sI, sJ, sN, sC, uI, uJ]) (by intros; simp [sI, sJ, sN, sC, uI, uJ]) (by intros; simp [sI, sJ, sN, sC, uI, uJ]) (by intros; simp [sI, sJ, sN, sC, uI, uJ]) (by funext j; simp [mup]) (by funext j; simp [mup]) (by funext j; simp [mup]) (by funext j; simp [mup])
  · exact aX_c (t := t) (u := u) h.aX rfl (by intros; simp [sI, sJ, sN, sC, uI, uJ]) (by intros; simp [sI, sJ, sN, sC, uI, uJ]) (by intros; simp [sI, sJ, sN, sC, uI, uJ]) (by funext j; simp [mup]) (by funext j; simp [mup]) (by funext j; simp [mup])
  · exact aQ_c (t := t) (u := u) h.aQ rfl rfl rfl (by intros; simp [sI, sJ, sN, sC, uI, uJ]) (by intros; simp [sI, sJ, sN, sC, uI, uJ]) (by intros; simp [sI, sJ, sN, sC, uI, uJ]) (by intros; simp [sI, sJ, sN, sC, uI, uJ]) (by intros; simp [sI, sJ, sN, sC, uI, uJ]) (by funext j; simp [mup]) (by funext j; simp [mup]) (by funext j; simp [mup]) (by funext j; simp [mup])
  · exact aO_c (t := t) (u := u) h.aO rfl (by intros; simp [sI, sJ, sN, sC, uI, uJ])
  · exact aZ_c (t := t) (u := u) h.aZ rfl (by intros; simp [sI, sJ, sN, sC, uI, uJ]) (by intros; simp [sI, sJ, sN, sC, uI, uJ]) (by funext j; simp [mup]) (by funext j; simp [mup])
  · exact aF_c (t := t) (u := u) h.aF rfl rfl (by intros; simp [sI, sJ, sN, sC, uI, uJ]) (by funext j; simp [mup]) (by funext j; simp [mup])
theorem up_arr {t : Nat} {g : CS} {u : MS} (h : R0 t g u) {p l : Nat} (hp : p < sN g 1) (hl : l < sN g 0) {o : Option Nat} {oi : Int32} (ho : (o = none ∧ oi = -1) ∨ ∃ v, v < sN g 2 ∧ o = some v ∧ oi = nI v) (b : Bool) : R0 t (uI (uI (uJ (uJ g 5 p 9 (some l)) 5 p 10 o) 5 p 11 (zB b)) 5 p 12 (nI t)) (mup (mup (mup (mup u 18 p (nI l)) 21 p (nI t)) 20 p oi) 19 p (zB b)) := by
  refine ⟨?_, ?_, ?_, ?_, ?_, ?_, ?_, ?_, ?_, ?_, ?_, ?_, ?_, ?_, ?_, ?_, ?_, ?_, ?_, ?_, ?_, ?_⟩
  · exact aT_c (t := t) (u := u) h.aT (by intros; simp [sI, sJ, sN, sC, uI, uJ]) (by funext j; simp [mup])
  · exact aN_c (t := t) (u := u) h.aN rfl rfl rfl rfl rfl (by funext j; simp [mup]) (by funext j; simp [mup]) (by funext j; simp [mup]) (by funext j; simp [mup]) (by funext j; simp [mup])
  · exact aC_c (t := t) (u := u) h.aC (fun _ => rfl) (fun _ => rfl)
  · exact aL_c (t := t) (u := u) h.aL rfl (by intros; simp [sI, sJ, sN, sC, uI, uJ]) (by intros; simp [sI, sJ, sN, sC, uI, uJ]) (by intros; simp [sI, sJ, sN, sC, uI, uJ]) (by intros; simp [sI, sJ, sN, sC, uI, uJ]) (by intros; simp [sI, sJ, sN, sC, uI, uJ]) (by funext j; simp [mup]) (by funext j; simp [mup]) (by funext j; simp [mup]) (by funext j; simp [mup])
  · exact aW_c (t := t) (u := u) h.aW rfl (by intros; simp [sI, sJ, sN, sC, uI, uJ]) (by funext j; simp [mup])
  · exact aU_c (t := t) (u := u) h.aU rfl (by intros; simp [sI, sJ, sN, sC, uI, uJ]) (by funext j; simp [mup])
  · exact aR_c (t := t) (u := u) h.aR rfl (by intros; simp [sI, sJ, sN, sC, uI, uJ]) (by intros; simp [sI, sJ, sN, sC, uI, uJ]) (by intros; simp [sI, sJ, sN, sC, uI, uJ]) (by funext j; simp [mup]) (by funext j; simp [mup]) (by funext j; simp [mup])
  · exact aP_c (t := t) (u := u) h.aP rfl (by intros; simp [sI, sJ, sN, sC, uI, uJ]) (by intros; simp [sI, sJ, sN, sC, uI, uJ]) (by intros; simp [sI, sJ, sN, sC, uI, uJ]) (by intros; simp [sI, sJ, sN, sC, uI, uJ]) (by funext j; simp [mup]) (by funext j; simp [mup]) (by funext j; simp [mup])
  · exact aA_c (t := t) (u := u) h.aA rfl (by intros; simp [sI, sJ, sN, sC, uI, uJ]) (by funext j; simp [mup])
  · intro q9 hq9
    have h9 := h.aH q9 hq9
    by_cases e9 : q9 = p
    · subst e9
      exact Or.inr ⟨l, hl, by simp [sI, sJ, sN, uI, uJ, mup], by simp [sI, sJ, sN, uI, uJ, mup]⟩
    · simpa [sI, sJ, sN, uI, uJ, mup, e9] using h9
  · intro q9 hq9
    have h9 := h.aI q9 hq9
    by_cases e9 : q9 = p
    · subst e9
      simpa [sI, sJ, sN, uI, uJ, mup] using ho
    · simpa [sI, sJ, sN, uI, uJ, mup, e9] using h9
  · intro q9 hq9
    obtain ⟨h1, h2⟩ := h.aS q9 hq9
    by_cases e9 : q9 = p
    · subst e9
      refine ⟨fun _ => ⟨b, by simp [sI, sJ, sN, uI, uJ, mup], by simp [sI, sJ, sN, uI, uJ, mup]⟩, fun hl9 => ?_⟩
      exact absurd hl9 (Nat.not_le.mpr hp)
    · refine ⟨fun hl9 => ?_, fun hl9 => ?_⟩
      · simpa [sI, sJ, sN, uI, uJ, mup, e9] using h1 hl9
      · simpa [sI, sJ, sN, uI, uJ, mup, e9] using h2 hl9
  · intro q9 hq9
    obtain ⟨h1, h2⟩ := h.aE q9 hq9
    by_cases e9 : q9 = p
    · subst e9
      refine ⟨fun _ => ⟨t, Nat.le_refl _, by simp [sI, sJ, sN, uI, uJ, mup], by simp [sI, sJ, sN, uI, uJ, mup]⟩, fun hl9 => ?_⟩
      exact absurd hl9 (Nat.not_le.mpr hp)
    · refine ⟨fun hl9 => ?_, fun hl9 => ?_⟩
      · simpa [sI, sJ, sN, uI, uJ, mup, e9] using h1 hl9
      · simpa [sI, sJ, sN, uI, uJ, mup, e9] using h2 hl9
  · exact aD_c (t := t) (u := u) h.aD rfl rfl (by intros; simp [sI, sJ, sN, sC, uI, uJ]) (by funext j; simp [mup])
  · exact aM_c (t := t) (u := u) h.aM rfl (by intros; simp [sI, sJ, sN, sC, uI, uJ]) (by intros; simp [sI, sJ, sN, sC, uI, uJ]) (by funext j; simp [mup]) (by funext j; simp [mup])
  · exact aB_c (t := t) (u := u) h.aB rfl (by intros; simp [sI, sJ, sN, sC, uI, uJ]) (by intros; simp [sI, sJ, sN, sC, uI, uJ]) (by intros; simp [sI, sJ, sN, sC, uI, uJ]) (by funext j; simp [mup]) (by funext j; simp [mup]) (by funext j; simp [mup])
  · exact aV_c (t := t) (u := u) h.aV rfl rfl (by intros; simp [sI, sJ, sN, sC, uI, uJ]) (by intros; simp [sI, sJ, sN, sC, uI, uJ]) (by intros; simp [sI, sJ, sN, sC, uI, uJ]) (by intros; simp [sI, sJ, sN, sC, uI, uJ]) (by intros; simp [sI, sJ, sN, sC, uI, uJ]) (by funext j; simp [mup]) (by funext j; simp [mup]) (by funext j; simp [mup]) (by funext j; simp [mup])
  · exact aX_c (t := t) (u := u) h.aX rfl (by intros; simp [sI, sJ, sN, sC, uI, uJ]) (by intros; simp [sI, sJ, sN, sC, uI, uJ]) (by intros; simp [sI, sJ, sN, sC, uI, uJ]) (by funext j; simp [mup]) (by funext j; simp [mup]) (by funext j; simp [mup])
  · exact aQ_c (t := t) (u := u) h.aQ rfl rfl rfl (by intros; simp [sI, sJ, sN, sC, uI, uJ]) (by intros; simp [sI, sJ, sN, sC, uI, uJ]) (by intros; simp [sI, sJ, sN, sC, uI, uJ]) (by intros; simp [sI, sJ, sN, sC, uI, uJ]) (by intros; simp [sI, sJ, sN, sC, uI, uJ]) (by funext j; simp [mup]) (by funext j; simp [mup]) (by funext j; simp [mup]) (by funext j; simp [mup])
  · exact aO_c (t := t) (u := u) h.aO rfl (by intros; simp [sI, sJ, sN, sC, uI, uJ])
  · exact aZ_c (t := t) (u := u) h.aZ rfl (by intros; simp [sI, sJ, sN, sC, uI, uJ]) (by intros; simp [sI, sJ, sN, sC, uI, uJ]) (by funext j; simp [mup]) (by funext j; simp [mup])
  · exact aF_c (t := t) (u := u) h.aF rfl rfl (by intros; simp [sI, sJ, sN, sC, uI, uJ]) (by funext j; simp [mup]) (by funext j; simp [mup])
theorem up_move {t : Nat} {g : CS} {u : MS} (h : R0 t g u) {p l : Nat} (hl : l < sN g 0) : R0 t (uJ g 5 p 9 (some l)) (mup u 18 p (nI l)) := by
  refine ⟨?_, ?_, ?_, ?_, ?_, ?_, ?_, ?_, ?_, ?_, ?_, ?_, ?_, ?_, ?_, ?_, ?_, ?_, ?_, ?_, ?_, ?_⟩
  · exact aT_c (t := t) (u := u) h.aT (by intros; simp [sI, sJ, sN, sC, uI, uJ]) (by funext j; simp [mup])
  · exact aN_c (t := t) (u := u) h.aN rfl rfl rfl rfl rfl (by funext j; simp [mup]) (by funext j; simp [mup]) (by funext j; simp [mup]) (by funext j; simp [mup]) (by funext j; simp [mup])
  · exact aC_c (t := t) (u := u) h.aC (fun _ => rfl) (fun _ => rfl)
  · exact aL_c (t := t) (u := u) h.aL rfl (by intros; simp [sI, sJ, sN, sC, uI, uJ]) (by intros; simp [sI, sJ, sN, sC, uI, uJ]) (by intros; simp [sI, sJ, sN, sC, uI, uJ]) (by intros; simp [sI, sJ, sN, sC, uI, uJ]) (by intros; simp [sI, sJ, sN, sC, uI, uJ]) (by funext j; simp [mup]) (by funext j; simp [mup]) (by funext j; simp [mup]) (by funext j; simp [mup])
  · exact aW_c (t := t) (u := u) h.aW rfl (by intros; simp [sI, sJ, sN, sC, uI, uJ]) (by funext j; simp [mup])
  · exact aU_c (t := t) (u := u) h.aU rfl (by intros; simp [sI, sJ, sN, sC, uI, uJ]) (by funext j; simp [mup])
  · exact aR_c (t := t) (u := u) h.aR rfl (by intros; simp [sI, sJ, sN, sC, uI, uJ]) (by intros; simp [sI, sJ, sN, sC, uI, uJ]) (by intros; simp [sI, sJ, sN, sC, uI, uJ]) (by funext j; simp [mup]) (by funext j; simp [mup]) (by funext j; simp [mup])
  · exact aP_c (t := t) (u := u) h.aP rfl (by intros; simp [sI, sJ, sN, sC, uI, uJ]) (by intros; simp [sI, sJ, sN, sC, uI, uJ]) (by intros; simp [sI, sJ, sN, sC, uI, uJ]) (by intros; simp [sI, sJ, sN, sC, uI, uJ]) (by funext j; simp [mup]) (by funext j; simp [mup]) (by funext j; simp [mup])
  · exact aA_c (t := t) (u := u) h.aA rfl (by intros; simp [sI, sJ, sN, sC, uI, uJ]) (by funext j; simp [mup])
  · intro q9 hq9
    have h9 := h.aH q9 hq9
    by_cases e9 : q9 = p
    · subst e9
      exact Or.inr ⟨l, hl, by simp [sI, sJ, sN, uI, uJ, mup], by simp [sI, sJ, sN, uI, uJ, mup]⟩
    · simpa [sI, sJ, sN, uI, uJ, mup, e9] using h9
  · exact aI_c (t := t) (u := u) h.aI rfl rfl (by intros; simp [sI, sJ, sN, sC, uI, uJ]) (by funext j; simp [mup])
  · exact aS_c (t := t) (u := u) h.aS rfl (by intros; simp [sI, sJ, sN, sC, uI, uJ]) (by funext j; simp [mup])
  · exact aE_c (t := t) (u := u) h.aE rfl (by intros; simp [sI, sJ, sN, sC, uI, uJ]) (by funext j; simp [mup])
  · exact aD_c (t := t) (u := u) h.aD rfl rfl (by intros; simp [sI, sJ, sN, sC, uI, uJ]) (by funext j; simp [mup])
  · exact aM_c (t := t) (u := u) h.aM rfl (by intros; simp [sI, sJ, sN, sC, uI, uJ]) (by intros; simp [sI, sJ, sN, sC, uI, uJ]) (by funext j; simp [mup]) (by funext j; simp [mup])
  · exact aB_c (t := t) (u := u) h.aB rfl (by intros; simp [sI, sJ, sN, sC, uI, uJ]) (by intros; simp [sI, sJ, sN, sC, uI, uJ]) (by intros; simp [sI, sJ, sN, sC, uI, uJ]) (by funext j; simp [mup]) (by funext j; simp [mup]) (by funext j; simp [mup])
  · exact aV_c (t := t) (u := u) h.aV rfl rfl (by intros; simp [sI, sJ, sN, sC, uI, uJ]) (by intros; simp [sI, sJ, sN, sC, uI, uJ]) (by intros; simp [sI, sJ, sN, sC, uI, uJ]) (by intros; simp [sI, sJ, sN, sC, uI, uJ]) (by intros; simp [sI, sJ, sN, sC, uI, uJ]) (by funext j; simp [mup]) (by funext j; simp [mup]) (by funext j; simp [mup]) (by funext j; simp [mup])
  · exact aX_c (t := t) (u := u) h.aX rfl (by intros; simp [sI, sJ, sN, sC, uI, uJ]) (by intros; simp [sI, sJ, sN, sC, uI, uJ]) (by intros; simp [sI, sJ, sN, sC, uI, uJ]) (by funext j; simp [mup]) (by funext j; simp [mup]) (by funext j; simp [mup])
  · exact aQ_c (t := t) (u := u) h.aQ rfl rfl rfl (by intros; simp [sI, sJ, sN, sC, uI, uJ]) (by intros; simp [sI, sJ, sN, sC, uI, uJ]) (by intros; simp [sI, sJ, sN, sC, uI, uJ]) (by intros; simp [sI, sJ, sN, sC, uI, uJ]) (by intros; simp [sI, sJ, sN, sC, uI, uJ]) (by funext j; simp [mup]) (by funext j; simp [mup]) (by funext j; simp [mup]) (by funext j; simp [mup])
  · exact aO_c (t := t) (u := u) h.aO rfl (by intros; simp [sI, sJ, sN, sC, uI, uJ])
  · exact aZ_c (t := t) (u := u) h.aZ rfl (by intros; simp [sI, sJ, sN, sC, uI, uJ]) (by intros; simp [sI, sJ, sN, sC, uI, uJ]) (by funext j; simp [mup]) (by funext j; simp [mup])
  · exact aF_c (t := t) (u := u) h.aF rfl rfl (by intros; simp [sI, sJ, sN, sC, uI, uJ]) (by funext j; simp [mup]) (by funext j; simp [mup])
theorem up_leave {t : Nat} {g : CS} {u : MS} (h : R0 t g u) {p : Nat} : R0 t (uJ (uJ g 5 p 9 none) 5 p 10 none) (mup (mup u 18 p (-1)) 20 p (-1)) := by
  refine ⟨?_, ?_, ?_, ?_, ?_, ?_, ?_, ?_, ?_, ?_, ?_, ?_, ?_, ?_, ?_, ?_, ?_, ?_, ?_, ?_, ?_, ?_⟩
  · exact aT_c (t := t) (u := u) h.aT (by intros; simp [sI, sJ, sN, sC, uI, uJ]) (by funext j; simp [mup])
  · exact aN_c (t := t) (u := u) h.aN rfl rfl rfl rfl rfl (by funext j; simp [mup]) (by funext j; simp [mup]) (by funext j; simp [mup]) (by funext j; simp [mup]) (by funext j; simp [mup])
  · exact aC_c (t := t) (u := u) h.aC (fun _ => rfl) (fun _ => rfl)
  · exact aL_c (t := t) (u := u) h.aL rfl (by intros; simp [sI, sJ, sN, sC, uI, uJ]) (by intros; simp [sI, sJ, sN, sC, uI, uJ]) (by intros; simp [sI, sJ, sN, sC, uI, uJ]) (by intros; simp [sI, sJ, sN, sC, uI, uJ]) (by intros; simp [sI, sJ, sN, sC, uI, uJ]) (by funext j; simp [mup]) (by funext j; simp [mup]) (by funext j; simp [mup]) (by funext j; simp [mup])
  · exact aW_c (t := t) (u := u) h.aW rfl (by intros; simp [sI, sJ, sN, sC, uI, uJ]) (by funext j; simp [mup])
  · exact aU_c (t := t) (u := u) h.aU rfl (by intros; simp [sI, sJ, sN, sC, uI, uJ]) (by funext j; simp [mup])
  · exact aR_c (t := t) (u := u) h.aR rfl (by intros; simp [sI, sJ, sN, sC, uI, uJ]) (by intros; simp [sI, sJ, sN, sC, uI, uJ]) (by intros; simp [sI, sJ, sN, sC, uI, uJ]) (by funext j; simp [mup]) (by funext j; simp [mup]) (by funext j; simp [mup])
  · exact aP_c (t := t) (u := u) h.aP rfl (by intros; simp [sI, sJ, sN, sC, uI, uJ]) (by intros; simp [sI, sJ, sN, sC, uI, uJ]) (by intros; simp [sI, sJ, sN, sC, uI, uJ]) (by intros; simp [sI, sJ, sN, sC, uI, uJ]) (by funext j; simp [mup]) (by funext j; simp [mup]) (by funext j; simp [mup])
  · exact aA_c (t := t) (u := u) h.aA rfl (by intros; simp [sI, sJ, sN, sC, uI, uJ]) (by funext j; simp [mup])
  · intro q9 hq9
    have h9 := h.aH q9 hq9
    by_cases e9 : q9 = p
    · subst e9
      simp [sI, sJ, sN, uI, uJ, mup]
    · simpa [sI, sJ, sN, uI, uJ, mup, e9] using h9
  · intro q9 hq9
    have h9 := h.aI q9 hq9
    by_cases e9 : q9 = p
    · subst e9
      simp [sI, sJ, sN, uI, uJ, mup]
    · simpa [sI, sJ, sN, uI, uJ, mup, e9] using h9
  · exact aS_c (t := t) (u := u) h.aS rfl (by intros; simp [sI, sJ, sN, sC, uI, uJ]) (by funext j; simp [mup])
  · exact aE_c (t := t) (u := u) h.aE rfl (by intros; simp [sI, sJ, sN, sC, uI, uJ]) (by funext j; simp [mup])
  · exact aD_c (t := t) (u := u) h.aD rfl rfl (by intros; simp [sI, sJ, sN, sC, uI, uJ]) (by funext j; simp [mup])
  · exact aM_c (t := t) (u := u) h.aM rfl (by intros; simp [sI, sJ, sN, sC, uI, uJ]) (by intros; simp [sI, sJ, sN, sC, uI, uJ]) (by funext j; simp [mup]) (by funext j; simp [mup])
  · exact aB_c (t := t) (u := u) h.aB rfl (by intros; simp [sI, sJ, sN, sC, uI, uJ]) (by intros; simp [sI, sJ, sN, sC, uI, uJ]) (by intros; simp [sI, sJ, sN, sC, uI, uJ]) (by funext j; simp [mup]) (by funext j; simp [mup]) (by funext j; simp [mup])
  · exact aV_c (t := t) (u := u) h.aV rfl rfl (by intros; simp [sI, sJ, sN, sC, uI, uJ]) (by intros; simp [sI, sJ, sN, sC, uI, uJ]) (by intros; simp [sI, sJ, sN, sC, uI, uJ]) (by intros; simp [sI, sJ, sN, sC, uI, uJ]) (by intros; simp [sI, sJ, sN, sC, uI, uJ]) (by funext j; simp [mup]) (by funext j; simp [mup]) (by funext j; simp [mup]) (by funext j; simp [mup])
  · exact aX_c (t := t) (u := u) h.aX rfl (by intros; simp [sI, sJ, sN, sC, uI, uJ]) (by intros; simp [sI, sJ, sN, sC, uI, uJ]) (by intros; simp [sI, sJ, sN, sC, uI, uJ]) (by funext j; simp [mup]) (by funext j; simp [mup]) (by funext j; simp [mup])
  · exact aQ_c (t := t) (u := u) h.aQ rfl rfl rfl (by intros; simp [sI, sJ, sN, sC, uI, uJ]) (by intros; simp [sI, sJ, sN, sC, uI, uJ]) (by intros; simp [sI, sJ, sN, sC, uI, uJ]) (by intros; simp [sI, sJ, sN, sC, uI, uJ]) (by intros; simp [sI, sJ, sN, sC, uI, uJ]) (by funext j; simp [mup]) (by funext j; simp [mup]) (by funext j; simp [mup]) (by funext j; simp [mup])
  · exact aO_c (t := t) (u := u) h.aO rfl (by intros; simp [sI, sJ, sN, sC, uI, uJ])
  · exact aZ_c (t := t) (u := u) h.aZ rfl (by intros; simp [sI, sJ, sN, sC, uI, uJ]) (by intros; simp [sI, sJ, sN, sC, uI, uJ]) (by funext j; simp [mup]) (by funext j; simp [mup])
  · exact aF_c (t := t) (u := u) h.aF rfl rfl (by intros; simp [sI, sJ, sN, sC, uI, uJ]) (by funext j; simp [mup]) (by funext j; simp [mup])
theorem up_rec1 {t : Nat} {g : CS} {u : MS} (h : R0 t g u) {p m : Nat} (hp : p < sN g 1) (hm : m % 10 ≤ 4 ∧ (m = 0 ∨ m / 10 < sN g 0)) : R0 t (uI g 17 p t (nI m)) (mup u 22 (3601 * p + t) (nI m)) := by
  refine ⟨?_, ?_, ?_, ?_, ?_, ?_, ?_, ?_, ?_, ?_, ?_, ?_, ?_, ?_, ?_, ?_, ?_, ?_, ?_, ?_, ?_, ?_⟩
  · exact aT_c (t := t) (u := u) h.aT (by intros; simp [sI, sJ, sN, sC, uI, uJ]) (by funext j; simp [mup])
  · exact aN_c (t := t) (u := u) h.aN rfl rfl rfl rfl rfl (by funext j; simp [mup]) (by funext j; simp [mup]) (by funext j; simp [mup]) (by funext j; simp [mup]) (by funext j; simp [mup])
  · exact aC_c (t := t) (u := u) h.aC (fun _ => rfl) (fun _ => rfl)
  · exact aL_c (t := t) (u := u) h.aL rfl (by intros; simp [sI, sJ, sN, sC, uI, uJ]) (by intros; simp [sI, sJ, sN, sC, uI, uJ]) (by intros; simp [sI, sJ, sN, sC, uI, uJ]) (by intros; simp [sI, sJ, sN, sC, uI, uJ]) (by intros; simp [sI, sJ, sN, sC, uI, uJ]) (by funext j; simp [mup]) (by funext j; simp [mup]) (by funext j; simp [mup]) (by funext j; simp [mup])
  · exact aW_c (t := t) (u := u) h.aW rfl (by intros; simp [sI, sJ, sN, sC, uI, uJ]) (by funext j; simp [mup])
  · exact aU_c (t := t) (u := u) h.aU rfl (by intros; simp [sI, sJ, sN, sC, uI, uJ]) (by funext j; simp [mup])
  · exact aR_c (t := t) (u := u) h.aR rfl (by intros; simp [sI, sJ, sN, sC, uI, uJ]) (by intros; simp [sI, sJ, sN, sC, uI, uJ]) (by intros; simp [sI, sJ, sN, sC, uI, uJ]) (by funext j; simp [mup]) (by funext j; simp [mup]) (by funext j; simp [mup])
  · exact aP_c (t := t) (u := u) h.aP rfl (by intros; simp [sI, sJ, sN, sC, uI, uJ]) (by intros; simp [sI, sJ, sN, sC, uI, uJ]) (by intros; simp [sI, sJ, sN, sC, uI, uJ]) (by intros; simp [sI, sJ, sN, sC, uI, uJ]) (by funext j; simp [mup]) (by funext j; simp [mup]) (by funext j; simp [mup])
  · exact aA_c (t := t) (u := u) h.aA rfl (by intros; simp [sI, sJ, sN, sC, uI, uJ]) (by funext j; simp [mup])
  · exact aH_c (t := t) (u := u) h.aH rfl rfl (by intros; simp [sI, sJ, sN, sC, uI, uJ]) (by funext j; simp [mup])
  · exact aI_c (t := t) (u := u) h.aI rfl rfl (by intros; simp [sI, sJ, sN, sC, uI, uJ]) (by funext j; simp [mup])
  · exact aS_c (t := t) (u := u) h.aS rfl (by intros; simp [sI, sJ, sN, sC, uI, uJ]) (by funext j; simp [mup])
  · exact aE_c (t := t) (u := u) h.aE rfl (by intros; simp [sI, sJ, sN, sC, uI, uJ]) (by funext j; simp [mup])
  · have hT := h.aT.2.1
    have hN1 := h.aN.2.2.1
    intro q9 hq9 d hd
    obtain ⟨h1, h2⟩ := h.aD q9 hq9 d hd
    by_cases e9 : q9 = p ∧ d = t
    · obtain ⟨rfl, rfl⟩ := e9
      exact ⟨fun _ => ⟨by simp [sI, sJ, sN, uI, uJ, mup], ⟨m, hm.1, hm.2, by simp [sI, sJ, sN, uI, uJ, mup]⟩, fun z => absurd z (Nat.lt_irrefl _)⟩, fun hl9 => absurd hl9 (Nat.not_le.mpr hp)⟩
    · rw [mup_nj _ _ _ (by omega), sI_n _ _ _ _ _ (by omega)]
      exact ⟨h1, h2⟩
  · exact aM_c (t := t) (u := u) h.aM rfl (by intros; simp [sI, sJ, sN, sC, uI, uJ]) (by intros; simp [sI, sJ, sN, sC, uI, uJ]) (by funext j; simp [mup]) (by funext j; simp [mup])
  · exact aB_c (t := t) (u := u) h.aB rfl (by intros; simp [sI, sJ, sN, sC, uI, uJ]) (by intros; simp [sI, sJ, sN, sC, uI, uJ]) (by intros; simp [sI, sJ, sN, sC, uI, uJ]) (by funext j; simp [mup]) (by funext j; simp [mup]) (by funext j; simp [mup])
  · exact aV_c (t := t) (u := u) h.aV rfl rfl (by intros; simp [sI, sJ, sN, sC, uI, uJ]) (by intros; simp [sI, sJ, sN, sC, uI, uJ]) (by intros; simp [sI, sJ, sN, sC, uI, uJ]) (by intros; simp [sI, sJ, sN, sC, uI, uJ]) (by intros; simp [sI, sJ, sN, sC, uI, uJ]) (by funext j; simp [mup]) (by funext j; simp [mup]) (by funext j; simp [mup]) (by funext j; simp [mup])
  · exact aX_c (t := t) (u := u) h.aX rfl (by intros; simp [sI, sJ, sN, sC, uI, uJ]) (by intros; simp [sI, sJ, sN, sC, uI, uJ]) (by intros; simp [sI, sJ, sN, sC, uI, uJ]) (by funext j; simp [mup]) (by funext j; simp [mup]) (by funext j; simp [mup])
  · exact aQ_c (t := t) (u := u) h.aQ rfl rfl rfl (by intros; simp [sI, sJ, sN, sC, uI, uJ]) (by intros; simp [sI, sJ, sN, sC, uI, uJ]) (by intros; simp [sI, sJ, sN, sC, uI, uJ]) (by intros; simp [sI, sJ, sN, sC, uI, uJ]) (by intros; simp [sI, sJ, sN, sC, uI, uJ]) (by funext j; simp [mup]) (by funext j; simp [mup]) (by funext j; simp [mup]) (by funext j; simp [mup])
  · exact aO_c (t := t) (u := u) h.aO rfl (by intros; simp [sI, sJ, sN, sC, uI, uJ])
  · exact aZ_c (t := t) (u := u) h.aZ rfl (by intros; simp [sI, sJ, sN, sC, uI, uJ]) (by intros; simp [sI, sJ, sN, sC, uI, uJ]) (by funext j; simp [mup]) (by funext j; simp [mup])
  · exact aF_c (t := t) (u := u) h.aF rfl rfl (by intros; simp [sI, sJ, sN, sC, uI, uJ]) (by funext j; simp [mup]) (by funext j; simp [mup])
theorem up_cnt {t : Nat} {g : CS} {u : MS} (h : R0 t g u) {p : Nat} (y : Int32) : R0 t (uI g 18 p t y) (u) := by
  refine ⟨?_, ?_, ?_, ?_, ?_, ?_, ?_, ?_, ?_, ?_, ?_, ?_, ?_, ?_, ?_, ?_, ?_, ?_, ?_, ?_, ?_, ?_⟩
  · exact aT_c (t := t) (u := u) h.aT (by intros; simp [sI, sJ, sN, sC, uI, uJ]) (by funext j; simp [mup])
  · exact aN_c (t := t) (u := u) h.aN rfl rfl rfl rfl rfl (by funext j; simp [mup]) (by funext j; simp [mup]) (by funext j; simp [mup]) (by funext j; simp [mup]) (by funext j; simp [mup])
  · exact aC_c (t := t) (u := u) h.aC (fun _ => rfl) (fun _ => rfl)
  · exact aL_c (t := t) (u := u) h.aL rfl (by intros; simp [sI, sJ, sN, sC, uI, uJ]) (by intros; simp [sI, sJ, sN, sC, uI, uJ]) (by intros; simp [sI, sJ, sN, sC, uI, uJ]) (by intros; simp [sI, sJ, sN, sC, uI, uJ]) (by intros; simp [sI, sJ, sN, sC, uI, uJ]) (by funext j; simp [mup]) (by funext j; simp [mup]) (by funext j; simp [mup]) (by funext j; simp [mup])
  · exact aW_c (t := t) (u := u) h.aW rfl (by intros; simp [sI, sJ, sN, sC, uI, uJ]) (by funext j; simp [mup])
  · exact aU_c (t := t) (u := u) h.aU rfl (by intros; simp [sI, sJ, sN, sC, uI, uJ]) (by funext j; simp [mup])
  · exact aR_c (t := t) (u := u) h.aR rfl (by intros; simp [sI, sJ, sN, sC, uI, uJ]) (by intros; simp [sI, sJ, sN, sC, uI, uJ]) (by intros; simp [sI, sJ, sN, sC, uI, uJ]) (by funext j; simp [mup]) (by funext j; simp [mup]) (by funext j; simp [mup])
  · exact aP_c (t := t) (u := u) h.aP rfl (by intros; simp [sI, sJ, sN, sC, uI, uJ]) (by intros; simp [sI, sJ, sN, sC, uI, uJ]) (by intros; simp [sI, sJ, sN, sC, uI, uJ]) (by intros; simp [sI, sJ, sN, sC, uI, uJ]) (by funext j; simp [mup]) (by funext j; simp [mup]) (by funext j; simp [mup])
  · exact aA_c (t := t) (u := u) h.aA rfl (by intros; simp [sI, sJ, sN, sC, uI, uJ]) (by funext j; simp [mup])
  · exact aH_c (t := t) (u := u) h.aH rfl rfl (by intros; simp [sI, sJ, sN, sC, uI, uJ]) (by funext j; simp [mup])
  · exact aI_c (t := t) (u := u) h.aI rfl rfl (by intros; simp [sI, sJ, sN, sC, uI, uJ]) (by funext j; simp [mup])
  · exact aS_c (t := t) (u := u) h.aS rfl (by intros; simp [sI, sJ, sN, sC, uI, uJ]) (by funext j; simp [mup])
  · exact aE_c (t := t) (u := u) h.aE rfl (by intros; simp [sI, sJ, sN, sC, uI, uJ]) (by funext j; simp [mup])
  · exact aD_c (t := t) (u := u) h.aD rfl rfl (by intros; simp [sI, sJ, sN, sC, uI, uJ]) (by funext j; simp [mup])
  · exact aM_c (t := t) (u := u) h.aM rfl (by intros; simp [sI, sJ, sN, sC, uI, uJ]) (by intros; simp [sI, sJ, sN, sC, uI, uJ]) (by funext j; simp [mup]) (by funext j; simp [mup])
  · exact aB_c (t := t) (u := u) h.aB rfl (by intros; simp [sI, sJ, sN, sC, uI, uJ]) (by intros; simp [sI, sJ, sN, sC, uI, uJ]) (by intros; simp [sI, sJ, sN, sC, uI, uJ]) (by funext j; simp [mup]) (by funext j; simp [mup]) (by funext j; simp [mup])
  · exact aV_c (t := t) (u := u) h.aV rfl rfl (by intros; simp [sI, sJ, sN, sC, uI, uJ]) (by intros; simp [sI, sJ, sN, sC, uI, uJ]) (by intros; simp [sI, sJ, sN, sC, uI, uJ]) (by intros; simp [sI, sJ, sN, sC, uI, uJ]) (by intros; simp [sI, sJ, sN, sC, uI, uJ]) (by funext j; simp [mup]) (by funext j; simp [mup]) (by funext j; simp [mup]) (by funext j; simp [mup])
  · exact aX_c (t := t) (u := u) h.aX rfl (by intros; simp [sI, sJ, sN, sC, uI, uJ]) (by intros; simp [sI, sJ, sN, sC, uI, uJ]) (by intros; simp [sI, sJ, sN, sC, uI, uJ]) (by funext j; simp [mup]) (by funext j; simp [mup]) (by funext j; simp [mup])
  · exact aQ_c (t := t) (u := u) h.aQ rfl rfl rfl (by intros; simp [sI, sJ, sN, sC, uI, uJ]) (by intros; simp [sI, sJ, sN, sC, uI, uJ]) (by intros; simp [sI, sJ, sN, sC, uI, uJ]) (by intros; simp [sI, sJ, sN, sC, uI, uJ]) (by intros; simp [sI, sJ, sN, sC, uI, uJ]) (by funext j; simp [mup]) (by funext j; simp [mup]) (by funext j; simp [mup]) (by funext j; simp [mup])
  · exact aO_c (t := t) (u := u) h.aO rfl (by intros; simp [sI, sJ, sN, sC, uI, uJ])
  · exact aZ_c (t := t) (u := u) h.aZ rfl (by intros; simp [sI, sJ, sN, sC, uI, uJ]) (by intros; simp [sI, sJ, sN, sC, uI, uJ]) (by funext j; simp [mup]) (by funext j; simp [mup])
  · exact aF_c (t := t) (u := u) h.aF rfl rfl (by intros; simp [sI, sJ, sN, sC, uI, uJ]) (by funext j; simp [mup]) (by funext j; simp [mup])
theorem up_day {t : Nat} {g : CS} {u : MS} (h : R0 t g u) {v : Nat} (x y : Int32) : R0 t (uI (uI g 6 v 7 x) 6 v 6 y) (mup (mup u 35 v x) 34 v y) := by
  refine ⟨?_, ?_, ?_, ?_, ?_, ?_, ?_, ?_, ?_, ?_, ?_, ?_, ?_, ?_, ?_, ?_, ?_, ?_, ?_, ?_, ?_, ?_⟩
  · exact aT_c (t := t) (u := u) h.aT (by intros; simp [sI, sJ, sN, sC, uI, uJ]) (by funext j; simp [mup])
  · exact aN_c (t := t) (u := u) h.aN rfl rfl rfl rfl rfl (by funext j; simp [mup]) (by funext j; simp [mup]) (by funext j; simp [mup]) (by funext j; simp [mup]) (by funext j; simp [mup])
  · exact aC_c (t := t) (u := u) h.aC (fun _ => rfl) (fun _ => rfl)
  · exact aL_c (t := t) (u := u) h.aL rfl (by intros; simp [sI, sJ, sN, sC, uI, uJ]) (by intros; simp [sI, sJ, sN, sC, uI, uJ]) (by intros; simp [sI, sJ, sN, sC, uI, uJ]) (by intros; simp [sI, sJ, sN, sC, uI, uJ]) (by intros; simp [sI, sJ, sN, sC, uI, uJ]) (by funext j; simp [mup]) (by funext j; simp [mup]) (by funext j; simp [mup]) (by funext j; simp [mup])
  · exact aW_c (t := t) (u := u) h.aW rfl (by intros; simp [sI, sJ, sN, sC, uI, uJ]) (by funext j; simp [mup])
  · exact aU_c (t := t) (u := u) h.aU rfl (by intros; simp [sI, sJ, sN, sC, uI, uJ]) (by funext j; simp [mup])
  · exact aR_c (t := t) (u := u) h.aR rfl (by intros; simp [sI, sJ, sN, sC, uI, uJ]) (by intros; simp [sI, sJ, sN, sC, uI, uJ]) (by intros; simp [sI, sJ, sN, sC, uI, uJ]) (by funext j; simp [mup]) (by funext j; simp [mup]) (by funext j; simp [mup])
  · exact aP_c (t := t) (u := u) h.aP rfl (by intros; simp [sI, sJ, sN, sC, uI, uJ]) (by intros; simp [sI, sJ, sN, sC, uI, uJ]) (by intros; simp [sI, sJ, sN, sC, uI, uJ]) (by intros; simp [sI, sJ, sN, sC, uI, uJ]) (by funext j; simp [mup]) (by funext j; simp [mup]) (by funext j; simp [mup])
  · exact aA_c (t := t) (u := u) h.aA rfl (by intros; simp [sI, sJ, sN, sC, uI, uJ]) (by funext j; simp [mup])
  · exact aH_c (t := t) (u := u) h.aH rfl rfl (by intros; simp [sI, sJ, sN, sC, uI, uJ]) (by funext j; simp [mup])
  · exact aI_c (t := t) (u := u) h.aI rfl rfl (by intros; simp [sI, sJ, sN, sC, uI, uJ]) (by funext j; simp [mup])
  · exact aS_c (t := t) (u := u) h.aS rfl (by intros; simp [sI, sJ, sN, sC, uI, uJ]) (by funext j; simp [mup])
  · exact aE_c (t := t) (u := u) h.aE rfl (by intros; simp [sI, sJ, sN, sC, uI, uJ]) (by funext j; simp [mup])
  · exact aD_c (t := t) (u := u) h.aD rfl rfl (by intros; simp [sI, sJ, sN, sC, uI, uJ]) (by funext j; simp [mup])
  · exact aM_c (t := t) (u := u) h.aM rfl (by intros; simp [sI, sJ, sN, sC, uI, uJ]) (by intros; simp [sI, sJ, sN, sC, uI, uJ]) (by funext j; simp [mup]) (by funext j; simp [mup])
  · exact aB_c (t := t) (u := u) h.aB rfl (by intros; simp [sI, sJ, sN, sC, uI, uJ]) (by intros; simp [sI, sJ, sN, sC, uI, uJ]) (by intros; simp [sI, sJ, sN, sC, uI, uJ]) (by funext j; simp [mup]) (by funext j; simp [mup]) (by funext j; simp [mup])
  · exact aV_c (t := t) (u := u) h.aV rfl rfl (by intros; simp [sI, sJ, sN, sC, uI, uJ]) (by intros; simp [sI, sJ, sN, sC, uI, uJ]) (by intros; simp [sI, sJ, sN, sC, uI, uJ]) (by intros; simp [sI, sJ, sN, sC, uI, uJ]) (by intros; simp [sI, sJ, sN, sC, uI, uJ]) (by funext j; simp [mup]) (by funext j; simp [mup]) (by funext j; simp [mup]) (by funext j; simp [mup])
  · intro q9 hq9
    have h9 := h.aX q9 hq9
    by_cases e9 : q9 = v
    · subst e9
      simp [sI, sJ, sN, uI, uJ, mup]; simpa [sI] using h9.1
    · simpa [sI, sJ, sN, uI, uJ, mup, e9] using h9
  · exact aQ_c (t := t) (u := u) h.aQ rfl rfl rfl (by intros; simp [sI, sJ, sN, sC, uI, uJ]) (by intros; simp [sI, sJ, sN, sC, uI, uJ]) (by intros; simp [sI, sJ, sN, sC, uI, uJ]) (by intros; simp [sI, sJ, sN, sC, uI, uJ]) (by intros; simp [sI, sJ, sN, sC, uI, uJ]) (by funext j; simp [mup]) (by funext j; simp [mup]) (by funext j; simp [mup]) (by funext j; simp [mup])
  · exact aO_c (t := t) (u := u) h.aO rfl (by intros; simp [sI, sJ, sN, sC, uI, uJ])
  · exact aZ_c (t := t) (u := u) h.aZ rfl (by intros; simp [sI, sJ, sN, sC, uI, uJ]) (by intros; simp [sI, sJ, sN, sC, uI, uJ]) (by funext j; simp [mup]) (by funext j; simp [mup])
  · exact aF_c (t := t) (u := u) h.aF rfl rfl (by intros; simp [sI, sJ, sN, sC, uI, uJ]) (by funext j; simp [mup]) (by funext j; simp [mup])
theorem up_ent {t : Nat} {g : CS} {u : MS} (h : R0 t g u) {v : Nat} (x : Int32) : R0 t (uI g 6 v 5 x) (mup u 33 v x) := by
  refine ⟨?_, ?_, ?_, ?_, ?_, ?_, ?_, ?_, ?_, ?_, ?_, ?_, ?_, ?_, ?_, ?_, ?_, ?_, ?_, ?_, ?_, ?_⟩
  · exact aT_c (t := t) (u := u) h.aT (by intros; simp [sI, sJ, sN, sC, uI, uJ]) (by funext j; simp [mup])
  · exact aN_c (t := t) (u := u) h.aN rfl rfl rfl rfl rfl (by funext j; simp [mup]) (by funext j; simp [mup]) (by funext j; simp [mup]) (by funext j; simp [mup]) (by funext j; simp [mup])
  · exact aC_c (t := t) (u := u) h.aC (fun _ => rfl) (fun _ => rfl)
  · exact aL_c (t := t) (u := u) h.aL rfl (by intros; simp [sI, sJ, sN, sC, uI, uJ]) (by intros; simp [sI, sJ, sN, sC, uI, uJ]) (by intros; simp [sI, sJ, sN, sC, uI, uJ]) (by intros; simp [sI, sJ, sN, sC, uI, uJ]) (by intros; simp [sI, sJ, sN, sC, uI, uJ]) (by funext j; simp [mup]) (by funext j; simp [mup]) (by funext j; simp [mup]) (by funext j; simp [mup])
  · exact aW_c (t := t) (u := u) h.aW rfl (by intros; simp [sI, sJ, sN, sC, uI, uJ]) (by funext j; simp [mup])
  · exact aU_c (t := t) (u := u) h.aU rfl (by intros; simp [sI, sJ, sN, sC, uI, uJ]) (by funext j; simp [mup])
  · exact aR_c (t := t) (u := u) h.aR rfl (by intros; simp [sI, sJ, sN, sC, uI, uJ]) (by intros; simp [sI, sJ, sN, sC, uI, uJ]) (by intros; simp [sI, sJ, sN, sC, uI, uJ]) (by funext j; simp [mup]) (by funext j; simp [mup]) (by funext j; simp [mup])
  · exact aP_c (t := t) (u := u) h.aP rfl (by intros; simp [sI, sJ, sN, sC, uI, uJ]) (by intros; simp [sI, sJ, sN, sC, uI, uJ]) (by intros; simp [sI, sJ, sN, sC, uI, uJ]) (by intros; simp [sI, sJ, sN, sC, uI, uJ]) (by funext j; simp [mup]) (by funext j; simp [mup]) (by funext j; simp [mup])
  · exact aA_c (t := t) (u := u) h.aA rfl (by intros; simp [sI, sJ, sN, sC, uI, uJ]) (by funext j; simp [mup])
  · exact aH_c (t := t) (u := u) h.aH rfl rfl (by intros; simp [sI, sJ, sN, sC, uI, uJ]) (by funext j; simp [mup])
  · exact aI_c (t := t) (u := u) h.aI rfl rfl (by intros; simp [sI, sJ, sN, sC, uI, uJ]) (by funext j; simp [mup])
  · exact aS_c (t := t) (u := u) h.aS rfl (by intros; simp [sI, sJ, sN, sC, uI, uJ]) (by funext j; simp [mup])
  · exact aE_c (t := t) (u := u) h.aE rfl (by intros; simp [sI, sJ, sN, sC, uI, uJ]) (by funext j; simp [mup])
  · exact aD_c (t := t) (u := u) h.aD rfl rfl (by intros; simp [sI, sJ, sN, sC, uI, uJ]) (by funext j; simp [mup])
  · exact aM_c (t := t) (u := u) h.aM rfl (by intros; simp [sI, sJ, sN, sC, uI, uJ]) (by intros; simp [sI, sJ, sN, sC, uI, uJ]) (by funext j; simp [mup]) (by funext j; simp [mup])
  · exact aB_c (t := t) (u := u) h.aB rfl (by intros; simp [sI, sJ, sN, sC, uI, uJ]) (by intros; simp [sI, sJ, sN, sC, uI, uJ]) (by intros; simp [sI, sJ, sN, sC, uI, uJ]) (by funext j; simp [mup]) (by funext j; simp [mup]) (by funext j; simp [mup])
  · exact aV_c (t := t) (u := u) h.aV rfl rfl (by intros; simp [sI, sJ, sN, sC, uI, uJ]) (by intros; simp [sI, sJ, sN, sC, uI, uJ]) (by intros; simp [sI, sJ, sN, sC, uI, uJ]) (by intros; simp [sI, sJ, sN, sC, uI, uJ]) (by intros; simp [sI, sJ, sN, sC, uI, uJ]) (by funext j; simp [mup]) (by funext j; simp [mup]) (by funext j; simp [mup]) (by funext j; simp [mup])
  · intro q9 hq9
    have h9 := h.aX q9 hq9
    by_cases e9 : q9 = v
    · subst e9
      simp [sI, sJ, sN, uI, uJ, mup]; simpa [sI] using h9.2
    · simpa [sI, sJ, sN, uI, uJ, mup, e9] using h9
  · exact aQ_c (t := t) (u := u) h.aQ rfl rfl rfl (by intros; simp [sI, sJ, sN, sC, uI, uJ]) (by intros; simp [sI, sJ, sN, sC, uI, uJ]) (by intros; simp [sI, sJ, sN, sC, uI, uJ]) (by intros; simp [sI, sJ, sN, sC, uI, uJ]) (by intros; simp [sI, sJ, sN, sC, uI, uJ]) (by funext j; simp [mup]) (by funext j; simp [mup]) (by funext j; simp [mup]) (by funext j; simp [mup])
  · exact aO_c (t := t) (u := u) h.aO rfl (by intros; simp [sI, sJ, sN, sC, uI, uJ])
  · exact aZ_c (t := t) (u := u) h.aZ rfl (by intros; simp [sI, sJ, sN, sC, uI, uJ]) (by intros; simp [sI, sJ, sN, sC, uI, uJ]) (by funext j; simp [mup]) (by funext j; simp [mup])
  · exact aF_c (t := t) (u := u) h.aF rfl rfl (by intros; simp [sI, sJ, sN, sC, uI, uJ]) (by funext j; simp [mup]) (by funext j; simp [mup])
theorem up_ban {t : Nat} {g : CS} {u : MS} (h : R0 t g u) {p l : Nat} (hp : p < sN g 1) (hl : l < 8) (a b c : Int32) : R0 t (uI (uI (uI g 19 p l a) 20 p l b) 21 p l c) (mup (mup (mup u 25 (8 * p + l) b) 26 (8 * p + l) a) 27 (8 * p + l) c) := by
  refine ⟨?_, ?_, ?_, ?_, ?_, ?_, ?_, ?_, ?_, ?_, ?_, ?_, ?_, ?_, ?_, ?_, ?_, ?_, ?_, ?_, ?_, ?_⟩
  · exact aT_c (t := t) (u := u) h.aT (by intros; simp [sI, sJ, sN, sC, uI, uJ]) (by funext j; simp [mup])
  · exact aN_c (t := t) (u := u) h.aN rfl rfl rfl rfl rfl (by funext j; simp [mup]) (by funext j; simp [mup]) (by funext j; simp [mup]) (by funext j; simp [mup]) (by funext j; simp [mup])
  · exact aC_c (t := t) (u := u) h.aC (fun _ => rfl) (fun _ => rfl)
  · exact aL_c (t := t) (u := u) h.aL rfl (by intros; simp [sI, sJ, sN, sC, uI, uJ]) (by intros; simp [sI, sJ, sN, sC, uI, uJ]) (by intros; simp [sI, sJ, sN, sC, uI, uJ]) (by intros; simp [sI, sJ, sN, sC, uI, uJ]) (by intros; simp [sI, sJ, sN, sC, uI, uJ]) (by funext j; simp [mup]) (by funext j; simp [mup]) (by funext j; simp [mup]) (by funext j; simp [mup])
  · exact aW_c (t := t) (u := u) h.aW rfl (by intros; simp [sI, sJ, sN, sC, uI, uJ]) (by funext j; simp [mup])
  · exact aU_c (t := t) (u := u) h.aU rfl (by intros; simp [sI, sJ, sN, sC, uI, uJ]) (by funext j; simp [mup])
  · exact aR_c (t := t) (u := u) h.aR rfl (by intros; simp [sI, sJ, sN, sC, uI, uJ]) (by intros; simp [sI, sJ, sN, sC, uI, uJ]) (by intros; simp [sI, sJ, sN, sC, uI, uJ]) (by funext j; simp [mup]) (by funext j; simp [mup]) (by funext j; simp [mup])
  · exact aP_c (t := t) (u := u) h.aP rfl (by intros; simp [sI, sJ, sN, sC, uI, uJ]) (by intros; simp [sI, sJ, sN, sC, uI, uJ]) (by intros; simp [sI, sJ, sN, sC, uI, uJ]) (by intros; simp [sI, sJ, sN, sC, uI, uJ]) (by funext j; simp [mup]) (by funext j; simp [mup]) (by funext j; simp [mup])
  · exact aA_c (t := t) (u := u) h.aA rfl (by intros; simp [sI, sJ, sN, sC, uI, uJ]) (by funext j; simp [mup])
  · exact aH_c (t := t) (u := u) h.aH rfl rfl (by intros; simp [sI, sJ, sN, sC, uI, uJ]) (by funext j; simp [mup])
  · exact aI_c (t := t) (u := u) h.aI rfl rfl (by intros; simp [sI, sJ, sN, sC, uI, uJ]) (by funext j; simp [mup])
  · exact aS_c (t := t) (u := u) h.aS rfl (by intros; simp [sI, sJ, sN, sC, uI, uJ]) (by funext j; simp [mup])
  · exact aE_c (t := t) (u := u) h.aE rfl (by intros; simp [sI, sJ, sN, sC, uI, uJ]) (by funext j; simp [mup])
  · exact aD_c (t := t) (u := u) h.aD rfl rfl (by intros; simp [sI, sJ, sN, sC, uI, uJ]) (by funext j; simp [mup])
  · exact aM_c (t := t) (u := u) h.aM rfl (by intros; simp [sI, sJ, sN, sC, uI, uJ]) (by intros; simp [sI, sJ, sN, sC, uI, uJ]) (by funext j; simp [mup]) (by funext j; simp [mup])
  · have hN1 := h.aN.2.2.1
    intro q9 hq9 k hk
    obtain ⟨h1, h2⟩ := h.aB q9 hq9 k hk
    by_cases e9 : q9 = p ∧ k = l
    · obtain ⟨rfl, rfl⟩ := e9
      exact ⟨fun _ => ⟨by simp [sI, sJ, sN, uI, uJ, mup], fun _ => ⟨by simp [sI, sJ, sN, uI, uJ, mup], by simp [sI, sJ, sN, uI, uJ, mup]⟩⟩, fun hl9 => absurd hl9 (Nat.not_le.mpr hp)⟩
    · have e8 : 8 * q9 + k ≠ 8 * p + l := by omega
      have e7 : ∀ K x, sI (uI g K p l x) 19 q9 k = sI g 19 q9 k ∧ sI (uI g K p l x) 20 q9 k = sI g 20 q9 k ∧ sI (uI g K p l x) 21 q9 k = sI g 21 q9 k := fun K x => ⟨sI_n _ _ _ _ _ (by omega), sI_n _ _ _ _ _ (by omega), sI_n _ _ _ _ _ (by omega)⟩
      rw [show sI (uI (uI (uI g 19 p l a) 20 p l b) 21 p l c) 19 q9 k = sI g 19 q9 k from by rw [sI_n _ _ _ _ _ (by omega), sI_n _ _ _ _ _ (by omega), sI_n _ _ _ _ _ (by omega)], show sI (uI (uI (uI g 19 p l a) 20 p l b) 21 p l c) 20 q9 k = sI g 20 q9 k from by rw [sI_n _ _ _ _ _ (by omega), sI_n _ _ _ _ _ (by omega), sI_n _ _ _ _ _ (by omega)], show sI (uI (uI (uI g 19 p l a) 20 p l b) 21 p l c) 21 q9 k = sI g 21 q9 k from by rw [sI_n _ _ _ _ _ (by omega), sI_n _ _ _ _ _ (by omega), sI_n _ _ _ _ _ (by omega)]]
      simp only [mup_n _ _ _ _ (show ¬ (25 = 27 ∧ 8 * q9 + k = 8 * p + l) from by omega), mup_n _ _ _ _ (show ¬ (25 = 26 ∧ 8 * q9 + k = 8 * p + l) from by omega), mup_n _ _ _ _ (show ¬ (25 = 25 ∧ 8 * q9 + k = 8 * p + l) from by omega), mup_n _ _ _ _ (show ¬ (26 = 27 ∧ 8 * q9 + k = 8 * p + l) from by omega), mup_n _ _ _ _ (show ¬ (26 = 26 ∧ 8 * q9 + k = 8 * p + l) from by omega), mup_n _ _ _ _ (show ¬ (26 = 25 ∧ 8 * q9 + k = 8 * p + l) from by omega), mup_n _ _ _ _ (show ¬ (27 = 27 ∧ 8 * q9 + k = 8 * p + l) from by omega), mup_n _ _ _ _ (show ¬ (27 = 26 ∧ 8 * q9 + k = 8 * p + l) from by omega), mup_n _ _ _ _ (show ¬ (27 = 25 ∧ 8 * q9 + k = 8 * p + l) from by omega)]
      exact ⟨h1, h2⟩
  · exact aV_c (t := t) (u := u) h.aV rfl rfl (by intros; simp [sI, sJ, sN, sC, uI, uJ]) (by intros; simp [sI, sJ, sN, sC, uI, uJ]) (by intros; simp [sI, sJ, sN, sC, uI, uJ]) (by intros; simp [sI, sJ, sN, sC, uI, uJ]) (by intros; simp [sI, sJ, sN, sC, uI, uJ]) (by funext j; simp [mup]) (by funext j; simp [mup]) (by funext j; simp [mup]) (by funext j; simp [mup])
  · exact aX_c (t := t) (u := u) h.aX rfl (by intros; simp [sI, sJ, sN, sC, uI, uJ]) (by intros; simp [sI, sJ, sN, sC, uI, uJ]) (by intros; simp [sI, sJ, sN, sC, uI, uJ]) (by funext j; simp [mup]) (by funext j; simp [mup]) (by funext j; simp [mup])
  · exact aQ_c (t := t) (u := u) h.aQ rfl rfl rfl (by intros; simp [sI, sJ, sN, sC, uI, uJ]) (by intros; simp [sI, sJ, sN, sC, uI, uJ]) (by intros; simp [sI, sJ, sN, sC, uI, uJ]) (by intros; simp [sI, sJ, sN, sC, uI, uJ]) (by intros; simp [sI, sJ, sN, sC, uI, uJ]) (by funext j; simp [mup]) (by funext j; simp [mup]) (by funext j; simp [mup]) (by funext j; simp [mup])
  · exact aO_c (t := t) (u := u) h.aO rfl (by intros; simp [sI, sJ, sN, sC, uI, uJ])
  · exact aZ_c (t := t) (u := u) h.aZ rfl (by intros; simp [sI, sJ, sN, sC, uI, uJ]) (by intros; simp [sI, sJ, sN, sC, uI, uJ]) (by funext j; simp [mup]) (by funext j; simp [mup])
  · exact aF_c (t := t) (u := u) h.aF rfl rfl (by intros; simp [sI, sJ, sN, sC, uI, uJ]) (by funext j; simp [mup]) (by funext j; simp [mup])
theorem up_lift {t : Nat} {g : CS} {u : MS} (h : R0 t g u) {p l : Nat} (hp : p < sN g 1) (hl : l < 8) : R0 t (uI g 20 p l (-1)) (mup u 25 (8 * p + l) (-1)) := by
  refine ⟨?_, ?_, ?_, ?_, ?_, ?_, ?_, ?_, ?_, ?_, ?_, ?_, ?_, ?_, ?_, ?_, ?_, ?_, ?_, ?_, ?_, ?_⟩
  · exact aT_c (t := t) (u := u) h.aT (by intros; simp [sI, sJ, sN, sC, uI, uJ]) (by funext j; simp [mup])
  · exact aN_c (t := t) (u := u) h.aN rfl rfl rfl rfl rfl (by funext j; simp [mup]) (by funext j; simp [mup]) (by funext j; simp [mup]) (by funext j; simp [mup]) (by funext j; simp [mup])
  · exact aC_c (t := t) (u := u) h.aC (fun _ => rfl) (fun _ => rfl)
  · exact aL_c (t := t) (u := u) h.aL rfl (by intros; simp [sI, sJ, sN, sC, uI, uJ]) (by intros; simp [sI, sJ, sN, sC, uI, uJ]) (by intros; simp [sI, sJ, sN, sC, uI, uJ]) (by intros; simp [sI, sJ, sN, sC, uI, uJ]) (by intros; simp [sI, sJ, sN, sC, uI, uJ]) (by funext j; simp [mup]) (by funext j; simp [mup]) (by funext j; simp [mup]) (by funext j; simp [mup])
  · exact aW_c (t := t) (u := u) h.aW rfl (by intros; simp [sI, sJ, sN, sC, uI, uJ]) (by funext j; simp [mup])
  · exact aU_c (t := t) (u := u) h.aU rfl (by intros; simp [sI, sJ, sN, sC, uI, uJ]) (by funext j; simp [mup])
  · exact aR_c (t := t) (u := u) h.aR rfl (by intros; simp [sI, sJ, sN, sC, uI, uJ]) (by intros; simp [sI, sJ, sN, sC, uI, uJ]) (by intros; simp [sI, sJ, sN, sC, uI, uJ]) (by funext j; simp [mup]) (by funext j; simp [mup]) (by funext j; simp [mup])
  · exact aP_c (t := t) (u := u) h.aP rfl (by intros; simp [sI, sJ, sN, sC, uI, uJ]) (by intros; simp [sI, sJ, sN, sC, uI, uJ]) (by intros; simp [sI, sJ, sN, sC, uI, uJ]) (by intros; simp [sI, sJ, sN, sC, uI, uJ]) (by funext j; simp [mup]) (by funext j; simp [mup]) (by funext j; simp [mup])
  · exact aA_c (t := t) (u := u) h.aA rfl (by intros; simp [sI, sJ, sN, sC, uI, uJ]) (by funext j; simp [mup])
  · exact aH_c (t := t) (u := u) h.aH rfl rfl (by intros; simp [sI, sJ, sN, sC, uI, uJ]) (by funext j; simp [mup])
  · exact aI_c (t := t) (u := u) h.aI rfl rfl (by intros; simp [sI, sJ, sN, sC, uI, uJ]) (by funext j; simp [mup])
  · exact aS_c (t := t) (u := u) h.aS rfl (by intros; simp [sI, sJ, sN, sC, uI, uJ]) (by funext j; simp [mup])
  · exact aE_c (t := t) (u := u) h.aE rfl (by intros; simp [sI, sJ, sN, sC, uI, uJ]) (by funext j; simp [mup])
  · exact aD_c (t := t) (u := u) h.aD rfl rfl (by intros; simp [sI, sJ, sN, sC, uI, uJ]) (by funext j; simp [mup])
  · exact aM_c (t := t) (u := u) h.aM rfl (by intros; simp [sI, sJ, sN, sC, uI, uJ]) (by intros; simp [sI, sJ, sN, sC, uI, uJ]) (by funext j; simp [mup]) (by funext j; simp [mup])
  · have hN1 := h.aN.2.2.1
    intro q9 hq9 k hk
    obtain ⟨h1, h2⟩ := h.aB q9 hq9 k hk
    by_cases e9 : q9 = p ∧ k = l
    · obtain ⟨rfl, rfl⟩ := e9
      exact ⟨fun _ => ⟨by simp [sI, sJ, sN, uI, uJ, mup], fun z => absurd z (by rw [sI_at]; decide)⟩, fun hl9 => absurd hl9 (Nat.not_le.mpr hp)⟩
    · have e8 : 8 * q9 + k ≠ 8 * p + l := by omega
      rw [mup_nj _ _ _ e8, sI_n _ _ _ _ _ (by omega), sI_n1 _ _ _ _ (by decide), sI_n1 _ _ _ _ (by decide), mup_n _ _ _ _ (by omega), mup_n _ _ _ _ (by omega)]
      exact ⟨h1, h2⟩
  · exact aV_c (t := t) (u := u) h.aV rfl rfl (by intros; simp [sI, sJ, sN, sC, uI, uJ]) (by intros; simp [sI, sJ, sN, sC, uI, uJ]) (by intros; simp [sI, sJ, sN, sC, uI, uJ]) (by intros; simp [sI, sJ, sN, sC, uI, uJ]) (by intros; simp [sI, sJ, sN, sC, uI, uJ]) (by funext j; simp [mup]) (by funext j; simp [mup]) (by funext j; simp [mup]) (by funext j; simp [mup])
  · exact aX_c (t := t) (u := u) h.aX rfl (by intros; simp [sI, sJ, sN, sC, uI, uJ]) (by intros; simp [sI, sJ, sN, sC, uI, uJ]) (by intros; simp [sI, sJ, sN, sC, uI, uJ]) (by funext j; simp [mup]) (by funext j; simp [mup]) (by funext j; simp [mup])
  · exact aQ_c (t := t) (u := u) h.aQ rfl rfl rfl (by intros; simp [sI, sJ, sN, sC, uI, uJ]) (by intros; simp [sI, sJ, sN, sC, uI, uJ]) (by intros; simp [sI, sJ, sN, sC, uI, uJ]) (by intros; simp [sI, sJ, sN, sC, uI, uJ]) (by intros; simp [sI, sJ, sN, sC, uI, uJ]) (by funext j; simp [mup]) (by funext j; simp [mup]) (by funext j; simp [mup]) (by funext j; simp [mup])
  · exact aO_c (t := t) (u := u) h.aO rfl (by intros; simp [sI, sJ, sN, sC, uI, uJ])
  · exact aZ_c (t := t) (u := u) h.aZ rfl (by intros; simp [sI, sJ, sN, sC, uI, uJ]) (by intros; simp [sI, sJ, sN, sC, uI, uJ]) (by funext j; simp [mup]) (by funext j; simp [mup])
  · exact aF_c (t := t) (u := u) h.aF rfl rfl (by intros; simp [sI, sJ, sN, sC, uI, uJ]) (by funext j; simp [mup]) (by funext j; simp [mup])
theorem up_per0 {t : Nat} {g : CS} {u : MS} (h : R0 t g u) {p l : Nat} (hp : p < sN g 1) (hl : l < 8) (y : Int32) : R0 t (uI (uI g 22 p l (nI t)) 23 p l y) (mup (mup u 24 (8 * p + l) (nI t)) 23 (8 * p + l) y) := by
  refine ⟨?_, ?_, ?_, ?_, ?_, ?_, ?_, ?_, ?_, ?_, ?_, ?_, ?_, ?_, ?_, ?_, ?_, ?_, ?_, ?_, ?_, ?_⟩
  · exact aT_c (t := t) (u := u) h.aT (by intros; simp [sI, sJ, sN, sC, uI, uJ]) (by funext j; simp [mup])
  · exact aN_c (t := t) (u := u) h.aN rfl rfl rfl rfl rfl (by funext j; simp [mup]) (by funext j; simp [mup]) (by funext j; simp [mup]) (by funext j; simp [mup]) (by funext j; simp [mup])
  · exact aC_c (t := t) (u := u) h.aC (fun _ => rfl) (fun _ => rfl)
  · exact aL_c (t := t) (u := u) h.aL rfl (by intros; simp [sI, sJ, sN, sC, uI, uJ]) (by intros; simp [sI, sJ, sN, sC, uI, uJ]) (by intros; simp [sI, sJ, sN, sC, uI, uJ]) (by intros; simp [sI, sJ, sN, sC, uI, uJ]) (by intros; simp [sI, sJ, sN, sC, uI, uJ]) (by funext j; simp [mup]) (by funext j; simp [mup]) (by funext j; simp [mup]) (by funext j; simp [mup])
  · exact aW_c (t := t) (u := u) h.aW rfl (by intros; simp [sI, sJ, sN, sC, uI, uJ]) (by funext j; simp [mup])
  · exact aU_c (t := t) (u := u) h.aU rfl (by intros; simp [sI, sJ, sN, sC, uI, uJ]) (by funext j; simp [mup])
  · exact aR_c (t := t) (u := u) h.aR rfl (by intros; simp [sI, sJ, sN, sC, uI, uJ]) (by intros; simp [sI, sJ, sN, sC, uI, uJ]) (by intros; simp [sI, sJ, sN, sC, uI, uJ]) (by funext j; simp [mup]) (by funext j; simp [mup]) (by funext j; simp [mup])
  · exact aP_c (t := t) (u := u) h.aP rfl (by intros; simp [sI, sJ, sN, sC, uI, uJ]) (by intros; simp [sI, sJ, sN, sC, uI, uJ]) (by intros; simp [sI, sJ, sN, sC, uI, uJ]) (by intros; simp [sI, sJ, sN, sC, uI, uJ]) (by funext j; simp [mup]) (by funext j; simp [mup]) (by funext j; simp [mup])
  · exact aA_c (t := t) (u := u) h.aA rfl (by intros; simp [sI, sJ, sN, sC, uI, uJ]) (by funext j; simp [mup])
  · exact aH_c (t := t) (u := u) h.aH rfl rfl (by intros; simp [sI, sJ, sN, sC, uI, uJ]) (by funext j; simp [mup])
  · exact aI_c (t := t) (u := u) h.aI rfl rfl (by intros; simp [sI, sJ, sN, sC, uI, uJ]) (by funext j; simp [mup])
  · exact aS_c (t := t) (u := u) h.aS rfl (by intros; simp [sI, sJ, sN, sC, uI, uJ]) (by funext j; simp [mup])
  · exact aE_c (t := t) (u := u) h.aE rfl (by intros; simp [sI, sJ, sN, sC, uI, uJ]) (by funext j; simp [mup])
  · exact aD_c (t := t) (u := u) h.aD rfl rfl (by intros; simp [sI, sJ, sN, sC, uI, uJ]) (by funext j; simp [mup])
  · have hN1 := h.aN.2.2.1
    intro q9 hq9 k hk
    obtain ⟨h1, h2⟩ := h.aM q9 hq9 k hk
    by_cases e9 : q9 = p ∧ k = l
    · obtain ⟨rfl, rfl⟩ := e9
      exact ⟨fun _ => ⟨by simp [sI, sJ, sN, uI, uJ, mup], fun _ => ⟨t, Nat.le_refl _, by simp [sI, sJ, sN, uI, uJ, mup], by simp [sI, sJ, sN, uI, uJ, mup]⟩⟩, fun hl9 => absurd hl9 (Nat.not_le.mpr hp)⟩
    · have e8 : 8 * q9 + k ≠ 8 * p + l := by omega
      rw [mup_n _ _ _ _ (show ¬ (23 = 23 ∧ 8 * q9 + k = 8 * p + l) from by omega), mup_n _ _ _ _ (show ¬ (23 = 24 ∧ 8 * q9 + k = 8 * p + l) from by omega), mup_n _ _ _ _ (show ¬ (24 = 23 ∧ 8 * q9 + k = 8 * p + l) from by omega), mup_n _ _ _ _ (show ¬ (24 = 24 ∧ 8 * q9 + k = 8 * p + l) from by omega), sI_n _ _ _ _ _ (show ¬ (23 = 23 ∧ q9 = p ∧ k = l) from by omega), sI_n _ _ _ _ _ (show ¬ (23 = 22 ∧ q9 = p ∧ k = l) from by omega), sI_n _ _ _ _ _ (show ¬ (22 = 23 ∧ q9 = p ∧ k = l) from by omega), sI_n _ _ _ _ _ (show ¬ (22 = 22 ∧ q9 = p ∧ k = l) from by omega)]
      exact ⟨h1, h2⟩
  · exact aB_c (t := t) (u := u) h.aB rfl (by intros; simp [sI, sJ, sN, sC, uI, uJ]) (by intros; simp [sI, sJ, sN, sC, uI, uJ]) (by intros; simp [sI, sJ, sN, sC, uI, uJ]) (by funext j; simp [mup]) (by funext j; simp [mup]) (by funext j; simp [mup])
  · exact aV_c (t := t) (u := u) h.aV rfl rfl (by intros; simp [sI, sJ, sN, sC, uI, uJ]) (by intros; simp [sI, sJ, sN, sC, uI, uJ]) (by intros; simp [sI, sJ, sN, sC, uI, uJ]) (by intros; simp [sI, sJ, sN, sC, uI, uJ]) (by intros; simp [sI, sJ, sN, sC, uI, uJ]) (by funext j; simp [mup]) (by funext j; simp [mup]) (by funext j; simp [mup]) (by funext j; simp [mup])
  · exact aX_c (t := t) (u := u) h.aX rfl (by intros; simp [sI, sJ, sN, sC, uI, uJ]) (by intros; simp [sI, sJ, sN, sC, uI, uJ]) (by intros; simp [sI, sJ, sN, sC, uI, uJ]) (by funext j; simp [mup]) (by funext j; simp [mup]) (by funext j; simp [mup])
  · exact aQ_c (t := t) (u := u) h.aQ rfl rfl rfl (by intros; simp [sI, sJ, sN, sC, uI, uJ]) (by intros; simp [sI, sJ, sN, sC, uI, uJ]) (by intros; simp [sI, sJ, sN, sC, uI, uJ]) (by intros; simp [sI, sJ, sN, sC, uI, uJ]) (by intros; simp [sI, sJ, sN, sC, uI, uJ]) (by funext j; simp [mup]) (by funext j; simp [mup]) (by funext j; simp [mup]) (by funext j; simp [mup])
  · exact aO_c (t := t) (u := u) h.aO rfl (by intros; simp [sI, sJ, sN, sC, uI, uJ])
  · exact aZ_c (t := t) (u := u) h.aZ rfl (by intros; simp [sI, sJ, sN, sC, uI, uJ]) (by intros; simp [sI, sJ, sN, sC, uI, uJ]) (by funext j; simp [mup]) (by funext j; simp [mup])
  · exact aF_c (t := t) (u := u) h.aF rfl rfl (by intros; simp [sI, sJ, sN, sC, uI, uJ]) (by funext j; simp [mup]) (by funext j; simp [mup])
theorem up_per1 {t : Nat} {g : CS} {u : MS} (h : R0 t g u) {p l : Nat} (hp : p < sN g 1) (hl : l < 8) (hv : 0 ≤ sI g 23 p l) (y : Int32) : R0 t (uI g 23 p l y) (mup (mup u 24 (8 * p + l) (u 24 (8 * p + l))) 23 (8 * p + l) y) := by
  refine ⟨?_, ?_, ?_, ?_, ?_, ?_, ?_, ?_, ?_, ?_, ?_, ?_, ?_, ?_, ?_, ?_, ?_, ?_, ?_, ?_, ?_, ?_⟩
  · exact aT_c (t := t) (u := u) h.aT (by intros; simp [sI, sJ, sN, sC, uI, uJ]) (by funext j; simp [mup])
  · exact aN_c (t := t) (u := u) h.aN rfl rfl rfl rfl rfl (by funext j; simp [mup]) (by funext j; simp [mup]) (by funext j; simp [mup]) (by funext j; simp [mup]) (by funext j; simp [mup])
  · exact aC_c (t := t) (u := u) h.aC (fun _ => rfl) (fun _ => rfl)
  · exact aL_c (t := t) (u := u) h.aL rfl (by intros; simp [sI, sJ, sN, sC, uI, uJ]) (by intros; simp [sI, sJ, sN, sC, uI, uJ]) (by intros; simp [sI, sJ, sN, sC, uI, uJ]) (by intros; simp [sI, sJ, sN, sC, uI, uJ]) (by intros; simp [sI, sJ, sN, sC, uI, uJ]) (by funext j; simp [mup]) (by funext j; simp [mup]) (by funext j; simp [mup]) (by funext j; simp [mup])
  · exact aW_c (t := t) (u := u) h.aW rfl (by intros; simp [sI, sJ, sN, sC, uI, uJ]) (by funext j; simp [mup])
  · exact aU_c (t := t) (u := u) h.aU rfl (by intros; simp [sI, sJ, sN, sC, uI, uJ]) (by funext j; simp [mup])
  · exact aR_c (t := t) (u := u) h.aR rfl (by intros; simp [sI, sJ, sN, sC, uI, uJ]) (by intros; simp [sI, sJ, sN, sC, uI, uJ]) (by intros; simp [sI, sJ, sN, sC, uI, uJ]) (by funext j; simp [mup]) (by funext j; simp [mup]) (by funext j; simp [mup])
  · exact aP_c (t := t) (u := u) h.aP rfl (by intros; simp [sI, sJ, sN, sC, uI, uJ]) (by intros; simp [sI, sJ, sN, sC, uI, uJ]) (by intros; simp [sI, sJ, sN, sC, uI, uJ]) (by intros; simp [sI, sJ, sN, sC, uI, uJ]) (by funext j; simp [mup]) (by funext j; simp [mup]) (by funext j; simp [mup])
  · exact aA_c (t := t) (u := u) h.aA rfl (by intros; simp [sI, sJ, sN, sC, uI, uJ]) (by funext j; simp [mup])
  · exact aH_c (t := t) (u := u) h.aH rfl rfl (by intros; simp [sI, sJ, sN, sC, uI, uJ]) (by funext j; simp [mup])
  · exact aI_c (t := t) (u := u) h.aI rfl rfl (by intros; simp [sI, sJ, sN, sC, uI, uJ]) (by funext j; simp [mup])
  · exact aS_c (t := t) (u := u) h.aS rfl (by intros; simp [sI, sJ, sN, sC, uI, uJ]) (by funext j; simp [mup])
  · exact aE_c (t := t) (u := u) h.aE rfl (by intros; simp [sI, sJ, sN, sC, uI, uJ]) (by funext j; simp [mup])
  · exact aD_c (t := t) (u := u) h.aD rfl rfl (by intros; simp [sI, sJ, sN, sC, uI, uJ]) (by funext j; simp [mup])
  · have hN1 := h.aN.2.2.1
    intro q9 hq9 k hk
    obtain ⟨h1, h2⟩ := h.aM q9 hq9 k hk
    by_cases e9 : q9 = p ∧ k = l
    · obtain ⟨rfl, rfl⟩ := e9
      exact ⟨fun _ => ⟨by simp [sI, sJ, sN, uI, uJ, mup], fun _ => by obtain ⟨s9, a9, b9, c9⟩ := (h1 hp).2 hv; exact ⟨s9, a9, by rw [sI_n1 _ _ _ _ (by decide)]; exact b9, by simpa [sI, sJ, sN, uI, uJ, mup] using c9⟩⟩, fun hl9 => absurd hl9 (Nat.not_le.mpr hp)⟩
    · have e8 : 8 * q9 + k ≠ 8 * p + l := by omega
      rw [mup_n _ _ _ _ (show ¬ (23 = 23 ∧ 8 * q9 + k = 8 * p + l) from by omega), mup_n _ _ _ _ (show ¬ (23 = 24 ∧ 8 * q9 + k = 8 * p + l) from by omega), mup_n _ _ _ _ (show ¬ (24 = 23 ∧ 8 * q9 + k = 8 * p + l) from by omega), mup_n _ _ _ _ (show ¬ (24 = 24 ∧ 8 * q9 + k = 8 * p + l) from by omega), sI_n _ _ _ _ _ (show ¬ (23 = 23 ∧ q9 = p ∧ k = l) from by omega), sI_n _ _ _ _ _ (show ¬ (22 = 23 ∧ q9 = p ∧ k = l) from by omega)]
      exact ⟨h1, h2⟩
  · exact aB_c (t := t) (u := u) h.aB rfl (by intros; simp [sI, sJ, sN, sC, uI, uJ]) (by intros; simp [sI, sJ, sN, sC, uI, uJ]) (by intros; simp [sI, sJ, sN, sC, uI, uJ]) (by funext j; simp [mup]) (by funext j; simp [mup]) (by funext j; simp [mup])
  · exact aV_c (t := t) (u := u) h.aV rfl rfl (by intros; simp [sI, sJ, sN, sC, uI, uJ]) (by intros; simp [sI, sJ, sN, sC, uI, uJ]) (by intros; simp [sI, sJ, sN, sC, uI, uJ]) (by intros; simp [sI, sJ, sN, sC, uI, uJ]) (by intros; simp [sI, sJ, sN, sC, uI, uJ]) (by funext j; simp [mup]) (by funext j; simp [mup]) (by funext j; simp [mup]) (by funext j; simp [mup])
  · exact aX_c (t := t) (u := u) h.aX rfl (by intros; simp [sI, sJ, sN, sC, uI, uJ]) (by intros; simp [sI, sJ, sN, sC, uI, uJ]) (by intros; simp [sI, sJ, sN, sC, uI, uJ]) (by funext j; simp [mup]) (by funext j; simp [mup]) (by funext j; simp [mup])
  · exact aQ_c (t := t) (u := u) h.aQ rfl rfl rfl (by intros; simp [sI, sJ, sN, sC, uI, uJ]) (by intros; simp [sI, sJ, sN, sC, uI, uJ]) (by intros; simp [sI, sJ, sN, sC, uI, uJ]) (by intros; simp [sI, sJ, sN, sC, uI, uJ]) (by intros; simp [sI, sJ, sN, sC, uI, uJ]) (by funext j; simp [mup]) (by funext j; simp [mup]) (by funext j; simp [mup]) (by funext j; simp [mup])
  · exact aO_c (t := t) (u := u) h.aO rfl (by intros; simp [sI, sJ, sN, sC, uI, uJ])
  · exact aZ_c (t := t) (u := u) h.aZ rfl (by intros; simp [sI, sJ, sN, sC, uI, uJ]) (by intros; simp [sI, sJ, sN, sC, uI, uJ]) (by funext j; simp [mup]) (by funext j; simp [mup])
  · exact aF_c (t := t) (u := u) h.aF rfl rfl (by intros; simp [sI, sJ, sN, sC, uI, uJ]) (by funext j; simp [mup]) (by funext j; simp [mup])
theorem up_pro {t : Nat} {g : CS} {u : MS} (h : R0 t g u) {p l : Nat} (hp : p < sN g 1) (hl : l < 8) (hv : 0 ≤ sI g 23 p l) (y : Int32) : R0 t (uI g 23 p l y) (mup u 23 (8 * p + l) y) := by
  refine ⟨?_, ?_, ?_, ?_, ?_, ?_, ?_, ?_, ?_, ?_, ?_, ?_, ?_, ?_, ?_, ?_, ?_, ?_, ?_, ?_, ?_, ?_⟩
  · exact aT_c (t := t) (u := u) h.aT (by intros; simp [sI, sJ, sN, sC, uI, uJ]) (by funext j; simp [mup])
  · exact aN_c (t := t) (u := u) h.aN rfl rfl rfl rfl rfl (by funext j; simp [mup]) (by funext j; simp [mup]) (by funext j; simp [mup]) (by funext j; simp [mup]) (by funext j; simp [mup])
  · exact aC_c (t := t) (u := u) h.aC (fun _ => rfl) (fun _ => rfl)
  · exact aL_c (t := t) (u := u) h.aL rfl (by intros; simp [sI, sJ, sN, sC, uI, uJ]) (by intros; simp [sI, sJ, sN, sC, uI, uJ]) (by intros; simp [sI, sJ, sN, sC, uI, uJ]) (by intros; simp [sI, sJ, sN, sC, uI, uJ]) (by intros; simp [sI, sJ, sN, sC, uI, uJ]) (by funext j; simp [mup]) (by funext j; simp [mup]) (by funext j; simp [mup]) (by funext j; simp [mup])
  · exact aW_c (t := t) (u := u) h.aW rfl (by intros; simp [sI, sJ, sN, sC, uI, uJ]) (by funext j; simp [mup])
  · exact aU_c (t := t) (u := u) h.aU rfl (by intros; simp [sI, sJ, sN, sC, uI, uJ]) (by funext j; simp [mup])
  · exact aR_c (t := t) (u := u) h.aR rfl (by intros; simp [sI, sJ, sN, sC, uI, uJ]) (by intros; simp [sI, sJ, sN, sC, uI, uJ]) (by intros; simp [sI, sJ, sN, sC, uI, uJ]) (by funext j; simp [mup]) (by funext j; simp [mup]) (by funext j; simp [mup])
  · exact aP_c (t := t) (u := u) h.aP rfl (by intros; simp [sI, sJ, sN, sC, uI, uJ]) (by intros; simp [sI, sJ, sN, sC, uI, uJ]) (by intros; simp [sI, sJ, sN, sC, uI, uJ]) (by intros; simp [sI, sJ, sN, sC, uI, uJ]) (by funext j; simp [mup]) (by funext j; simp [mup]) (by funext j; simp [mup])
  · exact aA_c (t := t) (u := u) h.aA rfl (by intros; simp [sI, sJ, sN, sC, uI, uJ]) (by funext j; simp [mup])
  · exact aH_c (t := t) (u := u) h.aH rfl rfl (by intros; simp [sI, sJ, sN, sC, uI, uJ]) (by funext j; simp [mup])
  · exact aI_c (t := t) (u := u) h.aI rfl rfl (by intros; simp [sI, sJ, sN, sC, uI, uJ]) (by funext j; simp [mup])
  · exact aS_c (t := t) (u := u) h.aS rfl (by intros; simp [sI, sJ, sN, sC, uI, uJ]) (by funext j; simp [mup])
  · exact aE_c (t := t) (u := u) h.aE rfl (by intros; simp [sI, sJ, sN, sC, uI, uJ]) (by funext j; simp [mup])
  · exact aD_c (t := t) (u := u) h.aD rfl rfl (by intros; simp [sI, sJ, sN, sC, uI, uJ]) (by funext j; simp [mup])
  · have hN1 := h.aN.2.2.1
    intro q9 hq9 k hk
    obtain ⟨h1, h2⟩ := h.aM q9 hq9 k hk
    by_cases e9 : q9 = p ∧ k = l
    · obtain ⟨rfl, rfl⟩ := e9
      exact ⟨fun _ => ⟨by simp [sI, sJ, sN, uI, uJ, mup], fun _ => by obtain ⟨s9, a9, b9, c9⟩ := (h1 hp).2 hv; exact ⟨s9, a9, by rw [sI_n1 _ _ _ _ (by decide)]; exact b9, by simpa [sI, sJ, sN, uI, uJ, mup] using c9⟩⟩, fun hl9 => absurd hl9 (Nat.not_le.mpr hp)⟩
    · have e8 : 8 * q9 + k ≠ 8 * p + l := by omega
      rw [mup_n _ _ _ _ (show ¬ (23 = 23 ∧ 8 * q9 + k = 8 * p + l) from by omega), mup_n _ _ _ _ (show ¬ (24 = 23 ∧ 8 * q9 + k = 8 * p + l) from by omega), sI_n _ _ _ _ _ (show ¬ (23 = 23 ∧ q9 = p ∧ k = l) from by omega), sI_n _ _ _ _ _ (show ¬ (22 = 23 ∧ q9 = p ∧ k = l) from by omega)]
      exact ⟨h1, h2⟩
  · exact aB_c (t := t) (u := u) h.aB rfl (by intros; simp [sI, sJ, sN, sC, uI, uJ]) (by intros; simp [sI, sJ, sN, sC, uI, uJ]) (by intros; simp [sI, sJ, sN, sC, uI, uJ]) (by funext j; simp [mup]) (by funext j; simp [mup]) (by funext j; simp [mup])
  · exact aV_c (t := t) (u := u) h.aV rfl rfl (by intros; simp [sI, sJ, sN, sC, uI, uJ]) (by intros; simp [sI, sJ, sN, sC, uI, uJ]) (by intros; simp [sI, sJ, sN, sC, uI, uJ]) (by intros; simp [sI, sJ, sN, sC, uI, uJ]) (by intros; simp [sI, sJ, sN, sC, uI, uJ]) (by funext j; simp [mup]) (by funext j; simp [mup]) (by funext j; simp [mup]) (by funext j; simp [mup])
  · exact aX_c (t := t) (u := u) h.aX rfl (by intros; simp [sI, sJ, sN, sC, uI, uJ]) (by intros; simp [sI, sJ, sN, sC, uI, uJ]) (by intros; simp [sI, sJ, sN, sC, uI, uJ]) (by funext j; simp [mup]) (by funext j; simp [mup]) (by funext j; simp [mup])
  · exact aQ_c (t := t) (u := u) h.aQ rfl rfl rfl (by intros; simp [sI, sJ, sN, sC, uI, uJ]) (by intros; simp [sI, sJ, sN, sC, uI, uJ]) (by intros; simp [sI, sJ, sN, sC, uI, uJ]) (by intros; simp [sI, sJ, sN, sC, uI, uJ]) (by intros; simp [sI, sJ, sN, sC, uI, uJ]) (by funext j; simp [mup]) (by funext j; simp [mup]) (by funext j; simp [mup]) (by funext j; simp [mup])
  · exact aO_c (t := t) (u := u) h.aO rfl (by intros; simp [sI, sJ, sN, sC, uI, uJ])
  · exact aZ_c (t := t) (u := u) h.aZ rfl (by intros; simp [sI, sJ, sN, sC, uI, uJ]) (by intros; simp [sI, sJ, sN, sC, uI, uJ]) (by funext j; simp [mup]) (by funext j; simp [mup])
  · exact aF_c (t := t) (u := u) h.aF rfl rfl (by intros; simp [sI, sJ, sN, sC, uI, uJ]) (by funext j; simp [mup]) (by funext j; simp [mup])
theorem up_rq1 {t : Nat} {g : CS} {u : MS} (h : R0 t g u) {r : Nat} (hr : r < sN g 3) (x y : Int32) : R0 t (uI (uI g 7 r 5 x) 7 r 6 y) (mup (mup u 41 r x) 42 r y) := by
  refine ⟨?_, ?_, ?_, ?_, ?_, ?_, ?_, ?_, ?_, ?_, ?_, ?_, ?_, ?_, ?_, ?_, ?_, ?_, ?_, ?_, ?_, ?_⟩
  · exact aT_c (t := t) (u := u) h.aT (by intros; simp [sI, sJ, sN, sC, uI, uJ]) (by funext j; simp [mup])
  · exact aN_c (t := t) (u := u) h.aN rfl rfl rfl rfl rfl (by funext j; simp [mup]) (by funext j; simp [mup]) (by funext j; simp [mup]) (by funext j; simp [mup]) (by funext j; simp [mup])
  · exact aC_c (t := t) (u := u) h.aC (fun _ => rfl) (fun _ => rfl)
  · exact aL_c (t := t) (u := u) h.aL rfl (by intros; simp [sI, sJ, sN, sC, uI, uJ]) (by intros; simp [sI, sJ, sN, sC, uI, uJ]) (by intros; simp [sI, sJ, sN, sC, uI, uJ]) (by intros; simp [sI, sJ, sN, sC, uI, uJ]) (by intros; simp [sI, sJ, sN, sC, uI, uJ]) (by funext j; simp [mup]) (by funext j; simp [mup]) (by funext j; simp [mup]) (by funext j; simp [mup])
  · exact aW_c (t := t) (u := u) h.aW rfl (by intros; simp [sI, sJ, sN, sC, uI, uJ]) (by funext j; simp [mup])
  · exact aU_c (t := t) (u := u) h.aU rfl (by intros; simp [sI, sJ, sN, sC, uI, uJ]) (by funext j; simp [mup])
  · exact aR_c (t := t) (u := u) h.aR rfl (by intros; simp [sI, sJ, sN, sC, uI, uJ]) (by intros; simp [sI, sJ, sN, sC, uI, uJ]) (by intros; simp [sI, sJ, sN, sC, uI, uJ]) (by funext j; simp [mup]) (by funext j; simp [mup]) (by funext j; simp [mup])
  · exact aP_c (t := t) (u := u) h.aP rfl (by intros; simp [sI, sJ, sN, sC, uI, uJ]) (by intros; simp [sI, sJ, sN, sC, uI, uJ]) (by intros; simp [sI, sJ, sN, sC, uI, uJ]) (by intros; simp [sI, sJ, sN, sC, uI, uJ]) (by funext j; simp [mup]) (by funext j; simp [mup]) (by funext j; simp [mup])
  · exact aA_c (t := t) (u := u) h.aA rfl (by intros; simp [sI, sJ, sN, sC, uI, uJ]) (by funext j; simp [mup])
  · exact aH_c (t := t) (u := u) h.aH rfl rfl (by intros; simp [sI, sJ, sN, sC, uI, uJ]) (by funext j; simp [mup])
  · exact aI_c (t := t) (u := u) h.aI rfl rfl (by intros; simp [sI, sJ, sN, sC, uI, uJ]) (by funext j; simp [mup])
  · exact aS_c (t := t) (u := u) h.aS rfl (by intros; simp [sI, sJ, sN, sC, uI, uJ]) (by funext j; simp [mup])
  · exact aE_c (t := t) (u := u) h.aE rfl (by intros; simp [sI, sJ, sN, sC, uI, uJ]) (by funext j; simp [mup])
  · exact aD_c (t := t) (u := u) h.aD rfl rfl (by intros; simp [sI, sJ, sN, sC, uI, uJ]) (by funext j; simp [mup])
  · exact aM_c (t := t) (u := u) h.aM rfl (by intros; simp [sI, sJ, sN, sC, uI, uJ]) (by intros; simp [sI, sJ, sN, sC, uI, uJ]) (by funext j; simp [mup]) (by funext j; simp [mup])
  · exact aB_c (t := t) (u := u) h.aB rfl (by intros; simp [sI, sJ, sN, sC, uI, uJ]) (by intros; simp [sI, sJ, sN, sC, uI, uJ]) (by intros; simp [sI, sJ, sN, sC, uI, uJ]) (by funext j; simp [mup]) (by funext j; simp [mup]) (by funext j; simp [mup])
  · exact aV_c (t := t) (u := u) h.aV rfl rfl (by intros; simp [sI, sJ, sN, sC, uI, uJ]) (by intros; simp [sI, sJ, sN, sC, uI, uJ]) (by intros; simp [sI, sJ, sN, sC, uI, uJ]) (by intros; simp [sI, sJ, sN, sC, uI, uJ]) (by intros; simp [sI, sJ, sN, sC, uI, uJ]) (by funext j; simp [mup]) (by funext j; simp [mup]) (by funext j; simp [mup]) (by funext j; simp [mup])
  · exact aX_c (t := t) (u := u) h.aX rfl (by intros; simp [sI, sJ, sN, sC, uI, uJ]) (by intros; simp [sI, sJ, sN, sC, uI, uJ]) (by intros; simp [sI, sJ, sN, sC, uI, uJ]) (by funext j; simp [mup]) (by funext j; simp [mup]) (by funext j; simp [mup])
  · exact aQ_c (t := t) (u := u) h.aQ rfl rfl rfl (by intros; simp [sI, sJ, sN, sC, uI, uJ]) (by intros; simp [sI, sJ, sN, sC, uI, uJ]) (by intros; simp [sI, sJ, sN, sC, uI, uJ]) (by intros; simp [sI, sJ, sN, sC, uI, uJ]) (by intros; simp [sI, sJ, sN, sC, uI, uJ]) (by funext j; simp [mup]) (by funext j; simp [mup]) (by funext j; simp [mup]) (by funext j; simp [mup])
  · exact aO_c (t := t) (u := u) h.aO rfl (by intros; simp [sI, sJ, sN, sC, uI, uJ])
  · intro q9 hq9
    obtain ⟨h1, h2⟩ := h.aZ q9 hq9
    by_cases e9 : q9 = r
    · subst e9
      exact ⟨fun _ => ⟨by simp [sI, sJ, sN, uI, uJ, mup], fun _ => by simp [sI, sJ, sN, uI, uJ, mup]⟩, fun hl9 => absurd hl9 (Nat.not_le.mpr hr)⟩
    · refine ⟨fun hl9 => ?_, fun hl9 => ?_⟩
      · simpa [sI, sJ, sN, uI, uJ, mup, e9] using h1 hl9
      · simpa [sI, sJ, sN, uI, uJ, mup, e9] using h2 hl9
  · exact aF_c (t := t) (u := u) h.aF rfl rfl (by intros; simp [sI, sJ, sN, sC, uI, uJ]) (by funext j; simp [mup]) (by funext j; simp [mup])
theorem up_rq2 {t : Nat} {g : CS} {u : MS} (h : R0 t g u) {r : Nat} (hr : r < sN g 3) (x y : Int32) (hx : ¬ (x = 2 ∨ x = 3)) : R0 t (uI g 7 r 5 x) (mup (mup u 41 r x) 42 r y) := by
  refine ⟨?_, ?_, ?_, ?_, ?_, ?_, ?_, ?_, ?_, ?_, ?_, ?_, ?_, ?_, ?_, ?_, ?_, ?_, ?_, ?_, ?_, ?_⟩
  · exact aT_c (t := t) (u := u) h.aT (by intros; simp [sI, sJ, sN, sC, uI, uJ]) (by funext j; simp [mup])
  · exact aN_c (t := t) (u := u) h.aN rfl rfl rfl rfl rfl (by funext j; simp [mup]) (by funext j; simp [mup]) (by funext j; simp [mup]) (by funext j; simp [mup]) (by funext j; simp [mup])
  · exact aC_c (t := t) (u := u) h.aC (fun _ => rfl) (fun _ => rfl)
  · exact aL_c (t := t) (u := u) h.aL rfl (by intros; simp [sI, sJ, sN, sC, uI, uJ]) (by intros; simp [sI, sJ, sN, sC, uI, uJ]) (by intros; simp [sI, sJ, sN, sC, uI, uJ]) (by intros; simp [sI, sJ, sN, sC, uI, uJ]) (by intros; simp [sI, sJ, sN, sC, uI, uJ]) (by funext j; simp [mup]) (by funext j; simp [mup]) (by funext j; simp [mup]) (by funext j; simp [mup])
  · exact aW_c (t := t) (u := u) h.aW rfl (by intros; simp [sI, sJ, sN, sC, uI, uJ]) (by funext j; simp [mup])
  · exact aU_c (t := t) (u := u) h.aU rfl (by intros; simp [sI, sJ, sN, sC, uI, uJ]) (by funext j; simp [mup])
  · exact aR_c (t := t) (u := u) h.aR rfl (by intros; simp [sI, sJ, sN, sC, uI, uJ]) (by intros; simp [sI, sJ, sN, sC, uI, uJ]) (by intros; simp [sI, sJ, sN, sC, uI, uJ]) (by funext j; simp [mup]) (by funext j; simp [mup]) (by funext j; simp [mup])
  · exact aP_c (t := t) (u := u) h.aP rfl (by intros; simp [sI, sJ, sN, sC, uI, uJ]) (by intros; simp [sI, sJ, sN, sC, uI, uJ]) (by intros; simp [sI, sJ, sN, sC, uI, uJ]) (by intros; simp [sI, sJ, sN, sC, uI, uJ]) (by funext j; simp [mup]) (by funext j; simp [mup]) (by funext j; simp [mup])
  · exact aA_c (t := t) (u := u) h.aA rfl (by intros; simp [sI, sJ, sN, sC, uI, uJ]) (by funext j; simp [mup])
  · exact aH_c (t := t) (u := u) h.aH rfl rfl (by intros; simp [sI, sJ, sN, sC, uI, uJ]) (by funext j; simp [mup])
  · exact aI_c (t := t) (u := u) h.aI rfl rfl (by intros; simp [sI, sJ, sN, sC, uI, uJ]) (by funext j; simp [mup])
  · exact aS_c (t := t) (u := u) h.aS rfl (by intros; simp [sI, sJ, sN, sC, uI, uJ]) (by funext j; simp [mup])
  · exact aE_c (t := t) (u := u) h.aE rfl (by intros; simp [sI, sJ, sN, sC, uI, uJ]) (by funext j; simp [mup])
  · exact aD_c (t := t) (u := u) h.aD rfl rfl (by intros; simp [sI, sJ, sN, sC, uI, uJ]) (by funext j; simp [mup])
  · exact aM_c (t := t) (u := u) h.aM rfl (by intros; simp [sI, sJ, sN, sC, uI, uJ]) (by intros; simp [sI, sJ, sN, sC, uI, uJ]) (by funext j; simp [mup]) (by funext j; simp [mup])
  · exact aB_c (t := t) (u := u) h.aB rfl (by intros; simp [sI, sJ, sN, sC, uI, uJ]) (by intros; simp [sI, sJ, sN, sC, uI, uJ]) (by intros; simp [sI, sJ, sN, sC, uI, uJ]) (by funext j; simp [mup]) (by funext j; simp [mup]) (by funext j; simp [mup])
  · exact aV_c (t := t) (u := u) h.aV rfl rfl (by intros; simp [sI, sJ, sN, sC, uI, uJ]) (by intros; simp [sI, sJ, sN, sC, uI, uJ]) (by intros; simp [sI, sJ, sN, sC, uI, uJ]) (by intros; simp [sI, sJ, sN, sC, uI, uJ]) (by intros; simp [sI, sJ, sN, sC, uI, uJ]) (by funext j; simp [mup]) (by funext j; simp [mup]) (by funext j; simp [mup]) (by funext j; simp [mup])
  · exact aX_c (t := t) (u := u) h.aX rfl (by intros; simp [sI, sJ, sN, sC, uI, uJ]) (by intros; simp [sI, sJ, sN, sC, uI, uJ]) (by intros; simp [sI, sJ, sN, sC, uI, uJ]) (by funext j; simp [mup]) (by funext j; simp [mup]) (by funext j; simp [mup])
  · exact aQ_c (t := t) (u := u) h.aQ rfl rfl rfl (by intros; simp [sI, sJ, sN, sC, uI, uJ]) (by intros; simp [sI, sJ, sN, sC, uI, uJ]) (by intros; simp [sI, sJ, sN, sC, uI, uJ]) (by intros; simp [sI, sJ, sN, sC, uI, uJ]) (by intros; simp [sI, sJ, sN, sC, uI, uJ]) (by funext j; simp [mup]) (by funext j; simp [mup]) (by funext j; simp [mup]) (by funext j; simp [mup])
  · exact aO_c (t := t) (u := u) h.aO rfl (by intros; simp [sI, sJ, sN, sC, uI, uJ])
  · intro q9 hq9
    obtain ⟨h1, h2⟩ := h.aZ q9 hq9
    by_cases e9 : q9 = r
    · subst e9
      exact ⟨fun _ => ⟨by simp [sI, sJ, sN, uI, uJ, mup], fun z => absurd (by rw [sI_at] at z; exact z) hx⟩, fun hl9 => absurd hl9 (Nat.not_le.mpr hr)⟩
    · refine ⟨fun hl9 => ?_, fun hl9 => ?_⟩
      · simpa [sI, sJ, sN, uI, uJ, mup, e9] using h1 hl9
      · simpa [sI, sJ, sN, uI, uJ, mup, e9] using h2 hl9
  · exact aF_c (t := t) (u := u) h.aF rfl rfl (by intros; simp [sI, sJ, sN, sC, uI, uJ]) (by funext j; simp [mup]) (by funext j; simp [mup])
theorem up_rq3 {t : Nat} {g : CS} {u : MS} (h : R0 t g u) {r : Nat} (hr : r < sN g 3) (x : Int32) (hx : ¬ (x = 2 ∨ x = 3)) : R0 t (uI g 7 r 5 x) (mup u 41 r x) := by
  refine ⟨?_, ?_, ?_, ?_, ?_, ?_, ?_, ?_, ?_, ?_, ?_, ?_, ?_, ?_, ?_, ?_, ?_, ?_, ?_, ?_, ?_, ?_⟩
  · exact aT_c (t := t) (u := u) h.aT (by intros; simp [sI, sJ, sN, sC, uI, uJ]) (by funext j; simp [mup])
  · exact aN_c (t := t) (u := u) h.aN rfl rfl rfl rfl rfl (by funext j; simp [mup]) (by funext j; simp [mup]) (by funext j; simp [mup]) (by funext j; simp [mup]) (by funext j; simp [mup])
  · exact aC_c (t := t) (u := u) h.aC (fun _ => rfl) (fun _ => rfl)
  · exact aL_c (t := t) (u := u) h.aL rfl (by intros; simp [sI, sJ, sN, sC, uI, uJ]) (by intros; simp [sI, sJ, sN, sC, uI, uJ]) (by intros; simp [sI, sJ, sN, sC, uI, uJ]) (by intros; simp [sI, sJ, sN, sC, uI, uJ]) (by intros; simp [sI, sJ, sN, sC, uI, uJ]) (by funext j; simp [mup]) (by funext j; simp [mup]) (by funext j; simp [mup]) (by funext j; simp [mup])
  · exact aW_c (t := t) (u := u) h.aW rfl (by intros; simp [sI, sJ, sN, sC, uI, uJ]) (by funext j; simp [mup])
  · exact aU_c (t := t) (u := u) h.aU rfl (by intros; simp [sI, sJ, sN, sC, uI, uJ]) (by funext j; simp [mup])
  · exact aR_c (t := t) (u := u) h.aR rfl (by intros; simp [sI, sJ, sN, sC, uI, uJ]) (by intros; simp [sI, sJ, sN, sC, uI, uJ]) (by intros; simp [sI, sJ, sN, sC, uI, uJ]) (by funext j; simp [mup]) (by funext j; simp [mup]) (by funext j; simp [mup])
  · exact aP_c (t := t) (u := u) h.aP rfl (by intros; simp [sI, sJ, sN, sC, uI, uJ]) (by intros; simp [sI, sJ, sN, sC, uI, uJ]) (by intros; simp [sI, sJ, sN, sC, uI, uJ]) (by intros; simp [sI, sJ, sN, sC, uI, uJ]) (by funext j; simp [mup]) (by funext j; simp [mup]) (by funext j; simp [mup])
  · exact aA_c (t := t) (u := u) h.aA rfl (by intros; simp [sI, sJ, sN, sC, uI, uJ]) (by funext j; simp [mup])
  · exact aH_c (t := t) (u := u) h.aH rfl rfl (by intros; simp [sI, sJ, sN, sC, uI, uJ]) (by funext j; simp [mup])
  · exact aI_c (t := t) (u := u) h.aI rfl rfl (by intros; simp [sI, sJ, sN, sC, uI, uJ]) (by funext j; simp [mup])
  · exact aS_c (t := t) (u := u) h.aS rfl (by intros; simp [sI, sJ, sN, sC, uI, uJ]) (by funext j; simp [mup])
  · exact aE_c (t := t) (u := u) h.aE rfl (by intros; simp [sI, sJ, sN, sC, uI, uJ]) (by funext j; simp [mup])
  · exact aD_c (t := t) (u := u) h.aD rfl rfl (by intros; simp [sI, sJ, sN, sC, uI, uJ]) (by funext j; simp [mup])
  · exact aM_c (t := t) (u := u) h.aM rfl (by intros; simp [sI, sJ, sN, sC, uI, uJ]) (by intros; simp [sI, sJ, sN, sC, uI, uJ]) (by funext j; simp [mup]) (by funext j; simp [mup])
  · exact aB_c (t := t) (u := u) h.aB rfl (by intros; simp [sI, sJ, sN, sC, uI, uJ]) (by intros; simp [sI, sJ, sN, sC, uI, uJ]) (by intros; simp [sI, sJ, sN, sC, uI, uJ]) (by funext j; simp [mup]) (by funext j; simp [mup]) (by funext j; simp [mup])
  · exact aV_c (t := t) (u := u) h.aV rfl rfl (by intros; simp [sI, sJ, sN, sC, uI, uJ]) (by intros; simp [sI, sJ, sN, sC, uI, uJ]) (by intros; simp [sI, sJ, sN, sC, uI, uJ]) (by intros; simp [sI, sJ, sN, sC, uI, uJ]) (by intros; simp [sI, sJ, sN, sC, uI, uJ]) (by funext j; simp [mup]) (by funext j; simp [mup]) (by funext j; simp [mup]) (by funext j; simp [mup])
  · exact aX_c (t := t) (u := u) h.aX rfl (by intros; simp [sI, sJ, sN, sC, uI, uJ]) (by intros; simp [sI, sJ, sN, sC, uI, uJ]) (by intros; simp [sI, sJ, sN, sC, uI, uJ]) (by funext j; simp [mup]) (by funext j; simp [mup]) (by funext j; simp [mup])
  · exact aQ_c (t := t) (u := u) h.aQ rfl rfl rfl (by intros; simp [sI, sJ, sN, sC, uI, uJ]) (by intros; simp [sI, sJ, sN, sC, uI, uJ]) (by intros; simp [sI, sJ, sN, sC, uI, uJ]) (by intros; simp [sI, sJ, sN, sC, uI, uJ]) (by intros; simp [sI, sJ, sN, sC, uI, uJ]) (by funext j; simp [mup]) (by funext j; simp [mup]) (by funext j; simp [mup]) (by funext j; simp [mup])
  · exact aO_c (t := t) (u := u) h.aO rfl (by intros; simp [sI, sJ, sN, sC, uI, uJ])
  · intro q9 hq9
    obtain ⟨h1, h2⟩ := h.aZ q9 hq9
    by_cases e9 : q9 = r
    · subst e9
      exact ⟨fun _ => ⟨by simp [sI, sJ, sN, uI, uJ, mup], fun z => absurd (by rw [sI_at] at z; exact z) hx⟩, fun hl9 => absurd hl9 (Nat.not_le.mpr hr)⟩
    · refine ⟨fun hl9 => ?_, fun hl9 => ?_⟩
      · simpa [sI, sJ, sN, uI, uJ, mup, e9] using h1 hl9
      · simpa [sI, sJ, sN, uI, uJ, mup, e9] using h2 hl9
  · exact aF_c (t := t) (u := u) h.aF rfl rfl (by intros; simp [sI, sJ, sN, sC, uI, uJ]) (by funext j; simp [mup]) (by funext j; simp [mup])
theorem up_join {t : Nat} {g : CS} {u : MS} (h : R0 t g u) {r m a : Nat} (hr : r < sN g 3) (hm : m < 3) (ha : a < sN g 1) (h43 : u 43 r = nI m) (hmask : sI g 7 r 7 = zF (u 44) (3 * r) m) (hnew : ∀ k, k < m → u 44 (3 * r + k) ≠ nI a) : R0 t (uI g 7 r 7 (sI g 7 r 7 ||| ((1 : Int32) <<< (nI a &&& 31)))) (mup (mup u 44 (3 * r + m) (nI a)) 43 r (nI (m + 1))) := by
  refine ⟨?_, ?_, ?_, ?_, ?_, ?_, ?_, ?_, ?_, ?_, ?_, ?_, ?_, ?_, ?_, ?_, ?_, ?_, ?_, ?_, ?_, ?_⟩
  · exact aT_c (t := t) (u := u) h.aT (by intros; simp [sI, sJ, sN, sC, uI, uJ]) (by funext j; simp [mup])
  · exact aN_c (t := t) (u := u) h.aN rfl rfl rfl rfl rfl (by funext j; simp [mup]) (by funext j; simp [mup]) (by funext j; simp [mup]) (by funext j; simp [mup]) (by funext j; simp [mup])
  · exact aC_c (t := t) (u := u) h.aC (fun _ => rfl) (fun _ => rfl)
  · exact aL_c (t := t) (u := u) h.aL rfl (by intros; simp [sI, sJ, sN, sC, uI, uJ]) (by intros; simp [sI, sJ, sN, sC, uI, uJ]) (by intros; simp [sI, sJ, sN, sC, uI, uJ]) (by intros; simp [sI, sJ, sN, sC, uI, uJ]) (by intros; simp [sI, sJ, sN, sC, uI, uJ]) (by funext j; simp [mup]) (by funext j; simp [mup]) (by funext j; simp [mup]) (by funext j; simp [mup])
  · exact aW_c (t := t) (u := u) h.aW rfl (by intros; simp [sI, sJ, sN, sC, uI, uJ]) (by funext j; simp [mup])
  · exact aU_c (t := t) (u := u) h.aU rfl (by intros; simp [sI, sJ, sN, sC, uI, uJ]) (by funext j; simp [mup])
  · exact aR_c (t := t) (u := u) h.aR rfl (by intros; simp [sI, sJ, sN, sC, uI, uJ]) (by intros; simp [sI, sJ, sN, sC, uI, uJ]) (by intros; simp [sI, sJ, sN, sC, uI, uJ]) (by funext j; simp [mup]) (by funext j; simp [mup]) (by funext j; simp [mup])
  · exact aP_c (t := t) (u := u) h.aP rfl (by intros; simp [sI, sJ, sN, sC, uI, uJ]) (by intros; simp [sI, sJ, sN, sC, uI, uJ]) (by intros; simp [sI, sJ, sN, sC, uI, uJ]) (by intros; simp [sI, sJ, sN, sC, uI, uJ]) (by funext j; simp [mup]) (by funext j; simp [mup]) (by funext j; simp [mup])
  · exact aA_c (t := t) (u := u) h.aA rfl (by intros; simp [sI, sJ, sN, sC, uI, uJ]) (by funext j; simp [mup])
  · exact aH_c (t := t) (u := u) h.aH rfl rfl (by intros; simp [sI, sJ, sN, sC, uI, uJ]) (by funext j; simp [mup])
  · exact aI_c (t := t) (u := u) h.aI rfl rfl (by intros; simp [sI, sJ, sN, sC, uI, uJ]) (by funext j; simp [mup])
  · exact aS_c (t := t) (u := u) h.aS rfl (by intros; simp [sI, sJ, sN, sC, uI, uJ]) (by funext j; simp [mup])
  · exact aE_c (t := t) (u := u) h.aE rfl (by intros; simp [sI, sJ, sN, sC, uI, uJ]) (by funext j; simp [mup])
  · exact aD_c (t := t) (u := u) h.aD rfl rfl (by intros; simp [sI, sJ, sN, sC, uI, uJ]) (by funext j; simp [mup])
  · exact aM_c (t := t) (u := u) h.aM rfl (by intros; simp [sI, sJ, sN, sC, uI, uJ]) (by intros; simp [sI, sJ, sN, sC, uI, uJ]) (by funext j; simp [mup]) (by funext j; simp [mup])
  · exact aB_c (t := t) (u := u) h.aB rfl (by intros; simp [sI, sJ, sN, sC, uI, uJ]) (by intros; simp [sI, sJ, sN, sC, uI, uJ]) (by intros; simp [sI, sJ, sN, sC, uI, uJ]) (by funext j; simp [mup]) (by funext j; simp [mup]) (by funext j; simp [mup])
  · exact aV_c (t := t) (u := u) h.aV rfl rfl (by intros; simp [sI, sJ, sN, sC, uI, uJ]) (by intros; simp [sI, sJ, sN, sC, uI, uJ]) (by intros; simp [sI, sJ, sN, sC, uI, uJ]) (by intros; simp [sI, sJ, sN, sC, uI, uJ]) (by intros; simp [sI, sJ, sN, sC, uI, uJ]) (by funext j; simp [mup]) (by funext j; simp [mup]) (by funext j; simp [mup]) (by funext j; simp [mup])
  · exact aX_c (t := t) (u := u) h.aX rfl (by intros; simp [sI, sJ, sN, sC, uI, uJ]) (by intros; simp [sI, sJ, sN, sC, uI, uJ]) (by intros; simp [sI, sJ, sN, sC, uI, uJ]) (by funext j; simp [mup]) (by funext j; simp [mup]) (by funext j; simp [mup])
  · exact aQ_c (t := t) (u := u) h.aQ rfl rfl rfl (by intros; simp [sI, sJ, sN, sC, uI, uJ]) (by intros; simp [sI, sJ, sN, sC, uI, uJ]) (by intros; simp [sI, sJ, sN, sC, uI, uJ]) (by intros; simp [sI, sJ, sN, sC, uI, uJ]) (by intros; simp [sI, sJ, sN, sC, uI, uJ]) (by funext j; simp [mup]) (by funext j; simp [mup]) (by funext j; simp [mup]) (by funext j; simp [mup])
  · exact aO_c (t := t) (u := u) h.aO rfl (by intros; simp [sI, sJ, sN, sC, uI, uJ])
  · exact aZ_c (t := t) (u := u) h.aZ rfl (by intros; simp [sI, sJ, sN, sC, uI, uJ]) (by intros; simp [sI, sJ, sN, sC, uI, uJ]) (by funext j; simp [mup]) (by funext j; simp [mup])
  · intro q9 hq9
    obtain ⟨h1, h2⟩ := h.aF q9 hq9
    have e44 : ∀ j, mup (mup u 44 (3 * r + m) (nI a)) 43 r (nI (m + 1)) 44 j = if j = 3 * r + m then nI a else u 44 j := fun j => by simp [mup]
    have hF : ∀ b k, (∀ i, i < k → b + i ≠ 3 * r + m) → zF (mup (mup u 44 (3 * r + m) (nI a)) 43 r (nI (m + 1)) 44) b k = zF (u 44) b k := fun b k => by
      induction k with
      | zero => intro _; rfl
      | succ k ih =>
        intro z
        simp only [zF]
        rw [ih (fun i hi => z i (by omega)), e44, if_neg (z k (by omega))]
    by_cases e9 : q9 = r
    · subst e9
      obtain ⟨m9, hm9, e43, -, hk9, hd9⟩ := h1 hr
      have : m9 = m := (nI_eq (by omega) (by omega)).mp (e43.symm.trans h43)
      subst this
      refine ⟨fun _ => ⟨m9 + 1, by omega, by simp [mup], ?_, fun k hk => ?_, fun k k2 hk hk2 => ?_⟩, fun hl9 => absurd hl9 (Nat.not_le.mpr hr)⟩
      · rw [sI_at, hmask]
        simp only [zF]
        rw [hF _ _ (fun i hi => by omega), e44, if_pos rfl]
      · rw [e44]
        by_cases z : k = m9
        · subst z; exact ⟨a, ha, if_pos rfl⟩
        · rw [if_neg (by omega)]; exact hk9 k (by omega)
      · rw [e44, e44, if_neg (show ¬ 3 * q9 + k = 3 * q9 + m9 from by omega)]
        by_cases z : k2 = m9
        · subst z; rw [if_pos rfl]; exact hnew k (by omega)
        · rw [if_neg (by omega)]; exact hd9 k k2 hk (by omega)
    · refine ⟨fun hl9 => ?_, fun hl9 => ?_⟩
      · obtain ⟨m9, hm9, e43, f43, hk9, hd9⟩ := h1 hl9
        refine ⟨m9, hm9, by simpa [mup, e9] using e43, ?_, fun k hk => ?_, fun k k2 hk hk2 => ?_⟩
        · rw [sI_n2 _ _ _ _ e9, hF _ _ (fun i hi => by omega)]; exact f43
        · rw [e44, if_neg (by omega)]; exact hk9 k hk
        · rw [e44, e44, if_neg (by omega), if_neg (by omega)]; exact hd9 k k2 hk hk2
      · simpa [mup, e9] using h2 hl9
theorem up_today {t : Nat} {g : CS} {u : MS} (h : R0 t g u) (ht : t < 3600) : R0 (t + 1) (uI g 0 0 6 (nI (t + 1))) (mup u 1 0 (nI (t + 1))) := by
  refine ⟨?_, ?_, ?_, ?_, ?_, ?_, ?_, ?_, ?_, ?_, ?_, ?_, ?_, ?_, ?_, ?_, ?_, ?_, ?_, ?_, ?_, ?_⟩
  · exact ⟨by simp [sI, sJ, sN, uI, uJ, mup], ht, by simp [sI, sJ, sN, uI, uJ, mup]⟩
  · exact aN_c (t := t) (u := u) h.aN rfl rfl rfl rfl rfl (by funext j; simp [mup]) (by funext j; simp [mup]) (by funext j; simp [mup]) (by funext j; simp [mup]) (by funext j; simp [mup])
  · exact aC_c (t := t) (u := u) h.aC (fun _ => rfl) (fun _ => rfl)
  · exact aL_c (t := t) (u := u) h.aL rfl (by intros; simp [sI, sJ, sN, sC, uI, uJ]) (by intros; simp [sI, sJ, sN, sC, uI, uJ]) (by intros; simp [sI, sJ, sN, sC, uI, uJ]) (by intros; simp [sI, sJ, sN, sC, uI, uJ]) (by intros; simp [sI, sJ, sN, sC, uI, uJ]) (by funext j; simp [mup]) (by funext j; simp [mup]) (by funext j; simp [mup]) (by funext j; simp [mup])
  · exact aW_c (t := t) (u := u) h.aW rfl (by intros; simp [sI, sJ, sN, sC, uI, uJ]) (by funext j; simp [mup])
  · exact aU_c (t := t) (u := u) h.aU rfl (by intros; simp [sI, sJ, sN, sC, uI, uJ]) (by funext j; simp [mup])
  · exact aR_c (t := t) (u := u) h.aR rfl (by intros; simp [sI, sJ, sN, sC, uI, uJ]) (by intros; simp [sI, sJ, sN, sC, uI, uJ]) (by intros; simp [sI, sJ, sN, sC, uI, uJ]) (by funext j; simp [mup]) (by funext j; simp [mup]) (by funext j; simp [mup])
  · exact aP_c (t := t) (u := u) h.aP rfl (by intros; simp [sI, sJ, sN, sC, uI, uJ]) (by intros; simp [sI, sJ, sN, sC, uI, uJ]) (by intros; simp [sI, sJ, sN, sC, uI, uJ]) (by intros; simp [sI, sJ, sN, sC, uI, uJ]) (by funext j; simp [mup]) (by funext j; simp [mup]) (by funext j; simp [mup])
  · exact aA_c (t := t) (u := u) h.aA rfl (by intros; simp [sI, sJ, sN, sC, uI, uJ]) (by funext j; simp [mup])
  · exact aH_c (t := t) (u := u) h.aH rfl rfl (by intros; simp [sI, sJ, sN, sC, uI, uJ]) (by funext j; simp [mup])
  · exact aI_c (t := t) (u := u) h.aI rfl rfl (by intros; simp [sI, sJ, sN, sC, uI, uJ]) (by funext j; simp [mup])
  · exact aS_c (t := t) (u := u) h.aS rfl (by intros; simp [sI, sJ, sN, sC, uI, uJ]) (by funext j; simp [mup])
  · intro q9 hq9
    obtain ⟨h1, h2⟩ := h.aE q9 hq9
    refine ⟨fun hl9 => ?_, fun hl9 => ?_⟩
    · obtain ⟨f, a9, b9, c9⟩ := h1 hl9
      exact ⟨f, by omega, b9, by simpa [sI, sJ, sN, uI, uJ, mup] using c9⟩
    · simpa [sI, sJ, sN, uI, uJ, mup] using h2 hl9
  · intro q9 hq9 d hd
    obtain ⟨h1, h2⟩ := h.aD q9 hq9 d hd
    refine ⟨fun hl9 => ⟨?_, (h1 hl9).2.1, fun z => (h1 hl9).2.2 (by omega)⟩, fun hl9 => ?_⟩
    · simpa [sI, sJ, sN, uI, uJ, mup] using (h1 hl9).1
    · simpa [sI, sJ, sN, uI, uJ, mup] using h2 hl9
  · intro q9 hq9 k hk
    obtain ⟨h1, h2⟩ := h.aM q9 hq9 k hk
    refine ⟨fun hl9 => ⟨?_, fun z => ?_⟩, fun hl9 => ?_⟩
    · simpa [sI, sJ, sN, uI, uJ, mup] using (h1 hl9).1
    · obtain ⟨s9, a9, b9, c9⟩ := (h1 hl9).2 z
      exact ⟨s9, by omega, b9, by simpa [sI, sJ, sN, uI, uJ, mup] using c9⟩
    · simpa [sI, sJ, sN, uI, uJ, mup] using h2 hl9
  · exact aB_c (t := t) (u := u) h.aB rfl (by intros; simp [sI, sJ, sN, sC, uI, uJ]) (by intros; simp [sI, sJ, sN, sC, uI, uJ]) (by intros; simp [sI, sJ, sN, sC, uI, uJ]) (by funext j; simp [mup]) (by funext j; simp [mup]) (by funext j; simp [mup])
  · exact aV_c (t := t) (u := u) h.aV rfl rfl (by intros; simp [sI, sJ, sN, sC, uI, uJ]) (by intros; simp [sI, sJ, sN, sC, uI, uJ]) (by intros; simp [sI, sJ, sN, sC, uI, uJ]) (by intros; simp [sI, sJ, sN, sC, uI, uJ]) (by intros; simp [sI, sJ, sN, sC, uI, uJ]) (by funext j; simp [mup]) (by funext j; simp [mup]) (by funext j; simp [mup]) (by funext j; simp [mup])
  · exact aX_c (t := t) (u := u) h.aX rfl (by intros; simp [sI, sJ, sN, sC, uI, uJ]) (by intros; simp [sI, sJ, sN, sC, uI, uJ]) (by intros; simp [sI, sJ, sN, sC, uI, uJ]) (by funext j; simp [mup]) (by funext j; simp [mup]) (by funext j; simp [mup])
  · intro q9 hq9
    obtain ⟨a1, a2, a3, a4, a5, d9, a6, a7⟩ := h.aQ q9 hq9
    exact ⟨a1, by simpa [sI, sJ, sN, uI, uJ, mup] using a2, by simpa [sI, sJ, sN, uI, uJ, mup] using a3, by simpa [sI, sJ, sN, uI, uJ, mup] using a4, by simpa [sI, sJ, sN, uI, uJ, mup] using a5, d9, by omega, a7⟩
  · exact aO_c (t := t) (u := u) h.aO rfl (by intros; simp [sI, sJ, sN, sC, uI, uJ])
  · exact aZ_c (t := t) (u := u) h.aZ rfl (by intros; simp [sI, sJ, sN, sC, uI, uJ]) (by intros; simp [sI, sJ, sN, sC, uI, uJ]) (by funext j; simp [mup]) (by funext j; simp [mup])
  · exact aF_c (t := t) (u := u) h.aF rfl rfl (by intros; simp [sI, sJ, sN, sC, uI, uJ]) (by funext j; simp [mup]) (by funext j; simp [mup])
