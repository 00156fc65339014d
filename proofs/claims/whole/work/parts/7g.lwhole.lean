theorem stk_no {l : Launch} (h : l.flags = flags0) : l.stackTraces = false := by
  unfold Launch.stackTraces
  rw [h]
  decide +kernel
set_option maxHeartbeats 4000000 in
set_option maxRecDepth 100000 in
/-- YOUR PART: from the entry, for every script of at most 3584 ints, the law comes to its end with true -/
theorem whole_start {p : Program} {e : Env} {s : State} {m : MethodId} {below : List Frame} {meth : Method} {c : Code} (l : Launch) (hflags : l.flags = flags0) {b L : Nat} {xs : Nat → Int32} (hL : L ≤ 3584) (C0 : lw_At p s m meth c b L xs) : W p l e room_1 s m #[Value.ref b] below meth c s.heap [] 0 0 (lw_Z below #[Value.ref b] s) (entryFrame m ([Value.ref b] : List Value).toArray 7) := by
  obtain ⟨D, yI, yO, yL, cZ, z0, hK, hB⟩ := ws_all C0
  obtain ⟨hx, hb, hr, hml, hown9, hts, hX, hbl, hlocks, -⟩ := id C0
  have hT : ∀ w ∈ wsL_law, w.before #[Value.ref b] s = true := fun w h => hts w (wsL_law_in w h)
  have hlf : l.stackTraces = false := stk_no hflags
  have hown : s.vm.findClass RL = some m.cls := hown9
  have hA : ∀ a : Nat, s.heap.size ≤ a → (fun a : Nat => s.heap.size ≤ a) a := fun _ h => h
  have hS : va_S (fun a : Nat => s.heap.size ≤ a) s.heap s.heap [] := va_S.rf
  have hP : va_P D vwCl [] s.heap := fun k q h => by simp at h
  have hD : va_D (fun a : Nat => s.heap.size ≤ a) [] := ⟨fun i j p q h => by simp at h, fun k q h => by simp at h⟩
  have hl := lv_entry ([.ref b]) (n := 7) (Nat.le_of_ble_eq_true rfl)
  rw [lg_entry_eq]
  generalize (lg_sl ([.ref b]) ++ List.replicate (7 - (lg_sl ([.ref b])).length) Slot.unset).toArray = ls at hl ⊢
  have hl : lv_has ls 7 [(0, .ref b)] := hl
  refine va_new (ci := 9) (fs := [.null, .null, .null, .null, .null, .null, .int 0]) (C := RX8) (T := TX8) (N := 7) hx hb hts (by decide +kernel) tyX8 tyX8_ok hown (hts (.classLink RL 8 RX8) (by decide +kernel)) (hts (.instantiable RX8 7) (by decide +kernel)) (hts (.initialized RX8) (by decide +kernel)) hK hP hD hS hA rfl (fun j hj => by rcases (show j = 0 ∨ j = 1 ∨ j = 2 ∨ j = 3 ∨ j = 4 ∨ j = 5 ∨ j = 6 by omega) with rfl | rfl | rfl | rfl | rfl | rfl | rfl <;> rfl) (Nat.le_of_ble_eq_true rfl) (Nat.le_of_ble_eq_true rfl) dL_law_0 (fun h0 H hP hD hS => ?_)
  have hP : va_P D vwCl [(h0, .inr (9, [.null, .null, .null, .null, .null, .null, .int 0]))] H := hP
  have hD : va_D (fun a : Nat => s.heap.size ≤ a) [(h0, .inr (9, [.null, .null, .null, .null, .null, .null, .int 0]))] := hD
  refine lv_dup hx hb dL_law_3 rfl ?_
  have hFc := va_free (wc := [(h0, .inr (9, [.null, .null, .null, .null, .null, .null, .int 0]))]) hD hS hA [0] rfl
  refine va_callv (va_runI (As := []) (rest := [.ref h0]) ⟨hx, hb, hml, hown, hT⟩ (cK_X8 l D yI yO z0 h0 H.size) (cwI 0 hT gL_law_X8_init rfl rfl rfl (hts (.initialized RX8) (by decide +kernel)) (hts (.methodLink RL 120 yX8_init) (by decide +kernel)) (hts (.instanceMethod yX8_init) (by decide +kernel)) rfl (by decide +kernel) ⟨Nat.le_of_ble_eq_true rfl, Nat.le_of_ble_eq_true rfl⟩) ⟨iPre_blind D yI yO z0 _ _ _, fun U hU hW => ⟨rfl, ⟨by rw [hU], by rw [hU]; exact hP, va_K.moved hW.alike hK.l.c, hD.weaken (fun _ _ _ _ => trivial), hB.2.1.2.moved hW⟩, by rw [hU]; exact ((hB.2.1.1.kept hS.2.1).narrow hFc).moved hW⟩⟩ rfl rfl hl.1 rfl (lv_room (pc := 4) (ls := ls) (rest := []) (m := m) (Nat.le_of_ble_eq_true rfl)) dL_law_4 ⟨Nat.le_of_ble_eq_true rfl, Nat.le_of_ble_eq_true rfl⟩) hS (fun q _ h => hFc q h) hFc (fun q0 t H1 locs ht hvm hw hB1 hz1 hk1 hS => ?_)
  obtain ⟨hP1, -, hD1⟩ := hB1
  rw [ht] at hP1
  have hD := hD1.weaken (B := fun a : Nat => s.heap.size ≤ a) (fun k q _ h => hFc q.1 h)
  have hP := hP1
  generalize H1 = H at hP hS ⊢
  have hP : va_P D vwCl (ws00 h0 z0 q0) H := hP
  have hD : va_D (fun a : Nat => s.heap.size ≤ a) (ws00 h0 z0 q0) := hD
  refine lv_astore_n (lv' := [(1, .ref h0), (0, .ref b)]) hx hb dL_law_7 rfl hl (by decide) rfl (fun ls hl => ?_)
  refine va_new (ci := 10) (fs := mblank) (C := RX9) (T := TX9) (N := 45) hx hb hts (by decide +kernel) tyX9 tyX9_ok hown (hts (.classLink RL 121 RX9) (by decide +kernel)) (hts (.instantiable RX9 45) (by decide +kernel)) (hts (.initialized RX9) (by decide +kernel)) hK hP hD hS hA rfl (by decide +kernel) (Nat.le_of_ble_eq_true rfl) (Nat.le_of_ble_eq_true rfl) dL_law_8 (fun h9 H hP hD hS => ?_)
  have hP9 : va_at D vwCl (h9, .inr (10, mblank)) H := hP 7 _ rfl
  have hA9 : s.heap.size ≤ h9 := hD.2 7 _ rfl
  have hne : ∀ (k : Nat) (x : Nat × va_E), (ws00 h0 z0 q0)[k]? = some x → x.1 ≠ h9 := fun k x hx9 e9 => by
    have hk : k < 7 := (List.getElem?_eq_some_iff.mp hx9).1
    have h1 := hD.1 k 7 x (h9, .inr (10, mblank)) (by rw [List.getElem?_append_left (by exact hk)]; exact hx9) rfl e9
    omega
  have hP : va_P D vwCl (ws00 h0 z0 q0) H := fun k x hx9 => hP k x (by rw [List.getElem?_append_left (List.getElem?_eq_some_iff.mp hx9).1]; exact hx9)
  have hD : va_D (fun a : Nat => s.heap.size ≤ a) (ws00 h0 z0 q0) := ⟨fun i j x y h1 h2 e9 => hD.1 i j x y (by rw [List.getElem?_append_left (List.getElem?_eq_some_iff.mp h1).1]; exact h1) (by rw [List.getElem?_append_left (List.getElem?_eq_some_iff.mp h2).1]; exact h2) e9, fun k x hx9 => hD.2 k x (by rw [List.getElem?_append_left (List.getElem?_eq_some_iff.mp hx9).1]; exact hx9)⟩
  refine lv_dup hx hb dL_law_11 rfl ?_
  have hFc : ∀ a, va_A [(h9, .inr (10, mblank))] H.size a → (fun a : Nat => s.heap.size ≤ a) a := by
    rintro a (⟨k, x, h⟩ | h)
    · rcases k with _ | k
      · cases h
        exact hA9
      · simp at h
    · exact Nat.le_trans hS.1 h
  refine va_callv (va_runI (As := []) (rest := [.ref h9]) ⟨hx, hb, hml, hown, hT⟩ (cM_init l D yI cZ h9 H.size) (cwI 0 hT gL_law_X9_init rfl rfl rfl (hts (.initialized RX9) (by decide +kernel)) (hts (.methodLink RL 123 yX9_init) (by decide +kernel)) (hts (.instanceMethod yX9_init) (by decide +kernel)) rfl (by decide +kernel) ⟨Nat.le_of_ble_eq_true rfl, Nat.le_of_ble_eq_true rfl⟩) ⟨fun a U fr mk z => ⟨z.1, z.2.1, z.2.2.1, va_K.moved (u := U) (U := U.calling fr mk a) (Vm.Alike.refl U.vm) z.2.2.2⟩, fun U hU hW => ⟨rfl, by rw [hU], by rw [hU]; exact hP9, va_K.moved hW.alike hK.m⟩⟩ rfl rfl hl.1 rfl (lv_room (pc := 12) (ls := ls) (rest := []) (m := m) (Nat.le_of_ble_eq_true rfl)) dL_law_12 ⟨Nat.le_of_ble_eq_true rfl, Nat.le_of_ble_eq_true rfl⟩) hS (fun q _ h => hFc q h) hFc (fun q t H1 locs ht hvm hw hB1 hz1 hk1 hS => ?_)
  obtain ⟨hmw, -, hqA⟩ := hB1
  rw [ht] at hmw
  have hw : q 0 = h9 := hw
  have hwq : ∀ (k : Nat) (x : Nat × va_E), (ws00 h0 z0 q0)[k]? = some x → ¬ va_A [(h9, .inr (10, mblank))] H.size x.1 := by
    rintro k x hx9 (⟨j, y, h⟩ | h)
    · rcases j with _ | j
      · cases h
        exact hne k x hx9 rfl
      · simp at h
    · exact absurd (hP k x hx9).lt (Nat.not_lt.mpr h)
  have hP := hP.kept (H1 := H1) (fun k x hx9 => hk1 x.1 (hP k x hx9).lt (hwq k x hx9))
  refine lv_astore_n (lv' := [(2, .ref h9), (1, .ref h0), (0, .ref b)]) hx hb dL_law_15 rfl hl (by decide) rfl (fun ls hl => ?_)
  refine lv_iconst (v := 1) hx hb dL_law_16 (by decide) ?_
  have hqC : ∀ (k : Nat) (x : Nat × va_E), (ws00 h0 z0 q0)[k]? = some x → ∀ j, mlv j → x.1 ≠ q j := fun k x hx9 j hj e9 => hwq k x hx9 (by rw [e9]; exact hqA j hj)
  have hqA : ∀ k, mlv k → s.heap.size ≤ q k := fun k hk => hFc _ (hqA k hk)
  refine va_newaK (N := 1) (atype := .long) hx hb (hts (.arrayClass .long) (by decide +kernel)) rfl dL_law_17 rfl (by decide) (by decide) (by decide) (Nat.le_of_ble_eq_true rfl) (Nat.le_of_ble_eq_true rfl) rfl (fun H2 cA e1 e2 e3 e4 e5 => ?_)
  have hcA : cA = yL := by
    have h1 : s.vm.findClass ("[" ++ FieldType.long.toString) = some yL := (hK.2 2 _ rfl).2
    exact Option.some.inj (e5.symm.trans h1)
  subst hcA
  have hoA : s.heap.size ≤ H1.size := hS.1
  have hS : va_S (fun a : Nat => s.heap.size ≤ a) s.heap H2 locs := ⟨Nat.le_trans hS.1 (by omega), fun a h1 h2 => (e3 a (Nat.lt_of_lt_of_le h1 hS.1)).trans (hS.2.1 a h1 h2), hS.2.2⟩
  have hP2 : va_P D vwCl (ws00 h0 z0 q0) H2 := hP.kept (fun k x hx9 => e3 x.1 (hP k x hx9).lt)
  have hC := cw00 (yI := yI) (yO := yO) hP2 hD
  have hN : gW D yI yO cA cZ z0 q (ad00 h0 z0 q0) g00 mU0 H1.size (fun _ => 0) (fun a : Nat => s.heap.size ≤ a) s H2 locs := by
    refine ⟨⟨hC.1, hC.2, hS⟩, ⟨fun k hk => (hmw.1 k hk).kept (e3 _ (hmw.1 k hk).lt), hmw.2⟩, hqA, fun k x hx9 => ?_, hoA, fun k hk hc => ?_, fun hc => ?_, fun k hk => Nat.ne_of_lt (hmw.1 k hk).lt⟩
    · rcases k with _ | k
      · cases hx9
        exact e1
      · simp [lw1] at hx9
    · obtain ⟨k2, i2, h1, h2⟩ := hc
      exact hqC _ _ (ws00_at yI yO h0 z0 q0 h1) k hk h2
    · obtain ⟨k2, i2, h1, h2⟩ := hc
      exact absurd (hP _ _ (ws00_at yI yO h0 z0 q0 h1)).lt (Nat.not_lt.mpr (Nat.le_of_eq h2.symm))
  refine (?_ : W p l e room_1 s m #[Value.ref b] below meth c H2 locs _ _ (lw_Z below #[Value.ref b] s) (F0 m 19 ls [.ref H1.size]))
  refine lv_astore_n (lv' := [(3, .ref H1.size), (2, .ref h9), (1, .ref h0), (0, .ref b)]) hx hb dL_law_19 rfl hl (by decide) rfl (fun ls hl => ?_)
  refine lv_iconst (v := 0) hx hb dL_law_20 (by decide) ?_
  refine lv_istore (lv' := [(4, .int 0), (3, .ref H1.size), (2, .ref h9), (1, .ref h0), (0, .ref b)]) hx hb dL_law_21 hl (by decide) rfl (fun ls hl => ?_)
  rw [← hw] at hl
  exact law_loop hlf C0 hT hL hB hK 513 0 _ _ (ad00 h0 z0 q0) g00 mU0 (fun _ => 0) H2 locs ls (Nat.zero_le _) (by omega) (Nat.le_of_ble_eq_true rfl) (Nat.le_of_ble_eq_true rfl) RR0 hN (lv_sub hl [4, 3, 2, 1, 0] rfl)
