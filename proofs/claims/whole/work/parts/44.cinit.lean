/-! ===== the constructors of ArrayList and of the class ===== -/
def iPre (D : va_G) (yI yO : ClassId) (z0 : Nat) (ws : va_W) (sz : Nat) (U : State) : Prop := kPre D yI yO ws sz U ∧ lS z0 (va_A ws sz) U U.heap
theorem iPre_blind (D : va_G) (yI yO : ClassId) (z0 : Nat) (ws : va_W) (sz : Nat) (av : List Value) : FrameBlind (va_Pc av (iPre D yI yO z0 ws sz)) := fun a U fr mk z => ⟨z.1, (kPre_blind D yI yO ws sz av a U fr mk ⟨z.1, z.2.1⟩).2, z.2.2.same⟩

set_option maxRecDepth 20000 in
theorem cI_AC (l : Launch) (D : va_G) (yI yO : ClassId) (h0 sz : Nat) : Met l yJxa1e45_init_da8c8 wsJxa1e45_init_da8c8 ({ frames := 1, cells := 0, slots := 0, locals := 12 }) (va_Pc [.ref h0] (kPre D yI yO [(h0, .inr (0, [.int 0, .null, .int 0]))] sz)) (va_Qv (S := Nat → Nat) (fun _ => True) (fun q t => kPost D yI yO [(h0, .inr (0, [.int 0, .null, .int 0]))] (va_A [(h0, .inr (0, [.int 0, .null, .int 0]))] sz) t) (va_A [(h0, .inr (0, [.int 0, .null, .int 0]))] sz)) 0 0 (va_A [(h0, .inr (0, [.int 0, .null, .int 0]))] sz) := by
  refine Met.ofW (cc := cJxa1e45_init_da8c8) (maxL := 1) (ret := none) (by decide) rfl ?_
  intro p e s m args below meth c s₁ B hml hv
  obtain ⟨rfl, hsz, hP, hK, hD0, hkn⟩ := hv
  have hx := B.exec
  have hb := B.bytes
  have hr := B.returns
  have hts := atoms_spec (ws := wsJxa1e45_init_da8c8) B.pre
  have hown : s.vm.findClass RJxa1e45 = some m.cls := findClass_of_methodNamed B.named
  have hlocks := B.notSynchronized
  have hin : meth.name = "<init>" := (name_of_methodNamed B.named B.method).1
  subst hsz
  have hD := hD0.self (sz := s.heap.size)
  generalize hAe : va_A [(h0, .inr (0, [.int 0, .null, .int 0]))] s.heap.size = A at hD ⊢
  have hA : ∀ q : Nat, s.heap.size ≤ q → A q := fun q h => by rw [← hAe]; exact Or.inr h
  have hS : va_S A s.heap s.heap [] := va_S.rf
  have hP : va_P D vwCl [(h0, .inr (0, [.int 0, .null, .int 0]))] s.heap := hP
  have hl := lv_entry ([.ref h0]) (n := 1) (Nat.le_of_ble_eq_true rfl)
  rw [lg_entry_eq]
  generalize (lg_sl ([.ref h0]) ++ List.replicate (1 - (lg_sl ([.ref h0])).length) Slot.unset).toArray = ls at hl ⊢
  have hl : lv_has ls 1 [(0, .ref h0)] := hl
  refine lv_aload_n hx hb dJxa1e45_init_da8c8_0 rfl (lv_at hl 0 rfl) ?_
  refine W.objInit hx hb hown (hts (.methodLink RJxa1e45 1 objectInit) (by decide +kernel)) (hts (.instanceMethod objectInit) (by decide +kernel)) (hts (.code objectInit ⟨#[0xb1]⟩ 1 none) (by decide +kernel)) rfl (by rw [hml]; exact hl.1) rfl dJxa1e45_init_da8c8_1 (Nat.le_of_ble_eq_true rfl) (Nat.le_of_ble_eq_true rfl) ?_
  refine W.eq (g2 := F0 m 4 ls []) rfl ?_
  exact W.vret hx hb hr (fun t ht hW => ⟨⟨fun _ => 0, rfl, trivial, by rw [ht]; exact hP, va_K.moved hW.alike hK, hD⟩, hS.F ht⟩) hS.2.2 dJxa1e45_init_da8c8_4
set_option maxRecDepth 20000 in
theorem cI_AL (l : Launch) (D : va_G) (yI yO : ClassId) (h0 sz : Nat) : Met l yJxc12de_init_da8c8 wsJxc12de_init_da8c8 ({ frames := 2, cells := 0, slots := 0, locals := 32 }) (va_Pc [.ref h0] (kPre D yI yO [(h0, .inr (0, [.int 0, .null, .int 0]))] sz)) (va_Qv (S := Nat → Nat) (fun _ => True) (fun q t => kPost D yI yO [(h0, .inr (0, [.int 0, .null, .int 0]))] (va_A [(h0, .inr (0, [.int 0, .null, .int 0]))] sz) t) (va_A [(h0, .inr (0, [.int 0, .null, .int 0]))] sz)) 0 0 (va_A [(h0, .inr (0, [.int 0, .null, .int 0]))] sz) := by
  refine Met.ofW (cc := cJxc12de_init_da8c8) (maxL := 1) (ret := none) (by decide) rfl ?_
  intro p e s m args below meth c s₁ B hml hv
  obtain ⟨rfl, hsz, hP, hK, hD0, hkn⟩ := hv
  have hx := B.exec
  have hb := B.bytes
  have hr := B.returns
  have hts := atoms_spec (ws := wsJxc12de_init_da8c8) B.pre
  have hown : s.vm.findClass RJxc12de = some m.cls := findClass_of_methodNamed B.named
  have hlocks := B.notSynchronized
  have hin : meth.name = "<init>" := (name_of_methodNamed B.named B.method).1
  subst hsz
  have hD := hD0.self (sz := s.heap.size)
  generalize hAe : va_A [(h0, .inr (0, [.int 0, .null, .int 0]))] s.heap.size = A at hD ⊢
  have hA : ∀ q : Nat, s.heap.size ≤ q → A q := fun q h => by rw [← hAe]; exact Or.inr h
  have hS : va_S A s.heap s.heap [] := va_S.rf
  have hP : va_P D vwCl [(h0, .inr (0, [.int 0, .null, .int 0]))] s.heap := hP
  have hl := lv_entry ([.ref h0]) (n := 1) (Nat.le_of_ble_eq_true rfl)
  rw [lg_entry_eq]
  generalize (lg_sl ([.ref h0]) ++ List.replicate (1 - (lg_sl ([.ref h0])).length) Slot.unset).toArray = ls at hl ⊢
  have hl : lv_has ls 1 [(0, .ref h0)] := hl
  refine lv_aload_n hx hb dJxc12de_init_da8c8_0 rfl (lv_at hl 0 rfl) ?_
  have hFc := va_free (wc := [(h0, .inr (0, [.int 0, .null, .int 0]))]) hD hS hA [0] rfl
  refine va_callv (va_runI (As := []) (rest := []) ⟨hx, hb, hml, hown, hts⟩ (cI_AC l D yI yO h0 s.heap.size) (cwI 0 hts gJxc12de_init_da8c8_Jxa1e45_init_da8c8 rfl rfl rfl (hts (.initialized RJxa1e45) (by decide +kernel)) (hts (.methodLink RJxc12de 1 yJxa1e45_init_da8c8) (by decide +kernel)) (hts (.instanceMethod yJxa1e45_init_da8c8) (by decide +kernel)) rfl (by decide +kernel) ⟨Nat.le_of_ble_eq_true rfl, Nat.le_of_ble_eq_true rfl⟩) ⟨kPre_blind D yI yO _ _ _, fun U hU hW => ⟨rfl, by rw [hU], by rw [hU]; exact hP, va_K.moved hW.alike hK, hD.weaken (fun _ _ _ _ => trivial), hkn.moved hW⟩⟩ rfl rfl hl.1 rfl (lv_room (Nat.le_of_ble_eq_true rfl)) dJxc12de_init_da8c8_1 ⟨Nat.le_of_ble_eq_true rfl, Nat.le_of_ble_eq_true rfl⟩) hS (fun q _ h => hFc q h) hFc (fun u t H1 locs ht hvm _ hB hz1 hk1 hS => ?_)
  obtain ⟨hP1, hK1, hD1⟩ := hB
  rw [ht] at hP1
  have hD := hD1.weaken (B := A) (fun k q _ h => hFc q.1 h)
  have hP := hP1
  generalize H1 = H at hP hS ⊢
  refine lv_aload_n hx hb dJxc12de_init_da8c8_4 rfl (lv_at hl 0 rfl) ?_
  refine lv_iconst (v := 0) hx hb dJxc12de_init_da8c8_5 (by decide) ?_
  refine va_put (D := D) (ci := 0) (v := .int 0) (ty := .int) (C := RJx4a65c) (T := TJx4a65c) (N := 3) hx hb hts (by decide +kernel) tyJx4a65c tyJx4a65c_ok nmJx4a65c hown hK hP hD hS 0 rfl rfl 0 (by decide) (hts (.fieldLink RJxc12de 7 "java/util/AbstractList" "modCount" "I") (by decide +kernel)) (fun _ h9 => h9) rfl (by decide +kernel) rfl rfl (Nat.le_of_ble_eq_true rfl) dJxc12de_init_da8c8_6 (fun H locs hP hD hS => ?_)
  have hP : va_P D vwCl [(h0, .inr (0, [.int 0, .null, .int 0]))] H := hP
  have hD : va_D A [(h0, .inr (0, [.int 0, .null, .int 0]))] := hD
  exact W.vret hx hb hr (fun t ht hW => ⟨⟨fun _ => 0, rfl, trivial, by rw [ht]; exact hP, va_K.moved hW.alike hK, hD⟩, hS.F ht⟩) hS.2.2 dJxc12de_init_da8c8_9
set_option maxRecDepth 20000 in
theorem cI_L (l : Launch) (D : va_G) (yI yO : ClassId) (z0 : Nat) (h0 sz : Nat) : Met l yJx4a65c_init_da8c8 wsJx4a65c_init_da8c8 ({ frames := 3, cells := 0, slots := 0, locals := 52 }) (va_Pc [.ref h0] (iPre D yI yO z0 [(h0, .inr (0, [.int 0, .null, .int 0]))] sz)) (va_Qv (S := Nat → Nat) (fun _ => True) (fun q t => kPost D yI yO [(h0, .inr (0, [.int 0, .ref z0, .int 0]))] (va_A [(h0, .inr (0, [.int 0, .null, .int 0]))] sz) t) (va_A [(h0, .inr (0, [.int 0, .null, .int 0]))] sz)) 0 0 (va_A [(h0, .inr (0, [.int 0, .null, .int 0]))] sz) := by
  refine Met.ofW (cc := cJx4a65c_init_da8c8) (maxL := 1) (ret := none) (by decide) rfl ?_
  intro p e s m args below meth c s₁ B hml hv
  obtain ⟨rfl, ⟨hsz, hP, hK, hD0, hkn⟩, hls⟩ := hv
  have hx := B.exec
  have hb := B.bytes
  have hr := B.returns
  have hts := atoms_spec (ws := wsJx4a65c_init_da8c8) B.pre
  have hown : s.vm.findClass RJx4a65c = some m.cls := findClass_of_methodNamed B.named
  have hlocks := B.notSynchronized
  have hin : meth.name = "<init>" := (name_of_methodNamed B.named B.method).1
  subst hsz
  have hD := hD0.self (sz := s.heap.size)
  generalize hAe : va_A [(h0, .inr (0, [.int 0, .null, .int 0]))] s.heap.size = A at hD hls ⊢
  have hA : ∀ q : Nat, s.heap.size ≤ q → A q := fun q h => by rw [← hAe]; exact Or.inr h
  have hS : va_S A s.heap s.heap [] := va_S.rf
  have hP : va_P D vwCl [(h0, .inr (0, [.int 0, .null, .int 0]))] s.heap := hP
  have hl := lv_entry ([.ref h0]) (n := 1) (Nat.le_of_ble_eq_true rfl)
  rw [lg_entry_eq]
  generalize (lg_sl ([.ref h0]) ++ List.replicate (1 - (lg_sl ([.ref h0])).length) Slot.unset).toArray = ls at hl ⊢
  have hl : lv_has ls 1 [(0, .ref h0)] := hl
  refine lv_aload_n hx hb dJx4a65c_init_da8c8_0 rfl (lv_at hl 0 rfl) ?_
  have hFc := va_free (wc := [(h0, .inr (0, [.int 0, .null, .int 0]))]) hD hS hA [0] rfl
  refine va_callv (va_runI (As := []) (rest := []) ⟨hx, hb, hml, hown, hts⟩ (cI_AL l D yI yO h0 s.heap.size) (cwI 0 hts gJx4a65c_init_da8c8_Jxc12de_init_da8c8 rfl rfl rfl (hts (.initialized RJxc12de) (by decide +kernel)) (hts (.methodLink RJx4a65c 1 yJxc12de_init_da8c8) (by decide +kernel)) (hts (.instanceMethod yJxc12de_init_da8c8) (by decide +kernel)) rfl (by decide +kernel) ⟨Nat.le_of_ble_eq_true rfl, Nat.le_of_ble_eq_true rfl⟩) ⟨kPre_blind D yI yO _ _ _, fun U hU hW => ⟨rfl, by rw [hU], by rw [hU]; exact hP, va_K.moved hW.alike hK, hD.weaken (fun _ _ _ _ => trivial), hkn.moved hW⟩⟩ rfl rfl hl.1 rfl (lv_room (Nat.le_of_ble_eq_true rfl)) dJx4a65c_init_da8c8_1 ⟨Nat.le_of_ble_eq_true rfl, Nat.le_of_ble_eq_true rfl⟩) hS (fun q _ h => hFc q h) hFc (fun u t H1 locs ht hvm _ hB hz1 hk1 hS => ?_)
  obtain ⟨hP1, hK1, hD1⟩ := hB
  rw [ht] at hP1
  have hD := hD1.weaken (B := A) (fun k q _ h => hFc q.1 h)
  have hP := hP1
  generalize H1 = H at hP hS ⊢
  refine lv_aload_n hx hb dJx4a65c_init_da8c8_4 rfl (lv_at hl 0 rfl) ?_
  refine va_gets hx hb hls.1 hS hown (hts (.fieldLink RJx4a65c 39 "java/util/ArrayList" "DEFAULTCAPACITY_EMPTY_ELEMENTDATA" "[Ljava/lang/Object;") (by decide +kernel)) (fun _ h => h) dJx4a65c_init_da8c8_5 ?_
  refine va_put (D := D) (ci := 0) (v := .ref z0) (ty := (.array (.object "java/lang/Object"))) (C := RJx4a65c) (T := TJx4a65c) (N := 3) hx hb hts (by decide +kernel) tyJx4a65c tyJx4a65c_ok nmJx4a65c hown hK hP hD hS 0 rfl rfl 1 (by decide) (hts (.fieldLink RJx4a65c 9 "java/util/ArrayList" "elementData" "[Ljava/lang/Object;") (by decide +kernel)) (fun _ h9 => h9) rfl (by decide +kernel) rfl rfl (Nat.le_of_ble_eq_true rfl) dJx4a65c_init_da8c8_8 (fun H locs hP hD hS => ?_)
  have hP : va_P D vwCl [(h0, .inr (0, [.int 0, .ref z0, .int 0]))] H := hP
  have hD : va_D A [(h0, .inr (0, [.int 0, .ref z0, .int 0]))] := hD
  exact W.vret hx hb hr (fun t ht hW => ⟨⟨fun _ => 0, rfl, trivial, by rw [ht]; exact hP, va_K.moved hW.alike hK, hD⟩, hS.F ht⟩) hS.2.2 dJx4a65c_init_da8c8_11
set_option maxRecDepth 20000 in
theorem cK_X8 (l : Launch) (D : va_G) (yI yO : ClassId) (z0 h0 sz : Nat)  : Met l yX8_init wsX8_init ({ frames := 4, cells := 6, slots := 18, locals := 72 }) (va_Pc [.ref h0] (iPre D yI yO z0 [(h0, .inr (9, [.null, .null, .null, .null, .null, .null, .int 0]))] sz)) (va_Qv (S := Nat → Nat) (fun _ => True) (fun q t => kPost D yI yO [(h0, .inr (9, [.ref (q 0), .ref (q 1), .ref (q 2), .ref (q 3), .ref (q 4), .ref (q 5), .int 0])), (q 0, .inr (0, [.int 0, .ref z0, .int 0])), (q 1, .inr (0, [.int 0, .ref z0, .int 0])), (q 2, .inr (0, [.int 0, .ref z0, .int 0])), (q 3, .inr (0, [.int 0, .ref z0, .int 0])), (q 4, .inr (7, [.int 0, .int 90, .int 180])), (q 5, .inr (0, [.int 0, .ref z0, .int 0]))] (va_A [(h0, .inr (9, [.null, .null, .null, .null, .null, .null, .int 0]))] sz) t) (va_A [(h0, .inr (9, [.null, .null, .null, .null, .null, .null, .int 0]))] sz)) 6 18 (va_A [(h0, .inr (9, [.null, .null, .null, .null, .null, .null, .int 0]))] sz) := by
  refine Met.ofW (cc := cX8_init) (maxL := 1) (ret := none) (by decide) rfl ?_
  intro p e s m args below meth c s₁ B hml hv
  obtain ⟨rfl, ⟨hsz, hP, hK, hD0, hkn⟩, hls⟩ := hv
  have hx := B.exec
  have hb := B.bytes
  have hr := B.returns
  have hts := atoms_spec (ws := wsX8_init) B.pre
  have hown : s.vm.findClass RX8 = some m.cls := findClass_of_methodNamed B.named
  have hlocks := B.notSynchronized
  have hin : meth.name = "<init>" := (name_of_methodNamed B.named B.method).1
  subst hsz
  have hD := hD0.self (sz := s.heap.size)
  generalize hAe : va_A [(h0, .inr (9, [.null, .null, .null, .null, .null, .null, .int 0]))] s.heap.size = A at hD hls ⊢
  have hA : ∀ q : Nat, s.heap.size ≤ q → A q := fun q h => by rw [← hAe]; exact Or.inr h
  have hS : va_S A s.heap s.heap [] := va_S.rf
  have hP : va_P D vwCl [(h0, .inr (9, [.null, .null, .null, .null, .null, .null, .int 0]))] s.heap := hP
  have hl := lv_entry ([.ref h0]) (n := 1) (Nat.le_of_ble_eq_true rfl)
  rw [lg_entry_eq]
  generalize (lg_sl ([.ref h0]) ++ List.replicate (1 - (lg_sl ([.ref h0])).length) Slot.unset).toArray = ls at hl ⊢
  have hl : lv_has ls 1 [(0, .ref h0)] := hl
  refine lv_aload_n hx hb dX8_init_0 rfl (lv_at hl 0 rfl) ?_
  refine W.objInit hx hb hown (hts (.methodLink RX8 3 objectInit) (by decide +kernel)) (hts (.instanceMethod objectInit) (by decide +kernel)) (hts (.code objectInit ⟨#[0xb1]⟩ 1 none) (by decide +kernel)) rfl (by rw [hml]; exact hl.1) rfl dX8_init_1 (Nat.le_of_ble_eq_true rfl) (Nat.le_of_ble_eq_true rfl) ?_
  refine W.eq (g2 := F0 m 4 ls []) rfl ?_
  refine lv_aload_n hx hb dX8_init_4 rfl (lv_at hl 0 rfl) ?_
  refine va_new (ci := 0) (fs := [.int 0, .null, .int 0]) (C := RJx4a65c) (T := TJx4a65c) (N := 3) hx hb hts (by decide +kernel) tyJx4a65c tyJx4a65c_ok hown (hts (.classLink RX8 9 RJx4a65c) (by decide +kernel)) (hts (.instantiable RJx4a65c 3) (by decide +kernel)) (hts (.initialized RJx4a65c) (by decide +kernel)) hK hP hD hS hA rfl (fun j hj => by rcases (show j = 0 ∨ j = 1 ∨ j = 2 by omega) with rfl | rfl | rfl <;> rfl) (Nat.le_of_ble_eq_true rfl) (Nat.le_of_ble_eq_true rfl) dX8_init_5 (fun n1 H hP hD hS => ?_)
  have hP : va_P D vwCl [(h0, .inr (9, [.null, .null, .null, .null, .null, .null, .int 0])), (n1, .inr (0, [.int 0, .null, .int 0]))] H := hP
  have hD : va_D A [(h0, .inr (9, [.null, .null, .null, .null, .null, .null, .int 0])), (n1, .inr (0, [.int 0, .null, .int 0]))] := hD
  refine lv_dup hx hb dX8_init_8 rfl ?_
  have hPc := hP.sub (ws' := [(n1, .inr (0, [.int 0, .null, .int 0]))]) [1] rfl
  have hDc := hD.sub (ws' := [(n1, .inr (0, [.int 0, .null, .int 0]))]) [1] (by decide) rfl
  have hFc := va_free (wc := [(n1, .inr (0, [.int 0, .null, .int 0]))]) hD hS hA [1] rfl
  refine va_callv (va_runI (As := []) (rest := [.ref n1, .ref h0]) ⟨hx, hb, hml, hown, hts⟩ (cI_L l D yI yO z0 n1 H.size) (cwI 0 hts gX8_init_Jx4a65c_init_da8c8 rfl rfl rfl (hts (.initialized RJx4a65c) (by decide +kernel)) (hts (.methodLink RX8 11 yJx4a65c_init_da8c8) (by decide +kernel)) (hts (.instanceMethod yJx4a65c_init_da8c8) (by decide +kernel)) rfl (by decide +kernel) ⟨Nat.le_of_ble_eq_true rfl, Nat.le_of_ble_eq_true rfl⟩) ⟨iPre_blind D yI yO z0 _ _ _, fun U hU hW => ⟨rfl, ⟨by rw [hU], by rw [hU]; exact hPc, va_K.moved hW.alike hK, hDc.weaken (fun _ _ _ _ => trivial), hkn.moved hW⟩, by rw [hU]; exact ((hls.kept hS.2.1).narrow hFc).moved hW⟩⟩ rfl rfl hl.1 rfl (lv_room (Nat.le_of_ble_eq_true rfl)) dX8_init_9 ⟨Nat.le_of_ble_eq_true rfl, Nat.le_of_ble_eq_true rfl⟩) hS (fun q _ h => hFc q h) hFc (fun u2 t H1 locs ht hvm _ hB hz1 hk1 hS => ?_)
  obtain ⟨hP1, hK1, hD1⟩ := hB
  rw [ht] at hP1
  obtain ⟨hP, hD⟩ := va_join (wr := [(h0, .inr (9, [.null, .null, .null, .null, .null, .null, .int 0]))]) (w1 := [(n1, .inr (0, [.int 0, .ref z0, .int 0]))]) hP hD [1] [0] rfl rfl (by decide) (by decide) hk1 hFc hP1 hD1
  generalize H1 = H at hP hS ⊢
  have hP : va_P D vwCl [(h0, .inr (9, [.null, .null, .null, .null, .null, .null, .int 0])), (n1, .inr (0, [.int 0, .ref z0, .int 0]))] H := hP
  have hD : va_D A [(h0, .inr (9, [.null, .null, .null, .null, .null, .null, .int 0])), (n1, .inr (0, [.int 0, .ref z0, .int 0]))] := hD
  refine va_putF (D := D) (ci := 9) (v := .ref n1) (ty := .object "java/util/ArrayList") (C := RX8) (T := TX8) (N := 7) hx hb hts (by decide +kernel) tyX8 tyX8_ok nmX8 hown hK hP hD hS 0 rfl rfl 0 (by decide) (hts (.fieldLink RX8 12 "PassageCourt" "lands" "Ljava/util/ArrayList;") (by decide +kernel)) (fun _ h9 => h9) rfl hin rfl (by decide +kernel) rfl rfl (Nat.le_of_ble_eq_true rfl) dX8_init_12 (fun H locs hP hD hS => ?_)
  have hP : va_P D vwCl [(h0, .inr (9, [.ref n1, .null, .null, .null, .null, .null, .int 0])), (n1, .inr (0, [.int 0, .ref z0, .int 0]))] H := hP
  have hD : va_D A [(h0, .inr (9, [.ref n1, .null, .null, .null, .null, .null, .int 0])), (n1, .inr (0, [.int 0, .ref z0, .int 0]))] := hD
  refine lv_aload_n hx hb dX8_init_15 rfl (lv_at hl 0 rfl) ?_
  refine va_new (ci := 0) (fs := [.int 0, .null, .int 0]) (C := RJx4a65c) (T := TJx4a65c) (N := 3) hx hb hts (by decide +kernel) tyJx4a65c tyJx4a65c_ok hown (hts (.classLink RX8 9 RJx4a65c) (by decide +kernel)) (hts (.instantiable RJx4a65c 3) (by decide +kernel)) (hts (.initialized RJx4a65c) (by decide +kernel)) hK hP hD hS hA rfl (fun j hj => by rcases (show j = 0 ∨ j = 1 ∨ j = 2 by omega) with rfl | rfl | rfl <;> rfl) (Nat.le_of_ble_eq_true rfl) (Nat.le_of_ble_eq_true rfl) dX8_init_16 (fun n3 H hP hD hS => ?_)
  have hP : va_P D vwCl [(h0, .inr (9, [.ref n1, .null, .null, .null, .null, .null, .int 0])), (n1, .inr (0, [.int 0, .ref z0, .int 0])), (n3, .inr (0, [.int 0, .null, .int 0]))] H := hP
  have hD : va_D A [(h0, .inr (9, [.ref n1, .null, .null, .null, .null, .null, .int 0])), (n1, .inr (0, [.int 0, .ref z0, .int 0])), (n3, .inr (0, [.int 0, .null, .int 0]))] := hD
  refine lv_dup hx hb dX8_init_19 rfl ?_
  have hPc := hP.sub (ws' := [(n3, .inr (0, [.int 0, .null, .int 0]))]) [2] rfl
  have hDc := hD.sub (ws' := [(n3, .inr (0, [.int 0, .null, .int 0]))]) [2] (by decide) rfl
  have hFc := va_free (wc := [(n3, .inr (0, [.int 0, .null, .int 0]))]) hD hS hA [2] rfl
  refine va_callv (va_runI (As := []) (rest := [.ref n3, .ref h0]) ⟨hx, hb, hml, hown, hts⟩ (cI_L l D yI yO z0 n3 H.size) (cwI 0 hts gX8_init_Jx4a65c_init_da8c8 rfl rfl rfl (hts (.initialized RJx4a65c) (by decide +kernel)) (hts (.methodLink RX8 11 yJx4a65c_init_da8c8) (by decide +kernel)) (hts (.instanceMethod yJx4a65c_init_da8c8) (by decide +kernel)) rfl (by decide +kernel) ⟨Nat.le_of_ble_eq_true rfl, Nat.le_of_ble_eq_true rfl⟩) ⟨iPre_blind D yI yO z0 _ _ _, fun U hU hW => ⟨rfl, ⟨by rw [hU], by rw [hU]; exact hPc, va_K.moved hW.alike hK, hDc.weaken (fun _ _ _ _ => trivial), hkn.moved hW⟩, by rw [hU]; exact ((hls.kept hS.2.1).narrow hFc).moved hW⟩⟩ rfl rfl hl.1 rfl (lv_room (Nat.le_of_ble_eq_true rfl)) dX8_init_20 ⟨Nat.le_of_ble_eq_true rfl, Nat.le_of_ble_eq_true rfl⟩) hS (fun q _ h => hFc q h) hFc (fun u4 t H1 locs ht hvm _ hB hz1 hk1 hS => ?_)
  obtain ⟨hP1, hK1, hD1⟩ := hB
  rw [ht] at hP1
  obtain ⟨hP, hD⟩ := va_join (wr := [(h0, .inr (9, [.ref n1, .null, .null, .null, .null, .null, .int 0])), (n1, .inr (0, [.int 0, .ref z0, .int 0]))]) (w1 := [(n3, .inr (0, [.int 0, .ref z0, .int 0]))]) hP hD [2] [0, 1] rfl rfl (by decide) (by decide) hk1 hFc hP1 hD1
  generalize H1 = H at hP hS ⊢
  have hP : va_P D vwCl [(h0, .inr (9, [.ref n1, .null, .null, .null, .null, .null, .int 0])), (n1, .inr (0, [.int 0, .ref z0, .int 0])), (n3, .inr (0, [.int 0, .ref z0, .int 0]))] H := hP
  have hD : va_D A [(h0, .inr (9, [.ref n1, .null, .null, .null, .null, .null, .int 0])), (n1, .inr (0, [.int 0, .ref z0, .int 0])), (n3, .inr (0, [.int 0, .ref z0, .int 0]))] := hD
  refine va_putF (D := D) (ci := 9) (v := .ref n3) (ty := .object "java/util/ArrayList") (C := RX8) (T := TX8) (N := 7) hx hb hts (by decide +kernel) tyX8 tyX8_ok nmX8 hown hK hP hD hS 0 rfl rfl 1 (by decide) (hts (.fieldLink RX8 16 "PassageCourt" "persons" "Ljava/util/ArrayList;") (by decide +kernel)) (fun _ h9 => h9) rfl hin rfl (by decide +kernel) rfl rfl (Nat.le_of_ble_eq_true rfl) dX8_init_23 (fun H locs hP hD hS => ?_)
  have hP : va_P D vwCl [(h0, .inr (9, [.ref n1, .ref n3, .null, .null, .null, .null, .int 0])), (n1, .inr (0, [.int 0, .ref z0, .int 0])), (n3, .inr (0, [.int 0, .ref z0, .int 0]))] H := hP
  have hD : va_D A [(h0, .inr (9, [.ref n1, .ref n3, .null, .null, .null, .null, .int 0])), (n1, .inr (0, [.int 0, .ref z0, .int 0])), (n3, .inr (0, [.int 0, .ref z0, .int 0]))] := hD
  refine lv_aload_n hx hb dX8_init_26 rfl (lv_at hl 0 rfl) ?_
  refine va_new (ci := 0) (fs := [.int 0, .null, .int 0]) (C := RJx4a65c) (T := TJx4a65c) (N := 3) hx hb hts (by decide +kernel) tyJx4a65c tyJx4a65c_ok hown (hts (.classLink RX8 9 RJx4a65c) (by decide +kernel)) (hts (.instantiable RJx4a65c 3) (by decide +kernel)) (hts (.initialized RJx4a65c) (by decide +kernel)) hK hP hD hS hA rfl (fun j hj => by rcases (show j = 0 ∨ j = 1 ∨ j = 2 by omega) with rfl | rfl | rfl <;> rfl) (Nat.le_of_ble_eq_true rfl) (Nat.le_of_ble_eq_true rfl) dX8_init_27 (fun n5 H hP hD hS => ?_)
  have hP : va_P D vwCl [(h0, .inr (9, [.ref n1, .ref n3, .null, .null, .null, .null, .int 0])), (n1, .inr (0, [.int 0, .ref z0, .int 0])), (n3, .inr (0, [.int 0, .ref z0, .int 0])), (n5, .inr (0, [.int 0, .null, .int 0]))] H := hP
  have hD : va_D A [(h0, .inr (9, [.ref n1, .ref n3, .null, .null, .null, .null, .int 0])), (n1, .inr (0, [.int 0, .ref z0, .int 0])), (n3, .inr (0, [.int 0, .ref z0, .int 0])), (n5, .inr (0, [.int 0, .null, .int 0]))] := hD
  refine lv_dup hx hb dX8_init_30 rfl ?_
  have hPc := hP.sub (ws' := [(n5, .inr (0, [.int 0, .null, .int 0]))]) [3] rfl
  have hDc := hD.sub (ws' := [(n5, .inr (0, [.int 0, .null, .int 0]))]) [3] (by decide) rfl
  have hFc := va_free (wc := [(n5, .inr (0, [.int 0, .null, .int 0]))]) hD hS hA [3] rfl
  refine va_callv (va_runI (As := []) (rest := [.ref n5, .ref h0]) ⟨hx, hb, hml, hown, hts⟩ (cI_L l D yI yO z0 n5 H.size) (cwI 0 hts gX8_init_Jx4a65c_init_da8c8 rfl rfl rfl (hts (.initialized RJx4a65c) (by decide +kernel)) (hts (.methodLink RX8 11 yJx4a65c_init_da8c8) (by decide +kernel)) (hts (.instanceMethod yJx4a65c_init_da8c8) (by decide +kernel)) rfl (by decide +kernel) ⟨Nat.le_of_ble_eq_true rfl, Nat.le_of_ble_eq_true rfl⟩) ⟨iPre_blind D yI yO z0 _ _ _, fun U hU hW => ⟨rfl, ⟨by rw [hU], by rw [hU]; exact hPc, va_K.moved hW.alike hK, hDc.weaken (fun _ _ _ _ => trivial), hkn.moved hW⟩, by rw [hU]; exact ((hls.kept hS.2.1).narrow hFc).moved hW⟩⟩ rfl rfl hl.1 rfl (lv_room (Nat.le_of_ble_eq_true rfl)) dX8_init_31 ⟨Nat.le_of_ble_eq_true rfl, Nat.le_of_ble_eq_true rfl⟩) hS (fun q _ h => hFc q h) hFc (fun u6 t H1 locs ht hvm _ hB hz1 hk1 hS => ?_)
  obtain ⟨hP1, hK1, hD1⟩ := hB
  rw [ht] at hP1
  obtain ⟨hP, hD⟩ := va_join (wr := [(h0, .inr (9, [.ref n1, .ref n3, .null, .null, .null, .null, .int 0])), (n1, .inr (0, [.int 0, .ref z0, .int 0])), (n3, .inr (0, [.int 0, .ref z0, .int 0]))]) (w1 := [(n5, .inr (0, [.int 0, .ref z0, .int 0]))]) hP hD [3] [0, 1, 2] rfl rfl (by decide) (by decide) hk1 hFc hP1 hD1
  generalize H1 = H at hP hS ⊢
  have hP : va_P D vwCl [(h0, .inr (9, [.ref n1, .ref n3, .null, .null, .null, .null, .int 0])), (n1, .inr (0, [.int 0, .ref z0, .int 0])), (n3, .inr (0, [.int 0, .ref z0, .int 0])), (n5, .inr (0, [.int 0, .ref z0, .int 0]))] H := hP
  have hD : va_D A [(h0, .inr (9, [.ref n1, .ref n3, .null, .null, .null, .null, .int 0])), (n1, .inr (0, [.int 0, .ref z0, .int 0])), (n3, .inr (0, [.int 0, .ref z0, .int 0])), (n5, .inr (0, [.int 0, .ref z0, .int 0]))] := hD
  refine va_putF (D := D) (ci := 9) (v := .ref n5) (ty := .object "java/util/ArrayList") (C := RX8) (T := TX8) (N := 7) hx hb hts (by decide +kernel) tyX8 tyX8_ok nmX8 hown hK hP hD hS 0 rfl rfl 2 (by decide) (hts (.fieldLink RX8 19 "PassageCourt" "visas" "Ljava/util/ArrayList;") (by decide +kernel)) (fun _ h9 => h9) rfl hin rfl (by decide +kernel) rfl rfl (Nat.le_of_ble_eq_true rfl) dX8_init_34 (fun H locs hP hD hS => ?_)
  have hP : va_P D vwCl [(h0, .inr (9, [.ref n1, .ref n3, .ref n5, .null, .null, .null, .int 0])), (n1, .inr (0, [.int 0, .ref z0, .int 0])), (n3, .inr (0, [.int 0, .ref z0, .int 0])), (n5, .inr (0, [.int 0, .ref z0, .int 0]))] H := hP
  have hD : va_D A [(h0, .inr (9, [.ref n1, .ref n3, .ref n5, .null, .null, .null, .int 0])), (n1, .inr (0, [.int 0, .ref z0, .int 0])), (n3, .inr (0, [.int 0, .ref z0, .int 0])), (n5, .inr (0, [.int 0, .ref z0, .int 0]))] := hD
  refine lv_aload_n hx hb dX8_init_37 rfl (lv_at hl 0 rfl) ?_
  refine va_new (ci := 0) (fs := [.int 0, .null, .int 0]) (C := RJx4a65c) (T := TJx4a65c) (N := 3) hx hb hts (by decide +kernel) tyJx4a65c tyJx4a65c_ok hown (hts (.classLink RX8 9 RJx4a65c) (by decide +kernel)) (hts (.instantiable RJx4a65c 3) (by decide +kernel)) (hts (.initialized RJx4a65c) (by decide +kernel)) hK hP hD hS hA rfl (fun j hj => by rcases (show j = 0 ∨ j = 1 ∨ j = 2 by omega) with rfl | rfl | rfl <;> rfl) (Nat.le_of_ble_eq_true rfl) (Nat.le_of_ble_eq_true rfl) dX8_init_38 (fun n7 H hP hD hS => ?_)
  have hP : va_P D vwCl [(h0, .inr (9, [.ref n1, .ref n3, .ref n5, .null, .null, .null, .int 0])), (n1, .inr (0, [.int 0, .ref z0, .int 0])), (n3, .inr (0, [.int 0, .ref z0, .int 0])), (n5, .inr (0, [.int 0, .ref z0, .int 0])), (n7, .inr (0, [.int 0, .null, .int 0]))] H := hP
  have hD : va_D A [(h0, .inr (9, [.ref n1, .ref n3, .ref n5, .null, .null, .null, .int 0])), (n1, .inr (0, [.int 0, .ref z0, .int 0])), (n3, .inr (0, [.int 0, .ref z0, .int 0])), (n5, .inr (0, [.int 0, .ref z0, .int 0])), (n7, .inr (0, [.int 0, .null, .int 0]))] := hD
  refine lv_dup hx hb dX8_init_41 rfl ?_
  have hPc := hP.sub (ws' := [(n7, .inr (0, [.int 0, .null, .int 0]))]) [4] rfl
  have hDc := hD.sub (ws' := [(n7, .inr (0, [.int 0, .null, .int 0]))]) [4] (by decide) rfl
  have hFc := va_free (wc := [(n7, .inr (0, [.int 0, .null, .int 0]))]) hD hS hA [4] rfl
  refine va_callv (va_runI (As := []) (rest := [.ref n7, .ref h0]) ⟨hx, hb, hml, hown, hts⟩ (cI_L l D yI yO z0 n7 H.size) (cwI 0 hts gX8_init_Jx4a65c_init_da8c8 rfl rfl rfl (hts (.initialized RJx4a65c) (by decide +kernel)) (hts (.methodLink RX8 11 yJx4a65c_init_da8c8) (by decide +kernel)) (hts (.instanceMethod yJx4a65c_init_da8c8) (by decide +kernel)) rfl (by decide +kernel) ⟨Nat.le_of_ble_eq_true rfl, Nat.le_of_ble_eq_true rfl⟩) ⟨iPre_blind D yI yO z0 _ _ _, fun U hU hW => ⟨rfl, ⟨by rw [hU], by rw [hU]; exact hPc, va_K.moved hW.alike hK, hDc.weaken (fun _ _ _ _ => trivial), hkn.moved hW⟩, by rw [hU]; exact ((hls.kept hS.2.1).narrow hFc).moved hW⟩⟩ rfl rfl hl.1 rfl (lv_room (Nat.le_of_ble_eq_true rfl)) dX8_init_42 ⟨Nat.le_of_ble_eq_true rfl, Nat.le_of_ble_eq_true rfl⟩) hS (fun q _ h => hFc q h) hFc (fun u8 t H1 locs ht hvm _ hB hz1 hk1 hS => ?_)
  obtain ⟨hP1, hK1, hD1⟩ := hB
  rw [ht] at hP1
  obtain ⟨hP, hD⟩ := va_join (wr := [(h0, .inr (9, [.ref n1, .ref n3, .ref n5, .null, .null, .null, .int 0])), (n1, .inr (0, [.int 0, .ref z0, .int 0])), (n3, .inr (0, [.int 0, .ref z0, .int 0])), (n5, .inr (0, [.int 0, .ref z0, .int 0]))]) (w1 := [(n7, .inr (0, [.int 0, .ref z0, .int 0]))]) hP hD [4] [0, 1, 2, 3] rfl rfl (by decide) (by decide) hk1 hFc hP1 hD1
  generalize H1 = H at hP hS ⊢
  have hP : va_P D vwCl [(h0, .inr (9, [.ref n1, .ref n3, .ref n5, .null, .null, .null, .int 0])), (n1, .inr (0, [.int 0, .ref z0, .int 0])), (n3, .inr (0, [.int 0, .ref z0, .int 0])), (n5, .inr (0, [.int 0, .ref z0, .int 0])), (n7, .inr (0, [.int 0, .ref z0, .int 0]))] H := hP
  have hD : va_D A [(h0, .inr (9, [.ref n1, .ref n3, .ref n5, .null, .null, .null, .int 0])), (n1, .inr (0, [.int 0, .ref z0, .int 0])), (n3, .inr (0, [.int 0, .ref z0, .int 0])), (n5, .inr (0, [.int 0, .ref z0, .int 0])), (n7, .inr (0, [.int 0, .ref z0, .int 0]))] := hD
  refine va_putF (D := D) (ci := 9) (v := .ref n7) (ty := .object "java/util/ArrayList") (C := RX8) (T := TX8) (N := 7) hx hb hts (by decide +kernel) tyX8 tyX8_ok nmX8 hown hK hP hD hS 0 rfl rfl 3 (by decide) (hts (.fieldLink RX8 22 "PassageCourt" "requests" "Ljava/util/ArrayList;") (by decide +kernel)) (fun _ h9 => h9) rfl hin rfl (by decide +kernel) rfl rfl (Nat.le_of_ble_eq_true rfl) dX8_init_45 (fun H locs hP hD hS => ?_)
  have hP : va_P D vwCl [(h0, .inr (9, [.ref n1, .ref n3, .ref n5, .ref n7, .null, .null, .int 0])), (n1, .inr (0, [.int 0, .ref z0, .int 0])), (n3, .inr (0, [.int 0, .ref z0, .int 0])), (n5, .inr (0, [.int 0, .ref z0, .int 0])), (n7, .inr (0, [.int 0, .ref z0, .int 0]))] H := hP
  have hD : va_D A [(h0, .inr (9, [.ref n1, .ref n3, .ref n5, .ref n7, .null, .null, .int 0])), (n1, .inr (0, [.int 0, .ref z0, .int 0])), (n3, .inr (0, [.int 0, .ref z0, .int 0])), (n5, .inr (0, [.int 0, .ref z0, .int 0])), (n7, .inr (0, [.int 0, .ref z0, .int 0]))] := hD
  refine lv_aload_n hx hb dX8_init_48 rfl (lv_at hl 0 rfl) ?_
  refine va_new (ci := 7) (fs := [.int 0, .int 0, .int 0]) (C := RX6) (T := TX6) (N := 3) hx hb hts (by decide +kernel) tyX6 tyX6_ok hown (hts (.classLink RX8 25 RX6) (by decide +kernel)) (hts (.instantiable RX6 3) (by decide +kernel)) (hts (.initialized RX6) (by decide +kernel)) hK hP hD hS hA rfl (fun j hj => by rcases (show j = 0 ∨ j = 1 ∨ j = 2 by omega) with rfl | rfl | rfl <;> rfl) (Nat.le_of_ble_eq_true rfl) (Nat.le_of_ble_eq_true rfl) dX8_init_49 (fun n9 H hP hD hS => ?_)
  have hP : va_P D vwCl [(h0, .inr (9, [.ref n1, .ref n3, .ref n5, .ref n7, .null, .null, .int 0])), (n1, .inr (0, [.int 0, .ref z0, .int 0])), (n3, .inr (0, [.int 0, .ref z0, .int 0])), (n5, .inr (0, [.int 0, .ref z0, .int 0])), (n7, .inr (0, [.int 0, .ref z0, .int 0])), (n9, .inr (7, [.int 0, .int 0, .int 0]))] H := hP
  have hD : va_D A [(h0, .inr (9, [.ref n1, .ref n3, .ref n5, .ref n7, .null, .null, .int 0])), (n1, .inr (0, [.int 0, .ref z0, .int 0])), (n3, .inr (0, [.int 0, .ref z0, .int 0])), (n5, .inr (0, [.int 0, .ref z0, .int 0])), (n7, .inr (0, [.int 0, .ref z0, .int 0])), (n9, .inr (7, [.int 0, .int 0, .int 0]))] := hD
  refine lv_dup hx hb dX8_init_52 rfl ?_
  refine lv_iconst (v := 0) hx hb dX8_init_53 (by decide) ?_
  refine lv_bipush (v := 90) hx hb dX8_init_54 (by decide) ?_
  refine lv_sipush (v := 180) hx hb dX8_init_56 (by decide) ?_
  have hPc := hP.sub (ws' := [(n9, .inr (7, [.int 0, .int 0, .int 0]))]) [5] rfl
  have hDc := hD.sub (ws' := [(n9, .inr (7, [.int 0, .int 0, .int 0]))]) [5] (by decide) rfl
  have hFc := va_free (wc := [(n9, .inr (7, [.int 0, .int 0, .int 0]))]) hD hS hA [5] rfl
  refine va_callv (va_runI (As := [.int 0, .int 90, .int 180]) (rest := [.ref n9, .ref h0]) ⟨hx, hb, hml, hown, hts⟩ (cK_X6 l D yI yO n9 H.size 0 90 180) (cwI 3 hts gX8_init_X6_init rfl rfl rfl (hts (.initialized RX6) (by decide +kernel)) (hts (.methodLink RX8 27 yX6_init) (by decide +kernel)) (hts (.instanceMethod yX6_init) (by decide +kernel)) rfl (by decide +kernel) ⟨Nat.le_of_ble_eq_true rfl, Nat.le_of_ble_eq_true rfl⟩) ⟨kPre_blind D yI yO _ _ _, fun U hU hW => ⟨rfl, by rw [hU], by rw [hU]; exact hPc, va_K.moved hW.alike hK, hDc.weaken (fun _ _ _ _ => trivial), hkn.moved hW⟩⟩ rfl rfl hl.1 rfl (lv_room (Nat.le_of_ble_eq_true rfl)) dX8_init_59 ⟨Nat.le_of_ble_eq_true rfl, Nat.le_of_ble_eq_true rfl⟩) hS (fun q _ h => hFc q h) hFc (fun u10 t H1 locs ht hvm _ hB hz1 hk1 hS => ?_)
  obtain ⟨hP1, hK1, hD1⟩ := hB
  rw [ht] at hP1
  obtain ⟨hP, hD⟩ := va_join (wr := [(h0, .inr (9, [.ref n1, .ref n3, .ref n5, .ref n7, .null, .null, .int 0])), (n1, .inr (0, [.int 0, .ref z0, .int 0])), (n3, .inr (0, [.int 0, .ref z0, .int 0])), (n5, .inr (0, [.int 0, .ref z0, .int 0])), (n7, .inr (0, [.int 0, .ref z0, .int 0]))]) (w1 := [(n9, .inr (7, [.int 0, .int 90, .int 180]))]) hP hD [5] [0, 1, 2, 3, 4] rfl rfl (by decide) (by decide) hk1 hFc hP1 hD1
  generalize H1 = H at hP hS ⊢
  have hP : va_P D vwCl [(h0, .inr (9, [.ref n1, .ref n3, .ref n5, .ref n7, .null, .null, .int 0])), (n1, .inr (0, [.int 0, .ref z0, .int 0])), (n3, .inr (0, [.int 0, .ref z0, .int 0])), (n5, .inr (0, [.int 0, .ref z0, .int 0])), (n7, .inr (0, [.int 0, .ref z0, .int 0])), (n9, .inr (7, [.int 0, .int 90, .int 180]))] H := hP
  have hD : va_D A [(h0, .inr (9, [.ref n1, .ref n3, .ref n5, .ref n7, .null, .null, .int 0])), (n1, .inr (0, [.int 0, .ref z0, .int 0])), (n3, .inr (0, [.int 0, .ref z0, .int 0])), (n5, .inr (0, [.int 0, .ref z0, .int 0])), (n7, .inr (0, [.int 0, .ref z0, .int 0])), (n9, .inr (7, [.int 0, .int 90, .int 180]))] := hD
  refine va_putF (D := D) (ci := 9) (v := .ref n9) (ty := .object "PassageCourt$Rule") (C := RX8) (T := TX8) (N := 7) hx hb hts (by decide +kernel) tyX8 tyX8_ok nmX8 hown hK hP hD hS 0 rfl rfl 4 (by decide) (hts (.fieldLink RX8 30 "PassageCourt" "firstRule" "LPassageCourt$Rule;") (by decide +kernel)) (fun _ h9 => h9) rfl hin rfl (by decide +kernel) rfl rfl (Nat.le_of_ble_eq_true rfl) dX8_init_62 (fun H locs hP hD hS => ?_)
  have hP : va_P D vwCl [(h0, .inr (9, [.ref n1, .ref n3, .ref n5, .ref n7, .ref n9, .null, .int 0])), (n1, .inr (0, [.int 0, .ref z0, .int 0])), (n3, .inr (0, [.int 0, .ref z0, .int 0])), (n5, .inr (0, [.int 0, .ref z0, .int 0])), (n7, .inr (0, [.int 0, .ref z0, .int 0])), (n9, .inr (7, [.int 0, .int 90, .int 180]))] H := hP
  have hD : va_D A [(h0, .inr (9, [.ref n1, .ref n3, .ref n5, .ref n7, .ref n9, .null, .int 0])), (n1, .inr (0, [.int 0, .ref z0, .int 0])), (n3, .inr (0, [.int 0, .ref z0, .int 0])), (n5, .inr (0, [.int 0, .ref z0, .int 0])), (n7, .inr (0, [.int 0, .ref z0, .int 0])), (n9, .inr (7, [.int 0, .int 90, .int 180]))] := hD
  refine lv_aload_n hx hb dX8_init_65 rfl (lv_at hl 0 rfl) ?_
  refine va_new (ci := 0) (fs := [.int 0, .null, .int 0]) (C := RJx4a65c) (T := TJx4a65c) (N := 3) hx hb hts (by decide +kernel) tyJx4a65c tyJx4a65c_ok hown (hts (.classLink RX8 9 RJx4a65c) (by decide +kernel)) (hts (.instantiable RJx4a65c 3) (by decide +kernel)) (hts (.initialized RJx4a65c) (by decide +kernel)) hK hP hD hS hA rfl (fun j hj => by rcases (show j = 0 ∨ j = 1 ∨ j = 2 by omega) with rfl | rfl | rfl <;> rfl) (Nat.le_of_ble_eq_true rfl) (Nat.le_of_ble_eq_true rfl) dX8_init_66 (fun n11 H hP hD hS => ?_)
  have hP : va_P D vwCl [(h0, .inr (9, [.ref n1, .ref n3, .ref n5, .ref n7, .ref n9, .null, .int 0])), (n1, .inr (0, [.int 0, .ref z0, .int 0])), (n3, .inr (0, [.int 0, .ref z0, .int 0])), (n5, .inr (0, [.int 0, .ref z0, .int 0])), (n7, .inr (0, [.int 0, .ref z0, .int 0])), (n9, .inr (7, [.int 0, .int 90, .int 180])), (n11, .inr (0, [.int 0, .null, .int 0]))] H := hP
  have hD : va_D A [(h0, .inr (9, [.ref n1, .ref n3, .ref n5, .ref n7, .ref n9, .null, .int 0])), (n1, .inr (0, [.int 0, .ref z0, .int 0])), (n3, .inr (0, [.int 0, .ref z0, .int 0])), (n5, .inr (0, [.int 0, .ref z0, .int 0])), (n7, .inr (0, [.int 0, .ref z0, .int 0])), (n9, .inr (7, [.int 0, .int 90, .int 180])), (n11, .inr (0, [.int 0, .null, .int 0]))] := hD
  refine lv_dup hx hb dX8_init_69 rfl ?_
  have hPc := hP.sub (ws' := [(n11, .inr (0, [.int 0, .null, .int 0]))]) [6] rfl
  have hDc := hD.sub (ws' := [(n11, .inr (0, [.int 0, .null, .int 0]))]) [6] (by decide) rfl
  have hFc := va_free (wc := [(n11, .inr (0, [.int 0, .null, .int 0]))]) hD hS hA [6] rfl
  refine va_callv (va_runI (As := []) (rest := [.ref n11, .ref h0]) ⟨hx, hb, hml, hown, hts⟩ (cI_L l D yI yO z0 n11 H.size) (cwI 0 hts gX8_init_Jx4a65c_init_da8c8 rfl rfl rfl (hts (.initialized RJx4a65c) (by decide +kernel)) (hts (.methodLink RX8 11 yJx4a65c_init_da8c8) (by decide +kernel)) (hts (.instanceMethod yJx4a65c_init_da8c8) (by decide +kernel)) rfl (by decide +kernel) ⟨Nat.le_of_ble_eq_true rfl, Nat.le_of_ble_eq_true rfl⟩) ⟨iPre_blind D yI yO z0 _ _ _, fun U hU hW => ⟨rfl, ⟨by rw [hU], by rw [hU]; exact hPc, va_K.moved hW.alike hK, hDc.weaken (fun _ _ _ _ => trivial), hkn.moved hW⟩, by rw [hU]; exact ((hls.kept hS.2.1).narrow hFc).moved hW⟩⟩ rfl rfl hl.1 rfl (lv_room (Nat.le_of_ble_eq_true rfl)) dX8_init_70 ⟨Nat.le_of_ble_eq_true rfl, Nat.le_of_ble_eq_true rfl⟩) hS (fun q _ h => hFc q h) hFc (fun u12 t H1 locs ht hvm _ hB hz1 hk1 hS => ?_)
  obtain ⟨hP1, hK1, hD1⟩ := hB
  rw [ht] at hP1
  obtain ⟨hP, hD⟩ := va_join (wr := [(h0, .inr (9, [.ref n1, .ref n3, .ref n5, .ref n7, .ref n9, .null, .int 0])), (n1, .inr (0, [.int 0, .ref z0, .int 0])), (n3, .inr (0, [.int 0, .ref z0, .int 0])), (n5, .inr (0, [.int 0, .ref z0, .int 0])), (n7, .inr (0, [.int 0, .ref z0, .int 0])), (n9, .inr (7, [.int 0, .int 90, .int 180]))]) (w1 := [(n11, .inr (0, [.int 0, .ref z0, .int 0]))]) hP hD [6] [0, 1, 2, 3, 4, 5] rfl rfl (by decide) (by decide) hk1 hFc hP1 hD1
  generalize H1 = H at hP hS ⊢
  have hP : va_P D vwCl [(h0, .inr (9, [.ref n1, .ref n3, .ref n5, .ref n7, .ref n9, .null, .int 0])), (n1, .inr (0, [.int 0, .ref z0, .int 0])), (n3, .inr (0, [.int 0, .ref z0, .int 0])), (n5, .inr (0, [.int 0, .ref z0, .int 0])), (n7, .inr (0, [.int 0, .ref z0, .int 0])), (n9, .inr (7, [.int 0, .int 90, .int 180])), (n11, .inr (0, [.int 0, .ref z0, .int 0]))] H := hP
  have hD : va_D A [(h0, .inr (9, [.ref n1, .ref n3, .ref n5, .ref n7, .ref n9, .null, .int 0])), (n1, .inr (0, [.int 0, .ref z0, .int 0])), (n3, .inr (0, [.int 0, .ref z0, .int 0])), (n5, .inr (0, [.int 0, .ref z0, .int 0])), (n7, .inr (0, [.int 0, .ref z0, .int 0])), (n9, .inr (7, [.int 0, .int 90, .int 180])), (n11, .inr (0, [.int 0, .ref z0, .int 0]))] := hD
  refine va_putF (D := D) (ci := 9) (v := .ref n11) (ty := .object "java/util/ArrayList") (C := RX8) (T := TX8) (N := 7) hx hb hts (by decide +kernel) tyX8 tyX8_ok nmX8 hown hK hP hD hS 0 rfl rfl 5 (by decide) (hts (.fieldLink RX8 34 "PassageCourt" "laterRules" "Ljava/util/ArrayList;") (by decide +kernel)) (fun _ h9 => h9) rfl hin rfl (by decide +kernel) rfl rfl (Nat.le_of_ble_eq_true rfl) dX8_init_73 (fun H locs hP hD hS => ?_)
  have hP : va_P D vwCl [(h0, .inr (9, [.ref n1, .ref n3, .ref n5, .ref n7, .ref n9, .ref n11, .int 0])), (n1, .inr (0, [.int 0, .ref z0, .int 0])), (n3, .inr (0, [.int 0, .ref z0, .int 0])), (n5, .inr (0, [.int 0, .ref z0, .int 0])), (n7, .inr (0, [.int 0, .ref z0, .int 0])), (n9, .inr (7, [.int 0, .int 90, .int 180])), (n11, .inr (0, [.int 0, .ref z0, .int 0]))] H := hP
  have hD : va_D A [(h0, .inr (9, [.ref n1, .ref n3, .ref n5, .ref n7, .ref n9, .ref n11, .int 0])), (n1, .inr (0, [.int 0, .ref z0, .int 0])), (n3, .inr (0, [.int 0, .ref z0, .int 0])), (n5, .inr (0, [.int 0, .ref z0, .int 0])), (n7, .inr (0, [.int 0, .ref z0, .int 0])), (n9, .inr (7, [.int 0, .int 90, .int 180])), (n11, .inr (0, [.int 0, .ref z0, .int 0]))] := hD
  refine lv_aload_n hx hb dX8_init_76 rfl (lv_at hl 0 rfl) ?_
  refine lv_iconst (v := 0) hx hb dX8_init_77 (by decide) ?_
  refine va_put (D := D) (ci := 9) (v := .int 0) (ty := .int) (C := RX8) (T := TX8) (N := 7) hx hb hts (by decide +kernel) tyX8 tyX8_ok nmX8 hown hK hP hD hS 0 rfl rfl 6 (by decide) (hts (.fieldLink RX8 37 "PassageCourt" "today" "I") (by decide +kernel)) (fun _ h9 => h9) rfl (by decide +kernel) rfl rfl (Nat.le_of_ble_eq_true rfl) dX8_init_78 (fun H locs hP hD hS => ?_)
  have hP : va_P D vwCl [(h0, .inr (9, [.ref n1, .ref n3, .ref n5, .ref n7, .ref n9, .ref n11, .int 0])), (n1, .inr (0, [.int 0, .ref z0, .int 0])), (n3, .inr (0, [.int 0, .ref z0, .int 0])), (n5, .inr (0, [.int 0, .ref z0, .int 0])), (n7, .inr (0, [.int 0, .ref z0, .int 0])), (n9, .inr (7, [.int 0, .int 90, .int 180])), (n11, .inr (0, [.int 0, .ref z0, .int 0]))] H := hP
  have hD : va_D A [(h0, .inr (9, [.ref n1, .ref n3, .ref n5, .ref n7, .ref n9, .ref n11, .int 0])), (n1, .inr (0, [.int 0, .ref z0, .int 0])), (n3, .inr (0, [.int 0, .ref z0, .int 0])), (n5, .inr (0, [.int 0, .ref z0, .int 0])), (n7, .inr (0, [.int 0, .ref z0, .int 0])), (n9, .inr (7, [.int 0, .int 90, .int 180])), (n11, .inr (0, [.int 0, .ref z0, .int 0]))] := hD
  have hP9 := hP.sub (ws' := [(h0, .inr (9, [.ref n1, .ref n3, .ref n5, .ref n7, .ref n9, .ref n11, .int 0])), (n1, .inr (0, [.int 0, .ref z0, .int 0])), (n3, .inr (0, [.int 0, .ref z0, .int 0])), (n5, .inr (0, [.int 0, .ref z0, .int 0])), (n7, .inr (0, [.int 0, .ref z0, .int 0])), (n9, .inr (7, [.int 0, .int 90, .int 180])), (n11, .inr (0, [.int 0, .ref z0, .int 0]))]) [0, 1, 2, 3, 4, 5, 6] rfl
  have hD9 := hD.sub (ws' := [(h0, .inr (9, [.ref n1, .ref n3, .ref n5, .ref n7, .ref n9, .ref n11, .int 0])), (n1, .inr (0, [.int 0, .ref z0, .int 0])), (n3, .inr (0, [.int 0, .ref z0, .int 0])), (n5, .inr (0, [.int 0, .ref z0, .int 0])), (n7, .inr (0, [.int 0, .ref z0, .int 0])), (n9, .inr (7, [.int 0, .int 90, .int 180])), (n11, .inr (0, [.int 0, .ref z0, .int 0]))]) [0, 1, 2, 3, 4, 5, 6] (by decide) rfl
  refine W.widen (k := 6) (n := 18) (Nat.le_of_ble_eq_true rfl) (Nat.le_of_ble_eq_true rfl) ?_
  exact W.vret hx hb hr (fun t ht hW => ⟨⟨fun z => match z with | 0 => n1 | 1 => n3 | 2 => n5 | 3 => n7 | 4 => n9 | 5 => n11 | _ => 0, rfl, trivial, by rw [ht]; exact hP9, va_K.moved hW.alike hK, hD9⟩, hS.F ht⟩) hS.2.2 dX8_init_81
