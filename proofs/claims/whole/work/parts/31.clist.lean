def fC_bitCount (x : Int32) : Option Int32 :=
  let b1 : Int32 := x - (((x.toUInt32 >>> ((1 : Int32).toUInt32 &&& Int32.toUInt32 31)).toInt32) &&& 1431655765)
  let b2 : Int32 := (b1 &&& 858993459) + (((b1.toUInt32 >>> ((2 : Int32).toUInt32 &&& Int32.toUInt32 31)).toInt32) &&& 858993459)
  let b3 : Int32 := (b2 + ((b2.toUInt32 >>> ((4 : Int32).toUInt32 &&& Int32.toUInt32 31)).toInt32)) &&& 252645135
  let b4 : Int32 := b3 + ((b3.toUInt32 >>> ((8 : Int32).toUInt32 &&& Int32.toUInt32 31)).toInt32)
  let b5 : Int32 := b4 + ((b4.toUInt32 >>> ((16 : Int32).toUInt32 &&& Int32.toUInt32 31)).toInt32)
  some (b5 &&& 63)
def cget (g : CS) (j : Nat) (x : Int32) : Option Nat := if x < 0 ∨ sN g j ≤ x.toNatClampNeg ∨ sC g j ≤ x.toNatClampNeg ∨ 2147483648 ≤ sN g j then none else some (lix j x.toNatClampNeg)
theorem cget_spec {g : CS} {j : Nat} {x : Int32} {v : Nat} (h : cget g j x = some v) : ¬ x < 0 ∧ x.toNatClampNeg < sN g j ∧ x.toNatClampNeg < sC g j ∧ sN g j < 2147483648 ∧ v = lix j x.toNatClampNeg := by
  unfold cget at h
  split at h
  · cases h
  · next hn =>
    simp only [not_or, Nat.not_le] at hn
    exact ⟨hn.1, hn.2.1, hn.2.2.1, hn.2.2.2, (Option.some.inj h).symm⟩
section CL
variable {p : Program} {l : Launch} {e : Env} {R : Room} {s : State} {m : MethodId} {args : Array Value} {below : List Frame} {meth : Method} {c : Code} {H : Heap} {locs : List Loc} {cells slots : Nat} {Q : State → Prop}
variable {cc : ByteArray} {pc : Nat} {ls : Array Slot} {rest : List Value} {D : va_G} {yI yO : ClassId} {z0 : Nat} {ad : Nat → Nat → Nat} {g : CS} {A : Nat → Prop}
theorem cg_callS {y : MethodName} {bytes : ByteArray} {maxL nL n index : Nat} {own : String} {ret : Option FieldType} {ws : List Cond} {rm : Room} {Ts : List Cond} {As : List Value} {r : Int32} {g1 : CS} {st0 : List Value}
    (S : CallFix p m c cc nL s args Ts own) (hM : Met l y ws rm (va_Pc As (cPre D yI yO z0 ad g)) (cQ D yI yO z0 ad r g1 (cF ad g)) 0 0 (cF ad g)) (cw0 : CallB R s args own index y bytes maxL ret ws rm 0 0 n ∧ (Cond.static y).before args s = true) (hK : cK D yI yO s) (hX : cX D yI yO z0 ad g A s H locs)
    (hn : As.length = n) (hsize : ls.size = nL) (hstack : st0 = As.reverse ++ rest) (hW : (rest.map fun v => v.category).sum ≤ 8) (hdg : decode cc pc = .ok (.invokestatic index, 3)) (hf : cells ≤ R.cells ∧ slots ≤ R.slots)
    (kk : ∀ (H1 : Heap) (locs1 : List Loc), cX D yI yO z0 ad g1 A s H1 locs1 → W p l e R s m args below meth c H1 locs1 cells slots Q (F0 m (pc + 3) ls (.int r :: rest))) : W p l e R s m args below meth c H locs cells slots Q (F0 m pc ls st0) := by
  subst hstack
  exact va_calli (va_runS (As := As) (rest := rest) S hM cw0 ⟨cPre_blind D yI yO z0 ad g _, fun U hU hW => ⟨rfl, by rw [hU]; exact hX.1, va_K.moved hW.alike hK⟩⟩ rfl hn hsize rfl (lv_room (pc := pc) (ls := ls) (rest := []) (m := m) hW) hdg hf) hX.2.2 (fun q _ h => cF_sub hX q h) (cF_sub hX) (fun r' _ t H1 locs1 ht hvm hp hB _ _ hS => by
    subst hp
    exact kk H1 locs1 (cX_kept ht hB (cF_sub hX) hS))
end CL

set_option maxRecDepth 20000 in
theorem cC_bitCount (l : Launch) (D : va_G) (yI yO : ClassId) (z0 : Nat) (ad : Nat → Nat → Nat) {g : CS} {x rz : Int32} (h : fC_bitCount x = some rz) : Met l yJ6_bitCount_0f7a4 wsJ6_bitCount_0f7a4 (mR 0 0) (va_Pc [.int x] (cPre D yI yO z0 ad g)) (cQ D yI yO z0 ad rz g (cF ad g)) 0 0 (cF ad g) := by
  refine Met.ofW (cc := cJ6_bitCount_0f7a4) (maxL := 1) (ret := (some .int)) (by decide) rfl ?_
  intro p e s m args below meth c s₁ B hml hv
  obtain ⟨rfl, hw, hK⟩ := hv
  have C : cC p s m _ meth c cJ6_bitCount_0f7a4 RJ6 (some .int) wsJ6_bitCount_0f7a4 1 D yI yO := ⟨B.exec, B.bytes, B.returns, atoms_spec (ws := wsJ6_bitCount_0f7a4) B.pre, findClass_of_methodNamed B.named, B.notSynchronized, hml, hK⟩
  obtain ⟨hx, hb, hr, hts, hown, hlocks, hml, hK⟩ := C
  have hX : cX D yI yO z0 ad g (cF ad g) s s.heap [] := ⟨hw, fun k i hi => ⟨k, i, hi, rfl⟩, va_S.rf⟩
  have hl := lv_entry ([.int x]) (n := 1) (Nat.le_of_ble_eq_true rfl)
  rw [lg_entry_eq]
  generalize (lg_sl ([.int x]) ++ List.replicate (1 - (lg_sl ([.int x])).length) Slot.unset).toArray = ls at hl ⊢
  have hl : lv_has ls 1 [(0, .int x)] := hl
  unfold fC_bitCount at h
  have h := Option.some.inj h
  refine lv_iload_n hx hb dJ6_bitCount_0f7a4_0 rfl (lv_at hl 0 rfl) ?_
  refine lv_iload_n hx hb dJ6_bitCount_0f7a4_1 rfl (lv_at hl 0 rfl) ?_
  refine lv_iconst (v := 1) hx hb dJ6_bitCount_0f7a4_2 (by decide) ?_
  refine lv_iushr (v := (x.toUInt32 >>> ((1 : Int32).toUInt32 &&& Int32.toUInt32 31)).toInt32) hx hb dJ6_bitCount_0f7a4_3 rfl ?_
  refine lv_ldcw (v := 1431655765) hx hb hown (hts (.constant RJ6 265 (1431655765)) (by decide +kernel)) dJ6_bitCount_0f7a4_4 ?_
  refine lv_iand hx hb dJ6_bitCount_0f7a4_7 ?_
  refine lv_isub hx hb dJ6_bitCount_0f7a4_8 ?_
  refine lv_topi (fun b1 eb1 => ?_)
  refine lv_istore_n (lv' := [(0, .int b1)]) hx hb dJ6_bitCount_0f7a4_9 rfl hl (by decide) rfl (fun ls hl => ?_)
  refine lv_iload_n hx hb dJ6_bitCount_0f7a4_10 rfl (lv_at hl 0 rfl) ?_
  refine lv_ldcw (v := 858993459) hx hb hown (hts (.constant RJ6 266 (858993459)) (by decide +kernel)) dJ6_bitCount_0f7a4_11 ?_
  refine lv_iand hx hb dJ6_bitCount_0f7a4_14 ?_
  refine lv_iload_n hx hb dJ6_bitCount_0f7a4_15 rfl (lv_at hl 0 rfl) ?_
  refine lv_iconst (v := 2) hx hb dJ6_bitCount_0f7a4_16 (by decide) ?_
  refine lv_iushr (v := (b1.toUInt32 >>> ((2 : Int32).toUInt32 &&& Int32.toUInt32 31)).toInt32) hx hb dJ6_bitCount_0f7a4_17 rfl ?_
  refine lv_ldcw (v := 858993459) hx hb hown (hts (.constant RJ6 266 (858993459)) (by decide +kernel)) dJ6_bitCount_0f7a4_18 ?_
  refine lv_iand hx hb dJ6_bitCount_0f7a4_21 ?_
  refine lv_iadd hx hb dJ6_bitCount_0f7a4_22 ?_
  refine lv_topi (fun b2 eb2 => ?_)
  refine lv_istore_n (lv' := [(0, .int b2)]) hx hb dJ6_bitCount_0f7a4_23 rfl hl (by decide) rfl (fun ls hl => ?_)
  refine lv_iload_n hx hb dJ6_bitCount_0f7a4_24 rfl (lv_at hl 0 rfl) ?_
  refine lv_iload_n hx hb dJ6_bitCount_0f7a4_25 rfl (lv_at hl 0 rfl) ?_
  refine lv_iconst (v := 4) hx hb dJ6_bitCount_0f7a4_26 (by decide) ?_
  refine lv_iushr (v := (b2.toUInt32 >>> ((4 : Int32).toUInt32 &&& Int32.toUInt32 31)).toInt32) hx hb dJ6_bitCount_0f7a4_27 rfl ?_
  refine lv_iadd hx hb dJ6_bitCount_0f7a4_28 ?_
  refine lv_ldcw (v := 252645135) hx hb hown (hts (.constant RJ6 267 (252645135)) (by decide +kernel)) dJ6_bitCount_0f7a4_29 ?_
  refine lv_iand hx hb dJ6_bitCount_0f7a4_32 ?_
  refine lv_topi (fun b3 eb3 => ?_)
  refine lv_istore_n (lv' := [(0, .int b3)]) hx hb dJ6_bitCount_0f7a4_33 rfl hl (by decide) rfl (fun ls hl => ?_)
  refine lv_iload_n hx hb dJ6_bitCount_0f7a4_34 rfl (lv_at hl 0 rfl) ?_
  refine lv_iload_n hx hb dJ6_bitCount_0f7a4_35 rfl (lv_at hl 0 rfl) ?_
  refine lv_bipush (v := 8) hx hb dJ6_bitCount_0f7a4_36 (by decide) ?_
  refine lv_iushr (v := (b3.toUInt32 >>> ((8 : Int32).toUInt32 &&& Int32.toUInt32 31)).toInt32) hx hb dJ6_bitCount_0f7a4_38 rfl ?_
  refine lv_iadd hx hb dJ6_bitCount_0f7a4_39 ?_
  refine lv_topi (fun b4 eb4 => ?_)
  refine lv_istore_n (lv' := [(0, .int b4)]) hx hb dJ6_bitCount_0f7a4_40 rfl hl (by decide) rfl (fun ls hl => ?_)
  refine lv_iload_n hx hb dJ6_bitCount_0f7a4_41 rfl (lv_at hl 0 rfl) ?_
  refine lv_iload_n hx hb dJ6_bitCount_0f7a4_42 rfl (lv_at hl 0 rfl) ?_
  refine lv_bipush (v := 16) hx hb dJ6_bitCount_0f7a4_43 (by decide) ?_
  refine lv_iushr (v := (b4.toUInt32 >>> ((16 : Int32).toUInt32 &&& Int32.toUInt32 31)).toInt32) hx hb dJ6_bitCount_0f7a4_45 rfl ?_
  refine lv_iadd hx hb dJ6_bitCount_0f7a4_46 ?_
  refine lv_topi (fun b5 eb5 => ?_)
  refine lv_istore_n (lv' := [(0, .int b5)]) hx hb dJ6_bitCount_0f7a4_47 rfl hl (by decide) rfl (fun ls hl => ?_)
  refine lv_iload_n hx hb dJ6_bitCount_0f7a4_48 rfl (lv_at hl 0 rfl) ?_
  refine lv_bipush (v := 63) hx hb dJ6_bitCount_0f7a4_49 (by decide) ?_
  refine lv_iand hx hb dJ6_bitCount_0f7a4_51 ?_
  have hres : b5 &&& 63 = rz := by rw [← h]; rw [eb5, eb4, eb3, eb2, eb1]
  rw [hres]
  exact cg_reti hx hb hr hlocks hK hX dJ6_bitCount_0f7a4_52
set_option maxRecDepth 20000 in
theorem cC_pre_check (l : Launch) (D : va_G) (yI yO : ClassId) (z0 : Nat) (ad : Nat → Nat → Nat) {g : CS} {x n : Int32} (h0 : ¬ x < 0) (h1 : x < n) : Met l yJ3_checkIndex_8e157 wsJ3_checkIndex_8e157 (mR 0 0) (va_Pc [.int x, .int n, .null] (cPre D yI yO z0 ad g)) (cQ D yI yO z0 ad x g (cF ad g)) 0 0 (cF ad g) := by
  refine Met.ofW (cc := cJ3_checkIndex_8e157) (maxL := 3) (ret := (some .int)) (by decide) rfl ?_
  intro p e s m args below meth c s₁ B hml hv
  obtain ⟨rfl, hw, hK⟩ := hv
  have C : cC p s m _ meth c cJ3_checkIndex_8e157 RJ3 (some .int) wsJ3_checkIndex_8e157 3 D yI yO := ⟨B.exec, B.bytes, B.returns, atoms_spec (ws := wsJ3_checkIndex_8e157) B.pre, findClass_of_methodNamed B.named, B.notSynchronized, hml, hK⟩
  obtain ⟨hx, hb, hr, hts, hown, hlocks, hml, hK⟩ := C
  have hX : cX D yI yO z0 ad g (cF ad g) s s.heap [] := ⟨hw, fun k i hi => ⟨k, i, hi, rfl⟩, va_S.rf⟩
  have hl := lv_entry ([.int x, .int n, .null]) (n := 3) (Nat.le_of_ble_eq_true rfl)
  rw [lg_entry_eq]
  generalize (lg_sl ([.int x, .int n, .null]) ++ List.replicate (3 - (lg_sl ([.int x, .int n, .null])).length) Slot.unset).toArray = ls at hl ⊢
  have hl : lv_has ls 3 [(0, .int x), (1, .int n), (2, .null)] := hl
  refine lv_iload_n hx hb dJ3_checkIndex_8e157_0 rfl (lv_at hl 0 rfl) ?_
  refine lv_if_lt (tgt := 9) hx hb dJ3_checkIndex_8e157_1 (by decide) (fun c1 => absurd c1 h0) (fun _ => ?_)
  refine lv_iload_n hx hb dJ3_checkIndex_8e157_4 rfl (lv_at hl 0 rfl) ?_
  refine lv_iload_n hx hb dJ3_checkIndex_8e157_5 rfl (lv_at hl 1 rfl) ?_
  refine lv_icmp_lt (tgt := 16) hx hb dJ3_checkIndex_8e157_6 (by decide) (fun _ => ?_) (fun c1 => absurd h1 c1)
  refine lv_iload_n hx hb dJ3_checkIndex_8e157_16 rfl (lv_at hl 0 rfl) ?_
  exact cg_reti hx hb hr hlocks hK hX dJ3_checkIndex_8e157_17
set_option maxRecDepth 20000 in
theorem cC_obj_check (l : Launch) (D : va_G) (yI yO : ClassId) (z0 : Nat) (ad : Nat → Nat → Nat) {g : CS} {x n : Int32} (h0 : ¬ x < 0) (h1 : x < n) : Met l yJ15_checkIndex_7cf53 wsJ15_checkIndex_7cf53 (mR 1 22) (va_Pc [.int x, .int n] (cPre D yI yO z0 ad g)) (cQ D yI yO z0 ad x g (cF ad g)) 0 0 (cF ad g) := by
  refine Met.ofW (cc := cJ15_checkIndex_7cf53) (maxL := 2) (ret := (some .int)) (by decide) rfl ?_
  intro p e s m args below meth c s₁ B hml hv
  obtain ⟨rfl, hw, hK⟩ := hv
  have C : cC p s m _ meth c cJ15_checkIndex_7cf53 RJ15 (some .int) wsJ15_checkIndex_7cf53 2 D yI yO := ⟨B.exec, B.bytes, B.returns, atoms_spec (ws := wsJ15_checkIndex_7cf53) B.pre, findClass_of_methodNamed B.named, B.notSynchronized, hml, hK⟩
  obtain ⟨hx, hb, hr, hts, hown, hlocks, hml, hK⟩ := C
  have hX : cX D yI yO z0 ad g (cF ad g) s s.heap [] := ⟨hw, fun k i hi => ⟨k, i, hi, rfl⟩, va_S.rf⟩
  have hl := lv_entry ([.int x, .int n]) (n := 2) (Nat.le_of_ble_eq_true rfl)
  rw [lg_entry_eq]
  generalize (lg_sl ([.int x, .int n]) ++ List.replicate (2 - (lg_sl ([.int x, .int n])).length) Slot.unset).toArray = ls at hl ⊢
  have hl : lv_has ls 2 [(0, .int x), (1, .int n)] := hl
  refine lv_iload_n hx hb dJ15_checkIndex_7cf53_0 rfl (lv_at hl 0 rfl) ?_
  refine lv_iload_n hx hb dJ15_checkIndex_7cf53_1 rfl (lv_at hl 1 rfl) ?_
  refine lv_null hx hb dJ15_checkIndex_7cf53_2 ?_
  refine cg_callS (As := [.int x, .int n, .null]) (rest := []) ⟨hx, hb, hml, hown, hts⟩ (cC_pre_check l D yI yO z0 ad h0 h1) (va_cwS 3 hts gJ15_checkIndex_7cf53_J3_checkIndex_8e157 rfl rfl rfl (by decide +kernel) ⟨Nat.le_of_ble_eq_true rfl, Nat.le_of_ble_eq_true rfl⟩) hK hX rfl hl.1 rfl (Nat.le_of_ble_eq_true rfl) dJ15_checkIndex_7cf53_3 ⟨Nat.le_refl _, Nat.le_refl _⟩ (fun H locs hX => ?_)
  exact cg_reti hx hb hr hlocks hK hX dJ15_checkIndex_7cf53_6
theorem iC_size : ∀ w ∈ wsJx4a65c0, w ∈ wsJx4a65c_size_8abf5 := by decide +kernel
theorem iC_edata : ∀ w ∈ wsJx4a65c0, w ∈ wsJx4a65c_elementData_915e3 := by decide +kernel
theorem iC_get : ∀ w ∈ wsJx4a65c0, w ∈ wsJx4a65c_get_915e3 := by decide +kernel
set_option maxRecDepth 20000 in
theorem cC_List_size (l : Launch) (D : va_G) (yI yO : ClassId) (z0 : Nat) (ad : Nat → Nat → Nat) (g : CS) (j : Nat) (hj : j < 5) : Met l yJx4a65c_size_8abf5 wsJx4a65c_size_8abf5 (mR 0 0) (va_Pc [.ref (ad 1 j)] (cPre D yI yO z0 ad g)) (cQ D yI yO z0 ad (nI (sN g j)) g (cF ad g)) 0 0 (cF ad g) := by
  refine Met.ofW (cc := cJx4a65c_size_8abf5) (maxL := 1) (ret := (some .int)) (by decide) rfl ?_
  intro p e s m args below meth c s₁ B hml hv
  obtain ⟨rfl, hw, hK⟩ := hv
  have C : cC p s m _ meth c cJx4a65c_size_8abf5 RJx4a65c (some .int) wsJx4a65c_size_8abf5 1 D yI yO := ⟨B.exec, B.bytes, B.returns, atoms_spec (ws := wsJx4a65c_size_8abf5) B.pre, findClass_of_methodNamed B.named, B.notSynchronized, hml, hK⟩
  obtain ⟨hx, hb, hr, hts, hown, hlocks, hml, hK⟩ := C
  have hX : cX D yI yO z0 ad g (cF ad g) s s.heap [] := ⟨hw, fun k i hi => ⟨k, i, hi, rfl⟩, va_S.rf⟩
  have hl := lv_entry ([.ref (ad 1 j)]) (n := 1) (Nat.le_of_ble_eq_true rfl)
  rw [lg_entry_eq]
  generalize (lg_sl ([.ref (ad 1 j)]) ++ List.replicate (1 - (lg_sl ([.ref (ad 1 j)])).length) Slot.unset).toArray = ls at hl ⊢
  have hl : lv_has ls 1 [(0, .ref (ad 1 j))] := hl
  refine lv_aload_n hx hb dJx4a65c_size_8abf5_0 rfl (lv_at hl 0 rfl) ?_
  refine cg_get hx hb hts iC_size hown hK hX 1 j (by simp [clvb, hj]) rfl rfl 2 (by decide) (hts (.fieldLink RJx4a65c 48 "java/util/ArrayList" "size" "I") (by decide +kernel)) (fun _ h9 => h9) rfl dJx4a65c_size_8abf5_1 ?_
  exact cg_reti hx hb hr hlocks hK hX dJx4a65c_size_8abf5_4
set_option maxRecDepth 20000 in
theorem cC_edata (l : Launch) (D : va_G) (yI yO : ClassId) (z0 : Nat) (ad : Nat → Nat → Nat) {g : CS} {j : Nat} {x : Int32} (hj : j < 5) (h0 : ¬ x < 0) (h1 : x.toNatClampNeg < sN g j) (h2 : x.toNatClampNeg < sC g j) : Met l yJx4a65c_elementData_915e3 wsJx4a65c_elementData_915e3 (mR 0 0) (va_Pc [.ref (ad 1 j), .int x] (cPre D yI yO z0 ad g)) (cQq D yI yO z0 ad (lkd j) (some (lix j x.toNatClampNeg)) g (cF ad g)) 0 0 (cF ad g) := by
  refine Met.ofW (cc := cJx4a65c_elementData_915e3) (maxL := 2) (ret := (some (.object "java/lang/Object"))) (by decide) rfl ?_
  intro p e s m args below meth c s₁ B hml hv
  obtain ⟨rfl, hw, hK⟩ := hv
  have C : cC p s m _ meth c cJx4a65c_elementData_915e3 RJx4a65c (some (.object "java/lang/Object")) wsJx4a65c_elementData_915e3 2 D yI yO := ⟨B.exec, B.bytes, B.returns, atoms_spec (ws := wsJx4a65c_elementData_915e3) B.pre, findClass_of_methodNamed B.named, B.notSynchronized, hml, hK⟩
  obtain ⟨hx, hb, hr, hts, hown, hlocks, hml, hK⟩ := C
  have hX : cX D yI yO z0 ad g (cF ad g) s s.heap [] := ⟨hw, fun k i hi => ⟨k, i, hi, rfl⟩, va_S.rf⟩
  have hl := lv_entry ([.ref (ad 1 j), .int x]) (n := 2) (Nat.le_of_ble_eq_true rfl)
  rw [lg_entry_eq]
  generalize (lg_sl ([.ref (ad 1 j), .int x]) ++ List.replicate (2 - (lg_sl ([.ref (ad 1 j), .int x])).length) Slot.unset).toArray = ls at hl ⊢
  have hl : lv_has ls 2 [(0, .ref (ad 1 j)), (1, .int x)] := hl
  refine lv_aload_n hx hb dJx4a65c_elementData_915e3_0 rfl (lv_at hl 0 rfl) ?_
  refine cg_get hx hb hts iC_edata hown hK hX 1 j (by simp [clvb, hj]) rfl rfl 1 (by decide) (hts (.fieldLink RJx4a65c 9 "java/util/ArrayList" "elementData" "[Ljava/lang/Object;") (by decide +kernel)) (fun _ h9 => h9) rfl dJx4a65c_elementData_915e3_1 ?_
  refine lv_iload_n hx hb dJx4a65c_elementData_915e3_4 rfl (lv_at hl 1 rfl) ?_
  have hv2 : clvb g 2 j = true := by simp [clvb, hj]; omega
  refine va_aldq (D := D) (cl := vwCl) (tys := [(yI, .int), (yO, .object "java/lang/Object")]) (C := "java/lang/Object") (f := fun z => if z < sN g j then some (ad (lkd j) (lix j z)) else none) hx hb hK (cw_lv hX.1 hv2 rfl) 0 1 rfl rfl (n := sC g j) (fun z => z.elim h0 (fun z => by omega)) dJx4a65c_elementData_915e3_5 ?_
  refine W.eq (g2 := F0 m 6 ls [va_rf ((some (lix j x.toNatClampNeg)).map (ad (lkd j)))]) (by simp only [if_pos h1]; rfl) ?_
  exact cg_retq hx hb hr hlocks hK hX dJx4a65c_elementData_915e3_6
set_option maxRecDepth 20000 in
theorem cC_List_get (l : Launch) (D : va_G) (yI yO : ClassId) (z0 : Nat) (ad : Nat → Nat → Nat) {g : CS} {j : Nat} {x : Int32} {v : Nat} (hj : j < 5) (h : cget g j x = some v) : Met l yJx4a65c_get_915e3 wsJx4a65c_get_915e3 (mR 2 43) (va_Pc [.ref (ad 1 j), .int x] (cPre D yI yO z0 ad g)) (cQq D yI yO z0 ad (lkd j) (some v) g (cF ad g)) 0 0 (cF ad g) := by
  refine Met.ofW (cc := cJx4a65c_get_915e3) (maxL := 2) (ret := (some (.object "java/lang/Object"))) (by decide) rfl ?_
  intro p e s m args below meth c s₁ B hml hv
  obtain ⟨rfl, hw, hK⟩ := hv
  have C : cC p s m _ meth c cJx4a65c_get_915e3 RJx4a65c (some (.object "java/lang/Object")) wsJx4a65c_get_915e3 2 D yI yO := ⟨B.exec, B.bytes, B.returns, atoms_spec (ws := wsJx4a65c_get_915e3) B.pre, findClass_of_methodNamed B.named, B.notSynchronized, hml, hK⟩
  obtain ⟨hx, hb, hr, hts, hown, hlocks, hml, hK⟩ := C
  have hX : cX D yI yO z0 ad g (cF ad g) s s.heap [] := ⟨hw, fun k i hi => ⟨k, i, hi, rfl⟩, va_S.rf⟩
  have hl := lv_entry ([.ref (ad 1 j), .int x]) (n := 2) (Nat.le_of_ble_eq_true rfl)
  rw [lg_entry_eq]
  generalize (lg_sl ([.ref (ad 1 j), .int x]) ++ List.replicate (2 - (lg_sl ([.ref (ad 1 j), .int x])).length) Slot.unset).toArray = ls at hl ⊢
  have hl : lv_has ls 2 [(0, .ref (ad 1 j)), (1, .int x)] := hl
  obtain ⟨h0, h1, h2, hn31, rfl⟩ := cget_spec h
  have hlt : x < nI (sN g j) := by
    obtain ⟨y, hy, rfl⟩ := nI_of h0
    rw [nI_clamp hy] at h1
    exact nI_lt h1 hn31
  refine lv_iload_n hx hb dJx4a65c_get_915e3_0 rfl (lv_at hl 1 rfl) ?_
  refine lv_aload_n hx hb dJx4a65c_get_915e3_1 rfl (lv_at hl 0 rfl) ?_
  refine cg_get hx hb hts iC_get hown hK hX 1 j (by simp [clvb, hj]) rfl rfl 2 (by decide) (hts (.fieldLink RJx4a65c 48 "java/util/ArrayList" "size" "I") (by decide +kernel)) (fun _ h9 => h9) rfl dJx4a65c_get_915e3_2 ?_
  refine cg_callS (As := [.int x, .int (nI (sN g j))]) (rest := []) ⟨hx, hb, hml, hown, hts⟩ (cC_obj_check l D yI yO z0 ad h0 hlt) (va_cwS 2 hts gJx4a65c_get_915e3_J15_checkIndex_7cf53 rfl rfl rfl (by decide +kernel) ⟨Nat.le_of_ble_eq_true rfl, Nat.le_of_ble_eq_true rfl⟩) hK hX rfl hl.1 rfl (Nat.le_of_ble_eq_true rfl) dJx4a65c_get_915e3_5 ⟨Nat.le_refl _, Nat.le_refl _⟩ (fun H locs hX => ?_)
  refine lv_pop hx hb dJx4a65c_get_915e3_8 rfl ?_
  refine lv_aload_n hx hb dJx4a65c_get_915e3_9 rfl (lv_at hl 0 rfl) ?_
  refine lv_iload_n hx hb dJx4a65c_get_915e3_10 rfl (lv_at hl 1 rfl) ?_
  refine cg_callVq (As := [.int x]) (rest := []) ⟨hx, hb, hml, hown, hts⟩ 1 j (by simp [clvb, hj]) (ci := 0) rfl rfl (cC_edata l D yI yO z0 ad hj h0 h1 h2) (cwV 1 hts gJx4a65c_get_915e3_Jx4a65c_elementData_915e3 rfl rfl rfl (by decide +kernel) ⟨Nat.le_of_ble_eq_true rfl, Nat.le_of_ble_eq_true rfl⟩) hK hX rfl hl.1 rfl (Nat.le_of_ble_eq_true rfl) dJx4a65c_get_915e3_11 ⟨Nat.le_refl _, Nat.le_refl _⟩ (fun H locs hX => ?_)
  exact cg_retq hx hb hr hlocks hK hX dJx4a65c_get_915e3_14
