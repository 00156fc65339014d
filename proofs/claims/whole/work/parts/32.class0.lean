section GC0
variable {p : Program} {l : Launch} {e : Env} {s : State} {m : MethodId} {args : Array Value} {below : List Frame} {meth : Method} {c : Code} {D : va_G} {yI yO : ClassId} {z0 : Nat} {ad : Nat → Nat → Nat} {A : Nat → Prop}
theorem iC_Row_at_X5 : ∀ w ∈ wsX50, w ∈ wsX5_at := by decide +kernel
def fC_Row_at_26 (k t : Nat) (g : CS) (xs0 : Int32) : Option Int32 :=
  some xs0
set_option maxRecDepth 20000 in
theorem w_C_Row_at_26 (C : cC p s m args meth c cX5_at RX5 (some .int) wsX5_at 2 D yI yO) {k : Nat} {t : Nat} (hk : 8 ≤ k ∧ k < 16) {rz : Int32} {g : CS} {xs0 : Int32} (h : fC_Row_at_26 k t g xs0 = some rz) {H : Heap} {locs : List Loc} {ls : Array Slot} (hX : cX D yI yO z0 ad g A s H locs) (hl : lv_has ls 2 [(0, .ref (ad k t))]) : W p l e (mR 0 0) s m args below meth c H locs 0 0 (MQ below (cQ D yI yO z0 ad rz g A) args s 0 0 A) (F0 m 26 ls [.int xs0]) := by
  obtain ⟨hx, hb, hr, hts, hown, hlocks, hml, hK⟩ := id C
  unfold fC_Row_at_26 at h
  cases h
  exact cg_reti hx hb hr hlocks hK hX dX5_at_26
def fC_Row_at_13 (k t : Nat) (g : CS) : Option Int32 :=
  (ck g k t).bind fun _ =>
  fC_Row_at_26 k t g (rem k)
set_option maxRecDepth 20000 in
theorem w_C_Row_at_13 (C : cC p s m args meth c cX5_at RX5 (some .int) wsX5_at 2 D yI yO) {k : Nat} {t : Nat} (hk : 8 ≤ k ∧ k < 16) {rz : Int32} {g : CS} (h : fC_Row_at_13 k t g = some rz) {H : Heap} {locs : List Loc} {ls : Array Slot} (hX : cX D yI yO z0 ad g A s H locs) (hl : lv_has ls 2 [(0, .ref (ad k t))]) : W p l e (mR 0 0) s m args below meth c H locs 0 0 (MQ below (cQ D yI yO z0 ad rz g A) args s 0 0 A) (F0 m 13 ls []) := by
  obtain ⟨hx, hb, hr, hts, hown, hlocks, hml, hK⟩ := id C
  unfold fC_Row_at_13 at h
  refine lv_aload_n hx hb dX5_at_13 rfl (lv_at hl 0 rfl) ?_
  obtain ⟨_, hv1, h⟩ := mbind h
  replace hv1 := ck_spec hv1
  refine cg_get hx hb hts iC_Row_at_X5 hown hK hX k t hv1 rfl (cent_row yI yO ad _ hk) 1 (by decide) (hts (.fieldLink RX5 13 "PassageCourt$Row" "empty" "I") (by decide +kernel)) (fun _ h9 => h9) rfl dX5_at_14 ?_
  refine lv_goto (tgt := 26) hx hb dX5_at_17 (by decide) ?_
  exact w_C_Row_at_26 C hk h hX (lv_sub hl [0] rfl)
def fC_Row_at (k t : Nat) (g : CS) (x1 : Int32) : Option Int32 :=
  if x1 < 0 then
    fC_Row_at_13 k t g
  else
    (ck g k t).bind fun _ =>
    if x1 < (nI (rlen k)) then
      (cld g (k + 8) t x1).bind fun r5 =>
      fC_Row_at_26 k t g r5
    else
      fC_Row_at_13 k t g
set_option maxRecDepth 20000 in
theorem w_C_Row_at_0 (C : cC p s m args meth c cX5_at RX5 (some .int) wsX5_at 2 D yI yO) {k : Nat} {t : Nat} (hk : 8 ≤ k ∧ k < 16) {rz : Int32} {g : CS} {x1 : Int32} (h : fC_Row_at k t g x1 = some rz) {H : Heap} {locs : List Loc} {ls : Array Slot} (hX : cX D yI yO z0 ad g A s H locs) (hl : lv_has ls 2 [(0, .ref (ad k t)), (1, .int x1)]) : W p l e (mR 0 0) s m args below meth c H locs 0 0 (MQ below (cQ D yI yO z0 ad rz g A) args s 0 0 A) (F0 m 0 ls []) := by
  obtain ⟨hx, hb, hr, hts, hown, hlocks, hml, hK⟩ := id C
  unfold fC_Row_at at h
  refine lv_iload_n hx hb dX5_at_0 rfl (lv_at hl 1 rfl) ?_
  refine lv_if_lt (tgt := 13) hx hb dX5_at_1 (by decide) (fun c2 => ?_) (fun c2 => ?_)
  · replace h := mpos c2 h
    exact w_C_Row_at_13 C hk h hX (lv_sub hl [0] rfl)
  · replace h := mneg c2 h
    refine lv_iload_n hx hb dX5_at_4 rfl (lv_at hl 1 rfl) ?_
    refine lv_aload_n hx hb dX5_at_5 rfl (lv_at hl 0 rfl) ?_
    obtain ⟨_, hv3, h⟩ := mbind h
    replace hv3 := ck_spec hv3
    refine cg_get hx hb hts iC_Row_at_X5 hown hK hX k t hv3 rfl (cent_row yI yO ad _ hk) 0 (by decide) (hts (.fieldLink RX5 7 "PassageCourt$Row" "cells" "[I") (by decide +kernel)) (fun _ h9 => h9) rfl dX5_at_6 ?_
    refine cg_alen hx hb hK hX k t hk hv3 dX5_at_9 ?_
    refine lv_icmp_lt (tgt := 20) hx hb dX5_at_10 (by decide) (fun c4 => ?_) (fun c4 => ?_)
    · replace h := mpos c4 h
      refine lv_aload_n hx hb dX5_at_20 rfl (lv_at hl 0 rfl) ?_
      refine cg_get hx hb hts iC_Row_at_X5 hown hK hX k t hv3 rfl (cent_row yI yO ad _ hk) 0 (by decide) (hts (.fieldLink RX5 7 "PassageCourt$Row" "cells" "[I") (by decide +kernel)) (fun _ h9 => h9) rfl dX5_at_21 ?_
      refine lv_iload_n hx hb dX5_at_24 rfl (lv_at hl 1 rfl) ?_
      obtain ⟨r5, er5, h⟩ := mbind h
      refine cg_ald hx hb hK hX k t hk hv3 er5 dX5_at_25 ?_
      exact w_C_Row_at_26 C hk h hX (lv_sub hl [0] rfl)
    · replace h := mneg c4 h
      exact w_C_Row_at_13 C hk h hX (lv_sub hl [0] rfl)
set_option maxRecDepth 20000 in
theorem cC_Row_at (l : Launch) (D : va_G) (yI yO : ClassId) (z0 : Nat) (ad : Nat → Nat → Nat) {g : CS} {k t : Nat} (hk : 8 ≤ k ∧ k < 16) {rz : Int32} {x1 : Int32} (h : fC_Row_at k t g x1 = some rz) : Met l yX5_at wsX5_at (mR 0 0) (va_Pc [.ref (ad k t), .int x1] (cPre D yI yO z0 ad g)) (cQ D yI yO z0 ad rz g (cF ad g)) 0 0 (cF ad g) := by
  refine Met.ofW (cc := cX5_at) (maxL := 2) (ret := (some .int)) (by decide) rfl ?_
  intro p e s m args below meth c s₁ B hml hv
  obtain ⟨hv0, hw, hK⟩ := hv
  have hv1 : args = [.ref (ad k t), .int x1].toArray := hv0
  subst hv1
  have C : cC p s m _ meth c cX5_at RX5 (some .int) wsX5_at 2 D yI yO := ⟨B.exec, B.bytes, B.returns, atoms_spec (ws := wsX5_at) B.pre, findClass_of_methodNamed B.named, B.notSynchronized, hml, hK⟩
  have hl := lv_entry ([.ref (ad k t), .int x1]) (n := 2) (Nat.le_of_ble_eq_true rfl)
  rw [lg_entry_eq]
  generalize (lg_sl ([.ref (ad k t), .int x1]) ++ List.replicate (2 - (lg_sl ([.ref (ad k t), .int x1])).length) Slot.unset).toArray = ls at hl ⊢
  have hl : lv_has ls 2 [(0, .ref (ad k t)), (1, .int x1)] := hl
  exact w_C_Row_at_0 C hk h ⟨hw, fun k i hi => ⟨k, i, hi, rfl⟩, va_S.rf⟩ hl
theorem iC_Row_put_X5 : ∀ w ∈ wsX50, w ∈ wsX5_put := by decide +kernel
def fC_Row_put_20 (k t : Nat) (g : CS) : Option CS :=
  some g
set_option maxRecDepth 20000 in
theorem w_C_Row_put_20 (C : cC p s m args meth c cX5_put RX5 none wsX5_put 3 D yI yO) {k : Nat} {t : Nat} (hk : 8 ≤ k ∧ k < 16) {gz : CS} {g : CS} (h : fC_Row_put_20 k t g = some gz) {H : Heap} {locs : List Loc} {ls : Array Slot} (hX : cX D yI yO z0 ad g A s H locs) (hl : lv_has ls 3 [(0, .ref (ad k t))]) : W p l e (mR 0 0) s m args below meth c H locs 0 0 (MQ below (cQv D yI yO z0 ad gz A) args s 0 0 A) (F0 m 20 ls []) := by
  obtain ⟨hx, hb, hr, hts, hown, hlocks, hml, hK⟩ := id C
  unfold fC_Row_put_20 at h
  cases h
  exact cg_retv hx hb hr hlocks hK hX dX5_put_20
def fC_Row_put (k t : Nat) (g : CS) (x1 : Int32) (x2 : Int32) : Option CS :=
  if x1 < 0 then
    fC_Row_put_20 k t g
  else
    (ck g k t).bind fun _ =>
    if (nI (rlen k)) ≤ x1 then
      fC_Row_put_20 k t g
    else
      (cst g (k + 8) t x1 x2).bind fun g4 =>
      fC_Row_put_20 k t g4
set_option maxRecDepth 20000 in
theorem w_C_Row_put_0 (C : cC p s m args meth c cX5_put RX5 none wsX5_put 3 D yI yO) {k : Nat} {t : Nat} (hk : 8 ≤ k ∧ k < 16) {gz : CS} {g : CS} {x1 : Int32} {x2 : Int32} (h : fC_Row_put k t g x1 x2 = some gz) {H : Heap} {locs : List Loc} {ls : Array Slot} (hX : cX D yI yO z0 ad g A s H locs) (hl : lv_has ls 3 [(0, .ref (ad k t)), (1, .int x1), (2, .int x2)]) : W p l e (mR 0 0) s m args below meth c H locs 0 0 (MQ below (cQv D yI yO z0 ad gz A) args s 0 0 A) (F0 m 0 ls []) := by
  obtain ⟨hx, hb, hr, hts, hown, hlocks, hml, hK⟩ := id C
  unfold fC_Row_put at h
  refine lv_iload_n hx hb dX5_put_0 rfl (lv_at hl 1 rfl) ?_
  refine lv_if_lt (tgt := 20) hx hb dX5_put_1 (by decide) (fun c1 => ?_) (fun c1 => ?_)
  · replace h := mpos c1 h
    exact w_C_Row_put_20 C hk h hX (lv_sub hl [0] rfl)
  · replace h := mneg c1 h
    refine lv_iload_n hx hb dX5_put_4 rfl (lv_at hl 1 rfl) ?_
    refine lv_aload_n hx hb dX5_put_5 rfl (lv_at hl 0 rfl) ?_
    obtain ⟨_, hv2, h⟩ := mbind h
    replace hv2 := ck_spec hv2
    refine cg_get hx hb hts iC_Row_put_X5 hown hK hX k t hv2 rfl (cent_row yI yO ad _ hk) 0 (by decide) (hts (.fieldLink RX5 7 "PassageCourt$Row" "cells" "[I") (by decide +kernel)) (fun _ h9 => h9) rfl dX5_put_6 ?_
    refine cg_alen hx hb hK hX k t hk hv2 dX5_put_9 ?_
    refine lv_icmp_ge (tgt := 20) hx hb dX5_put_10 (by decide) (fun c3 => ?_) (fun c3 => ?_)
    · replace h := mpos c3 h
      exact w_C_Row_put_20 C hk h hX (lv_sub hl [0] rfl)
    · replace h := mneg c3 h
      refine lv_aload_n hx hb dX5_put_13 rfl (lv_at hl 0 rfl) ?_
      refine cg_get hx hb hts iC_Row_put_X5 hown hK hX k t hv2 rfl (cent_row yI yO ad _ hk) 0 (by decide) (hts (.fieldLink RX5 7 "PassageCourt$Row" "cells" "[I") (by decide +kernel)) (fun _ h9 => h9) rfl dX5_put_14 ?_
      refine lv_iload_n hx hb dX5_put_17 rfl (lv_at hl 1 rfl) ?_
      refine lv_iload_n hx hb dX5_put_18 rfl (lv_at hl 2 rfl) ?_
      obtain ⟨g4, eg4, h⟩ := mbind h
      refine cg_ast hx hb hK hX k t hk hv2 eg4 dX5_put_19 (fun H locs hX => ?_)
      exact w_C_Row_put_20 C hk h hX (lv_sub hl [0] rfl)
set_option maxRecDepth 20000 in
theorem cC_Row_put (l : Launch) (D : va_G) (yI yO : ClassId) (z0 : Nat) (ad : Nat → Nat → Nat) {g : CS} {k t : Nat} (hk : 8 ≤ k ∧ k < 16) {gz : CS} {x1 : Int32} {x2 : Int32} (h : fC_Row_put k t g x1 x2 = some gz) : Met l yX5_put wsX5_put (mR 0 0) (va_Pc [.ref (ad k t), .int x1, .int x2] (cPre D yI yO z0 ad g)) (cQv D yI yO z0 ad gz (cF ad g)) 0 0 (cF ad g) := by
  refine Met.ofW (cc := cX5_put) (maxL := 3) (ret := none) (by decide) rfl ?_
  intro p e s m args below meth c s₁ B hml hv
  obtain ⟨hv0, hw, hK⟩ := hv
  have hv1 : args = [.ref (ad k t), .int x1, .int x2].toArray := hv0
  subst hv1
  have C : cC p s m _ meth c cX5_put RX5 none wsX5_put 3 D yI yO := ⟨B.exec, B.bytes, B.returns, atoms_spec (ws := wsX5_put) B.pre, findClass_of_methodNamed B.named, B.notSynchronized, hml, hK⟩
  have hl := lv_entry ([.ref (ad k t), .int x1, .int x2]) (n := 3) (Nat.le_of_ble_eq_true rfl)
  rw [lg_entry_eq]
  generalize (lg_sl ([.ref (ad k t), .int x1, .int x2]) ++ List.replicate (3 - (lg_sl ([.ref (ad k t), .int x1, .int x2])).length) Slot.unset).toArray = ls at hl ⊢
  have hl : lv_has ls 3 [(0, .ref (ad k t)), (1, .int x1), (2, .int x2)] := hl
  exact w_C_Row_put_0 C hk h ⟨hw, fun k i hi => ⟨k, i, hi, rfl⟩, va_S.rf⟩ hl
theorem iC_Land_bit_X1 : ∀ w ∈ wsX10, w ∈ wsX1_bit := by decide +kernel
def fC_Land_bit (t : Nat) (g : CS) : Option Int32 :=
  (ck g 4 t).bind fun _ =>
  some (1 <<< ((sI g 4 t 0) &&& 31))
set_option maxRecDepth 20000 in
theorem w_C_Land_bit_0 (C : cC p s m args meth c cX1_bit RX1 (some .int) wsX1_bit 1 D yI yO) {t : Nat} {rz : Int32} {g : CS} (h : fC_Land_bit t g = some rz) {H : Heap} {locs : List Loc} {ls : Array Slot} (hX : cX D yI yO z0 ad g A s H locs) (hl : lv_has ls 1 [(0, .ref (ad 4 t))]) : W p l e (mR 0 0) s m args below meth c H locs 0 0 (MQ below (cQ D yI yO z0 ad rz g A) args s 0 0 A) (F0 m 0 ls []) := by
  obtain ⟨hx, hb, hr, hts, hown, hlocks, hml, hK⟩ := id C
  unfold fC_Land_bit at h
  refine lv_iconst (v := 1) hx hb dX1_bit_0 (by decide) ?_
  refine lv_aload_n hx hb dX1_bit_1 rfl (lv_at hl 0 rfl) ?_
  obtain ⟨_, hv1, h⟩ := mbind h
  replace hv1 := ck_spec hv1
  refine cg_get hx hb hts iC_Land_bit_X1 hown hK hX 4 t hv1 rfl rfl 0 (by decide) (hts (.fieldLink RX1 20 "PassageCourt$Land" "number" "I") (by decide +kernel)) (fun _ h9 => h9) rfl dX1_bit_2 ?_
  refine lv_ishl hx hb dX1_bit_5 ?_
  cases h
  exact cg_reti hx hb hr hlocks hK hX dX1_bit_6
set_option maxRecDepth 20000 in
theorem cC_Land_bit (l : Launch) (D : va_G) (yI yO : ClassId) (z0 : Nat) (ad : Nat → Nat → Nat) {g : CS} {t : Nat} {rz : Int32} (h : fC_Land_bit t g = some rz) : Met l yX1_bit wsX1_bit (mR 0 0) (va_Pc [.ref (ad 4 t)] (cPre D yI yO z0 ad g)) (cQ D yI yO z0 ad rz g (cF ad g)) 0 0 (cF ad g) := by
  refine Met.ofW (cc := cX1_bit) (maxL := 1) (ret := (some .int)) (by decide) rfl ?_
  intro p e s m args below meth c s₁ B hml hv
  obtain ⟨hv0, hw, hK⟩ := hv
  have hv1 : args = [.ref (ad 4 t)].toArray := hv0
  subst hv1
  have C : cC p s m _ meth c cX1_bit RX1 (some .int) wsX1_bit 1 D yI yO := ⟨B.exec, B.bytes, B.returns, atoms_spec (ws := wsX1_bit) B.pre, findClass_of_methodNamed B.named, B.notSynchronized, hml, hK⟩
  have hl := lv_entry ([.ref (ad 4 t)]) (n := 1) (Nat.le_of_ble_eq_true rfl)
  rw [lg_entry_eq]
  generalize (lg_sl ([.ref (ad 4 t)]) ++ List.replicate (1 - (lg_sl ([.ref (ad 4 t)])).length) Slot.unset).toArray = ls at hl ⊢
  have hl : lv_has ls 1 [(0, .ref (ad 4 t))] := hl
  exact w_C_Land_bit_0 C h ⟨hw, fun k i hi => ⟨k, i, hi, rfl⟩, va_S.rf⟩ hl
theorem iC_Land_waivesFor_X1 : ∀ w ∈ wsX10, w ∈ wsX1_waivesFor := by decide +kernel
def fC_Land_waivesFor_14 (t : Nat) (g : CS) (xs0 : Int32) : Option Int32 :=
  (mbo xs0).bind fun b1 => some b1
set_option maxRecDepth 20000 in
theorem w_C_Land_waivesFor_14 (C : cC p s m args meth c cX1_waivesFor RX1 (some .boolean) wsX1_waivesFor 2 D yI yO) {t : Nat} {rz : Int32} {g : CS} {xs0 : Int32} (h : fC_Land_waivesFor_14 t g xs0 = some rz) {H : Heap} {locs : List Loc} {ls : Array Slot} (hX : cX D yI yO z0 ad g A s H locs) (hl : lv_has ls 2 [(0, .ref (ad 4 t))]) : W p l e (mR 0 0) s m args below meth c H locs 0 0 (MQ below (cQ D yI yO z0 ad rz g A) args s 0 0 A) (F0 m 14 ls [.int xs0]) := by
  obtain ⟨hx, hb, hr, hts, hown, hlocks, hml, hK⟩ := id C
  unfold fC_Land_waivesFor_14 at h
  obtain ⟨b1, eb1, h⟩ := mbind h
  cases h
  exact cg_retz hx hb hr hlocks hK hX dX1_waivesFor_14 eb1
def fC_Land_waivesFor (t : Nat) (g : CS) (x1 : Int32) : Option Int32 :=
  (ck g 4 t).bind fun _ =>
  if ((sI g 4 t 6) &&& x1) = 0 then
    fC_Land_waivesFor_14 t g 0
  else
    fC_Land_waivesFor_14 t g 1
set_option maxRecDepth 20000 in
theorem w_C_Land_waivesFor_0 (C : cC p s m args meth c cX1_waivesFor RX1 (some .boolean) wsX1_waivesFor 2 D yI yO) {t : Nat} {rz : Int32} {g : CS} {x1 : Int32} (h : fC_Land_waivesFor t g x1 = some rz) {H : Heap} {locs : List Loc} {ls : Array Slot} (hX : cX D yI yO z0 ad g A s H locs) (hl : lv_has ls 2 [(0, .ref (ad 4 t)), (1, .int x1)]) : W p l e (mR 0 0) s m args below meth c H locs 0 0 (MQ below (cQ D yI yO z0 ad rz g A) args s 0 0 A) (F0 m 0 ls []) := by
  obtain ⟨hx, hb, hr, hts, hown, hlocks, hml, hK⟩ := id C
  unfold fC_Land_waivesFor at h
  refine lv_aload_n hx hb dX1_waivesFor_0 rfl (lv_at hl 0 rfl) ?_
  obtain ⟨_, hv2, h⟩ := mbind h
  replace hv2 := ck_spec hv2
  refine cg_get hx hb hts iC_Land_waivesFor_X1 hown hK hX 4 t hv2 rfl rfl 6 (by decide) (hts (.fieldLink RX1 37 "PassageCourt$Land" "waived" "I") (by decide +kernel)) (fun _ h9 => h9) rfl dX1_waivesFor_1 ?_
  refine lv_iload_n hx hb dX1_waivesFor_4 rfl (lv_at hl 1 rfl) ?_
  refine lv_iand hx hb dX1_waivesFor_5 ?_
  refine lv_if_eq (tgt := 13) hx hb dX1_waivesFor_6 (by decide) (fun c3 => ?_) (fun c3 => ?_)
  · replace h := mpos c3 h
    refine lv_iconst (v := 0) hx hb dX1_waivesFor_13 (by decide) ?_
    exact w_C_Land_waivesFor_14 C h hX (lv_sub hl [0] rfl)
  · replace h := mneg c3 h
    refine lv_iconst (v := 1) hx hb dX1_waivesFor_9 (by decide) ?_
    refine lv_goto (tgt := 14) hx hb dX1_waivesFor_10 (by decide) ?_
    exact w_C_Land_waivesFor_14 C h hX (lv_sub hl [0] rfl)
set_option maxRecDepth 20000 in
theorem cC_Land_waivesFor (l : Launch) (D : va_G) (yI yO : ClassId) (z0 : Nat) (ad : Nat → Nat → Nat) {g : CS} {t : Nat} {rz : Int32} {x1 : Int32} (h : fC_Land_waivesFor t g x1 = some rz) : Met l yX1_waivesFor wsX1_waivesFor (mR 0 0) (va_Pc [.ref (ad 4 t), .int x1] (cPre D yI yO z0 ad g)) (cQ D yI yO z0 ad rz g (cF ad g)) 0 0 (cF ad g) := by
  refine Met.ofW (cc := cX1_waivesFor) (maxL := 2) (ret := (some .boolean)) (by decide) rfl ?_
  intro p e s m args below meth c s₁ B hml hv
  obtain ⟨hv0, hw, hK⟩ := hv
  have hv1 : args = [.ref (ad 4 t), .int x1].toArray := hv0
  subst hv1
  have C : cC p s m _ meth c cX1_waivesFor RX1 (some .boolean) wsX1_waivesFor 2 D yI yO := ⟨B.exec, B.bytes, B.returns, atoms_spec (ws := wsX1_waivesFor) B.pre, findClass_of_methodNamed B.named, B.notSynchronized, hml, hK⟩
  have hl := lv_entry ([.ref (ad 4 t), .int x1]) (n := 2) (Nat.le_of_ble_eq_true rfl)
  rw [lg_entry_eq]
  generalize (lg_sl ([.ref (ad 4 t), .int x1]) ++ List.replicate (2 - (lg_sl ([.ref (ad 4 t), .int x1])).length) Slot.unset).toArray = ls at hl ⊢
  have hl : lv_has ls 2 [(0, .ref (ad 4 t)), (1, .int x1)] := hl
  exact w_C_Land_waivesFor_0 C h ⟨hw, fun k i hi => ⟨k, i, hi, rfl⟩, va_S.rf⟩ hl
theorem iC_Bans_add_X0 : ∀ w ∈ wsX00, w ∈ wsX0_add := by decide +kernel
def fC_Bans_add_40 (t : Nat) (g : CS) : Option CS :=
  some g
set_option maxRecDepth 20000 in
theorem w_C_Bans_add_40 (C : cC p s m args meth c cX0_add RX0 none wsX0_add 5 D yI yO) {t : Nat} {gz : CS} {g : CS} (h : fC_Bans_add_40 t g = some gz) {H : Heap} {locs : List Loc} {ls : Array Slot} (hX : cX D yI yO z0 ad g A s H locs) (hl : lv_has ls 5 [(0, .ref (ad 24 t))]) : W p l e (mR 1 22) s m args below meth c H locs 0 0 (MQ below (cQv D yI yO z0 ad gz A) args s 0 0 A) (F0 m 40 ls []) := by
  obtain ⟨hx, hb, hr, hts, hown, hlocks, hml, hK⟩ := id C
  unfold fC_Bans_add_40 at h
  cases h
  exact cg_retv hx hb hr hlocks hK hX dX0_add_40
def fC_Bans_add (t : Nat) (g : CS) (x1 : Int32) (x2 : Int32) (x3 : Int32) (x4 : Int32) : Option CS :=
  (ck g 5 t).bind fun _ =>
  (fC_Row_at 12 t g x1).bind fun r2 =>
  if x3 ≤ r2 then
    fC_Bans_add_40 t g
  else
    (fC_Row_put 11 t g x1 x2).bind fun g4 =>
    (ck g4 5 t).bind fun _ =>
    (fC_Row_put 12 t g4 x1 x3).bind fun g6 =>
    (ck g6 5 t).bind fun _ =>
    (fC_Row_put 13 t g6 x1 x4).bind fun g8 =>
    fC_Bans_add_40 t g8
set_option maxRecDepth 20000 in
theorem w_C_Bans_add_0 (C : cC p s m args meth c cX0_add RX0 none wsX0_add 5 D yI yO) {t : Nat} {gz : CS} {g : CS} {x1 : Int32} {x2 : Int32} {x3 : Int32} {x4 : Int32} (h : fC_Bans_add t g x1 x2 x3 x4 = some gz) {H : Heap} {locs : List Loc} {ls : Array Slot} (hX : cX D yI yO z0 ad g A s H locs) (hl : lv_has ls 5 [(0, .ref (ad 24 t)), (1, .int x1), (2, .int x2), (3, .int x3), (4, .int x4)]) : W p l e (mR 1 22) s m args below meth c H locs 0 0 (MQ below (cQv D yI yO z0 ad gz A) args s 0 0 A) (F0 m 0 ls []) := by
  obtain ⟨hx, hb, hr, hts, hown, hlocks, hml, hK⟩ := id C
  unfold fC_Bans_add at h
  refine lv_iload_n hx hb dX0_add_0 rfl (lv_at hl 3 rfl) ?_
  refine lv_aload_n hx hb dX0_add_1 rfl (lv_at hl 0 rfl) ?_
  obtain ⟨_, hv1, h⟩ := mbind h
  replace hv1 := ck_spec hv1
  refine cg_get hx hb hts iC_Bans_add_X0 hown hK hX 24 t hv1 rfl rfl 1 (by decide) (hts (.fieldLink RX0 20 "PassageCourt$Bans" "last" "LPassageCourt$Row;") (by decide +kernel)) (fun _ h9 => h9) rfl dX0_add_2 ?_
  refine lv_iload_n hx hb dX0_add_5 rfl (lv_at hl 1 rfl) ?_
  obtain ⟨r2, er2, h⟩ := mbind h
  refine cg_callV (As := [.int x1]) (rest := [.int x3]) ⟨hx, hb, hml, hown, hts⟩ 12 t hv1 (ci := 6) rfl rfl (cC_Row_at l D yI yO z0 ad ⟨by decide, by decide⟩ er2) (cwV 1 hts gX0_add_X5_at rfl rfl rfl (by decide +kernel) ⟨Nat.le_of_ble_eq_true rfl, Nat.le_of_ble_eq_true rfl⟩) hK hX rfl hl.1 rfl (Nat.le_of_ble_eq_true rfl) dX0_add_6 ⟨Nat.zero_le _, Nat.zero_le _⟩ (fun H locs hX => ?_)
  refine lv_icmp_le (tgt := 40) hx hb dX0_add_9 (by decide) (fun c3 => ?_) (fun c3 => ?_)
  · replace h := mpos c3 h
    exact w_C_Bans_add_40 C h hX (lv_sub hl [0] rfl)
  · replace h := mneg c3 h
    refine lv_aload_n hx hb dX0_add_12 rfl (lv_at hl 0 rfl) ?_
    refine cg_get hx hb hts iC_Bans_add_X0 hown hK hX 24 t hv1 rfl rfl 0 (by decide) (hts (.fieldLink RX0 14 "PassageCourt$Bans" "first" "LPassageCourt$Row;") (by decide +kernel)) (fun _ h9 => h9) rfl dX0_add_13 ?_
    refine lv_iload_n hx hb dX0_add_16 rfl (lv_at hl 1 rfl) ?_
    refine lv_iload_n hx hb dX0_add_17 rfl (lv_at hl 2 rfl) ?_
    obtain ⟨g4, eg4, h⟩ := mbind h
    refine cg_callVv (As := [.int x1, .int x2]) (rest := []) ⟨hx, hb, hml, hown, hts⟩ 11 t hv1 (ci := 6) rfl rfl (cC_Row_put l D yI yO z0 ad ⟨by decide, by decide⟩ eg4) (cwV 2 hts gX0_add_X5_put rfl rfl rfl (by decide +kernel) ⟨Nat.le_of_ble_eq_true rfl, Nat.le_of_ble_eq_true rfl⟩) hK hX rfl hl.1 rfl (Nat.le_of_ble_eq_true rfl) dX0_add_18 ⟨Nat.zero_le _, Nat.zero_le _⟩ (fun H locs hX => ?_)
    refine lv_aload_n hx hb dX0_add_21 rfl (lv_at hl 0 rfl) ?_
    obtain ⟨_, hv5, h⟩ := mbind h
    replace hv5 := ck_spec hv5
    refine cg_get hx hb hts iC_Bans_add_X0 hown hK hX 24 t hv5 rfl rfl 1 (by decide) (hts (.fieldLink RX0 20 "PassageCourt$Bans" "last" "LPassageCourt$Row;") (by decide +kernel)) (fun _ h9 => h9) rfl dX0_add_22 ?_
    refine lv_iload_n hx hb dX0_add_25 rfl (lv_at hl 1 rfl) ?_
    refine lv_iload_n hx hb dX0_add_26 rfl (lv_at hl 3 rfl) ?_
    obtain ⟨g6, eg6, h⟩ := mbind h
    refine cg_callVv (As := [.int x1, .int x3]) (rest := []) ⟨hx, hb, hml, hown, hts⟩ 12 t hv5 (ci := 6) rfl rfl (cC_Row_put l D yI yO z0 ad ⟨by decide, by decide⟩ eg6) (cwV 2 hts gX0_add_X5_put rfl rfl rfl (by decide +kernel) ⟨Nat.le_of_ble_eq_true rfl, Nat.le_of_ble_eq_true rfl⟩) hK hX rfl hl.1 rfl (Nat.le_of_ble_eq_true rfl) dX0_add_27 ⟨Nat.zero_le _, Nat.zero_le _⟩ (fun H locs hX => ?_)
    refine lv_aload_n hx hb dX0_add_30 rfl (lv_at hl 0 rfl) ?_
    obtain ⟨_, hv7, h⟩ := mbind h
    replace hv7 := ck_spec hv7
    refine cg_get hx hb hts iC_Bans_add_X0 hown hK hX 24 t hv7 rfl rfl 2 (by decide) (hts (.fieldLink RX0 23 "PassageCourt$Bans" "made" "LPassageCourt$Row;") (by decide +kernel)) (fun _ h9 => h9) rfl dX0_add_31 ?_
    refine lv_iload_n hx hb dX0_add_34 rfl (lv_at hl 1 rfl) ?_
    refine lv_iload hx hb dX0_add_35 (lv_at hl 4 rfl) ?_
    obtain ⟨g8, eg8, h⟩ := mbind h
    refine cg_callVv (As := [.int x1, .int x4]) (rest := []) ⟨hx, hb, hml, hown, hts⟩ 13 t hv7 (ci := 6) rfl rfl (cC_Row_put l D yI yO z0 ad ⟨by decide, by decide⟩ eg8) (cwV 2 hts gX0_add_X5_put rfl rfl rfl (by decide +kernel) ⟨Nat.le_of_ble_eq_true rfl, Nat.le_of_ble_eq_true rfl⟩) hK hX rfl hl.1 rfl (Nat.le_of_ble_eq_true rfl) dX0_add_37 ⟨Nat.zero_le _, Nat.zero_le _⟩ (fun H locs hX => ?_)
    exact w_C_Bans_add_40 C h hX (lv_sub hl [0] rfl)
set_option maxRecDepth 20000 in
theorem cC_Bans_add (l : Launch) (D : va_G) (yI yO : ClassId) (z0 : Nat) (ad : Nat → Nat → Nat) {g : CS} {t : Nat} {gz : CS} {x1 : Int32} {x2 : Int32} {x3 : Int32} {x4 : Int32} (h : fC_Bans_add t g x1 x2 x3 x4 = some gz) : Met l yX0_add wsX0_add (mR 1 22) (va_Pc [.ref (ad 24 t), .int x1, .int x2, .int x3, .int x4] (cPre D yI yO z0 ad g)) (cQv D yI yO z0 ad gz (cF ad g)) 0 0 (cF ad g) := by
  refine Met.ofW (cc := cX0_add) (maxL := 5) (ret := none) (by decide) rfl ?_
  intro p e s m args below meth c s₁ B hml hv
  obtain ⟨hv0, hw, hK⟩ := hv
  have hv1 : args = [.ref (ad 24 t), .int x1, .int x2, .int x3, .int x4].toArray := hv0
  subst hv1
  have C : cC p s m _ meth c cX0_add RX0 none wsX0_add 5 D yI yO := ⟨B.exec, B.bytes, B.returns, atoms_spec (ws := wsX0_add) B.pre, findClass_of_methodNamed B.named, B.notSynchronized, hml, hK⟩
  have hl := lv_entry ([.ref (ad 24 t), .int x1, .int x2, .int x3, .int x4]) (n := 5) (Nat.le_of_ble_eq_true rfl)
  rw [lg_entry_eq]
  generalize (lg_sl ([.ref (ad 24 t), .int x1, .int x2, .int x3, .int x4]) ++ List.replicate (5 - (lg_sl ([.ref (ad 24 t), .int x1, .int x2, .int x3, .int x4])).length) Slot.unset).toArray = ls at hl ⊢
  have hl : lv_has ls 5 [(0, .ref (ad 24 t)), (1, .int x1), (2, .int x2), (3, .int x3), (4, .int x4)] := hl
  exact w_C_Bans_add_0 C h ⟨hw, fun k i hi => ⟨k, i, hi, rfl⟩, va_S.rf⟩ hl
theorem iC_Bans_clear_X0 : ∀ w ∈ wsX00, w ∈ wsX0_clear := by decide +kernel
def fC_Bans_clear (t : Nat) (g : CS) (x1 : Int32) : Option CS :=
  (ck g 5 t).bind fun _ =>
  (fC_Row_put 12 t g x1 ((-1))).bind fun g2 =>
  some g2
set_option maxRecDepth 20000 in
theorem w_C_Bans_clear_0 (C : cC p s m args meth c cX0_clear RX0 none wsX0_clear 2 D yI yO) {t : Nat} {gz : CS} {g : CS} {x1 : Int32} (h : fC_Bans_clear t g x1 = some gz) {H : Heap} {locs : List Loc} {ls : Array Slot} (hX : cX D yI yO z0 ad g A s H locs) (hl : lv_has ls 2 [(0, .ref (ad 24 t)), (1, .int x1)]) : W p l e (mR 1 22) s m args below meth c H locs 0 0 (MQ below (cQv D yI yO z0 ad gz A) args s 0 0 A) (F0 m 0 ls []) := by
  obtain ⟨hx, hb, hr, hts, hown, hlocks, hml, hK⟩ := id C
  unfold fC_Bans_clear at h
  refine lv_aload_n hx hb dX0_clear_0 rfl (lv_at hl 0 rfl) ?_
  obtain ⟨_, hv1, h⟩ := mbind h
  replace hv1 := ck_spec hv1
  refine cg_get hx hb hts iC_Bans_clear_X0 hown hK hX 24 t hv1 rfl rfl 1 (by decide) (hts (.fieldLink RX0 20 "PassageCourt$Bans" "last" "LPassageCourt$Row;") (by decide +kernel)) (fun _ h9 => h9) rfl dX0_clear_1 ?_
  refine lv_iload_n hx hb dX0_clear_4 rfl (lv_at hl 1 rfl) ?_
  refine lv_iconst (v := -1) hx hb dX0_clear_5 (by decide) ?_
  obtain ⟨g2, eg2, h⟩ := mbind h
  refine cg_callVv (As := [.int x1, .int ((-1))]) (rest := []) ⟨hx, hb, hml, hown, hts⟩ 12 t hv1 (ci := 6) rfl rfl (cC_Row_put l D yI yO z0 ad ⟨by decide, by decide⟩ eg2) (cwV 2 hts gX0_clear_X5_put rfl rfl rfl (by decide +kernel) ⟨Nat.le_of_ble_eq_true rfl, Nat.le_of_ble_eq_true rfl⟩) hK hX rfl hl.1 rfl (Nat.le_of_ble_eq_true rfl) dX0_clear_6 ⟨Nat.zero_le _, Nat.zero_le _⟩ (fun H locs hX => ?_)
  cases h
  exact cg_retv hx hb hr hlocks hK hX dX0_clear_9
set_option maxRecDepth 20000 in
theorem cC_Bans_clear (l : Launch) (D : va_G) (yI yO : ClassId) (z0 : Nat) (ad : Nat → Nat → Nat) {g : CS} {t : Nat} {gz : CS} {x1 : Int32} (h : fC_Bans_clear t g x1 = some gz) : Met l yX0_clear wsX0_clear (mR 1 22) (va_Pc [.ref (ad 24 t), .int x1] (cPre D yI yO z0 ad g)) (cQv D yI yO z0 ad gz (cF ad g)) 0 0 (cF ad g) := by
  refine Met.ofW (cc := cX0_clear) (maxL := 2) (ret := none) (by decide) rfl ?_
  intro p e s m args below meth c s₁ B hml hv
  obtain ⟨hv0, hw, hK⟩ := hv
  have hv1 : args = [.ref (ad 24 t), .int x1].toArray := hv0
  subst hv1
  have C : cC p s m _ meth c cX0_clear RX0 none wsX0_clear 2 D yI yO := ⟨B.exec, B.bytes, B.returns, atoms_spec (ws := wsX0_clear) B.pre, findClass_of_methodNamed B.named, B.notSynchronized, hml, hK⟩
  have hl := lv_entry ([.ref (ad 24 t), .int x1]) (n := 2) (Nat.le_of_ble_eq_true rfl)
  rw [lg_entry_eq]
  generalize (lg_sl ([.ref (ad 24 t), .int x1]) ++ List.replicate (2 - (lg_sl ([.ref (ad 24 t), .int x1])).length) Slot.unset).toArray = ls at hl ⊢
  have hl : lv_has ls 2 [(0, .ref (ad 24 t)), (1, .int x1)] := hl
  exact w_C_Bans_clear_0 C h ⟨hw, fun k i hi => ⟨k, i, hi, rfl⟩, va_S.rf⟩ hl
theorem iC_Bans_stands_X0 : ∀ w ∈ wsX00, w ∈ wsX0_stands := by decide +kernel
def fC_Bans_stands_17 (t : Nat) (g : CS) (xs0 : Int32) : Option Int32 :=
  (mbo xs0).bind fun b1 => some b1
set_option maxRecDepth 20000 in
theorem w_C_Bans_stands_17 (C : cC p s m args meth c cX0_stands RX0 (some .boolean) wsX0_stands 3 D yI yO) {t : Nat} {rz : Int32} {g : CS} {xs0 : Int32} (h : fC_Bans_stands_17 t g xs0 = some rz) {H : Heap} {locs : List Loc} {ls : Array Slot} (hX : cX D yI yO z0 ad g A s H locs) (hl : lv_has ls 3 [(0, .ref (ad 24 t))]) : W p l e (mR 1 21) s m args below meth c H locs 0 0 (MQ below (cQ D yI yO z0 ad rz g A) args s 0 0 A) (F0 m 17 ls [.int xs0]) := by
  obtain ⟨hx, hb, hr, hts, hown, hlocks, hml, hK⟩ := id C
  unfold fC_Bans_stands_17 at h
  obtain ⟨b1, eb1, h⟩ := mbind h
  cases h
  exact cg_retz hx hb hr hlocks hK hX dX0_stands_17 eb1
def fC_Bans_stands (t : Nat) (g : CS) (x1 : Int32) (x2 : Int32) : Option Int32 :=
  (ck g 5 t).bind fun _ =>
  (fC_Row_at 12 t g x1).bind fun r3 =>
  if r3 < x2 then
    fC_Bans_stands_17 t g 0
  else
    fC_Bans_stands_17 t g 1
set_option maxRecDepth 20000 in
theorem w_C_Bans_stands_0 (C : cC p s m args meth c cX0_stands RX0 (some .boolean) wsX0_stands 3 D yI yO) {t : Nat} {rz : Int32} {g : CS} {x1 : Int32} {x2 : Int32} (h : fC_Bans_stands t g x1 x2 = some rz) {H : Heap} {locs : List Loc} {ls : Array Slot} (hX : cX D yI yO z0 ad g A s H locs) (hl : lv_has ls 3 [(0, .ref (ad 24 t)), (1, .int x1), (2, .int x2)]) : W p l e (mR 1 21) s m args below meth c H locs 0 0 (MQ below (cQ D yI yO z0 ad rz g A) args s 0 0 A) (F0 m 0 ls []) := by
  obtain ⟨hx, hb, hr, hts, hown, hlocks, hml, hK⟩ := id C
  unfold fC_Bans_stands at h
  refine lv_aload_n hx hb dX0_stands_0 rfl (lv_at hl 0 rfl) ?_
  obtain ⟨_, hv2, h⟩ := mbind h
  replace hv2 := ck_spec hv2
  refine cg_get hx hb hts iC_Bans_stands_X0 hown hK hX 24 t hv2 rfl rfl 1 (by decide) (hts (.fieldLink RX0 20 "PassageCourt$Bans" "last" "LPassageCourt$Row;") (by decide +kernel)) (fun _ h9 => h9) rfl dX0_stands_1 ?_
  refine lv_iload_n hx hb dX0_stands_4 rfl (lv_at hl 1 rfl) ?_
  obtain ⟨r3, er3, h⟩ := mbind h
  refine cg_callV (As := [.int x1]) (rest := []) ⟨hx, hb, hml, hown, hts⟩ 12 t hv2 (ci := 6) rfl rfl (cC_Row_at l D yI yO z0 ad ⟨by decide, by decide⟩ er3) (cwV 1 hts gX0_stands_X5_at rfl rfl rfl (by decide +kernel) ⟨Nat.le_of_ble_eq_true rfl, Nat.le_of_ble_eq_true rfl⟩) hK hX rfl hl.1 rfl (Nat.le_of_ble_eq_true rfl) dX0_stands_5 ⟨Nat.zero_le _, Nat.zero_le _⟩ (fun H locs hX => ?_)
  refine lv_iload_n hx hb dX0_stands_8 rfl (lv_at hl 2 rfl) ?_
  refine lv_icmp_lt (tgt := 16) hx hb dX0_stands_9 (by decide) (fun c4 => ?_) (fun c4 => ?_)
  · replace h := mpos c4 h
    refine lv_iconst (v := 0) hx hb dX0_stands_16 (by decide) ?_
    exact w_C_Bans_stands_17 C h hX (lv_sub hl [0] rfl)
  · replace h := mneg c4 h
    refine lv_iconst (v := 1) hx hb dX0_stands_12 (by decide) ?_
    refine lv_goto (tgt := 17) hx hb dX0_stands_13 (by decide) ?_
    exact w_C_Bans_stands_17 C h hX (lv_sub hl [0] rfl)
set_option maxRecDepth 20000 in
theorem cC_Bans_stands (l : Launch) (D : va_G) (yI yO : ClassId) (z0 : Nat) (ad : Nat → Nat → Nat) {g : CS} {t : Nat} {rz : Int32} {x1 : Int32} {x2 : Int32} (h : fC_Bans_stands t g x1 x2 = some rz) : Met l yX0_stands wsX0_stands (mR 1 21) (va_Pc [.ref (ad 24 t), .int x1, .int x2] (cPre D yI yO z0 ad g)) (cQ D yI yO z0 ad rz g (cF ad g)) 0 0 (cF ad g) := by
  refine Met.ofW (cc := cX0_stands) (maxL := 3) (ret := (some .boolean)) (by decide) rfl ?_
  intro p e s m args below meth c s₁ B hml hv
  obtain ⟨hv0, hw, hK⟩ := hv
  have hv1 : args = [.ref (ad 24 t), .int x1, .int x2].toArray := hv0
  subst hv1
  have C : cC p s m _ meth c cX0_stands RX0 (some .boolean) wsX0_stands 3 D yI yO := ⟨B.exec, B.bytes, B.returns, atoms_spec (ws := wsX0_stands) B.pre, findClass_of_methodNamed B.named, B.notSynchronized, hml, hK⟩
  have hl := lv_entry ([.ref (ad 24 t), .int x1, .int x2]) (n := 3) (Nat.le_of_ble_eq_true rfl)
  rw [lg_entry_eq]
  generalize (lg_sl ([.ref (ad 24 t), .int x1, .int x2]) ++ List.replicate (3 - (lg_sl ([.ref (ad 24 t), .int x1, .int x2])).length) Slot.unset).toArray = ls at hl ⊢
  have hl : lv_has ls 3 [(0, .ref (ad 24 t)), (1, .int x1), (2, .int x2)] := hl
  exact w_C_Bans_stands_0 C h ⟨hw, fun k i hi => ⟨k, i, hi, rfl⟩, va_S.rf⟩ hl
theorem iC_Bans_holds_X0 : ∀ w ∈ wsX00, w ∈ wsX0_holds := by decide +kernel
def fC_Bans_holds_26 (t : Nat) (g : CS) (xs0 : Int32) : Option Int32 :=
  (mbo xs0).bind fun b1 => some b1
set_option maxRecDepth 20000 in
theorem w_C_Bans_holds_26 (C : cC p s m args meth c cX0_holds RX0 (some .boolean) wsX0_holds 3 D yI yO) {t : Nat} {rz : Int32} {g : CS} {xs0 : Int32} (h : fC_Bans_holds_26 t g xs0 = some rz) {H : Heap} {locs : List Loc} {ls : Array Slot} (hX : cX D yI yO z0 ad g A s H locs) (hl : lv_has ls 3 [(0, .ref (ad 24 t))]) : W p l e (mR 2 43) s m args below meth c H locs 0 0 (MQ below (cQ D yI yO z0 ad rz g A) args s 0 0 A) (F0 m 26 ls [.int xs0]) := by
  obtain ⟨hx, hb, hr, hts, hown, hlocks, hml, hK⟩ := id C
  unfold fC_Bans_holds_26 at h
  obtain ⟨b1, eb1, h⟩ := mbind h
  cases h
  exact cg_retz hx hb hr hlocks hK hX dX0_holds_26 eb1
def fC_Bans_holds_25 (t : Nat) (g : CS) : Option Int32 :=
  fC_Bans_holds_26 t g 0
set_option maxRecDepth 20000 in
theorem w_C_Bans_holds_25 (C : cC p s m args meth c cX0_holds RX0 (some .boolean) wsX0_holds 3 D yI yO) {t : Nat} {rz : Int32} {g : CS} (h : fC_Bans_holds_25 t g = some rz) {H : Heap} {locs : List Loc} {ls : Array Slot} (hX : cX D yI yO z0 ad g A s H locs) (hl : lv_has ls 3 [(0, .ref (ad 24 t))]) : W p l e (mR 2 43) s m args below meth c H locs 0 0 (MQ below (cQ D yI yO z0 ad rz g A) args s 0 0 A) (F0 m 25 ls []) := by
  obtain ⟨hx, hb, hr, hts, hown, hlocks, hml, hK⟩ := id C
  unfold fC_Bans_holds_25 at h
  refine lv_iconst (v := 0) hx hb dX0_holds_25 (by decide) ?_
  exact w_C_Bans_holds_26 C h hX (lv_sub hl [0] rfl)
def fC_Bans_holds (t : Nat) (g : CS) (x1 : Int32) (x2 : Int32) : Option Int32 :=
  (ck g 5 t).bind fun _ =>
  (fC_Row_at 11 t g x1).bind fun r3 =>
  if x2 < r3 then
    fC_Bans_holds_25 t g
  else
    (fC_Bans_stands t g x1 x2).bind fun r5 =>
    if r5 = 0 then
      fC_Bans_holds_25 t g
    else
      fC_Bans_holds_26 t g 1
set_option maxRecDepth 20000 in
theorem w_C_Bans_holds_0 (C : cC p s m args meth c cX0_holds RX0 (some .boolean) wsX0_holds 3 D yI yO) {t : Nat} {rz : Int32} {g : CS} {x1 : Int32} {x2 : Int32} (h : fC_Bans_holds t g x1 x2 = some rz) {H : Heap} {locs : List Loc} {ls : Array Slot} (hX : cX D yI yO z0 ad g A s H locs) (hl : lv_has ls 3 [(0, .ref (ad 24 t)), (1, .int x1), (2, .int x2)]) : W p l e (mR 2 43) s m args below meth c H locs 0 0 (MQ below (cQ D yI yO z0 ad rz g A) args s 0 0 A) (F0 m 0 ls []) := by
  obtain ⟨hx, hb, hr, hts, hown, hlocks, hml, hK⟩ := id C
  unfold fC_Bans_holds at h
  refine lv_aload_n hx hb dX0_holds_0 rfl (lv_at hl 0 rfl) ?_
  obtain ⟨_, hv2, h⟩ := mbind h
  replace hv2 := ck_spec hv2
  refine cg_get hx hb hts iC_Bans_holds_X0 hown hK hX 24 t hv2 rfl rfl 0 (by decide) (hts (.fieldLink RX0 14 "PassageCourt$Bans" "first" "LPassageCourt$Row;") (by decide +kernel)) (fun _ h9 => h9) rfl dX0_holds_1 ?_
  refine lv_iload_n hx hb dX0_holds_4 rfl (lv_at hl 1 rfl) ?_
  obtain ⟨r3, er3, h⟩ := mbind h
  refine cg_callV (As := [.int x1]) (rest := []) ⟨hx, hb, hml, hown, hts⟩ 11 t hv2 (ci := 6) rfl rfl (cC_Row_at l D yI yO z0 ad ⟨by decide, by decide⟩ er3) (cwV 1 hts gX0_holds_X5_at rfl rfl rfl (by decide +kernel) ⟨Nat.le_of_ble_eq_true rfl, Nat.le_of_ble_eq_true rfl⟩) hK hX rfl hl.1 rfl (Nat.le_of_ble_eq_true rfl) dX0_holds_5 ⟨Nat.zero_le _, Nat.zero_le _⟩ (fun H locs hX => ?_)
  refine lv_iload_n hx hb dX0_holds_8 rfl (lv_at hl 2 rfl) ?_
  refine lv_icmp_gt (tgt := 25) hx hb dX0_holds_9 (by decide) (fun c4 => ?_) (fun c4 => ?_)
  · replace h := mpos c4 h
    exact w_C_Bans_holds_25 C h hX (lv_sub hl [0] rfl)
  · replace h := mneg c4 h
    refine lv_aload_n hx hb dX0_holds_12 rfl (lv_at hl 0 rfl) ?_
    refine lv_iload_n hx hb dX0_holds_13 rfl (lv_at hl 1 rfl) ?_
    refine lv_iload_n hx hb dX0_holds_14 rfl (lv_at hl 2 rfl) ?_
    obtain ⟨r5, er5, h⟩ := mbind h
    refine cg_callV (As := [.int x1, .int x2]) (rest := []) ⟨hx, hb, hml, hown, hts⟩ 24 t hv2 (ci := 1) rfl rfl (cC_Bans_stands l D yI yO z0 ad er5) (cwV 2 hts gX0_holds_X0_stands rfl rfl rfl (by decide +kernel) ⟨Nat.le_of_ble_eq_true rfl, Nat.le_of_ble_eq_true rfl⟩) hK hX rfl hl.1 rfl (Nat.le_of_ble_eq_true rfl) dX0_holds_15 ⟨Nat.zero_le _, Nat.zero_le _⟩ (fun H locs hX => ?_)
    refine lv_if_eq (tgt := 25) hx hb dX0_holds_18 (by decide) (fun c6 => ?_) (fun c6 => ?_)
    · replace h := mpos c6 h
      exact w_C_Bans_holds_25 C h hX (lv_sub hl [0] rfl)
    · replace h := mneg c6 h
      refine lv_iconst (v := 1) hx hb dX0_holds_21 (by decide) ?_
      refine lv_goto (tgt := 26) hx hb dX0_holds_22 (by decide) ?_
      exact w_C_Bans_holds_26 C h hX (lv_sub hl [0] rfl)
set_option maxRecDepth 20000 in
theorem cC_Bans_holds (l : Launch) (D : va_G) (yI yO : ClassId) (z0 : Nat) (ad : Nat → Nat → Nat) {g : CS} {t : Nat} {rz : Int32} {x1 : Int32} {x2 : Int32} (h : fC_Bans_holds t g x1 x2 = some rz) : Met l yX0_holds wsX0_holds (mR 2 43) (va_Pc [.ref (ad 24 t), .int x1, .int x2] (cPre D yI yO z0 ad g)) (cQ D yI yO z0 ad rz g (cF ad g)) 0 0 (cF ad g) := by
  refine Met.ofW (cc := cX0_holds) (maxL := 3) (ret := (some .boolean)) (by decide) rfl ?_
  intro p e s m args below meth c s₁ B hml hv
  obtain ⟨hv0, hw, hK⟩ := hv
  have hv1 : args = [.ref (ad 24 t), .int x1, .int x2].toArray := hv0
  subst hv1
  have C : cC p s m _ meth c cX0_holds RX0 (some .boolean) wsX0_holds 3 D yI yO := ⟨B.exec, B.bytes, B.returns, atoms_spec (ws := wsX0_holds) B.pre, findClass_of_methodNamed B.named, B.notSynchronized, hml, hK⟩
  have hl := lv_entry ([.ref (ad 24 t), .int x1, .int x2]) (n := 3) (Nat.le_of_ble_eq_true rfl)
  rw [lg_entry_eq]
  generalize (lg_sl ([.ref (ad 24 t), .int x1, .int x2]) ++ List.replicate (3 - (lg_sl ([.ref (ad 24 t), .int x1, .int x2])).length) Slot.unset).toArray = ls at hl ⊢
  have hl : lv_has ls 3 [(0, .ref (ad 24 t)), (1, .int x1), (2, .int x2)] := hl
  exact w_C_Bans_holds_0 C h ⟨hw, fun k i hi => ⟨k, i, hi, rfl⟩, va_S.rf⟩ hl
theorem iC_Permits_isValid_X2 : ∀ w ∈ wsX20, w ∈ wsX2_isValid := by decide +kernel
def fC_Permits_isValid_17 (t : Nat) (g : CS) (xs0 : Int32) : Option Int32 :=
  (mbo xs0).bind fun b1 => some b1
set_option maxRecDepth 20000 in
theorem w_C_Permits_isValid_17 (C : cC p s m args meth c cX2_isValid RX2 (some .boolean) wsX2_isValid 3 D yI yO) {t : Nat} {rz : Int32} {g : CS} {xs0 : Int32} (h : fC_Permits_isValid_17 t g xs0 = some rz) {H : Heap} {locs : List Loc} {ls : Array Slot} (hX : cX D yI yO z0 ad g A s H locs) (hl : lv_has ls 3 [(0, .ref (ad 25 t))]) : W p l e (mR 1 21) s m args below meth c H locs 0 0 (MQ below (cQ D yI yO z0 ad rz g A) args s 0 0 A) (F0 m 17 ls [.int xs0]) := by
  obtain ⟨hx, hb, hr, hts, hown, hlocks, hml, hK⟩ := id C
  unfold fC_Permits_isValid_17 at h
  obtain ⟨b1, eb1, h⟩ := mbind h
  cases h
  exact cg_retz hx hb hr hlocks hK hX dX2_isValid_17 eb1
def fC_Permits_isValid (t : Nat) (g : CS) (x1 : Int32) (x2 : Int32) : Option Int32 :=
  (ck g 5 t).bind fun _ =>
  (fC_Row_at 15 t g x1).bind fun r3 =>
  if r3 < x2 then
    fC_Permits_isValid_17 t g 0
  else
    fC_Permits_isValid_17 t g 1
set_option maxRecDepth 20000 in
theorem w_C_Permits_isValid_0 (C : cC p s m args meth c cX2_isValid RX2 (some .boolean) wsX2_isValid 3 D yI yO) {t : Nat} {rz : Int32} {g : CS} {x1 : Int32} {x2 : Int32} (h : fC_Permits_isValid t g x1 x2 = some rz) {H : Heap} {locs : List Loc} {ls : Array Slot} (hX : cX D yI yO z0 ad g A s H locs) (hl : lv_has ls 3 [(0, .ref (ad 25 t)), (1, .int x1), (2, .int x2)]) : W p l e (mR 1 21) s m args below meth c H locs 0 0 (MQ below (cQ D yI yO z0 ad rz g A) args s 0 0 A) (F0 m 0 ls []) := by
  obtain ⟨hx, hb, hr, hts, hown, hlocks, hml, hK⟩ := id C
  unfold fC_Permits_isValid at h
  refine lv_aload_n hx hb dX2_isValid_0 rfl (lv_at hl 0 rfl) ?_
  obtain ⟨_, hv2, h⟩ := mbind h
  replace hv2 := ck_spec hv2
  refine cg_get hx hb hts iC_Permits_isValid_X2 hown hK hX 25 t hv2 rfl rfl 1 (by decide) (hts (.fieldLink RX2 20 "PassageCourt$Permits" "last" "LPassageCourt$Row;") (by decide +kernel)) (fun _ h9 => h9) rfl dX2_isValid_1 ?_
  refine lv_iload_n hx hb dX2_isValid_4 rfl (lv_at hl 1 rfl) ?_
  obtain ⟨r3, er3, h⟩ := mbind h
  refine cg_callV (As := [.int x1]) (rest := []) ⟨hx, hb, hml, hown, hts⟩ 15 t hv2 (ci := 6) rfl rfl (cC_Row_at l D yI yO z0 ad ⟨by decide, by decide⟩ er3) (cwV 1 hts gX2_isValid_X5_at rfl rfl rfl (by decide +kernel) ⟨Nat.le_of_ble_eq_true rfl, Nat.le_of_ble_eq_true rfl⟩) hK hX rfl hl.1 rfl (Nat.le_of_ble_eq_true rfl) dX2_isValid_5 ⟨Nat.zero_le _, Nat.zero_le _⟩ (fun H locs hX => ?_)
  refine lv_iload_n hx hb dX2_isValid_8 rfl (lv_at hl 2 rfl) ?_
  refine lv_icmp_lt (tgt := 16) hx hb dX2_isValid_9 (by decide) (fun c4 => ?_) (fun c4 => ?_)
  · replace h := mpos c4 h
    refine lv_iconst (v := 0) hx hb dX2_isValid_16 (by decide) ?_
    exact w_C_Permits_isValid_17 C h hX (lv_sub hl [0] rfl)
  · replace h := mneg c4 h
    refine lv_iconst (v := 1) hx hb dX2_isValid_12 (by decide) ?_
    refine lv_goto (tgt := 17) hx hb dX2_isValid_13 (by decide) ?_
    exact w_C_Permits_isValid_17 C h hX (lv_sub hl [0] rfl)
set_option maxRecDepth 20000 in
theorem cC_Permits_isValid (l : Launch) (D : va_G) (yI yO : ClassId) (z0 : Nat) (ad : Nat → Nat → Nat) {g : CS} {t : Nat} {rz : Int32} {x1 : Int32} {x2 : Int32} (h : fC_Permits_isValid t g x1 x2 = some rz) : Met l yX2_isValid wsX2_isValid (mR 1 21) (va_Pc [.ref (ad 25 t), .int x1, .int x2] (cPre D yI yO z0 ad g)) (cQ D yI yO z0 ad rz g (cF ad g)) 0 0 (cF ad g) := by
  refine Met.ofW (cc := cX2_isValid) (maxL := 3) (ret := (some .boolean)) (by decide) rfl ?_
  intro p e s m args below meth c s₁ B hml hv
  obtain ⟨hv0, hw, hK⟩ := hv
  have hv1 : args = [.ref (ad 25 t), .int x1, .int x2].toArray := hv0
  subst hv1
  have C : cC p s m _ meth c cX2_isValid RX2 (some .boolean) wsX2_isValid 3 D yI yO := ⟨B.exec, B.bytes, B.returns, atoms_spec (ws := wsX2_isValid) B.pre, findClass_of_methodNamed B.named, B.notSynchronized, hml, hK⟩
  have hl := lv_entry ([.ref (ad 25 t), .int x1, .int x2]) (n := 3) (Nat.le_of_ble_eq_true rfl)
  rw [lg_entry_eq]
  generalize (lg_sl ([.ref (ad 25 t), .int x1, .int x2]) ++ List.replicate (3 - (lg_sl ([.ref (ad 25 t), .int x1, .int x2])).length) Slot.unset).toArray = ls at hl ⊢
  have hl : lv_has ls 3 [(0, .ref (ad 25 t)), (1, .int x1), (2, .int x2)] := hl
  exact w_C_Permits_isValid_0 C h ⟨hw, fun k i hi => ⟨k, i, hi, rfl⟩, va_S.rf⟩ hl
end GC0
