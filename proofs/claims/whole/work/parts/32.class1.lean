section GC1
variable {p : Program} {l : Launch} {e : Env} {s : State} {m : MethodId} {args : Array Value} {below : List Frame} {meth : Method} {c : Code} {D : va_G} {yI yO : ClassId} {z0 : Nat} {ad : Nat → Nat → Nat} {A : Nat → Prop}
theorem iC_Permits_grantOn_X2 : ∀ w ∈ wsX20, w ∈ wsX2_grantOn := by decide +kernel
def fC_Permits_grantOn_18 (t : Nat) (g : CS) (x1 : Int32) (x2 : Int32) : Option CS :=
  (ck g 5 t).bind fun _ =>
  (fC_Row_at 15 t g x1).bind fun r2 =>
  (fC_Row_put 15 t g x1 (if r2 < ((x2 + 360) - 1) then ((x2 + 360) - 1) else r2)).bind fun g3 =>
  some g3
set_option maxRecDepth 20000 in
theorem w_C_Permits_grantOn_18 (C : cC p s m args meth c cX2_grantOn RX2 none wsX2_grantOn 3 D yI yO) {t : Nat} {gz : CS} {g : CS} {x1 : Int32} {x2 : Int32} (h : fC_Permits_grantOn_18 t g x1 x2 = some gz) {H : Heap} {locs : List Loc} {ls : Array Slot} (hX : cX D yI yO z0 ad g A s H locs) (hl : lv_has ls 3 [(0, .ref (ad 25 t)), (1, .int x1), (2, .int x2)]) : W p l e (mR 2 43) s m args below meth c H locs 0 0 (MQ below (cQv D yI yO z0 ad gz A) args s 0 0 A) (F0 m 18 ls []) := by
  obtain ⟨hx, hb, hr, hts, hown, hlocks, hml, hK⟩ := id C
  unfold fC_Permits_grantOn_18 at h
  refine lv_aload_n hx hb dX2_grantOn_18 rfl (lv_at hl 0 rfl) ?_
  obtain ⟨_, hv1, h⟩ := mbind h
  replace hv1 := ck_spec hv1
  refine cg_get hx hb hts iC_Permits_grantOn_X2 hown hK hX 25 t hv1 rfl rfl 1 (by decide) (hts (.fieldLink RX2 20 "PassageCourt$Permits" "last" "LPassageCourt$Row;") (by decide +kernel)) (fun _ h9 => h9) rfl dX2_grantOn_19 ?_
  refine lv_iload_n hx hb dX2_grantOn_22 rfl (lv_at hl 1 rfl) ?_
  refine lv_aload_n hx hb dX2_grantOn_23 rfl (lv_at hl 0 rfl) ?_
  refine cg_get hx hb hts iC_Permits_grantOn_X2 hown hK hX 25 t hv1 rfl rfl 1 (by decide) (hts (.fieldLink RX2 20 "PassageCourt$Permits" "last" "LPassageCourt$Row;") (by decide +kernel)) (fun _ h9 => h9) rfl dX2_grantOn_24 ?_
  refine lv_iload_n hx hb dX2_grantOn_27 rfl (lv_at hl 1 rfl) ?_
  obtain ⟨r2, er2, h⟩ := mbind h
  refine cg_callV (As := [.int x1]) (rest := [.int x1, .ref (ad 15 t)]) ⟨hx, hb, hml, hown, hts⟩ 15 t hv1 (ci := 6) rfl rfl (cC_Row_at l D yI yO z0 ad ⟨by decide, by decide⟩ er2) (cwV 1 hts gX2_grantOn_X5_at rfl rfl rfl (by decide +kernel) ⟨Nat.le_of_ble_eq_true rfl, Nat.le_of_ble_eq_true rfl⟩) hK hX rfl hl.1 rfl (Nat.le_of_ble_eq_true rfl) dX2_grantOn_28 ⟨Nat.zero_le _, Nat.zero_le _⟩ (fun H locs hX => ?_)
  refine lv_iload_n hx hb dX2_grantOn_31 rfl (lv_at hl 2 rfl) ?_
  refine lv_sipush (v := 360) hx hb dX2_grantOn_32 (by decide) ?_
  refine lv_iadd hx hb dX2_grantOn_35 ?_
  refine lv_iconst (v := 1) hx hb dX2_grantOn_36 (by decide) ?_
  refine lv_isub hx hb dX2_grantOn_37 ?_
  refine va_mmax hx hb (hml.trans hl.1.symm) hown (hts (.methodLink RX2 34 Lib.Math.max.name) (by decide +kernel)) (hts (.static Lib.Math.max.name) (by decide +kernel)) (hts (.initialized "java/lang/Math") (by decide +kernel)) (hts (.code Lib.Math.max.name Lib.Math.max.code 2 (some .int)) (by decide +kernel)) (Nat.le_of_ble_eq_true rfl) (Nat.le_of_ble_eq_true rfl) (Nat.le_of_ble_eq_true rfl) (Nat.le_of_ble_eq_true rfl) dX2_grantOn_38 ?_
  obtain ⟨g3, eg3, h⟩ := mbind h
  refine cg_callVv (As := [.int x1, .int (if r2 < ((x2 + 360) - 1) then ((x2 + 360) - 1) else r2)]) (rest := []) ⟨hx, hb, hml, hown, hts⟩ 15 t hv1 (ci := 6) rfl rfl (cC_Row_put l D yI yO z0 ad ⟨by decide, by decide⟩ eg3) (cwV 2 hts gX2_grantOn_X5_put rfl rfl rfl (by decide +kernel) ⟨Nat.le_of_ble_eq_true rfl, Nat.le_of_ble_eq_true rfl⟩) hK hX rfl hl.1 rfl (Nat.le_of_ble_eq_true rfl) dX2_grantOn_41 ⟨Nat.zero_le _, Nat.zero_le _⟩ (fun H locs hX => ?_)
  cases h
  exact cg_retv hx hb hr hlocks hK hX dX2_grantOn_44
def fC_Permits_grantOn (t : Nat) (g : CS) (x1 : Int32) (x2 : Int32) : Option CS :=
  (ck g 5 t).bind fun _ =>
  (fC_Permits_isValid t g x1 x2).bind fun r5 =>
  if r5 = 0 then
    (fC_Row_put 14 t g x1 x2).bind fun g7 =>
    fC_Permits_grantOn_18 t g7 x1 x2
  else
    fC_Permits_grantOn_18 t g x1 x2
set_option maxRecDepth 20000 in
theorem w_C_Permits_grantOn_0 (C : cC p s m args meth c cX2_grantOn RX2 none wsX2_grantOn 3 D yI yO) {t : Nat} {gz : CS} {g : CS} {x1 : Int32} {x2 : Int32} (h : fC_Permits_grantOn t g x1 x2 = some gz) {H : Heap} {locs : List Loc} {ls : Array Slot} (hX : cX D yI yO z0 ad g A s H locs) (hl : lv_has ls 3 [(0, .ref (ad 25 t)), (1, .int x1), (2, .int x2)]) : W p l e (mR 2 43) s m args below meth c H locs 0 0 (MQ below (cQv D yI yO z0 ad gz A) args s 0 0 A) (F0 m 0 ls []) := by
  obtain ⟨hx, hb, hr, hts, hown, hlocks, hml, hK⟩ := id C
  unfold fC_Permits_grantOn at h
  refine lv_aload_n hx hb dX2_grantOn_0 rfl (lv_at hl 0 rfl) ?_
  refine lv_iload_n hx hb dX2_grantOn_1 rfl (lv_at hl 1 rfl) ?_
  refine lv_iload_n hx hb dX2_grantOn_2 rfl (lv_at hl 2 rfl) ?_
  obtain ⟨_, hv4, h⟩ := mbind h
  replace hv4 := ck_spec hv4
  obtain ⟨r5, er5, h⟩ := mbind h
  refine cg_callV (As := [.int x1, .int x2]) (rest := []) ⟨hx, hb, hml, hown, hts⟩ 25 t hv4 (ci := 3) rfl rfl (cC_Permits_isValid l D yI yO z0 ad er5) (cwV 2 hts gX2_grantOn_X2_isValid rfl rfl rfl (by decide +kernel) ⟨Nat.le_of_ble_eq_true rfl, Nat.le_of_ble_eq_true rfl⟩) hK hX rfl hl.1 rfl (Nat.le_of_ble_eq_true rfl) dX2_grantOn_3 ⟨Nat.zero_le _, Nat.zero_le _⟩ (fun H locs hX => ?_)
  refine lv_if_ne (tgt := 18) hx hb dX2_grantOn_6 (by decide) (fun c6 => ?_) (fun c6 => ?_)
  · replace h := mneg c6 h
    exact w_C_Permits_grantOn_18 C h hX (lv_sub hl [0, 1, 2] rfl)
  · replace h := mpos c6 h
    refine lv_aload_n hx hb dX2_grantOn_9 rfl (lv_at hl 0 rfl) ?_
    refine cg_get hx hb hts iC_Permits_grantOn_X2 hown hK hX 25 t hv4 rfl rfl 0 (by decide) (hts (.fieldLink RX2 14 "PassageCourt$Permits" "since" "LPassageCourt$Row;") (by decide +kernel)) (fun _ h9 => h9) rfl dX2_grantOn_10 ?_
    refine lv_iload_n hx hb dX2_grantOn_13 rfl (lv_at hl 1 rfl) ?_
    refine lv_iload_n hx hb dX2_grantOn_14 rfl (lv_at hl 2 rfl) ?_
    obtain ⟨g7, eg7, h⟩ := mbind h
    refine cg_callVv (As := [.int x1, .int x2]) (rest := []) ⟨hx, hb, hml, hown, hts⟩ 14 t hv4 (ci := 6) rfl rfl (cC_Row_put l D yI yO z0 ad ⟨by decide, by decide⟩ eg7) (cwV 2 hts gX2_grantOn_X5_put rfl rfl rfl (by decide +kernel) ⟨Nat.le_of_ble_eq_true rfl, Nat.le_of_ble_eq_true rfl⟩) hK hX rfl hl.1 rfl (Nat.le_of_ble_eq_true rfl) dX2_grantOn_15 ⟨Nat.zero_le _, Nat.zero_le _⟩ (fun H locs hX => ?_)
    exact w_C_Permits_grantOn_18 C h hX (lv_sub hl [0, 1, 2] rfl)
set_option maxRecDepth 20000 in
theorem cC_Permits_grantOn (l : Launch) (D : va_G) (yI yO : ClassId) (z0 : Nat) (ad : Nat → Nat → Nat) {g : CS} {t : Nat} {gz : CS} {x1 : Int32} {x2 : Int32} (h : fC_Permits_grantOn t g x1 x2 = some gz) : Met l yX2_grantOn wsX2_grantOn (mR 2 43) (va_Pc [.ref (ad 25 t), .int x1, .int x2] (cPre D yI yO z0 ad g)) (cQv D yI yO z0 ad gz (cF ad g)) 0 0 (cF ad g) := by
  refine Met.ofW (cc := cX2_grantOn) (maxL := 3) (ret := none) (by decide) rfl ?_
  intro p e s m args below meth c s₁ B hml hv
  obtain ⟨hv0, hw, hK⟩ := hv
  have hv1 : args = [.ref (ad 25 t), .int x1, .int x2].toArray := hv0
  subst hv1
  have C : cC p s m _ meth c cX2_grantOn RX2 none wsX2_grantOn 3 D yI yO := ⟨B.exec, B.bytes, B.returns, atoms_spec (ws := wsX2_grantOn) B.pre, findClass_of_methodNamed B.named, B.notSynchronized, hml, hK⟩
  have hl := lv_entry ([.ref (ad 25 t), .int x1, .int x2]) (n := 3) (Nat.le_of_ble_eq_true rfl)
  rw [lg_entry_eq]
  generalize (lg_sl ([.ref (ad 25 t), .int x1, .int x2]) ++ List.replicate (3 - (lg_sl ([.ref (ad 25 t), .int x1, .int x2])).length) Slot.unset).toArray = ls at hl ⊢
  have hl : lv_has ls 3 [(0, .ref (ad 25 t)), (1, .int x1), (2, .int x2)] := hl
  exact w_C_Permits_grantOn_0 C h ⟨hw, fun k i hi => ⟨k, i, hi, rfl⟩, va_S.rf⟩ hl
theorem iC_Permits_prolong_X2 : ∀ w ∈ wsX20, w ∈ wsX2_prolong := by decide +kernel
def fC_Permits_prolong (t : Nat) (g : CS) (x1 : Int32) (x2 : Int32) : Option CS :=
  (ck g 5 t).bind fun _ =>
  (fC_Row_at 15 t g x1).bind fun r2 =>
  (fC_Row_put 15 t g x1 (r2 + x2)).bind fun g3 =>
  some g3
set_option maxRecDepth 20000 in
theorem w_C_Permits_prolong_0 (C : cC p s m args meth c cX2_prolong RX2 none wsX2_prolong 3 D yI yO) {t : Nat} {gz : CS} {g : CS} {x1 : Int32} {x2 : Int32} (h : fC_Permits_prolong t g x1 x2 = some gz) {H : Heap} {locs : List Loc} {ls : Array Slot} (hX : cX D yI yO z0 ad g A s H locs) (hl : lv_has ls 3 [(0, .ref (ad 25 t)), (1, .int x1), (2, .int x2)]) : W p l e (mR 1 22) s m args below meth c H locs 0 0 (MQ below (cQv D yI yO z0 ad gz A) args s 0 0 A) (F0 m 0 ls []) := by
  obtain ⟨hx, hb, hr, hts, hown, hlocks, hml, hK⟩ := id C
  unfold fC_Permits_prolong at h
  refine lv_aload_n hx hb dX2_prolong_0 rfl (lv_at hl 0 rfl) ?_
  obtain ⟨_, hv1, h⟩ := mbind h
  replace hv1 := ck_spec hv1
  refine cg_get hx hb hts iC_Permits_prolong_X2 hown hK hX 25 t hv1 rfl rfl 1 (by decide) (hts (.fieldLink RX2 20 "PassageCourt$Permits" "last" "LPassageCourt$Row;") (by decide +kernel)) (fun _ h9 => h9) rfl dX2_prolong_1 ?_
  refine lv_iload_n hx hb dX2_prolong_4 rfl (lv_at hl 1 rfl) ?_
  refine lv_aload_n hx hb dX2_prolong_5 rfl (lv_at hl 0 rfl) ?_
  refine cg_get hx hb hts iC_Permits_prolong_X2 hown hK hX 25 t hv1 rfl rfl 1 (by decide) (hts (.fieldLink RX2 20 "PassageCourt$Permits" "last" "LPassageCourt$Row;") (by decide +kernel)) (fun _ h9 => h9) rfl dX2_prolong_6 ?_
  refine lv_iload_n hx hb dX2_prolong_9 rfl (lv_at hl 1 rfl) ?_
  obtain ⟨r2, er2, h⟩ := mbind h
  refine cg_callV (As := [.int x1]) (rest := [.int x1, .ref (ad 15 t)]) ⟨hx, hb, hml, hown, hts⟩ 15 t hv1 (ci := 6) rfl rfl (cC_Row_at l D yI yO z0 ad ⟨by decide, by decide⟩ er2) (cwV 1 hts gX2_prolong_X5_at rfl rfl rfl (by decide +kernel) ⟨Nat.le_of_ble_eq_true rfl, Nat.le_of_ble_eq_true rfl⟩) hK hX rfl hl.1 rfl (Nat.le_of_ble_eq_true rfl) dX2_prolong_10 ⟨Nat.zero_le _, Nat.zero_le _⟩ (fun H locs hX => ?_)
  refine lv_iload_n hx hb dX2_prolong_13 rfl (lv_at hl 2 rfl) ?_
  refine lv_iadd hx hb dX2_prolong_14 ?_
  obtain ⟨g3, eg3, h⟩ := mbind h
  refine cg_callVv (As := [.int x1, .int (r2 + x2)]) (rest := []) ⟨hx, hb, hml, hown, hts⟩ 15 t hv1 (ci := 6) rfl rfl (cC_Row_put l D yI yO z0 ad ⟨by decide, by decide⟩ eg3) (cwV 2 hts gX2_prolong_X5_put rfl rfl rfl (by decide +kernel) ⟨Nat.le_of_ble_eq_true rfl, Nat.le_of_ble_eq_true rfl⟩) hK hX rfl hl.1 rfl (Nat.le_of_ble_eq_true rfl) dX2_prolong_15 ⟨Nat.zero_le _, Nat.zero_le _⟩ (fun H locs hX => ?_)
  cases h
  exact cg_retv hx hb hr hlocks hK hX dX2_prolong_18
set_option maxRecDepth 20000 in
theorem cC_Permits_prolong (l : Launch) (D : va_G) (yI yO : ClassId) (z0 : Nat) (ad : Nat → Nat → Nat) {g : CS} {t : Nat} {gz : CS} {x1 : Int32} {x2 : Int32} (h : fC_Permits_prolong t g x1 x2 = some gz) : Met l yX2_prolong wsX2_prolong (mR 1 22) (va_Pc [.ref (ad 25 t), .int x1, .int x2] (cPre D yI yO z0 ad g)) (cQv D yI yO z0 ad gz (cF ad g)) 0 0 (cF ad g) := by
  refine Met.ofW (cc := cX2_prolong) (maxL := 3) (ret := none) (by decide) rfl ?_
  intro p e s m args below meth c s₁ B hml hv
  obtain ⟨hv0, hw, hK⟩ := hv
  have hv1 : args = [.ref (ad 25 t), .int x1, .int x2].toArray := hv0
  subst hv1
  have C : cC p s m _ meth c cX2_prolong RX2 none wsX2_prolong 3 D yI yO := ⟨B.exec, B.bytes, B.returns, atoms_spec (ws := wsX2_prolong) B.pre, findClass_of_methodNamed B.named, B.notSynchronized, hml, hK⟩
  have hl := lv_entry ([.ref (ad 25 t), .int x1, .int x2]) (n := 3) (Nat.le_of_ble_eq_true rfl)
  rw [lg_entry_eq]
  generalize (lg_sl ([.ref (ad 25 t), .int x1, .int x2]) ++ List.replicate (3 - (lg_sl ([.ref (ad 25 t), .int x1, .int x2])).length) Slot.unset).toArray = ls at hl ⊢
  have hl : lv_has ls 3 [(0, .ref (ad 25 t)), (1, .int x1), (2, .int x2)] := hl
  exact w_C_Permits_prolong_0 C h ⟨hw, fun k i hi => ⟨k, i, hi, rfl⟩, va_S.rf⟩ hl
theorem iC_Person_isOf_X3 : ∀ w ∈ wsX30, w ∈ wsX3_isOf := by decide +kernel
def fC_Person_isOf_17 (t : Nat) (g : CS) (xs0 : Int32) : Option Int32 :=
  (mbo xs0).bind fun b1 => some b1
set_option maxRecDepth 20000 in
theorem w_C_Person_isOf_17 (C : cC p s m args meth c cX3_isOf RX3 (some .boolean) wsX3_isOf 2 D yI yO) {t : Nat} {rz : Int32} {g : CS} {xs0 : Int32} (h : fC_Person_isOf_17 t g xs0 = some rz) {H : Heap} {locs : List Loc} {ls : Array Slot} (hX : cX D yI yO z0 ad g A s H locs) (hl : lv_has ls 2 [(0, .ref (ad 5 t))]) : W p l e (mR 1 20) s m args below meth c H locs 0 0 (MQ below (cQ D yI yO z0 ad rz g A) args s 0 0 A) (F0 m 17 ls [.int xs0]) := by
  obtain ⟨hx, hb, hr, hts, hown, hlocks, hml, hK⟩ := id C
  unfold fC_Person_isOf_17 at h
  obtain ⟨b1, eb1, h⟩ := mbind h
  cases h
  exact cg_retz hx hb hr hlocks hK hX dX3_isOf_17 eb1
def fC_Person_isOf (t : Nat) (g : CS) (i1 : Nat) : Option Int32 :=
  (ck g 5 t).bind fun _ =>
  (ck g 4 i1).bind fun _ =>
  (fC_Land_bit i1 g).bind fun r4 =>
  if ((sI g 5 t 8) &&& r4) = 0 then
    fC_Person_isOf_17 t g 0
  else
    fC_Person_isOf_17 t g 1
set_option maxRecDepth 20000 in
theorem w_C_Person_isOf_0 (C : cC p s m args meth c cX3_isOf RX3 (some .boolean) wsX3_isOf 2 D yI yO) {t : Nat} {rz : Int32} {g : CS} {i1 : Nat} (h : fC_Person_isOf t g i1 = some rz) {H : Heap} {locs : List Loc} {ls : Array Slot} (hX : cX D yI yO z0 ad g A s H locs) (hl : lv_has ls 2 [(0, .ref (ad 5 t)), (1, .ref (ad 4 i1))]) : W p l e (mR 1 20) s m args below meth c H locs 0 0 (MQ below (cQ D yI yO z0 ad rz g A) args s 0 0 A) (F0 m 0 ls []) := by
  obtain ⟨hx, hb, hr, hts, hown, hlocks, hml, hK⟩ := id C
  unfold fC_Person_isOf at h
  refine lv_aload_n hx hb dX3_isOf_0 rfl (lv_at hl 0 rfl) ?_
  obtain ⟨_, hv2, h⟩ := mbind h
  replace hv2 := ck_spec hv2
  refine cg_get hx hb hts iC_Person_isOf_X3 hown hK hX 5 t hv2 rfl rfl 8 (by decide) (hts (.fieldLink RX3 50 "PassageCourt$Person" "nations" "I") (by decide +kernel)) (fun _ h9 => h9) rfl dX3_isOf_1 ?_
  refine lv_aload_n hx hb dX3_isOf_4 rfl (lv_at hl 1 rfl) ?_
  obtain ⟨_, hv3, h⟩ := mbind h
  replace hv3 := ck_spec hv3
  obtain ⟨r4, er4, h⟩ := mbind h
  refine cg_callV (As := []) (rest := [.int (sI g 5 t 8)]) ⟨hx, hb, hml, hown, hts⟩ 4 i1 hv3 (ci := 2) rfl rfl (cC_Land_bit l D yI yO z0 ad er4) (cwV 0 hts gX3_isOf_X1_bit rfl rfl rfl (by decide +kernel) ⟨Nat.le_of_ble_eq_true rfl, Nat.le_of_ble_eq_true rfl⟩) hK hX rfl hl.1 rfl (Nat.le_of_ble_eq_true rfl) dX3_isOf_5 ⟨Nat.zero_le _, Nat.zero_le _⟩ (fun H locs hX => ?_)
  refine lv_iand hx hb dX3_isOf_8 ?_
  refine lv_if_eq (tgt := 16) hx hb dX3_isOf_9 (by decide) (fun c5 => ?_) (fun c5 => ?_)
  · replace h := mpos c5 h
    refine lv_iconst (v := 0) hx hb dX3_isOf_16 (by decide) ?_
    exact w_C_Person_isOf_17 C h hX (lv_sub hl [0] rfl)
  · replace h := mneg c5 h
    refine lv_iconst (v := 1) hx hb dX3_isOf_12 (by decide) ?_
    refine lv_goto (tgt := 17) hx hb dX3_isOf_13 (by decide) ?_
    exact w_C_Person_isOf_17 C h hX (lv_sub hl [0] rfl)
set_option maxRecDepth 20000 in
theorem cC_Person_isOf (l : Launch) (D : va_G) (yI yO : ClassId) (z0 : Nat) (ad : Nat → Nat → Nat) {g : CS} {t : Nat} {rz : Int32} {i1 : Nat} (h : fC_Person_isOf t g i1 = some rz) : Met l yX3_isOf wsX3_isOf (mR 1 20) (va_Pc [.ref (ad 5 t), .ref (ad 4 i1)] (cPre D yI yO z0 ad g)) (cQ D yI yO z0 ad rz g (cF ad g)) 0 0 (cF ad g) := by
  refine Met.ofW (cc := cX3_isOf) (maxL := 2) (ret := (some .boolean)) (by decide) rfl ?_
  intro p e s m args below meth c s₁ B hml hv
  obtain ⟨hv0, hw, hK⟩ := hv
  have hv1 : args = [.ref (ad 5 t), .ref (ad 4 i1)].toArray := hv0
  subst hv1
  have C : cC p s m _ meth c cX3_isOf RX3 (some .boolean) wsX3_isOf 2 D yI yO := ⟨B.exec, B.bytes, B.returns, atoms_spec (ws := wsX3_isOf) B.pre, findClass_of_methodNamed B.named, B.notSynchronized, hml, hK⟩
  have hl := lv_entry ([.ref (ad 5 t), .ref (ad 4 i1)]) (n := 2) (Nat.le_of_ble_eq_true rfl)
  rw [lg_entry_eq]
  generalize (lg_sl ([.ref (ad 5 t), .ref (ad 4 i1)]) ++ List.replicate (2 - (lg_sl ([.ref (ad 5 t), .ref (ad 4 i1)])).length) Slot.unset).toArray = ls at hl ⊢
  have hl : lv_has ls 2 [(0, .ref (ad 5 t)), (1, .ref (ad 4 i1))] := hl
  exact w_C_Person_isOf_0 C h ⟨hw, fun k i hi => ⟨k, i, hi, rfl⟩, va_S.rf⟩ hl
theorem iC_Visa_isFor_X1 : ∀ w ∈ wsX10, w ∈ wsX7_isFor := by decide +kernel
theorem iC_Visa_isFor_X7 : ∀ w ∈ wsX70, w ∈ wsX7_isFor := by decide +kernel
def fC_Visa_isFor_30 (t : Nat) (g : CS) (xs0 : Int32) : Option Int32 :=
  (mbo xs0).bind fun b1 => some b1
set_option maxRecDepth 20000 in
theorem w_C_Visa_isFor_30 (C : cC p s m args meth c cX7_isFor RX7 (some .boolean) wsX7_isFor 2 D yI yO) {t : Nat} {rz : Int32} {g : CS} {xs0 : Int32} (h : fC_Visa_isFor_30 t g xs0 = some rz) {H : Heap} {locs : List Loc} {ls : Array Slot} (hX : cX D yI yO z0 ad g A s H locs) (hl : lv_has ls 2 [(0, .ref (ad 6 t))]) : W p l e (mR 0 0) s m args below meth c H locs 0 0 (MQ below (cQ D yI yO z0 ad rz g A) args s 0 0 A) (F0 m 30 ls [.int xs0]) := by
  obtain ⟨hx, hb, hr, hts, hown, hlocks, hml, hK⟩ := id C
  unfold fC_Visa_isFor_30 at h
  obtain ⟨b1, eb1, h⟩ := mbind h
  cases h
  exact cg_retz hx hb hr hlocks hK hX dX7_isFor_30 eb1
def fC_Visa_isFor_25 (t : Nat) (g : CS) : Option Int32 :=
  fC_Visa_isFor_30 t g 1
set_option maxRecDepth 20000 in
theorem w_C_Visa_isFor_25 (C : cC p s m args meth c cX7_isFor RX7 (some .boolean) wsX7_isFor 2 D yI yO) {t : Nat} {rz : Int32} {g : CS} (h : fC_Visa_isFor_25 t g = some rz) {H : Heap} {locs : List Loc} {ls : Array Slot} (hX : cX D yI yO z0 ad g A s H locs) (hl : lv_has ls 2 [(0, .ref (ad 6 t))]) : W p l e (mR 0 0) s m args below meth c H locs 0 0 (MQ below (cQ D yI yO z0 ad rz g A) args s 0 0 A) (F0 m 25 ls []) := by
  obtain ⟨hx, hb, hr, hts, hown, hlocks, hml, hK⟩ := id C
  unfold fC_Visa_isFor_25 at h
  refine lv_iconst (v := 1) hx hb dX7_isFor_25 (by decide) ?_
  refine lv_goto (tgt := 30) hx hb dX7_isFor_26 (by decide) ?_
  exact w_C_Visa_isFor_30 C h hX (lv_sub hl [0] rfl)
def fC_Visa_isFor_29 (t : Nat) (g : CS) : Option Int32 :=
  fC_Visa_isFor_30 t g 0
set_option maxRecDepth 20000 in
theorem w_C_Visa_isFor_29 (C : cC p s m args meth c cX7_isFor RX7 (some .boolean) wsX7_isFor 2 D yI yO) {t : Nat} {rz : Int32} {g : CS} (h : fC_Visa_isFor_29 t g = some rz) {H : Heap} {locs : List Loc} {ls : Array Slot} (hX : cX D yI yO z0 ad g A s H locs) (hl : lv_has ls 2 [(0, .ref (ad 6 t))]) : W p l e (mR 0 0) s m args below meth c H locs 0 0 (MQ below (cQ D yI yO z0 ad rz g A) args s 0 0 A) (F0 m 29 ls []) := by
  obtain ⟨hx, hb, hr, hts, hown, hlocks, hml, hK⟩ := id C
  unfold fC_Visa_isFor_29 at h
  refine lv_iconst (v := 0) hx hb dX7_isFor_29 (by decide) ?_
  exact w_C_Visa_isFor_30 C h hX (lv_sub hl [0] rfl)
def fC_Visa_isFor (t : Nat) (g : CS) (i1 : Nat) : Option Int32 :=
  (ck g 6 t).bind fun _ =>
  (ck g 4 i1).bind fun _ =>
  (ck g 4 ((sI g 6 t 2).toNatClampNeg)).bind fun _ =>
  if i1 = ((sI g 6 t 2).toNatClampNeg) then
    fC_Visa_isFor_25 t g
  else
    if (sI g 4 i1 1) = 0 then
      fC_Visa_isFor_29 t g
    else
      if (sI g 4 ((sI g 6 t 2).toNatClampNeg) 1) = 0 then
        fC_Visa_isFor_29 t g
      else
        fC_Visa_isFor_25 t g
set_option maxRecDepth 20000 in
theorem w_C_Visa_isFor_0 (C : cC p s m args meth c cX7_isFor RX7 (some .boolean) wsX7_isFor 2 D yI yO) {t : Nat} {rz : Int32} {g : CS} {i1 : Nat} (h : fC_Visa_isFor t g i1 = some rz) {H : Heap} {locs : List Loc} {ls : Array Slot} (hX : cX D yI yO z0 ad g A s H locs) (hl : lv_has ls 2 [(0, .ref (ad 6 t)), (1, .ref (ad 4 i1))]) : W p l e (mR 0 0) s m args below meth c H locs 0 0 (MQ below (cQ D yI yO z0 ad rz g A) args s 0 0 A) (F0 m 0 ls []) := by
  obtain ⟨hx, hb, hr, hts, hown, hlocks, hml, hK⟩ := id C
  unfold fC_Visa_isFor at h
  refine lv_aload_n hx hb dX7_isFor_0 rfl (lv_at hl 1 rfl) ?_
  refine lv_aload_n hx hb dX7_isFor_1 rfl (lv_at hl 0 rfl) ?_
  obtain ⟨_, hv2, h⟩ := mbind h
  replace hv2 := ck_spec hv2
  refine cg_get hx hb hts iC_Visa_isFor_X7 hown hK hX 6 t hv2 rfl rfl 2 (by decide) (hts (.fieldLink RX7 21 "PassageCourt$Visa" "land" "LPassageCourt$Land;") (by decide +kernel)) (fun _ h9 => h9) rfl dX7_isFor_2 ?_
  obtain ⟨_, hv4, h⟩ := mbind h
  replace hv4 := ck_spec hv4
  obtain ⟨_, hv5, h⟩ := mbind h
  replace hv5 := ck_spec hv5
  refine lv_acmp_eq (rx := some (ad 4 i1)) (ry := some (ad 4 ((sI g 6 t 2).toNatClampNeg))) (tgt := 25) hx hb dX7_isFor_5 (by decide) (fun c3 => ?_) (fun c3 => ?_)
  · replace h := mpos ((cX_inj (k := 4) hX hv4 hv5).mp c3) h
    exact w_C_Visa_isFor_25 C h hX (lv_sub hl [0] rfl)
  · replace h := mneg (fun z => c3 ((cX_inj (k := 4) hX hv4 hv5).mpr z)) h
    refine lv_aload_n hx hb dX7_isFor_8 rfl (lv_at hl 1 rfl) ?_
    refine cg_get hx hb hts iC_Visa_isFor_X1 hown hK hX 4 i1 hv4 rfl rfl 1 (by decide) (hts (.fieldLink RX7 31 "PassageCourt$Land" "isInRegion" "Z") (by decide +kernel)) (fun _ h9 => h9) rfl dX7_isFor_9 ?_
    refine lv_if_eq (tgt := 29) hx hb dX7_isFor_12 (by decide) (fun c6 => ?_) (fun c6 => ?_)
    · replace h := mpos c6 h
      exact w_C_Visa_isFor_29 C h hX (lv_sub hl [0] rfl)
    · replace h := mneg c6 h
      refine lv_aload_n hx hb dX7_isFor_15 rfl (lv_at hl 0 rfl) ?_
      refine cg_get hx hb hts iC_Visa_isFor_X7 hown hK hX 6 t hv2 rfl rfl 2 (by decide) (hts (.fieldLink RX7 21 "PassageCourt$Visa" "land" "LPassageCourt$Land;") (by decide +kernel)) (fun _ h9 => h9) rfl dX7_isFor_16 ?_
      refine cg_get hx hb hts iC_Visa_isFor_X1 hown hK hX 4 ((sI g 6 t 2).toNatClampNeg) hv5 rfl rfl 1 (by decide) (hts (.fieldLink RX7 31 "PassageCourt$Land" "isInRegion" "Z") (by decide +kernel)) (fun _ h9 => h9) rfl dX7_isFor_19 ?_
      refine lv_if_eq (tgt := 29) hx hb dX7_isFor_22 (by decide) (fun c7 => ?_) (fun c7 => ?_)
      · replace h := mpos c7 h
        exact w_C_Visa_isFor_29 C h hX (lv_sub hl [0] rfl)
      · replace h := mneg c7 h
        exact w_C_Visa_isFor_25 C h hX (lv_sub hl [0] rfl)
set_option maxRecDepth 20000 in
theorem cC_Visa_isFor (l : Launch) (D : va_G) (yI yO : ClassId) (z0 : Nat) (ad : Nat → Nat → Nat) {g : CS} {t : Nat} {rz : Int32} {i1 : Nat} (h : fC_Visa_isFor t g i1 = some rz) : Met l yX7_isFor wsX7_isFor (mR 0 0) (va_Pc [.ref (ad 6 t), .ref (ad 4 i1)] (cPre D yI yO z0 ad g)) (cQ D yI yO z0 ad rz g (cF ad g)) 0 0 (cF ad g) := by
  refine Met.ofW (cc := cX7_isFor) (maxL := 2) (ret := (some .boolean)) (by decide) rfl ?_
  intro p e s m args below meth c s₁ B hml hv
  obtain ⟨hv0, hw, hK⟩ := hv
  have hv1 : args = [.ref (ad 6 t), .ref (ad 4 i1)].toArray := hv0
  subst hv1
  have C : cC p s m _ meth c cX7_isFor RX7 (some .boolean) wsX7_isFor 2 D yI yO := ⟨B.exec, B.bytes, B.returns, atoms_spec (ws := wsX7_isFor) B.pre, findClass_of_methodNamed B.named, B.notSynchronized, hml, hK⟩
  have hl := lv_entry ([.ref (ad 6 t), .ref (ad 4 i1)]) (n := 2) (Nat.le_of_ble_eq_true rfl)
  rw [lg_entry_eq]
  generalize (lg_sl ([.ref (ad 6 t), .ref (ad 4 i1)]) ++ List.replicate (2 - (lg_sl ([.ref (ad 6 t), .ref (ad 4 i1)])).length) Slot.unset).toArray = ls at hl ⊢
  have hl : lv_has ls 2 [(0, .ref (ad 6 t)), (1, .ref (ad 4 i1))] := hl
  exact w_C_Visa_isFor_0 C h ⟨hw, fun k i hi => ⟨k, i, hi, rfl⟩, va_S.rf⟩ hl
theorem iC_Visa_doesFor_X7 : ∀ w ∈ wsX70, w ∈ wsX7_doesFor := by decide +kernel
def fC_Visa_doesFor_44 (t : Nat) (g : CS) (xs0 : Int32) : Option Int32 :=
  (mbo xs0).bind fun b1 => some b1
set_option maxRecDepth 20000 in
theorem w_C_Visa_doesFor_44 (C : cC p s m args meth c cX7_doesFor RX7 (some .boolean) wsX7_doesFor 3 D yI yO) {t : Nat} {rz : Int32} {g : CS} {xs0 : Int32} (h : fC_Visa_doesFor_44 t g xs0 = some rz) {H : Heap} {locs : List Loc} {ls : Array Slot} (hX : cX D yI yO z0 ad g A s H locs) (hl : lv_has ls 3 [(0, .ref (ad 6 t))]) : W p l e (mR 1 21) s m args below meth c H locs 0 0 (MQ below (cQ D yI yO z0 ad rz g A) args s 0 0 A) (F0 m 44 ls [.int xs0]) := by
  obtain ⟨hx, hb, hr, hts, hown, hlocks, hml, hK⟩ := id C
  unfold fC_Visa_doesFor_44 at h
  obtain ⟨b1, eb1, h⟩ := mbind h
  cases h
  exact cg_retz hx hb hr hlocks hK hX dX7_doesFor_44 eb1
def fC_Visa_doesFor_43 (t : Nat) (g : CS) : Option Int32 :=
  fC_Visa_doesFor_44 t g 0
set_option maxRecDepth 20000 in
theorem w_C_Visa_doesFor_43 (C : cC p s m args meth c cX7_doesFor RX7 (some .boolean) wsX7_doesFor 3 D yI yO) {t : Nat} {rz : Int32} {g : CS} (h : fC_Visa_doesFor_43 t g = some rz) {H : Heap} {locs : List Loc} {ls : Array Slot} (hX : cX D yI yO z0 ad g A s H locs) (hl : lv_has ls 3 [(0, .ref (ad 6 t))]) : W p l e (mR 1 21) s m args below meth c H locs 0 0 (MQ below (cQ D yI yO z0 ad rz g A) args s 0 0 A) (F0 m 43 ls []) := by
  obtain ⟨hx, hb, hr, hts, hown, hlocks, hml, hK⟩ := id C
  unfold fC_Visa_doesFor_43 at h
  refine lv_iconst (v := 0) hx hb dX7_doesFor_43 (by decide) ?_
  exact w_C_Visa_doesFor_44 C h hX (lv_sub hl [0] rfl)
def fC_Visa_doesFor_39 (t : Nat) (g : CS) : Option Int32 :=
  fC_Visa_doesFor_44 t g 1
set_option maxRecDepth 20000 in
theorem w_C_Visa_doesFor_39 (C : cC p s m args meth c cX7_doesFor RX7 (some .boolean) wsX7_doesFor 3 D yI yO) {t : Nat} {rz : Int32} {g : CS} (h : fC_Visa_doesFor_39 t g = some rz) {H : Heap} {locs : List Loc} {ls : Array Slot} (hX : cX D yI yO z0 ad g A s H locs) (hl : lv_has ls 3 [(0, .ref (ad 6 t))]) : W p l e (mR 1 21) s m args below meth c H locs 0 0 (MQ below (cQ D yI yO z0 ad rz g A) args s 0 0 A) (F0 m 39 ls []) := by
  obtain ⟨hx, hb, hr, hts, hown, hlocks, hml, hK⟩ := id C
  unfold fC_Visa_doesFor_39 at h
  refine lv_iconst (v := 1) hx hb dX7_doesFor_39 (by decide) ?_
  refine lv_goto (tgt := 44) hx hb dX7_doesFor_40 (by decide) ?_
  exact w_C_Visa_doesFor_44 C h hX (lv_sub hl [0] rfl)
def fC_Visa_doesFor (t : Nat) (g : CS) (i1 : Nat) (x2 : Int32) : Option Int32 :=
  (ck g 6 t).bind fun _ =>
  (fC_Visa_isFor t g i1).bind fun r3 =>
  if r3 = 0 then
    fC_Visa_doesFor_43 t g
  else
    if x2 < (sI g 6 t 3) then
      fC_Visa_doesFor_43 t g
    else
      if (sI g 6 t 4) < x2 then
        fC_Visa_doesFor_43 t g
      else
        if 0 < (sI g 6 t 6) then
          fC_Visa_doesFor_39 t g
        else
          if (sI g 6 t 7) = x2 then
            fC_Visa_doesFor_39 t g
          else
            fC_Visa_doesFor_43 t g
set_option maxRecDepth 20000 in
theorem w_C_Visa_doesFor_0 (C : cC p s m args meth c cX7_doesFor RX7 (some .boolean) wsX7_doesFor 3 D yI yO) {t : Nat} {rz : Int32} {g : CS} {i1 : Nat} {x2 : Int32} (h : fC_Visa_doesFor t g i1 x2 = some rz) {H : Heap} {locs : List Loc} {ls : Array Slot} (hX : cX D yI yO z0 ad g A s H locs) (hl : lv_has ls 3 [(0, .ref (ad 6 t)), (1, .ref (ad 4 i1)), (2, .int x2)]) : W p l e (mR 1 21) s m args below meth c H locs 0 0 (MQ below (cQ D yI yO z0 ad rz g A) args s 0 0 A) (F0 m 0 ls []) := by
  obtain ⟨hx, hb, hr, hts, hown, hlocks, hml, hK⟩ := id C
  unfold fC_Visa_doesFor at h
  refine lv_aload_n hx hb dX7_doesFor_0 rfl (lv_at hl 0 rfl) ?_
  refine lv_aload_n hx hb dX7_doesFor_1 rfl (lv_at hl 1 rfl) ?_
  obtain ⟨_, hv2, h⟩ := mbind h
  replace hv2 := ck_spec hv2
  obtain ⟨r3, er3, h⟩ := mbind h
  refine cg_callV (As := [.ref (ad 4 i1)]) (rest := []) ⟨hx, hb, hml, hown, hts⟩ 6 t hv2 (ci := 8) rfl rfl (cC_Visa_isFor l D yI yO z0 ad er3) (cwV 1 hts gX7_doesFor_X7_isFor rfl rfl rfl (by decide +kernel) ⟨Nat.le_of_ble_eq_true rfl, Nat.le_of_ble_eq_true rfl⟩) hK hX rfl hl.1 rfl (Nat.le_of_ble_eq_true rfl) dX7_doesFor_2 ⟨Nat.zero_le _, Nat.zero_le _⟩ (fun H locs hX => ?_)
  refine lv_if_eq (tgt := 43) hx hb dX7_doesFor_5 (by decide) (fun c4 => ?_) (fun c4 => ?_)
  · replace h := mpos c4 h
    exact w_C_Visa_doesFor_43 C h hX (lv_sub hl [0] rfl)
  · replace h := mneg c4 h
    refine lv_aload_n hx hb dX7_doesFor_8 rfl (lv_at hl 0 rfl) ?_
    refine cg_get hx hb hts iC_Visa_doesFor_X7 hown hK hX 6 t hv2 rfl rfl 3 (by decide) (hts (.fieldLink RX7 25 "PassageCourt$Visa" "first" "I") (by decide +kernel)) (fun _ h9 => h9) rfl dX7_doesFor_9 ?_
    refine lv_iload_n hx hb dX7_doesFor_12 rfl (lv_at hl 2 rfl) ?_
    refine lv_icmp_gt (tgt := 43) hx hb dX7_doesFor_13 (by decide) (fun c5 => ?_) (fun c5 => ?_)
    · replace h := mpos c5 h
      exact w_C_Visa_doesFor_43 C h hX (lv_sub hl [0] rfl)
    · replace h := mneg c5 h
      refine lv_iload_n hx hb dX7_doesFor_16 rfl (lv_at hl 2 rfl) ?_
      refine lv_aload_n hx hb dX7_doesFor_17 rfl (lv_at hl 0 rfl) ?_
      refine cg_get hx hb hts iC_Visa_doesFor_X7 hown hK hX 6 t hv2 rfl rfl 4 (by decide) (hts (.fieldLink RX7 28 "PassageCourt$Visa" "last" "I") (by decide +kernel)) (fun _ h9 => h9) rfl dX7_doesFor_18 ?_
      refine lv_icmp_gt (tgt := 43) hx hb dX7_doesFor_21 (by decide) (fun c6 => ?_) (fun c6 => ?_)
      · replace h := mpos c6 h
        exact w_C_Visa_doesFor_43 C h hX (lv_sub hl [0] rfl)
      · replace h := mneg c6 h
        refine lv_aload_n hx hb dX7_doesFor_24 rfl (lv_at hl 0 rfl) ?_
        refine cg_get hx hb hts iC_Visa_doesFor_X7 hown hK hX 6 t hv2 rfl rfl 6 (by decide) (hts (.fieldLink RX7 41 "PassageCourt$Visa" "days" "I") (by decide +kernel)) (fun _ h9 => h9) rfl dX7_doesFor_25 ?_
        refine lv_if_gt (tgt := 39) hx hb dX7_doesFor_28 (by decide) (fun c7 => ?_) (fun c7 => ?_)
        · replace h := mpos c7 h
          exact w_C_Visa_doesFor_39 C h hX (lv_sub hl [0] rfl)
        · replace h := mneg c7 h
          refine lv_aload_n hx hb dX7_doesFor_31 rfl (lv_at hl 0 rfl) ?_
          refine cg_get hx hb hts iC_Visa_doesFor_X7 hown hK hX 6 t hv2 rfl rfl 7 (by decide) (hts (.fieldLink RX7 9 "PassageCourt$Visa" "takenDay" "I") (by decide +kernel)) (fun _ h9 => h9) rfl dX7_doesFor_32 ?_
          refine lv_iload_n hx hb dX7_doesFor_35 rfl (lv_at hl 2 rfl) ?_
          refine lv_icmp_ne (tgt := 43) hx hb dX7_doesFor_36 (by decide) (fun c8 => ?_) (fun c8 => ?_)
          · replace h := mneg c8 h
            exact w_C_Visa_doesFor_43 C h hX (lv_sub hl [0] rfl)
          · replace h := mpos c8 h
            exact w_C_Visa_doesFor_39 C h hX (lv_sub hl [0] rfl)
set_option maxRecDepth 20000 in
theorem cC_Visa_doesFor (l : Launch) (D : va_G) (yI yO : ClassId) (z0 : Nat) (ad : Nat → Nat → Nat) {g : CS} {t : Nat} {rz : Int32} {i1 : Nat} {x2 : Int32} (h : fC_Visa_doesFor t g i1 x2 = some rz) : Met l yX7_doesFor wsX7_doesFor (mR 1 21) (va_Pc [.ref (ad 6 t), .ref (ad 4 i1), .int x2] (cPre D yI yO z0 ad g)) (cQ D yI yO z0 ad rz g (cF ad g)) 0 0 (cF ad g) := by
  refine Met.ofW (cc := cX7_doesFor) (maxL := 3) (ret := (some .boolean)) (by decide) rfl ?_
  intro p e s m args below meth c s₁ B hml hv
  obtain ⟨hv0, hw, hK⟩ := hv
  have hv1 : args = [.ref (ad 6 t), .ref (ad 4 i1), .int x2].toArray := hv0
  subst hv1
  have C : cC p s m _ meth c cX7_doesFor RX7 (some .boolean) wsX7_doesFor 3 D yI yO := ⟨B.exec, B.bytes, B.returns, atoms_spec (ws := wsX7_doesFor) B.pre, findClass_of_methodNamed B.named, B.notSynchronized, hml, hK⟩
  have hl := lv_entry ([.ref (ad 6 t), .ref (ad 4 i1), .int x2]) (n := 3) (Nat.le_of_ble_eq_true rfl)
  rw [lg_entry_eq]
  generalize (lg_sl ([.ref (ad 6 t), .ref (ad 4 i1), .int x2]) ++ List.replicate (3 - (lg_sl ([.ref (ad 6 t), .ref (ad 4 i1), .int x2])).length) Slot.unset).toArray = ls at hl ⊢
  have hl : lv_has ls 3 [(0, .ref (ad 6 t)), (1, .ref (ad 4 i1)), (2, .int x2)] := hl
  exact w_C_Visa_doesFor_0 C h ⟨hw, fun k i hi => ⟨k, i, hi, rfl⟩, va_S.rf⟩ hl
theorem iC_Visa_takeDay_X7 : ∀ w ∈ wsX70, w ∈ wsX7_takeDay := by decide +kernel
def fC_Visa_takeDay_23 (t : Nat) (g : CS) : Option CS :=
  some g
set_option maxRecDepth 20000 in
theorem w_C_Visa_takeDay_23 (C : cC p s m args meth c cX7_takeDay RX7 none wsX7_takeDay 2 D yI yO) {t : Nat} {gz : CS} {g : CS} (h : fC_Visa_takeDay_23 t g = some gz) {H : Heap} {locs : List Loc} {ls : Array Slot} (hX : cX D yI yO z0 ad g A s H locs) (hl : lv_has ls 2 [(0, .ref (ad 6 t))]) : W p l e (mR 0 0) s m args below meth c H locs 0 0 (MQ below (cQv D yI yO z0 ad gz A) args s 0 0 A) (F0 m 23 ls []) := by
  obtain ⟨hx, hb, hr, hts, hown, hlocks, hml, hK⟩ := id C
  unfold fC_Visa_takeDay_23 at h
  cases h
  exact cg_retv hx hb hr hlocks hK hX dX7_takeDay_23
def fC_Visa_takeDay (t : Nat) (g : CS) (x1 : Int32) : Option CS :=
  (ck g 6 t).bind fun _ =>
  if (sI g 6 t 7) = x1 then
    fC_Visa_takeDay_23 t g
  else
    (some (uI g 6 t 7 x1)).bind fun g3 =>
    (some (uI g3 6 t 6 ((sI g3 6 t 6) - 1))).bind fun g5 =>
    fC_Visa_takeDay_23 t g5
set_option maxRecDepth 20000 in
theorem w_C_Visa_takeDay_0 (C : cC p s m args meth c cX7_takeDay RX7 none wsX7_takeDay 2 D yI yO) {t : Nat} {gz : CS} {g : CS} {x1 : Int32} (h : fC_Visa_takeDay t g x1 = some gz) {H : Heap} {locs : List Loc} {ls : Array Slot} (hX : cX D yI yO z0 ad g A s H locs) (hl : lv_has ls 2 [(0, .ref (ad 6 t)), (1, .int x1)]) : W p l e (mR 0 0) s m args below meth c H locs 0 0 (MQ below (cQv D yI yO z0 ad gz A) args s 0 0 A) (F0 m 0 ls []) := by
  obtain ⟨hx, hb, hr, hts, hown, hlocks, hml, hK⟩ := id C
  unfold fC_Visa_takeDay at h
  refine lv_aload_n hx hb dX7_takeDay_0 rfl (lv_at hl 0 rfl) ?_
  obtain ⟨_, hv1, h⟩ := mbind h
  replace hv1 := ck_spec hv1
  refine cg_get hx hb hts iC_Visa_takeDay_X7 hown hK hX 6 t hv1 rfl rfl 7 (by decide) (hts (.fieldLink RX7 9 "PassageCourt$Visa" "takenDay" "I") (by decide +kernel)) (fun _ h9 => h9) rfl dX7_takeDay_1 ?_
  refine lv_iload_n hx hb dX7_takeDay_4 rfl (lv_at hl 1 rfl) ?_
  refine lv_icmp_eq (tgt := 23) hx hb dX7_takeDay_5 (by decide) (fun c2 => ?_) (fun c2 => ?_)
  · replace h := mpos c2 h
    exact w_C_Visa_takeDay_23 C h hX (lv_sub hl [0] rfl)
  · replace h := mneg c2 h
    refine lv_aload_n hx hb dX7_takeDay_8 rfl (lv_at hl 0 rfl) ?_
    refine lv_iload_n hx hb dX7_takeDay_9 rfl (lv_at hl 1 rfl) ?_
    obtain ⟨g3, eg3, h⟩ := mbind h
    refine cg_put hx hb hts iC_Visa_takeDay_X7 tyX7 tyX7_ok nmX7 hown hK hX 6 t hv1 rfl rfl 7 (by decide) (hts (.fieldLink RX7 9 "PassageCourt$Visa" "takenDay" "I") (by decide +kernel)) (fun _ h9 => h9) rfl (by decide +kernel) rfl rfl (ty := .int) (g1 := (uI g 6 t 7 x1)) (Nat.le_of_ble_eq_true rfl) (by unfold cent; rw [sI_up]; rfl) (fun _ _ => rfl) rfl (fun _ _ hab => cent_uI yI yO ad _ _ _ hab) dX7_takeDay_10 (fun H locs hX => ?_)
    have eg3 := Option.some.inj eg3
    rw [eg3] at hX
    have hv4 : clvb g3 6 t = true := by rw [← eg3]; exact hv1
    refine lv_aload_n hx hb dX7_takeDay_13 rfl (lv_at hl 0 rfl) ?_
    refine lv_dup hx hb dX7_takeDay_14 rfl ?_
    refine cg_get hx hb hts iC_Visa_takeDay_X7 hown hK hX 6 t hv4 rfl rfl 6 (by decide) (hts (.fieldLink RX7 41 "PassageCourt$Visa" "days" "I") (by decide +kernel)) (fun _ h9 => h9) rfl dX7_takeDay_15 ?_
    refine lv_iconst (v := 1) hx hb dX7_takeDay_18 (by decide) ?_
    refine lv_isub hx hb dX7_takeDay_19 ?_
    obtain ⟨g5, eg5, h⟩ := mbind h
    refine cg_put hx hb hts iC_Visa_takeDay_X7 tyX7 tyX7_ok nmX7 hown hK hX 6 t hv4 rfl rfl 6 (by decide) (hts (.fieldLink RX7 41 "PassageCourt$Visa" "days" "I") (by decide +kernel)) (fun _ h9 => h9) rfl (by decide +kernel) rfl rfl (ty := .int) (g1 := (uI g3 6 t 6 ((sI g3 6 t 6) - 1))) (Nat.le_of_ble_eq_true rfl) (by unfold cent; rw [sI_up]; rfl) (fun _ _ => rfl) rfl (fun _ _ hab => cent_uI yI yO ad _ _ _ hab) dX7_takeDay_20 (fun H locs hX => ?_)
    have eg5 := Option.some.inj eg5
    rw [eg5] at hX
    have hv6 : clvb g5 6 t = true := by rw [← eg5]; exact hv4
    exact w_C_Visa_takeDay_23 C h hX (lv_sub hl [0] rfl)
set_option maxRecDepth 20000 in
theorem cC_Visa_takeDay (l : Launch) (D : va_G) (yI yO : ClassId) (z0 : Nat) (ad : Nat → Nat → Nat) {g : CS} {t : Nat} {gz : CS} {x1 : Int32} (h : fC_Visa_takeDay t g x1 = some gz) : Met l yX7_takeDay wsX7_takeDay (mR 0 0) (va_Pc [.ref (ad 6 t), .int x1] (cPre D yI yO z0 ad g)) (cQv D yI yO z0 ad gz (cF ad g)) 0 0 (cF ad g) := by
  refine Met.ofW (cc := cX7_takeDay) (maxL := 2) (ret := none) (by decide) rfl ?_
  intro p e s m args below meth c s₁ B hml hv
  obtain ⟨hv0, hw, hK⟩ := hv
  have hv1 : args = [.ref (ad 6 t), .int x1].toArray := hv0
  subst hv1
  have C : cC p s m _ meth c cX7_takeDay RX7 none wsX7_takeDay 2 D yI yO := ⟨B.exec, B.bytes, B.returns, atoms_spec (ws := wsX7_takeDay) B.pre, findClass_of_methodNamed B.named, B.notSynchronized, hml, hK⟩
  have hl := lv_entry ([.ref (ad 6 t), .int x1]) (n := 2) (Nat.le_of_ble_eq_true rfl)
  rw [lg_entry_eq]
  generalize (lg_sl ([.ref (ad 6 t), .int x1]) ++ List.replicate (2 - (lg_sl ([.ref (ad 6 t), .int x1])).length) Slot.unset).toArray = ls at hl ⊢
  have hl : lv_has ls 2 [(0, .ref (ad 6 t)), (1, .int x1)] := hl
  exact w_C_Visa_takeDay_0 C h ⟨hw, fun k i hi => ⟨k, i, hi, rfl⟩, va_S.rf⟩ hl
theorem iC_Request_isOpen_X4 : ∀ w ∈ wsX40, w ∈ wsX4_isOpen := by decide +kernel
def fC_Request_isOpen_28 (t : Nat) (g : CS) (xs0 : Int32) : Option Int32 :=
  (mbo xs0).bind fun b1 => some b1
set_option maxRecDepth 20000 in
theorem w_C_Request_isOpen_28 (C : cC p s m args meth c cX4_isOpen RX4 (some .boolean) wsX4_isOpen 1 D yI yO) {t : Nat} {rz : Int32} {g : CS} {xs0 : Int32} (h : fC_Request_isOpen_28 t g xs0 = some rz) {H : Heap} {locs : List Loc} {ls : Array Slot} (hX : cX D yI yO z0 ad g A s H locs) (hl : lv_has ls 1 [(0, .ref (ad 7 t))]) : W p l e (mR 0 0) s m args below meth c H locs 0 0 (MQ below (cQ D yI yO z0 ad rz g A) args s 0 0 A) (F0 m 28 ls [.int xs0]) := by
  obtain ⟨hx, hb, hr, hts, hown, hlocks, hml, hK⟩ := id C
  unfold fC_Request_isOpen_28 at h
  obtain ⟨b1, eb1, h⟩ := mbind h
  cases h
  exact cg_retz hx hb hr hlocks hK hX dX4_isOpen_28 eb1
def fC_Request_isOpen_23 (t : Nat) (g : CS) : Option Int32 :=
  fC_Request_isOpen_28 t g 1
set_option maxRecDepth 20000 in
theorem w_C_Request_isOpen_23 (C : cC p s m args meth c cX4_isOpen RX4 (some .boolean) wsX4_isOpen 1 D yI yO) {t : Nat} {rz : Int32} {g : CS} (h : fC_Request_isOpen_23 t g = some rz) {H : Heap} {locs : List Loc} {ls : Array Slot} (hX : cX D yI yO z0 ad g A s H locs) (hl : lv_has ls 1 [(0, .ref (ad 7 t))]) : W p l e (mR 0 0) s m args below meth c H locs 0 0 (MQ below (cQ D yI yO z0 ad rz g A) args s 0 0 A) (F0 m 23 ls []) := by
  obtain ⟨hx, hb, hr, hts, hown, hlocks, hml, hK⟩ := id C
  unfold fC_Request_isOpen_23 at h
  refine lv_iconst (v := 1) hx hb dX4_isOpen_23 (by decide) ?_
  refine lv_goto (tgt := 28) hx hb dX4_isOpen_24 (by decide) ?_
  exact w_C_Request_isOpen_28 C h hX (lv_sub hl [0] rfl)
def fC_Request_isOpen (t : Nat) (g : CS) : Option Int32 :=
  (ck g 7 t).bind fun _ =>
  if (sI g 7 t 5) = 0 then
    fC_Request_isOpen_23 t g
  else
    if (sI g 7 t 5) = 2 then
      fC_Request_isOpen_23 t g
    else
      if (sI g 7 t 5) = 3 then
        fC_Request_isOpen_23 t g
      else
        fC_Request_isOpen_28 t g 0
set_option maxRecDepth 20000 in
theorem w_C_Request_isOpen_0 (C : cC p s m args meth c cX4_isOpen RX4 (some .boolean) wsX4_isOpen 1 D yI yO) {t : Nat} {rz : Int32} {g : CS} (h : fC_Request_isOpen t g = some rz) {H : Heap} {locs : List Loc} {ls : Array Slot} (hX : cX D yI yO z0 ad g A s H locs) (hl : lv_has ls 1 [(0, .ref (ad 7 t))]) : W p l e (mR 0 0) s m args below meth c H locs 0 0 (MQ below (cQ D yI yO z0 ad rz g A) args s 0 0 A) (F0 m 0 ls []) := by
  obtain ⟨hx, hb, hr, hts, hown, hlocks, hml, hK⟩ := id C
  unfold fC_Request_isOpen at h
  refine lv_aload_n hx hb dX4_isOpen_0 rfl (lv_at hl 0 rfl) ?_
  obtain ⟨_, hv2, h⟩ := mbind h
  replace hv2 := ck_spec hv2
  refine cg_get hx hb hts iC_Request_isOpen_X4 hown hK hX 7 t hv2 rfl rfl 5 (by decide) (hts (.fieldLink RX4 9 "PassageCourt$Request" "state" "I") (by decide +kernel)) (fun _ h9 => h9) rfl dX4_isOpen_1 ?_
  refine lv_if_eq (tgt := 23) hx hb dX4_isOpen_4 (by decide) (fun c3 => ?_) (fun c3 => ?_)
  · replace h := mpos c3 h
    exact w_C_Request_isOpen_23 C h hX (lv_sub hl [0] rfl)
  · replace h := mneg c3 h
    refine lv_aload_n hx hb dX4_isOpen_7 rfl (lv_at hl 0 rfl) ?_
    refine cg_get hx hb hts iC_Request_isOpen_X4 hown hK hX 7 t hv2 rfl rfl 5 (by decide) (hts (.fieldLink RX4 9 "PassageCourt$Request" "state" "I") (by decide +kernel)) (fun _ h9 => h9) rfl dX4_isOpen_8 ?_
    refine lv_iconst (v := 2) hx hb dX4_isOpen_11 (by decide) ?_
    refine lv_icmp_eq (tgt := 23) hx hb dX4_isOpen_12 (by decide) (fun c4 => ?_) (fun c4 => ?_)
    · replace h := mpos c4 h
      exact w_C_Request_isOpen_23 C h hX (lv_sub hl [0] rfl)
    · replace h := mneg c4 h
      refine lv_aload_n hx hb dX4_isOpen_15 rfl (lv_at hl 0 rfl) ?_
      refine cg_get hx hb hts iC_Request_isOpen_X4 hown hK hX 7 t hv2 rfl rfl 5 (by decide) (hts (.fieldLink RX4 9 "PassageCourt$Request" "state" "I") (by decide +kernel)) (fun _ h9 => h9) rfl dX4_isOpen_16 ?_
      refine lv_iconst (v := 3) hx hb dX4_isOpen_19 (by decide) ?_
      refine lv_icmp_ne (tgt := 27) hx hb dX4_isOpen_20 (by decide) (fun c5 => ?_) (fun c5 => ?_)
      · replace h := mneg c5 h
        refine lv_iconst (v := 0) hx hb dX4_isOpen_27 (by decide) ?_
        exact w_C_Request_isOpen_28 C h hX (lv_sub hl [0] rfl)
      · replace h := mpos c5 h
        exact w_C_Request_isOpen_23 C h hX (lv_sub hl [0] rfl)
set_option maxRecDepth 20000 in
theorem cC_Request_isOpen (l : Launch) (D : va_G) (yI yO : ClassId) (z0 : Nat) (ad : Nat → Nat → Nat) {g : CS} {t : Nat} {rz : Int32} (h : fC_Request_isOpen t g = some rz) : Met l yX4_isOpen wsX4_isOpen (mR 0 0) (va_Pc [.ref (ad 7 t)] (cPre D yI yO z0 ad g)) (cQ D yI yO z0 ad rz g (cF ad g)) 0 0 (cF ad g) := by
  refine Met.ofW (cc := cX4_isOpen) (maxL := 1) (ret := (some .boolean)) (by decide) rfl ?_
  intro p e s m args below meth c s₁ B hml hv
  obtain ⟨hv0, hw, hK⟩ := hv
  have hv1 : args = [.ref (ad 7 t)].toArray := hv0
  subst hv1
  have C : cC p s m _ meth c cX4_isOpen RX4 (some .boolean) wsX4_isOpen 1 D yI yO := ⟨B.exec, B.bytes, B.returns, atoms_spec (ws := wsX4_isOpen) B.pre, findClass_of_methodNamed B.named, B.notSynchronized, hml, hK⟩
  have hl := lv_entry ([.ref (ad 7 t)]) (n := 1) (Nat.le_of_ble_eq_true rfl)
  rw [lg_entry_eq]
  generalize (lg_sl ([.ref (ad 7 t)]) ++ List.replicate (1 - (lg_sl ([.ref (ad 7 t)])).length) Slot.unset).toArray = ls at hl ⊢
  have hl : lv_has ls 1 [(0, .ref (ad 7 t))] := hl
  exact w_C_Request_isOpen_0 C h ⟨hw, fun k i hi => ⟨k, i, hi, rfl⟩, va_S.rf⟩ hl
theorem iC_Request_isWaitingFor_X4 : ∀ w ∈ wsX40, w ∈ wsX4_isWaitingFor := by decide +kernel
def fC_Request_isWaitingFor_28 (t : Nat) (g : CS) (xs0 : Int32) : Option Int32 :=
  (mbo xs0).bind fun b1 => some b1
set_option maxRecDepth 20000 in
theorem w_C_Request_isWaitingFor_28 (C : cC p s m args meth c cX4_isWaitingFor RX4 (some .boolean) wsX4_isWaitingFor 3 D yI yO) {t : Nat} {rz : Int32} {g : CS} {xs0 : Int32} (h : fC_Request_isWaitingFor_28 t g xs0 = some rz) {H : Heap} {locs : List Loc} {ls : Array Slot} (hX : cX D yI yO z0 ad g A s H locs) (hl : lv_has ls 3 [(0, .ref (ad 7 t))]) : W p l e (mR 0 0) s m args below meth c H locs 0 0 (MQ below (cQ D yI yO z0 ad rz g A) args s 0 0 A) (F0 m 28 ls [.int xs0]) := by
  obtain ⟨hx, hb, hr, hts, hown, hlocks, hml, hK⟩ := id C
  unfold fC_Request_isWaitingFor_28 at h
  obtain ⟨b1, eb1, h⟩ := mbind h
  cases h
  exact cg_retz hx hb hr hlocks hK hX dX4_isWaitingFor_28 eb1
def fC_Request_isWaitingFor_27 (t : Nat) (g : CS) : Option Int32 :=
  fC_Request_isWaitingFor_28 t g 0
set_option maxRecDepth 20000 in
theorem w_C_Request_isWaitingFor_27 (C : cC p s m args meth c cX4_isWaitingFor RX4 (some .boolean) wsX4_isWaitingFor 3 D yI yO) {t : Nat} {rz : Int32} {g : CS} (h : fC_Request_isWaitingFor_27 t g = some rz) {H : Heap} {locs : List Loc} {ls : Array Slot} (hX : cX D yI yO z0 ad g A s H locs) (hl : lv_has ls 3 [(0, .ref (ad 7 t))]) : W p l e (mR 0 0) s m args below meth c H locs 0 0 (MQ below (cQ D yI yO z0 ad rz g A) args s 0 0 A) (F0 m 27 ls []) := by
  obtain ⟨hx, hb, hr, hts, hown, hlocks, hml, hK⟩ := id C
  unfold fC_Request_isWaitingFor_27 at h
  refine lv_iconst (v := 0) hx hb dX4_isWaitingFor_27 (by decide) ?_
  exact w_C_Request_isWaitingFor_28 C h hX (lv_sub hl [0] rfl)
def fC_Request_isWaitingFor (t : Nat) (g : CS) (x1 : Int32) (x2 : Int32) : Option Int32 :=
  (ck g 7 t).bind fun _ =>
  if (sI g 7 t 5) = 0 then
    if (sI g 7 t 2) = x1 then
      if (sI g 7 t 3) = x2 then
        fC_Request_isWaitingFor_28 t g 1
      else
        fC_Request_isWaitingFor_27 t g
    else
      fC_Request_isWaitingFor_27 t g
  else
    fC_Request_isWaitingFor_27 t g
set_option maxRecDepth 20000 in
theorem w_C_Request_isWaitingFor_0 (C : cC p s m args meth c cX4_isWaitingFor RX4 (some .boolean) wsX4_isWaitingFor 3 D yI yO) {t : Nat} {rz : Int32} {g : CS} {x1 : Int32} {x2 : Int32} (h : fC_Request_isWaitingFor t g x1 x2 = some rz) {H : Heap} {locs : List Loc} {ls : Array Slot} (hX : cX D yI yO z0 ad g A s H locs) (hl : lv_has ls 3 [(0, .ref (ad 7 t)), (1, .int x1), (2, .int x2)]) : W p l e (mR 0 0) s m args below meth c H locs 0 0 (MQ below (cQ D yI yO z0 ad rz g A) args s 0 0 A) (F0 m 0 ls []) := by
  obtain ⟨hx, hb, hr, hts, hown, hlocks, hml, hK⟩ := id C
  unfold fC_Request_isWaitingFor at h
  refine lv_aload_n hx hb dX4_isWaitingFor_0 rfl (lv_at hl 0 rfl) ?_
  obtain ⟨_, hv2, h⟩ := mbind h
  replace hv2 := ck_spec hv2
  refine cg_get hx hb hts iC_Request_isWaitingFor_X4 hown hK hX 7 t hv2 rfl rfl 5 (by decide) (hts (.fieldLink RX4 9 "PassageCourt$Request" "state" "I") (by decide +kernel)) (fun _ h9 => h9) rfl dX4_isWaitingFor_1 ?_
  refine lv_if_ne (tgt := 27) hx hb dX4_isWaitingFor_4 (by decide) (fun c3 => ?_) (fun c3 => ?_)
  · replace h := mneg c3 h
    exact w_C_Request_isWaitingFor_27 C h hX (lv_sub hl [0] rfl)
  · replace h := mpos c3 h
    refine lv_aload_n hx hb dX4_isWaitingFor_7 rfl (lv_at hl 0 rfl) ?_
    refine cg_get hx hb hts iC_Request_isWaitingFor_X4 hown hK hX 7 t hv2 rfl rfl 2 (by decide) (hts (.fieldLink RX4 21 "PassageCourt$Request" "land" "I") (by decide +kernel)) (fun _ h9 => h9) rfl dX4_isWaitingFor_8 ?_
    refine lv_iload_n hx hb dX4_isWaitingFor_11 rfl (lv_at hl 1 rfl) ?_
    refine lv_icmp_ne (tgt := 27) hx hb dX4_isWaitingFor_12 (by decide) (fun c4 => ?_) (fun c4 => ?_)
    · replace h := mneg c4 h
      exact w_C_Request_isWaitingFor_27 C h hX (lv_sub hl [0] rfl)
    · replace h := mpos c4 h
      refine lv_aload_n hx hb dX4_isWaitingFor_15 rfl (lv_at hl 0 rfl) ?_
      refine cg_get hx hb hts iC_Request_isWaitingFor_X4 hown hK hX 7 t hv2 rfl rfl 3 (by decide) (hts (.fieldLink RX4 24 "PassageCourt$Request" "type" "I") (by decide +kernel)) (fun _ h9 => h9) rfl dX4_isWaitingFor_16 ?_
      refine lv_iload_n hx hb dX4_isWaitingFor_19 rfl (lv_at hl 2 rfl) ?_
      refine lv_icmp_ne (tgt := 27) hx hb dX4_isWaitingFor_20 (by decide) (fun c5 => ?_) (fun c5 => ?_)
      · replace h := mneg c5 h
        exact w_C_Request_isWaitingFor_27 C h hX (lv_sub hl [0] rfl)
      · replace h := mpos c5 h
        refine lv_iconst (v := 1) hx hb dX4_isWaitingFor_23 (by decide) ?_
        refine lv_goto (tgt := 28) hx hb dX4_isWaitingFor_24 (by decide) ?_
        exact w_C_Request_isWaitingFor_28 C h hX (lv_sub hl [0] rfl)
set_option maxRecDepth 20000 in
theorem cC_Request_isWaitingFor (l : Launch) (D : va_G) (yI yO : ClassId) (z0 : Nat) (ad : Nat → Nat → Nat) {g : CS} {t : Nat} {rz : Int32} {x1 : Int32} {x2 : Int32} (h : fC_Request_isWaitingFor t g x1 x2 = some rz) : Met l yX4_isWaitingFor wsX4_isWaitingFor (mR 0 0) (va_Pc [.ref (ad 7 t), .int x1, .int x2] (cPre D yI yO z0 ad g)) (cQ D yI yO z0 ad rz g (cF ad g)) 0 0 (cF ad g) := by
  refine Met.ofW (cc := cX4_isWaitingFor) (maxL := 3) (ret := (some .boolean)) (by decide) rfl ?_
  intro p e s m args below meth c s₁ B hml hv
  obtain ⟨hv0, hw, hK⟩ := hv
  have hv1 : args = [.ref (ad 7 t), .int x1, .int x2].toArray := hv0
  subst hv1
  have C : cC p s m _ meth c cX4_isWaitingFor RX4 (some .boolean) wsX4_isWaitingFor 3 D yI yO := ⟨B.exec, B.bytes, B.returns, atoms_spec (ws := wsX4_isWaitingFor) B.pre, findClass_of_methodNamed B.named, B.notSynchronized, hml, hK⟩
  have hl := lv_entry ([.ref (ad 7 t), .int x1, .int x2]) (n := 3) (Nat.le_of_ble_eq_true rfl)
  rw [lg_entry_eq]
  generalize (lg_sl ([.ref (ad 7 t), .int x1, .int x2]) ++ List.replicate (3 - (lg_sl ([.ref (ad 7 t), .int x1, .int x2])).length) Slot.unset).toArray = ls at hl ⊢
  have hl : lv_has ls 3 [(0, .ref (ad 7 t)), (1, .int x1), (2, .int x2)] := hl
  exact w_C_Request_isWaitingFor_0 C h ⟨hw, fun k i hi => ⟨k, i, hi, rfl⟩, va_S.rf⟩ hl
theorem iC_Request_isFollowedBy_X4 : ∀ w ∈ wsX40, w ∈ wsX4_isFollowedBy := by decide +kernel
def fC_Request_isFollowedBy_16 (t : Nat) (g : CS) (xs0 : Int32) : Option Int32 :=
  (mbo xs0).bind fun b1 => some b1
set_option maxRecDepth 20000 in
theorem w_C_Request_isFollowedBy_16 (C : cC p s m args meth c cX4_isFollowedBy RX4 (some .boolean) wsX4_isFollowedBy 2 D yI yO) {t : Nat} {rz : Int32} {g : CS} {xs0 : Int32} (h : fC_Request_isFollowedBy_16 t g xs0 = some rz) {H : Heap} {locs : List Loc} {ls : Array Slot} (hX : cX D yI yO z0 ad g A s H locs) (hl : lv_has ls 2 [(0, .ref (ad 7 t))]) : W p l e (mR 0 0) s m args below meth c H locs 0 0 (MQ below (cQ D yI yO z0 ad rz g A) args s 0 0 A) (F0 m 16 ls [.int xs0]) := by
  obtain ⟨hx, hb, hr, hts, hown, hlocks, hml, hK⟩ := id C
  unfold fC_Request_isFollowedBy_16 at h
  obtain ⟨b1, eb1, h⟩ := mbind h
  cases h
  exact cg_retz hx hb hr hlocks hK hX dX4_isFollowedBy_16 eb1
def fC_Request_isFollowedBy (t : Nat) (g : CS) (x1 : Int32) : Option Int32 :=
  (ck g 7 t).bind fun _ =>
  if ((sI g 7 t 7) &&& (1 <<< (x1 &&& 31))) = 0 then
    fC_Request_isFollowedBy_16 t g 0
  else
    fC_Request_isFollowedBy_16 t g 1
set_option maxRecDepth 20000 in
theorem w_C_Request_isFollowedBy_0 (C : cC p s m args meth c cX4_isFollowedBy RX4 (some .boolean) wsX4_isFollowedBy 2 D yI yO) {t : Nat} {rz : Int32} {g : CS} {x1 : Int32} (h : fC_Request_isFollowedBy t g x1 = some rz) {H : Heap} {locs : List Loc} {ls : Array Slot} (hX : cX D yI yO z0 ad g A s H locs) (hl : lv_has ls 2 [(0, .ref (ad 7 t)), (1, .int x1)]) : W p l e (mR 0 0) s m args below meth c H locs 0 0 (MQ below (cQ D yI yO z0 ad rz g A) args s 0 0 A) (F0 m 0 ls []) := by
  obtain ⟨hx, hb, hr, hts, hown, hlocks, hml, hK⟩ := id C
  unfold fC_Request_isFollowedBy at h
  refine lv_aload_n hx hb dX4_isFollowedBy_0 rfl (lv_at hl 0 rfl) ?_
  obtain ⟨_, hv2, h⟩ := mbind h
  replace hv2 := ck_spec hv2
  refine cg_get hx hb hts iC_Request_isFollowedBy_X4 hown hK hX 7 t hv2 rfl rfl 7 (by decide) (hts (.fieldLink RX4 30 "PassageCourt$Request" "followers" "I") (by decide +kernel)) (fun _ h9 => h9) rfl dX4_isFollowedBy_1 ?_
  refine lv_iconst (v := 1) hx hb dX4_isFollowedBy_4 (by decide) ?_
  refine lv_iload_n hx hb dX4_isFollowedBy_5 rfl (lv_at hl 1 rfl) ?_
  refine lv_ishl hx hb dX4_isFollowedBy_6 ?_
  refine lv_iand hx hb dX4_isFollowedBy_7 ?_
  refine lv_if_eq (tgt := 15) hx hb dX4_isFollowedBy_8 (by decide) (fun c3 => ?_) (fun c3 => ?_)
  · replace h := mpos c3 h
    refine lv_iconst (v := 0) hx hb dX4_isFollowedBy_15 (by decide) ?_
    exact w_C_Request_isFollowedBy_16 C h hX (lv_sub hl [0] rfl)
  · replace h := mneg c3 h
    refine lv_iconst (v := 1) hx hb dX4_isFollowedBy_11 (by decide) ?_
    refine lv_goto (tgt := 16) hx hb dX4_isFollowedBy_12 (by decide) ?_
    exact w_C_Request_isFollowedBy_16 C h hX (lv_sub hl [0] rfl)
set_option maxRecDepth 20000 in
theorem cC_Request_isFollowedBy (l : Launch) (D : va_G) (yI yO : ClassId) (z0 : Nat) (ad : Nat → Nat → Nat) {g : CS} {t : Nat} {rz : Int32} {x1 : Int32} (h : fC_Request_isFollowedBy t g x1 = some rz) : Met l yX4_isFollowedBy wsX4_isFollowedBy (mR 0 0) (va_Pc [.ref (ad 7 t), .int x1] (cPre D yI yO z0 ad g)) (cQ D yI yO z0 ad rz g (cF ad g)) 0 0 (cF ad g) := by
  refine Met.ofW (cc := cX4_isFollowedBy) (maxL := 2) (ret := (some .boolean)) (by decide) rfl ?_
  intro p e s m args below meth c s₁ B hml hv
  obtain ⟨hv0, hw, hK⟩ := hv
  have hv1 : args = [.ref (ad 7 t), .int x1].toArray := hv0
  subst hv1
  have C : cC p s m _ meth c cX4_isFollowedBy RX4 (some .boolean) wsX4_isFollowedBy 2 D yI yO := ⟨B.exec, B.bytes, B.returns, atoms_spec (ws := wsX4_isFollowedBy) B.pre, findClass_of_methodNamed B.named, B.notSynchronized, hml, hK⟩
  have hl := lv_entry ([.ref (ad 7 t), .int x1]) (n := 2) (Nat.le_of_ble_eq_true rfl)
  rw [lg_entry_eq]
  generalize (lg_sl ([.ref (ad 7 t), .int x1]) ++ List.replicate (2 - (lg_sl ([.ref (ad 7 t), .int x1])).length) Slot.unset).toArray = ls at hl ⊢
  have hl : lv_has ls 2 [(0, .ref (ad 7 t)), (1, .int x1)] := hl
  exact w_C_Request_isFollowedBy_0 C h ⟨hw, fun k i hi => ⟨k, i, hi, rfl⟩, va_S.rf⟩ hl
end GC1
