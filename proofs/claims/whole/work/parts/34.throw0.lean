section GX0
variable {p : Program} {l : Launch} {e : Env} {s : State} {m : MethodId} {args : Array Value} {below : List Frame} {meth : Method} {c : Code} {D : va_G} {yI yO : ClassId} {z0 : Nat} {ad : Nat → Nat → Nat} {A : Nat → Prop}
theorem iC_Court_landAt_X8 : ∀ w ∈ wsX80, w ∈ wsX8_landAt := by decide +kernel
theorem eC_Court_landAt_346 : ∀ w ∈ (vx_atS RX8 346 "java/lang/IndexOutOfBoundsException" ["java/lang/RuntimeException", "java/lang/Exception"]).filter goodWord, w ∈ wsX8_landAt := by decide +kernel
def fC_Court_landAt_15 (g : CS) : Option (Nat ⊕ Nat) :=
  some (.inl 0)
set_option maxRecDepth 20000 in
theorem w_C_Court_landAt_15 (C : cC p s m args meth c cX8_landAt RX8 (some (.object "PassageCourt$Land")) wsX8_landAt 2 D yI yO) {rz : Nat} {g : CS} (h : fC_Court_landAt_15 g = some (.inr rz)) {H : Heap} {locs : List Loc} {ls : Array Slot} (hX : cX D yI yO z0 ad g A s H locs) (hl : lv_has ls 2 [(0, .ref (ad 0 0))]) : W p l e (mR 3 64) s m args below meth c H locs 0 0 (MQ below (cQq D yI yO z0 ad 4 (some rz) g A) args s 0 0 A) (F0 m 15 ls []) := by
  obtain ⟨hx, hb, hr, hts, hown, hlocks, hml, hK⟩ := id C
  unfold fC_Court_landAt_15 at h
  cases h
set_option maxRecDepth 20000 in
theorem w_X_Court_landAt_15 (C : cC p s m args meth c cX8_landAt RX8 (some (.object "PassageCourt$Land")) wsX8_landAt 2 D yI yO) {Qc : Array Value → State → Outcome → State → Prop} (hlf : l.stackTraces = false) (ht : ∀ x ∈ c.exceptionTable.toList, False) (hxs : xS A s s.heap) (hA : ∀ q, s.heap.size ≤ q → A q) {ez : Nat} {g : CS} (h : fC_Court_landAt_15 g = some (.inl ez)) {H : Heap} {locs : List Loc} {ls : Array Slot} (hX : cX D yI yO z0 ad g A s H locs) (hl : lv_has ls 2 [(0, .ref (ad 0 0))]) : W p l e (xR 6 90) s m args below meth c H locs 0 0 (vx_MQ below Qc (xXC D yI yO z0 ad g ez A) args s 1 6 A) (F0 m 15 ls []) := by
  obtain ⟨hx, hb, hr, hts, hown, hlocks, hml, hK⟩ := id C
  unfold fC_Court_landAt_15 at h
  cases h
  obtain ⟨sa, hsa⟩ := hxs.2.2.1 (344, "there is no such land") (by decide +kernel)
  exact vx_throwSW hx hb hlf (own := RX8) (cls := "java/lang/IndexOutOfBoundsException") (text := "there is no such land") (names := ["java/lang/RuntimeException", "java/lang/Exception"]) (A := A) hown (by decide +kernel) (by decide +kernel) (hts (.classLink RX8 342 "java/lang/IndexOutOfBoundsException") (by decide +kernel)) (hts (.initialized "java/lang/IndexOutOfBoundsException") (by decide +kernel)) hsa (vx_hat (fun w hw => hts w (eC_Court_landAt_346 w hw)) (B := xB) (by decide +kernel) (fun w hw => va_Nw.use (xB_on w hw) (hxs.2.2.2 w hw))) (by decide +kernel) hxs.1 hxs.2.1 hX.2.2 (hl.1.trans hml.symm) dX8_landAt_15 dX8_landAt_18 dX8_landAt_19 dX8_landAt_22 dX8_landAt_25 (fun x hx => (ht x hx).elim) (Nat.le_of_ble_eq_true rfl) (Nat.le_of_ble_eq_true rfl) (Nat.le_of_ble_eq_true rfl) (Nat.le_of_ble_eq_true rfl) hlocks (fun t a1 a2 a3 => xX_post rfl hK hX t a1 a2 a3) hX.2.2.2.2 (Nat.le_refl _) (Nat.le_refl _)
def fC_Court_landAt (g : CS) (x1 : Int32) : Option (Nat ⊕ Nat) :=
  if x1 < 0 then
    fC_Court_landAt_15 g
  else
    if x1 < (nI (sN g 0)) then
      (cget g 0 x1).bind fun v3 =>
      (ck g 4 v3).bind fun _ =>
      some (.inr v3)
    else
      fC_Court_landAt_15 g
set_option maxRecDepth 20000 in
theorem w_C_Court_landAt_0 (C : cC p s m args meth c cX8_landAt RX8 (some (.object "PassageCourt$Land")) wsX8_landAt 2 D yI yO) {rz : Nat} {g : CS} {x1 : Int32} (h : fC_Court_landAt g x1 = some (.inr rz)) {H : Heap} {locs : List Loc} {ls : Array Slot} (hX : cX D yI yO z0 ad g A s H locs) (hl : lv_has ls 2 [(0, .ref (ad 0 0)), (1, .int x1)]) : W p l e (mR 3 64) s m args below meth c H locs 0 0 (MQ below (cQq D yI yO z0 ad 4 (some rz) g A) args s 0 0 A) (F0 m 0 ls []) := by
  obtain ⟨hx, hb, hr, hts, hown, hlocks, hml, hK⟩ := id C
  unfold fC_Court_landAt at h
  refine lv_iload_n hx hb dX8_landAt_0 rfl (lv_at hl 1 rfl) ?_
  refine lv_if_lt (tgt := 15) hx hb dX8_landAt_1 (by decide) (fun c1 => ?_) (fun c1 => ?_)
  · replace h := mpos c1 h
    exact w_C_Court_landAt_15 C h hX (lv_sub hl [0] rfl)
  · replace h := mneg c1 h
    refine lv_iload_n hx hb dX8_landAt_4 rfl (lv_at hl 1 rfl) ?_
    refine lv_aload_n hx hb dX8_landAt_5 rfl (lv_at hl 0 rfl) ?_
    refine cg_get hx hb hts iC_Court_landAt_X8 hown hK hX 0 0 rfl rfl rfl 0 (by decide) (hts (.fieldLink RX8 12 "PassageCourt" "lands" "Ljava/util/ArrayList;") (by decide +kernel)) (fun _ h9 => h9) rfl dX8_landAt_6 ?_
    refine cg_callV (As := []) (rest := [.int x1]) ⟨hx, hb, hml, hown, hts⟩ 1 0 rfl (ci := 0) rfl rfl (cC_List_size l D yI yO z0 ad g 0 (by decide)) (cwV 0 hts gX8_landAt_Jx4a65c_size_8abf5 rfl rfl rfl (by decide +kernel) ⟨Nat.le_of_ble_eq_true rfl, Nat.le_of_ble_eq_true rfl⟩) hK hX rfl hl.1 rfl (Nat.le_of_ble_eq_true rfl) dX8_landAt_9 ⟨Nat.zero_le _, Nat.zero_le _⟩ (fun H locs hX => ?_)
    refine lv_icmp_lt (tgt := 26) hx hb dX8_landAt_12 (by decide) (fun c2 => ?_) (fun c2 => ?_)
    · replace h := mpos c2 h
      refine lv_aload_n hx hb dX8_landAt_26 rfl (lv_at hl 0 rfl) ?_
      refine cg_get hx hb hts iC_Court_landAt_X8 hown hK hX 0 0 rfl rfl rfl 0 (by decide) (hts (.fieldLink RX8 12 "PassageCourt" "lands" "Ljava/util/ArrayList;") (by decide +kernel)) (fun _ h9 => h9) rfl dX8_landAt_27 ?_
      refine lv_iload_n hx hb dX8_landAt_30 rfl (lv_at hl 1 rfl) ?_
      obtain ⟨v3, ev3, h⟩ := mbind h
      refine cg_callVq (As := [.int x1]) (rest := []) ⟨hx, hb, hml, hown, hts⟩ 1 0 rfl (ci := 0) rfl rfl (cC_List_get l D yI yO z0 ad (by decide) ev3) (cwV 1 hts gX8_landAt_Jx4a65c_get_915e3 rfl rfl rfl (by decide +kernel) ⟨Nat.le_of_ble_eq_true rfl, Nat.le_of_ble_eq_true rfl⟩) hK hX rfl hl.1 rfl (Nat.le_of_ble_eq_true rfl) dX8_landAt_31 ⟨Nat.zero_le _, Nat.zero_le _⟩ (fun H locs hX => ?_)
      refine W.eq (g2 := F0 m 34 ls [.ref (ad 4 v3)]) rfl ?_
      obtain ⟨_, hv4, h⟩ := mbind h
      replace hv4 := ck_spec hv4
      refine cg_cast hx hb hown (hts (.classLink RX8 57 "PassageCourt$Land") (by decide +kernel)) hK hX 4 v3 hv4 (ci := 2) rfl rfl dX8_landAt_34 ?_
      cases h
      first | exact cg_retq (k := 4) (o := (some v3)) hx hb hr hlocks hK hX dX8_landAt_37 | exact cg_retq (k := 4) (o := (some rz)) hx hb hr hlocks hK hX dX8_landAt_37
    · replace h := mneg c2 h
      exact w_C_Court_landAt_15 C h hX (lv_sub hl [0] rfl)
set_option maxRecDepth 20000 in
theorem w_X_Court_landAt_0 (C : cC p s m args meth c cX8_landAt RX8 (some (.object "PassageCourt$Land")) wsX8_landAt 2 D yI yO) {Qc : Array Value → State → Outcome → State → Prop} (hlf : l.stackTraces = false) (ht : ∀ x ∈ c.exceptionTable.toList, False) (hxs : xS A s s.heap) (hA : ∀ q, s.heap.size ≤ q → A q) {ez : Nat} {g : CS} {x1 : Int32} (h : fC_Court_landAt g x1 = some (.inl ez)) {H : Heap} {locs : List Loc} {ls : Array Slot} (hX : cX D yI yO z0 ad g A s H locs) (hl : lv_has ls 2 [(0, .ref (ad 0 0)), (1, .int x1)]) : W p l e (xR 6 90) s m args below meth c H locs 0 0 (vx_MQ below Qc (xXC D yI yO z0 ad g ez A) args s 1 6 A) (F0 m 0 ls []) := by
  obtain ⟨hx, hb, hr, hts, hown, hlocks, hml, hK⟩ := id C
  unfold fC_Court_landAt at h
  refine lv_iload_n hx hb dX8_landAt_0 rfl (lv_at hl 1 rfl) ?_
  refine lv_if_lt (tgt := 15) hx hb dX8_landAt_1 (by decide) (fun c1 => ?_) (fun c1 => ?_)
  · replace h := mpos c1 h
    exact w_X_Court_landAt_15 C hlf ht hxs hA h hX (lv_sub hl [0] rfl)
  · replace h := mneg c1 h
    refine lv_iload_n hx hb dX8_landAt_4 rfl (lv_at hl 1 rfl) ?_
    refine lv_aload_n hx hb dX8_landAt_5 rfl (lv_at hl 0 rfl) ?_
    refine cg_get hx hb hts iC_Court_landAt_X8 hown hK hX 0 0 rfl rfl rfl 0 (by decide) (hts (.fieldLink RX8 12 "PassageCourt" "lands" "Ljava/util/ArrayList;") (by decide +kernel)) (fun _ h9 => h9) rfl dX8_landAt_6 ?_
    refine cg_callV (As := []) (rest := [.int x1]) ⟨hx, hb, hml, hown, hts⟩ 1 0 rfl (ci := 0) rfl rfl (cC_List_size l D yI yO z0 ad g 0 (by decide)) (cwV 0 hts gX8_landAt_Jx4a65c_size_8abf5 rfl rfl rfl (by decide +kernel) ⟨Nat.le_of_ble_eq_true rfl, Nat.le_of_ble_eq_true rfl⟩) hK hX rfl hl.1 rfl (Nat.le_of_ble_eq_true rfl) dX8_landAt_9 ⟨Nat.zero_le _, Nat.zero_le _⟩ (fun H locs hX => ?_)
    refine lv_icmp_lt (tgt := 26) hx hb dX8_landAt_12 (by decide) (fun c2 => ?_) (fun c2 => ?_)
    · replace h := mpos c2 h
      refine lv_aload_n hx hb dX8_landAt_26 rfl (lv_at hl 0 rfl) ?_
      refine cg_get hx hb hts iC_Court_landAt_X8 hown hK hX 0 0 rfl rfl rfl 0 (by decide) (hts (.fieldLink RX8 12 "PassageCourt" "lands" "Ljava/util/ArrayList;") (by decide +kernel)) (fun _ h9 => h9) rfl dX8_landAt_27 ?_
      refine lv_iload_n hx hb dX8_landAt_30 rfl (lv_at hl 1 rfl) ?_
      obtain ⟨v3, ev3, h⟩ := mbind h
      refine cg_callVq (As := [.int x1]) (rest := []) ⟨hx, hb, hml, hown, hts⟩ 1 0 rfl (ci := 0) rfl rfl (cC_List_get l D yI yO z0 ad (by decide) ev3) (cwV 1 hts gX8_landAt_Jx4a65c_get_915e3 rfl rfl rfl (by decide +kernel) ⟨Nat.le_of_ble_eq_true rfl, Nat.le_of_ble_eq_true rfl⟩) hK hX rfl hl.1 rfl (Nat.le_of_ble_eq_true rfl) dX8_landAt_31 ⟨Nat.zero_le _, Nat.zero_le _⟩ (fun H locs hX => ?_)
      refine W.eq (g2 := F0 m 34 ls [.ref (ad 4 v3)]) rfl ?_
      obtain ⟨_, hv4, h⟩ := mbind h
      replace hv4 := ck_spec hv4
      refine cg_cast hx hb hown (hts (.classLink RX8 57 "PassageCourt$Land") (by decide +kernel)) hK hX 4 v3 hv4 (ci := 2) rfl rfl dX8_landAt_34 ?_
      cases h
    · replace h := mneg c2 h
      exact w_X_Court_landAt_15 C hlf ht hxs hA h hX (lv_sub hl [0] rfl)
set_option maxRecDepth 20000 in
theorem cC_Court_landAt (l : Launch) (D : va_G) (yI yO : ClassId) (z0 : Nat) (ad : Nat → Nat → Nat) {g : CS} {rz : Nat} {x1 : Int32} (h : fC_Court_landAt g x1 = some (.inr rz)) : Met l yX8_landAt wsX8_landAt (mR 3 64) (va_Pc [.ref (ad 0 0), .int x1] (cPre D yI yO z0 ad g)) (cQq D yI yO z0 ad 4 (some rz) g (cF ad g)) 0 0 (cF ad g) := by
  refine Met.ofW (cc := cX8_landAt) (maxL := 2) (ret := (some (.object "PassageCourt$Land"))) (by decide) rfl ?_
  intro p e s m args below meth c s₁ B hml hv
  obtain ⟨hv0, hw, hK⟩ := hv
  have hv1 : args = [.ref (ad 0 0), .int x1].toArray := hv0
  subst hv1
  have C : cC p s m _ meth c cX8_landAt RX8 (some (.object "PassageCourt$Land")) wsX8_landAt 2 D yI yO := ⟨B.exec, B.bytes, B.returns, atoms_spec (ws := wsX8_landAt) B.pre, findClass_of_methodNamed B.named, B.notSynchronized, hml, hK⟩
  have hl := lv_entry ([.ref (ad 0 0), .int x1]) (n := 2) (Nat.le_of_ble_eq_true rfl)
  rw [lg_entry_eq]
  generalize (lg_sl ([.ref (ad 0 0), .int x1]) ++ List.replicate (2 - (lg_sl ([.ref (ad 0 0), .int x1])).length) Slot.unset).toArray = ls at hl ⊢
  have hl : lv_has ls 2 [(0, .ref (ad 0 0)), (1, .int x1)] := hl
  exact w_C_Court_landAt_0 C h ⟨hw, fun k i hi => ⟨k, i, hi, rfl⟩, va_S.rf⟩ hl
set_option maxRecDepth 20000 in
theorem cX_Court_landAt (l : Launch) (hlf : l.stackTraces = false) (D : va_G) (yI yO : ClassId) (z0 : Nat) (ad : Nat → Nat → Nat) {g : CS} {ez : Nat} {x1 : Int32} (sz : Nat) (h : fC_Court_landAt g x1 = some (.inl ez)) : vx_Met l yX8_landAt wsX8_landAt (xR 6 90) (va_Pc [.ref (ad 0 0), .int x1] (xPre D yI yO z0 ad g sz)) (xQ (cA ad g sz)) (xXC D yI yO z0 ad g ez (cA ad g sz)) 1 6 (cA ad g sz) := by
  refine vx_ofW (cc := cX8_landAt) (maxL := 2) (ret := (some (.object "PassageCourt$Land"))) (by decide) rfl ?_
  intro p e s m args below meth c s₁ B hml ht hv
  obtain ⟨hv0, ⟨hw, hK⟩, hsz, hxs⟩ := hv
  subst hsz
  have hv1 : args = [.ref (ad 0 0), .int x1].toArray := hv0
  subst hv1
  have C : cC p s m _ meth c cX8_landAt RX8 (some (.object "PassageCourt$Land")) wsX8_landAt 2 D yI yO := ⟨B.exec, B.bytes, B.returns, atoms_spec (ws := wsX8_landAt) B.pre, findClass_of_methodNamed B.named, B.notSynchronized, hml, hK⟩
  have hl := lv_entry ([.ref (ad 0 0), .int x1]) (n := 2) (Nat.le_of_ble_eq_true rfl)
  rw [lg_entry_eq]
  generalize (lg_sl ([.ref (ad 0 0), .int x1]) ++ List.replicate (2 - (lg_sl ([.ref (ad 0 0), .int x1])).length) Slot.unset).toArray = ls at hl ⊢
  have hl : lv_has ls 2 [(0, .ref (ad 0 0)), (1, .int x1)] := hl
  exact w_X_Court_landAt_0 C hlf ht hxs (fun q h => Or.inr h) h ⟨hw, fun k i hi => Or.inl ⟨k, i, hi, rfl⟩, va_S.rf⟩ hl
theorem iC_Court_personAt_X8 : ∀ w ∈ wsX80, w ∈ wsX8_personAt := by decide +kernel
theorem eC_Court_personAt_346 : ∀ w ∈ (vx_atS RX8 346 "java/lang/IndexOutOfBoundsException" ["java/lang/RuntimeException", "java/lang/Exception"]).filter goodWord, w ∈ wsX8_personAt := by decide +kernel
def fC_Court_personAt_15 (g : CS) : Option (Nat ⊕ Nat) :=
  some (.inl 0)
set_option maxRecDepth 20000 in
theorem w_C_Court_personAt_15 (C : cC p s m args meth c cX8_personAt RX8 (some (.object "PassageCourt$Person")) wsX8_personAt 2 D yI yO) {rz : Nat} {g : CS} (h : fC_Court_personAt_15 g = some (.inr rz)) {H : Heap} {locs : List Loc} {ls : Array Slot} (hX : cX D yI yO z0 ad g A s H locs) (hl : lv_has ls 2 [(0, .ref (ad 0 0))]) : W p l e (mR 3 64) s m args below meth c H locs 0 0 (MQ below (cQq D yI yO z0 ad 5 (some rz) g A) args s 0 0 A) (F0 m 15 ls []) := by
  obtain ⟨hx, hb, hr, hts, hown, hlocks, hml, hK⟩ := id C
  unfold fC_Court_personAt_15 at h
  cases h
set_option maxRecDepth 20000 in
theorem w_X_Court_personAt_15 (C : cC p s m args meth c cX8_personAt RX8 (some (.object "PassageCourt$Person")) wsX8_personAt 2 D yI yO) {Qc : Array Value → State → Outcome → State → Prop} (hlf : l.stackTraces = false) (ht : ∀ x ∈ c.exceptionTable.toList, False) (hxs : xS A s s.heap) (hA : ∀ q, s.heap.size ≤ q → A q) {ez : Nat} {g : CS} (h : fC_Court_personAt_15 g = some (.inl ez)) {H : Heap} {locs : List Loc} {ls : Array Slot} (hX : cX D yI yO z0 ad g A s H locs) (hl : lv_has ls 2 [(0, .ref (ad 0 0))]) : W p l e (xR 6 90) s m args below meth c H locs 0 0 (vx_MQ below Qc (xXC D yI yO z0 ad g ez A) args s 1 6 A) (F0 m 15 ls []) := by
  obtain ⟨hx, hb, hr, hts, hown, hlocks, hml, hK⟩ := id C
  unfold fC_Court_personAt_15 at h
  cases h
  obtain ⟨sa, hsa⟩ := hxs.2.2.1 (351, "there is no such person") (by decide +kernel)
  exact vx_throwSW hx hb hlf (own := RX8) (cls := "java/lang/IndexOutOfBoundsException") (text := "there is no such person") (names := ["java/lang/RuntimeException", "java/lang/Exception"]) (A := A) hown (by decide +kernel) (by decide +kernel) (hts (.classLink RX8 342 "java/lang/IndexOutOfBoundsException") (by decide +kernel)) (hts (.initialized "java/lang/IndexOutOfBoundsException") (by decide +kernel)) hsa (vx_hat (fun w hw => hts w (eC_Court_personAt_346 w hw)) (B := xB) (by decide +kernel) (fun w hw => va_Nw.use (xB_on w hw) (hxs.2.2.2 w hw))) (by decide +kernel) hxs.1 hxs.2.1 hX.2.2 (hl.1.trans hml.symm) dX8_personAt_15 dX8_personAt_18 dX8_personAt_19 dX8_personAt_22 dX8_personAt_25 (fun x hx => (ht x hx).elim) (Nat.le_of_ble_eq_true rfl) (Nat.le_of_ble_eq_true rfl) (Nat.le_of_ble_eq_true rfl) (Nat.le_of_ble_eq_true rfl) hlocks (fun t a1 a2 a3 => xX_post rfl hK hX t a1 a2 a3) hX.2.2.2.2 (Nat.le_refl _) (Nat.le_refl _)
def fC_Court_personAt (g : CS) (x1 : Int32) : Option (Nat ⊕ Nat) :=
  if x1 < 0 then
    fC_Court_personAt_15 g
  else
    if x1 < (nI (sN g 1)) then
      (cget g 1 x1).bind fun v3 =>
      (ck g 5 v3).bind fun _ =>
      some (.inr v3)
    else
      fC_Court_personAt_15 g
set_option maxRecDepth 20000 in
theorem w_C_Court_personAt_0 (C : cC p s m args meth c cX8_personAt RX8 (some (.object "PassageCourt$Person")) wsX8_personAt 2 D yI yO) {rz : Nat} {g : CS} {x1 : Int32} (h : fC_Court_personAt g x1 = some (.inr rz)) {H : Heap} {locs : List Loc} {ls : Array Slot} (hX : cX D yI yO z0 ad g A s H locs) (hl : lv_has ls 2 [(0, .ref (ad 0 0)), (1, .int x1)]) : W p l e (mR 3 64) s m args below meth c H locs 0 0 (MQ below (cQq D yI yO z0 ad 5 (some rz) g A) args s 0 0 A) (F0 m 0 ls []) := by
  obtain ⟨hx, hb, hr, hts, hown, hlocks, hml, hK⟩ := id C
  unfold fC_Court_personAt at h
  refine lv_iload_n hx hb dX8_personAt_0 rfl (lv_at hl 1 rfl) ?_
  refine lv_if_lt (tgt := 15) hx hb dX8_personAt_1 (by decide) (fun c1 => ?_) (fun c1 => ?_)
  · replace h := mpos c1 h
    exact w_C_Court_personAt_15 C h hX (lv_sub hl [0] rfl)
  · replace h := mneg c1 h
    refine lv_iload_n hx hb dX8_personAt_4 rfl (lv_at hl 1 rfl) ?_
    refine lv_aload_n hx hb dX8_personAt_5 rfl (lv_at hl 0 rfl) ?_
    refine cg_get hx hb hts iC_Court_personAt_X8 hown hK hX 0 0 rfl rfl rfl 1 (by decide) (hts (.fieldLink RX8 16 "PassageCourt" "persons" "Ljava/util/ArrayList;") (by decide +kernel)) (fun _ h9 => h9) rfl dX8_personAt_6 ?_
    refine cg_callV (As := []) (rest := [.int x1]) ⟨hx, hb, hml, hown, hts⟩ 1 1 rfl (ci := 0) rfl rfl (cC_List_size l D yI yO z0 ad g 1 (by decide)) (cwV 0 hts gX8_personAt_Jx4a65c_size_8abf5 rfl rfl rfl (by decide +kernel) ⟨Nat.le_of_ble_eq_true rfl, Nat.le_of_ble_eq_true rfl⟩) hK hX rfl hl.1 rfl (Nat.le_of_ble_eq_true rfl) dX8_personAt_9 ⟨Nat.zero_le _, Nat.zero_le _⟩ (fun H locs hX => ?_)
    refine lv_icmp_lt (tgt := 26) hx hb dX8_personAt_12 (by decide) (fun c2 => ?_) (fun c2 => ?_)
    · replace h := mpos c2 h
      refine lv_aload_n hx hb dX8_personAt_26 rfl (lv_at hl 0 rfl) ?_
      refine cg_get hx hb hts iC_Court_personAt_X8 hown hK hX 0 0 rfl rfl rfl 1 (by decide) (hts (.fieldLink RX8 16 "PassageCourt" "persons" "Ljava/util/ArrayList;") (by decide +kernel)) (fun _ h9 => h9) rfl dX8_personAt_27 ?_
      refine lv_iload_n hx hb dX8_personAt_30 rfl (lv_at hl 1 rfl) ?_
      obtain ⟨v3, ev3, h⟩ := mbind h
      refine cg_callVq (As := [.int x1]) (rest := []) ⟨hx, hb, hml, hown, hts⟩ 1 1 rfl (ci := 0) rfl rfl (cC_List_get l D yI yO z0 ad (by decide) ev3) (cwV 1 hts gX8_personAt_Jx4a65c_get_915e3 rfl rfl rfl (by decide +kernel) ⟨Nat.le_of_ble_eq_true rfl, Nat.le_of_ble_eq_true rfl⟩) hK hX rfl hl.1 rfl (Nat.le_of_ble_eq_true rfl) dX8_personAt_31 ⟨Nat.zero_le _, Nat.zero_le _⟩ (fun H locs hX => ?_)
      refine W.eq (g2 := F0 m 34 ls [.ref (ad 5 v3)]) rfl ?_
      obtain ⟨_, hv4, h⟩ := mbind h
      replace hv4 := ck_spec hv4
      refine cg_cast hx hb hown (hts (.classLink RX8 102 "PassageCourt$Person") (by decide +kernel)) hK hX 5 v3 hv4 (ci := 4) rfl rfl dX8_personAt_34 ?_
      cases h
      first | exact cg_retq (k := 5) (o := (some v3)) hx hb hr hlocks hK hX dX8_personAt_37 | exact cg_retq (k := 5) (o := (some rz)) hx hb hr hlocks hK hX dX8_personAt_37
    · replace h := mneg c2 h
      exact w_C_Court_personAt_15 C h hX (lv_sub hl [0] rfl)
set_option maxRecDepth 20000 in
theorem w_X_Court_personAt_0 (C : cC p s m args meth c cX8_personAt RX8 (some (.object "PassageCourt$Person")) wsX8_personAt 2 D yI yO) {Qc : Array Value → State → Outcome → State → Prop} (hlf : l.stackTraces = false) (ht : ∀ x ∈ c.exceptionTable.toList, False) (hxs : xS A s s.heap) (hA : ∀ q, s.heap.size ≤ q → A q) {ez : Nat} {g : CS} {x1 : Int32} (h : fC_Court_personAt g x1 = some (.inl ez)) {H : Heap} {locs : List Loc} {ls : Array Slot} (hX : cX D yI yO z0 ad g A s H locs) (hl : lv_has ls 2 [(0, .ref (ad 0 0)), (1, .int x1)]) : W p l e (xR 6 90) s m args below meth c H locs 0 0 (vx_MQ below Qc (xXC D yI yO z0 ad g ez A) args s 1 6 A) (F0 m 0 ls []) := by
  obtain ⟨hx, hb, hr, hts, hown, hlocks, hml, hK⟩ := id C
  unfold fC_Court_personAt at h
  refine lv_iload_n hx hb dX8_personAt_0 rfl (lv_at hl 1 rfl) ?_
  refine lv_if_lt (tgt := 15) hx hb dX8_personAt_1 (by decide) (fun c1 => ?_) (fun c1 => ?_)
  · replace h := mpos c1 h
    exact w_X_Court_personAt_15 C hlf ht hxs hA h hX (lv_sub hl [0] rfl)
  · replace h := mneg c1 h
    refine lv_iload_n hx hb dX8_personAt_4 rfl (lv_at hl 1 rfl) ?_
    refine lv_aload_n hx hb dX8_personAt_5 rfl (lv_at hl 0 rfl) ?_
    refine cg_get hx hb hts iC_Court_personAt_X8 hown hK hX 0 0 rfl rfl rfl 1 (by decide) (hts (.fieldLink RX8 16 "PassageCourt" "persons" "Ljava/util/ArrayList;") (by decide +kernel)) (fun _ h9 => h9) rfl dX8_personAt_6 ?_
    refine cg_callV (As := []) (rest := [.int x1]) ⟨hx, hb, hml, hown, hts⟩ 1 1 rfl (ci := 0) rfl rfl (cC_List_size l D yI yO z0 ad g 1 (by decide)) (cwV 0 hts gX8_personAt_Jx4a65c_size_8abf5 rfl rfl rfl (by decide +kernel) ⟨Nat.le_of_ble_eq_true rfl, Nat.le_of_ble_eq_true rfl⟩) hK hX rfl hl.1 rfl (Nat.le_of_ble_eq_true rfl) dX8_personAt_9 ⟨Nat.zero_le _, Nat.zero_le _⟩ (fun H locs hX => ?_)
    refine lv_icmp_lt (tgt := 26) hx hb dX8_personAt_12 (by decide) (fun c2 => ?_) (fun c2 => ?_)
    · replace h := mpos c2 h
      refine lv_aload_n hx hb dX8_personAt_26 rfl (lv_at hl 0 rfl) ?_
      refine cg_get hx hb hts iC_Court_personAt_X8 hown hK hX 0 0 rfl rfl rfl 1 (by decide) (hts (.fieldLink RX8 16 "PassageCourt" "persons" "Ljava/util/ArrayList;") (by decide +kernel)) (fun _ h9 => h9) rfl dX8_personAt_27 ?_
      refine lv_iload_n hx hb dX8_personAt_30 rfl (lv_at hl 1 rfl) ?_
      obtain ⟨v3, ev3, h⟩ := mbind h
      refine cg_callVq (As := [.int x1]) (rest := []) ⟨hx, hb, hml, hown, hts⟩ 1 1 rfl (ci := 0) rfl rfl (cC_List_get l D yI yO z0 ad (by decide) ev3) (cwV 1 hts gX8_personAt_Jx4a65c_get_915e3 rfl rfl rfl (by decide +kernel) ⟨Nat.le_of_ble_eq_true rfl, Nat.le_of_ble_eq_true rfl⟩) hK hX rfl hl.1 rfl (Nat.le_of_ble_eq_true rfl) dX8_personAt_31 ⟨Nat.zero_le _, Nat.zero_le _⟩ (fun H locs hX => ?_)
      refine W.eq (g2 := F0 m 34 ls [.ref (ad 5 v3)]) rfl ?_
      obtain ⟨_, hv4, h⟩ := mbind h
      replace hv4 := ck_spec hv4
      refine cg_cast hx hb hown (hts (.classLink RX8 102 "PassageCourt$Person") (by decide +kernel)) hK hX 5 v3 hv4 (ci := 4) rfl rfl dX8_personAt_34 ?_
      cases h
    · replace h := mneg c2 h
      exact w_X_Court_personAt_15 C hlf ht hxs hA h hX (lv_sub hl [0] rfl)
set_option maxRecDepth 20000 in
theorem cC_Court_personAt (l : Launch) (D : va_G) (yI yO : ClassId) (z0 : Nat) (ad : Nat → Nat → Nat) {g : CS} {rz : Nat} {x1 : Int32} (h : fC_Court_personAt g x1 = some (.inr rz)) : Met l yX8_personAt wsX8_personAt (mR 3 64) (va_Pc [.ref (ad 0 0), .int x1] (cPre D yI yO z0 ad g)) (cQq D yI yO z0 ad 5 (some rz) g (cF ad g)) 0 0 (cF ad g) := by
  refine Met.ofW (cc := cX8_personAt) (maxL := 2) (ret := (some (.object "PassageCourt$Person"))) (by decide) rfl ?_
  intro p e s m args below meth c s₁ B hml hv
  obtain ⟨hv0, hw, hK⟩ := hv
  have hv1 : args = [.ref (ad 0 0), .int x1].toArray := hv0
  subst hv1
  have C : cC p s m _ meth c cX8_personAt RX8 (some (.object "PassageCourt$Person")) wsX8_personAt 2 D yI yO := ⟨B.exec, B.bytes, B.returns, atoms_spec (ws := wsX8_personAt) B.pre, findClass_of_methodNamed B.named, B.notSynchronized, hml, hK⟩
  have hl := lv_entry ([.ref (ad 0 0), .int x1]) (n := 2) (Nat.le_of_ble_eq_true rfl)
  rw [lg_entry_eq]
  generalize (lg_sl ([.ref (ad 0 0), .int x1]) ++ List.replicate (2 - (lg_sl ([.ref (ad 0 0), .int x1])).length) Slot.unset).toArray = ls at hl ⊢
  have hl : lv_has ls 2 [(0, .ref (ad 0 0)), (1, .int x1)] := hl
  exact w_C_Court_personAt_0 C h ⟨hw, fun k i hi => ⟨k, i, hi, rfl⟩, va_S.rf⟩ hl
set_option maxRecDepth 20000 in
theorem cX_Court_personAt (l : Launch) (hlf : l.stackTraces = false) (D : va_G) (yI yO : ClassId) (z0 : Nat) (ad : Nat → Nat → Nat) {g : CS} {ez : Nat} {x1 : Int32} (sz : Nat) (h : fC_Court_personAt g x1 = some (.inl ez)) : vx_Met l yX8_personAt wsX8_personAt (xR 6 90) (va_Pc [.ref (ad 0 0), .int x1] (xPre D yI yO z0 ad g sz)) (xQ (cA ad g sz)) (xXC D yI yO z0 ad g ez (cA ad g sz)) 1 6 (cA ad g sz) := by
  refine vx_ofW (cc := cX8_personAt) (maxL := 2) (ret := (some (.object "PassageCourt$Person"))) (by decide) rfl ?_
  intro p e s m args below meth c s₁ B hml ht hv
  obtain ⟨hv0, ⟨hw, hK⟩, hsz, hxs⟩ := hv
  subst hsz
  have hv1 : args = [.ref (ad 0 0), .int x1].toArray := hv0
  subst hv1
  have C : cC p s m _ meth c cX8_personAt RX8 (some (.object "PassageCourt$Person")) wsX8_personAt 2 D yI yO := ⟨B.exec, B.bytes, B.returns, atoms_spec (ws := wsX8_personAt) B.pre, findClass_of_methodNamed B.named, B.notSynchronized, hml, hK⟩
  have hl := lv_entry ([.ref (ad 0 0), .int x1]) (n := 2) (Nat.le_of_ble_eq_true rfl)
  rw [lg_entry_eq]
  generalize (lg_sl ([.ref (ad 0 0), .int x1]) ++ List.replicate (2 - (lg_sl ([.ref (ad 0 0), .int x1])).length) Slot.unset).toArray = ls at hl ⊢
  have hl : lv_has ls 2 [(0, .ref (ad 0 0)), (1, .int x1)] := hl
  exact w_X_Court_personAt_0 C hlf ht hxs (fun q h => Or.inr h) h ⟨hw, fun k i hi => Or.inl ⟨k, i, hi, rfl⟩, va_S.rf⟩ hl
theorem iC_Court_visaAt_X8 : ∀ w ∈ wsX80, w ∈ wsX8_visaAt := by decide +kernel
theorem eC_Court_visaAt_346 : ∀ w ∈ (vx_atS RX8 346 "java/lang/IndexOutOfBoundsException" ["java/lang/RuntimeException", "java/lang/Exception"]).filter goodWord, w ∈ wsX8_visaAt := by decide +kernel
def fC_Court_visaAt_15 (g : CS) : Option (Nat ⊕ Nat) :=
  some (.inl 0)
set_option maxRecDepth 20000 in
theorem w_C_Court_visaAt_15 (C : cC p s m args meth c cX8_visaAt RX8 (some (.object "PassageCourt$Visa")) wsX8_visaAt 2 D yI yO) {rz : Nat} {g : CS} (h : fC_Court_visaAt_15 g = some (.inr rz)) {H : Heap} {locs : List Loc} {ls : Array Slot} (hX : cX D yI yO z0 ad g A s H locs) (hl : lv_has ls 2 [(0, .ref (ad 0 0))]) : W p l e (mR 3 64) s m args below meth c H locs 0 0 (MQ below (cQq D yI yO z0 ad 6 (some rz) g A) args s 0 0 A) (F0 m 15 ls []) := by
  obtain ⟨hx, hb, hr, hts, hown, hlocks, hml, hK⟩ := id C
  unfold fC_Court_visaAt_15 at h
  cases h
set_option maxRecDepth 20000 in
theorem w_X_Court_visaAt_15 (C : cC p s m args meth c cX8_visaAt RX8 (some (.object "PassageCourt$Visa")) wsX8_visaAt 2 D yI yO) {Qc : Array Value → State → Outcome → State → Prop} (hlf : l.stackTraces = false) (ht : ∀ x ∈ c.exceptionTable.toList, False) (hxs : xS A s s.heap) (hA : ∀ q, s.heap.size ≤ q → A q) {ez : Nat} {g : CS} (h : fC_Court_visaAt_15 g = some (.inl ez)) {H : Heap} {locs : List Loc} {ls : Array Slot} (hX : cX D yI yO z0 ad g A s H locs) (hl : lv_has ls 2 [(0, .ref (ad 0 0))]) : W p l e (xR 6 90) s m args below meth c H locs 0 0 (vx_MQ below Qc (xXC D yI yO z0 ad g ez A) args s 1 6 A) (F0 m 15 ls []) := by
  obtain ⟨hx, hb, hr, hts, hown, hlocks, hml, hK⟩ := id C
  unfold fC_Court_visaAt_15 at h
  cases h
  obtain ⟨sa, hsa⟩ := hxs.2.2.1 (353, "there is no such visa") (by decide +kernel)
  exact vx_throwSW hx hb hlf (own := RX8) (cls := "java/lang/IndexOutOfBoundsException") (text := "there is no such visa") (names := ["java/lang/RuntimeException", "java/lang/Exception"]) (A := A) hown (by decide +kernel) (by decide +kernel) (hts (.classLink RX8 342 "java/lang/IndexOutOfBoundsException") (by decide +kernel)) (hts (.initialized "java/lang/IndexOutOfBoundsException") (by decide +kernel)) hsa (vx_hat (fun w hw => hts w (eC_Court_visaAt_346 w hw)) (B := xB) (by decide +kernel) (fun w hw => va_Nw.use (xB_on w hw) (hxs.2.2.2 w hw))) (by decide +kernel) hxs.1 hxs.2.1 hX.2.2 (hl.1.trans hml.symm) dX8_visaAt_15 dX8_visaAt_18 dX8_visaAt_19 dX8_visaAt_22 dX8_visaAt_25 (fun x hx => (ht x hx).elim) (Nat.le_of_ble_eq_true rfl) (Nat.le_of_ble_eq_true rfl) (Nat.le_of_ble_eq_true rfl) (Nat.le_of_ble_eq_true rfl) hlocks (fun t a1 a2 a3 => xX_post rfl hK hX t a1 a2 a3) hX.2.2.2.2 (Nat.le_refl _) (Nat.le_refl _)
def fC_Court_visaAt (g : CS) (x1 : Int32) : Option (Nat ⊕ Nat) :=
  if x1 < 0 then
    fC_Court_visaAt_15 g
  else
    if x1 < (nI (sN g 2)) then
      (cget g 2 x1).bind fun v3 =>
      (ck g 6 v3).bind fun _ =>
      some (.inr v3)
    else
      fC_Court_visaAt_15 g
set_option maxRecDepth 20000 in
theorem w_C_Court_visaAt_0 (C : cC p s m args meth c cX8_visaAt RX8 (some (.object "PassageCourt$Visa")) wsX8_visaAt 2 D yI yO) {rz : Nat} {g : CS} {x1 : Int32} (h : fC_Court_visaAt g x1 = some (.inr rz)) {H : Heap} {locs : List Loc} {ls : Array Slot} (hX : cX D yI yO z0 ad g A s H locs) (hl : lv_has ls 2 [(0, .ref (ad 0 0)), (1, .int x1)]) : W p l e (mR 3 64) s m args below meth c H locs 0 0 (MQ below (cQq D yI yO z0 ad 6 (some rz) g A) args s 0 0 A) (F0 m 0 ls []) := by
  obtain ⟨hx, hb, hr, hts, hown, hlocks, hml, hK⟩ := id C
  unfold fC_Court_visaAt at h
  refine lv_iload_n hx hb dX8_visaAt_0 rfl (lv_at hl 1 rfl) ?_
  refine lv_if_lt (tgt := 15) hx hb dX8_visaAt_1 (by decide) (fun c1 => ?_) (fun c1 => ?_)
  · replace h := mpos c1 h
    exact w_C_Court_visaAt_15 C h hX (lv_sub hl [0] rfl)
  · replace h := mneg c1 h
    refine lv_iload_n hx hb dX8_visaAt_4 rfl (lv_at hl 1 rfl) ?_
    refine lv_aload_n hx hb dX8_visaAt_5 rfl (lv_at hl 0 rfl) ?_
    refine cg_get hx hb hts iC_Court_visaAt_X8 hown hK hX 0 0 rfl rfl rfl 2 (by decide) (hts (.fieldLink RX8 19 "PassageCourt" "visas" "Ljava/util/ArrayList;") (by decide +kernel)) (fun _ h9 => h9) rfl dX8_visaAt_6 ?_
    refine cg_callV (As := []) (rest := [.int x1]) ⟨hx, hb, hml, hown, hts⟩ 1 2 rfl (ci := 0) rfl rfl (cC_List_size l D yI yO z0 ad g 2 (by decide)) (cwV 0 hts gX8_visaAt_Jx4a65c_size_8abf5 rfl rfl rfl (by decide +kernel) ⟨Nat.le_of_ble_eq_true rfl, Nat.le_of_ble_eq_true rfl⟩) hK hX rfl hl.1 rfl (Nat.le_of_ble_eq_true rfl) dX8_visaAt_9 ⟨Nat.zero_le _, Nat.zero_le _⟩ (fun H locs hX => ?_)
    refine lv_icmp_lt (tgt := 26) hx hb dX8_visaAt_12 (by decide) (fun c2 => ?_) (fun c2 => ?_)
    · replace h := mpos c2 h
      refine lv_aload_n hx hb dX8_visaAt_26 rfl (lv_at hl 0 rfl) ?_
      refine cg_get hx hb hts iC_Court_visaAt_X8 hown hK hX 0 0 rfl rfl rfl 2 (by decide) (hts (.fieldLink RX8 19 "PassageCourt" "visas" "Ljava/util/ArrayList;") (by decide +kernel)) (fun _ h9 => h9) rfl dX8_visaAt_27 ?_
      refine lv_iload_n hx hb dX8_visaAt_30 rfl (lv_at hl 1 rfl) ?_
      obtain ⟨v3, ev3, h⟩ := mbind h
      refine cg_callVq (As := [.int x1]) (rest := []) ⟨hx, hb, hml, hown, hts⟩ 1 2 rfl (ci := 0) rfl rfl (cC_List_get l D yI yO z0 ad (by decide) ev3) (cwV 1 hts gX8_visaAt_Jx4a65c_get_915e3 rfl rfl rfl (by decide +kernel) ⟨Nat.le_of_ble_eq_true rfl, Nat.le_of_ble_eq_true rfl⟩) hK hX rfl hl.1 rfl (Nat.le_of_ble_eq_true rfl) dX8_visaAt_31 ⟨Nat.zero_le _, Nat.zero_le _⟩ (fun H locs hX => ?_)
      refine W.eq (g2 := F0 m 34 ls [.ref (ad 6 v3)]) rfl ?_
      obtain ⟨_, hv4, h⟩ := mbind h
      replace hv4 := ck_spec hv4
      refine cg_cast hx hb hown (hts (.classLink RX8 133 "PassageCourt$Visa") (by decide +kernel)) hK hX 6 v3 hv4 (ci := 8) rfl rfl dX8_visaAt_34 ?_
      cases h
      first | exact cg_retq (k := 6) (o := (some v3)) hx hb hr hlocks hK hX dX8_visaAt_37 | exact cg_retq (k := 6) (o := (some rz)) hx hb hr hlocks hK hX dX8_visaAt_37
    · replace h := mneg c2 h
      exact w_C_Court_visaAt_15 C h hX (lv_sub hl [0] rfl)
set_option maxRecDepth 20000 in
theorem w_X_Court_visaAt_0 (C : cC p s m args meth c cX8_visaAt RX8 (some (.object "PassageCourt$Visa")) wsX8_visaAt 2 D yI yO) {Qc : Array Value → State → Outcome → State → Prop} (hlf : l.stackTraces = false) (ht : ∀ x ∈ c.exceptionTable.toList, False) (hxs : xS A s s.heap) (hA : ∀ q, s.heap.size ≤ q → A q) {ez : Nat} {g : CS} {x1 : Int32} (h : fC_Court_visaAt g x1 = some (.inl ez)) {H : Heap} {locs : List Loc} {ls : Array Slot} (hX : cX D yI yO z0 ad g A s H locs) (hl : lv_has ls 2 [(0, .ref (ad 0 0)), (1, .int x1)]) : W p l e (xR 6 90) s m args below meth c H locs 0 0 (vx_MQ below Qc (xXC D yI yO z0 ad g ez A) args s 1 6 A) (F0 m 0 ls []) := by
  obtain ⟨hx, hb, hr, hts, hown, hlocks, hml, hK⟩ := id C
  unfold fC_Court_visaAt at h
  refine lv_iload_n hx hb dX8_visaAt_0 rfl (lv_at hl 1 rfl) ?_
  refine lv_if_lt (tgt := 15) hx hb dX8_visaAt_1 (by decide) (fun c1 => ?_) (fun c1 => ?_)
  · replace h := mpos c1 h
    exact w_X_Court_visaAt_15 C hlf ht hxs hA h hX (lv_sub hl [0] rfl)
  · replace h := mneg c1 h
    refine lv_iload_n hx hb dX8_visaAt_4 rfl (lv_at hl 1 rfl) ?_
    refine lv_aload_n hx hb dX8_visaAt_5 rfl (lv_at hl 0 rfl) ?_
    refine cg_get hx hb hts iC_Court_visaAt_X8 hown hK hX 0 0 rfl rfl rfl 2 (by decide) (hts (.fieldLink RX8 19 "PassageCourt" "visas" "Ljava/util/ArrayList;") (by decide +kernel)) (fun _ h9 => h9) rfl dX8_visaAt_6 ?_
    refine cg_callV (As := []) (rest := [.int x1]) ⟨hx, hb, hml, hown, hts⟩ 1 2 rfl (ci := 0) rfl rfl (cC_List_size l D yI yO z0 ad g 2 (by decide)) (cwV 0 hts gX8_visaAt_Jx4a65c_size_8abf5 rfl rfl rfl (by decide +kernel) ⟨Nat.le_of_ble_eq_true rfl, Nat.le_of_ble_eq_true rfl⟩) hK hX rfl hl.1 rfl (Nat.le_of_ble_eq_true rfl) dX8_visaAt_9 ⟨Nat.zero_le _, Nat.zero_le _⟩ (fun H locs hX => ?_)
    refine lv_icmp_lt (tgt := 26) hx hb dX8_visaAt_12 (by decide) (fun c2 => ?_) (fun c2 => ?_)
    · replace h := mpos c2 h
      refine lv_aload_n hx hb dX8_visaAt_26 rfl (lv_at hl 0 rfl) ?_
      refine cg_get hx hb hts iC_Court_visaAt_X8 hown hK hX 0 0 rfl rfl rfl 2 (by decide) (hts (.fieldLink RX8 19 "PassageCourt" "visas" "Ljava/util/ArrayList;") (by decide +kernel)) (fun _ h9 => h9) rfl dX8_visaAt_27 ?_
      refine lv_iload_n hx hb dX8_visaAt_30 rfl (lv_at hl 1 rfl) ?_
      obtain ⟨v3, ev3, h⟩ := mbind h
      refine cg_callVq (As := [.int x1]) (rest := []) ⟨hx, hb, hml, hown, hts⟩ 1 2 rfl (ci := 0) rfl rfl (cC_List_get l D yI yO z0 ad (by decide) ev3) (cwV 1 hts gX8_visaAt_Jx4a65c_get_915e3 rfl rfl rfl (by decide +kernel) ⟨Nat.le_of_ble_eq_true rfl, Nat.le_of_ble_eq_true rfl⟩) hK hX rfl hl.1 rfl (Nat.le_of_ble_eq_true rfl) dX8_visaAt_31 ⟨Nat.zero_le _, Nat.zero_le _⟩ (fun H locs hX => ?_)
      refine W.eq (g2 := F0 m 34 ls [.ref (ad 6 v3)]) rfl ?_
      obtain ⟨_, hv4, h⟩ := mbind h
      replace hv4 := ck_spec hv4
      refine cg_cast hx hb hown (hts (.classLink RX8 133 "PassageCourt$Visa") (by decide +kernel)) hK hX 6 v3 hv4 (ci := 8) rfl rfl dX8_visaAt_34 ?_
      cases h
    · replace h := mneg c2 h
      exact w_X_Court_visaAt_15 C hlf ht hxs hA h hX (lv_sub hl [0] rfl)
set_option maxRecDepth 20000 in
theorem cC_Court_visaAt (l : Launch) (D : va_G) (yI yO : ClassId) (z0 : Nat) (ad : Nat → Nat → Nat) {g : CS} {rz : Nat} {x1 : Int32} (h : fC_Court_visaAt g x1 = some (.inr rz)) : Met l yX8_visaAt wsX8_visaAt (mR 3 64) (va_Pc [.ref (ad 0 0), .int x1] (cPre D yI yO z0 ad g)) (cQq D yI yO z0 ad 6 (some rz) g (cF ad g)) 0 0 (cF ad g) := by
  refine Met.ofW (cc := cX8_visaAt) (maxL := 2) (ret := (some (.object "PassageCourt$Visa"))) (by decide) rfl ?_
  intro p e s m args below meth c s₁ B hml hv
  obtain ⟨hv0, hw, hK⟩ := hv
  have hv1 : args = [.ref (ad 0 0), .int x1].toArray := hv0
  subst hv1
  have C : cC p s m _ meth c cX8_visaAt RX8 (some (.object "PassageCourt$Visa")) wsX8_visaAt 2 D yI yO := ⟨B.exec, B.bytes, B.returns, atoms_spec (ws := wsX8_visaAt) B.pre, findClass_of_methodNamed B.named, B.notSynchronized, hml, hK⟩
  have hl := lv_entry ([.ref (ad 0 0), .int x1]) (n := 2) (Nat.le_of_ble_eq_true rfl)
  rw [lg_entry_eq]
  generalize (lg_sl ([.ref (ad 0 0), .int x1]) ++ List.replicate (2 - (lg_sl ([.ref (ad 0 0), .int x1])).length) Slot.unset).toArray = ls at hl ⊢
  have hl : lv_has ls 2 [(0, .ref (ad 0 0)), (1, .int x1)] := hl
  exact w_C_Court_visaAt_0 C h ⟨hw, fun k i hi => ⟨k, i, hi, rfl⟩, va_S.rf⟩ hl
set_option maxRecDepth 20000 in
theorem cX_Court_visaAt (l : Launch) (hlf : l.stackTraces = false) (D : va_G) (yI yO : ClassId) (z0 : Nat) (ad : Nat → Nat → Nat) {g : CS} {ez : Nat} {x1 : Int32} (sz : Nat) (h : fC_Court_visaAt g x1 = some (.inl ez)) : vx_Met l yX8_visaAt wsX8_visaAt (xR 6 90) (va_Pc [.ref (ad 0 0), .int x1] (xPre D yI yO z0 ad g sz)) (xQ (cA ad g sz)) (xXC D yI yO z0 ad g ez (cA ad g sz)) 1 6 (cA ad g sz) := by
  refine vx_ofW (cc := cX8_visaAt) (maxL := 2) (ret := (some (.object "PassageCourt$Visa"))) (by decide) rfl ?_
  intro p e s m args below meth c s₁ B hml ht hv
  obtain ⟨hv0, ⟨hw, hK⟩, hsz, hxs⟩ := hv
  subst hsz
  have hv1 : args = [.ref (ad 0 0), .int x1].toArray := hv0
  subst hv1
  have C : cC p s m _ meth c cX8_visaAt RX8 (some (.object "PassageCourt$Visa")) wsX8_visaAt 2 D yI yO := ⟨B.exec, B.bytes, B.returns, atoms_spec (ws := wsX8_visaAt) B.pre, findClass_of_methodNamed B.named, B.notSynchronized, hml, hK⟩
  have hl := lv_entry ([.ref (ad 0 0), .int x1]) (n := 2) (Nat.le_of_ble_eq_true rfl)
  rw [lg_entry_eq]
  generalize (lg_sl ([.ref (ad 0 0), .int x1]) ++ List.replicate (2 - (lg_sl ([.ref (ad 0 0), .int x1])).length) Slot.unset).toArray = ls at hl ⊢
  have hl : lv_has ls 2 [(0, .ref (ad 0 0)), (1, .int x1)] := hl
  exact w_X_Court_visaAt_0 C hlf ht hxs (fun q h => Or.inr h) h ⟨hw, fun k i hi => Or.inl ⟨k, i, hi, rfl⟩, va_S.rf⟩ hl
theorem iC_Court_requestAt_X8 : ∀ w ∈ wsX80, w ∈ wsX8_requestAt := by decide +kernel
theorem eC_Court_requestAt_346 : ∀ w ∈ (vx_atS RX8 346 "java/lang/IndexOutOfBoundsException" ["java/lang/RuntimeException", "java/lang/Exception"]).filter goodWord, w ∈ wsX8_requestAt := by decide +kernel
def fC_Court_requestAt_15 (g : CS) : Option (Nat ⊕ Nat) :=
  some (.inl 0)
set_option maxRecDepth 20000 in
theorem w_C_Court_requestAt_15 (C : cC p s m args meth c cX8_requestAt RX8 (some (.object "PassageCourt$Request")) wsX8_requestAt 2 D yI yO) {rz : Nat} {g : CS} (h : fC_Court_requestAt_15 g = some (.inr rz)) {H : Heap} {locs : List Loc} {ls : Array Slot} (hX : cX D yI yO z0 ad g A s H locs) (hl : lv_has ls 2 [(0, .ref (ad 0 0))]) : W p l e (mR 3 64) s m args below meth c H locs 0 0 (MQ below (cQq D yI yO z0 ad 7 (some rz) g A) args s 0 0 A) (F0 m 15 ls []) := by
  obtain ⟨hx, hb, hr, hts, hown, hlocks, hml, hK⟩ := id C
  unfold fC_Court_requestAt_15 at h
  cases h
set_option maxRecDepth 20000 in
theorem w_X_Court_requestAt_15 (C : cC p s m args meth c cX8_requestAt RX8 (some (.object "PassageCourt$Request")) wsX8_requestAt 2 D yI yO) {Qc : Array Value → State → Outcome → State → Prop} (hlf : l.stackTraces = false) (ht : ∀ x ∈ c.exceptionTable.toList, False) (hxs : xS A s s.heap) (hA : ∀ q, s.heap.size ≤ q → A q) {ez : Nat} {g : CS} (h : fC_Court_requestAt_15 g = some (.inl ez)) {H : Heap} {locs : List Loc} {ls : Array Slot} (hX : cX D yI yO z0 ad g A s H locs) (hl : lv_has ls 2 [(0, .ref (ad 0 0))]) : W p l e (xR 6 90) s m args below meth c H locs 0 0 (vx_MQ below Qc (xXC D yI yO z0 ad g ez A) args s 1 6 A) (F0 m 15 ls []) := by
  obtain ⟨hx, hb, hr, hts, hown, hlocks, hml, hK⟩ := id C
  unfold fC_Court_requestAt_15 at h
  cases h
  obtain ⟨sa, hsa⟩ := hxs.2.2.1 (355, "there is no such request") (by decide +kernel)
  exact vx_throwSW hx hb hlf (own := RX8) (cls := "java/lang/IndexOutOfBoundsException") (text := "there is no such request") (names := ["java/lang/RuntimeException", "java/lang/Exception"]) (A := A) hown (by decide +kernel) (by decide +kernel) (hts (.classLink RX8 342 "java/lang/IndexOutOfBoundsException") (by decide +kernel)) (hts (.initialized "java/lang/IndexOutOfBoundsException") (by decide +kernel)) hsa (vx_hat (fun w hw => hts w (eC_Court_requestAt_346 w hw)) (B := xB) (by decide +kernel) (fun w hw => va_Nw.use (xB_on w hw) (hxs.2.2.2 w hw))) (by decide +kernel) hxs.1 hxs.2.1 hX.2.2 (hl.1.trans hml.symm) dX8_requestAt_15 dX8_requestAt_18 dX8_requestAt_19 dX8_requestAt_22 dX8_requestAt_25 (fun x hx => (ht x hx).elim) (Nat.le_of_ble_eq_true rfl) (Nat.le_of_ble_eq_true rfl) (Nat.le_of_ble_eq_true rfl) (Nat.le_of_ble_eq_true rfl) hlocks (fun t a1 a2 a3 => xX_post rfl hK hX t a1 a2 a3) hX.2.2.2.2 (Nat.le_refl _) (Nat.le_refl _)
def fC_Court_requestAt (g : CS) (x1 : Int32) : Option (Nat ⊕ Nat) :=
  if x1 < 0 then
    fC_Court_requestAt_15 g
  else
    if x1 < (nI (sN g 3)) then
      (cget g 3 x1).bind fun v3 =>
      (ck g 7 v3).bind fun _ =>
      some (.inr v3)
    else
      fC_Court_requestAt_15 g
set_option maxRecDepth 20000 in
theorem w_C_Court_requestAt_0 (C : cC p s m args meth c cX8_requestAt RX8 (some (.object "PassageCourt$Request")) wsX8_requestAt 2 D yI yO) {rz : Nat} {g : CS} {x1 : Int32} (h : fC_Court_requestAt g x1 = some (.inr rz)) {H : Heap} {locs : List Loc} {ls : Array Slot} (hX : cX D yI yO z0 ad g A s H locs) (hl : lv_has ls 2 [(0, .ref (ad 0 0)), (1, .int x1)]) : W p l e (mR 3 64) s m args below meth c H locs 0 0 (MQ below (cQq D yI yO z0 ad 7 (some rz) g A) args s 0 0 A) (F0 m 0 ls []) := by
  obtain ⟨hx, hb, hr, hts, hown, hlocks, hml, hK⟩ := id C
  unfold fC_Court_requestAt at h
  refine lv_iload_n hx hb dX8_requestAt_0 rfl (lv_at hl 1 rfl) ?_
  refine lv_if_lt (tgt := 15) hx hb dX8_requestAt_1 (by decide) (fun c1 => ?_) (fun c1 => ?_)
  · replace h := mpos c1 h
    exact w_C_Court_requestAt_15 C h hX (lv_sub hl [0] rfl)
  · replace h := mneg c1 h
    refine lv_iload_n hx hb dX8_requestAt_4 rfl (lv_at hl 1 rfl) ?_
    refine lv_aload_n hx hb dX8_requestAt_5 rfl (lv_at hl 0 rfl) ?_
    refine cg_get hx hb hts iC_Court_requestAt_X8 hown hK hX 0 0 rfl rfl rfl 3 (by decide) (hts (.fieldLink RX8 22 "PassageCourt" "requests" "Ljava/util/ArrayList;") (by decide +kernel)) (fun _ h9 => h9) rfl dX8_requestAt_6 ?_
    refine cg_callV (As := []) (rest := [.int x1]) ⟨hx, hb, hml, hown, hts⟩ 1 3 rfl (ci := 0) rfl rfl (cC_List_size l D yI yO z0 ad g 3 (by decide)) (cwV 0 hts gX8_requestAt_Jx4a65c_size_8abf5 rfl rfl rfl (by decide +kernel) ⟨Nat.le_of_ble_eq_true rfl, Nat.le_of_ble_eq_true rfl⟩) hK hX rfl hl.1 rfl (Nat.le_of_ble_eq_true rfl) dX8_requestAt_9 ⟨Nat.zero_le _, Nat.zero_le _⟩ (fun H locs hX => ?_)
    refine lv_icmp_lt (tgt := 26) hx hb dX8_requestAt_12 (by decide) (fun c2 => ?_) (fun c2 => ?_)
    · replace h := mpos c2 h
      refine lv_aload_n hx hb dX8_requestAt_26 rfl (lv_at hl 0 rfl) ?_
      refine cg_get hx hb hts iC_Court_requestAt_X8 hown hK hX 0 0 rfl rfl rfl 3 (by decide) (hts (.fieldLink RX8 22 "PassageCourt" "requests" "Ljava/util/ArrayList;") (by decide +kernel)) (fun _ h9 => h9) rfl dX8_requestAt_27 ?_
      refine lv_iload_n hx hb dX8_requestAt_30 rfl (lv_at hl 1 rfl) ?_
      obtain ⟨v3, ev3, h⟩ := mbind h
      refine cg_callVq (As := [.int x1]) (rest := []) ⟨hx, hb, hml, hown, hts⟩ 1 3 rfl (ci := 0) rfl rfl (cC_List_get l D yI yO z0 ad (by decide) ev3) (cwV 1 hts gX8_requestAt_Jx4a65c_get_915e3 rfl rfl rfl (by decide +kernel) ⟨Nat.le_of_ble_eq_true rfl, Nat.le_of_ble_eq_true rfl⟩) hK hX rfl hl.1 rfl (Nat.le_of_ble_eq_true rfl) dX8_requestAt_31 ⟨Nat.zero_le _, Nat.zero_le _⟩ (fun H locs hX => ?_)
      refine W.eq (g2 := F0 m 34 ls [.ref (ad 7 v3)]) rfl ?_
      obtain ⟨_, hv4, h⟩ := mbind h
      replace hv4 := ck_spec hv4
      refine cg_cast hx hb hown (hts (.classLink RX8 238 "PassageCourt$Request") (by decide +kernel)) hK hX 7 v3 hv4 (ci := 5) rfl rfl dX8_requestAt_34 ?_
      cases h
      first | exact cg_retq (k := 7) (o := (some v3)) hx hb hr hlocks hK hX dX8_requestAt_37 | exact cg_retq (k := 7) (o := (some rz)) hx hb hr hlocks hK hX dX8_requestAt_37
    · replace h := mneg c2 h
      exact w_C_Court_requestAt_15 C h hX (lv_sub hl [0] rfl)
set_option maxRecDepth 20000 in
theorem w_X_Court_requestAt_0 (C : cC p s m args meth c cX8_requestAt RX8 (some (.object "PassageCourt$Request")) wsX8_requestAt 2 D yI yO) {Qc : Array Value → State → Outcome → State → Prop} (hlf : l.stackTraces = false) (ht : ∀ x ∈ c.exceptionTable.toList, False) (hxs : xS A s s.heap) (hA : ∀ q, s.heap.size ≤ q → A q) {ez : Nat} {g : CS} {x1 : Int32} (h : fC_Court_requestAt g x1 = some (.inl ez)) {H : Heap} {locs : List Loc} {ls : Array Slot} (hX : cX D yI yO z0 ad g A s H locs) (hl : lv_has ls 2 [(0, .ref (ad 0 0)), (1, .int x1)]) : W p l e (xR 6 90) s m args below meth c H locs 0 0 (vx_MQ below Qc (xXC D yI yO z0 ad g ez A) args s 1 6 A) (F0 m 0 ls []) := by
  obtain ⟨hx, hb, hr, hts, hown, hlocks, hml, hK⟩ := id C
  unfold fC_Court_requestAt at h
  refine lv_iload_n hx hb dX8_requestAt_0 rfl (lv_at hl 1 rfl) ?_
  refine lv_if_lt (tgt := 15) hx hb dX8_requestAt_1 (by decide) (fun c1 => ?_) (fun c1 => ?_)
  · replace h := mpos c1 h
    exact w_X_Court_requestAt_15 C hlf ht hxs hA h hX (lv_sub hl [0] rfl)
  · replace h := mneg c1 h
    refine lv_iload_n hx hb dX8_requestAt_4 rfl (lv_at hl 1 rfl) ?_
    refine lv_aload_n hx hb dX8_requestAt_5 rfl (lv_at hl 0 rfl) ?_
    refine cg_get hx hb hts iC_Court_requestAt_X8 hown hK hX 0 0 rfl rfl rfl 3 (by decide) (hts (.fieldLink RX8 22 "PassageCourt" "requests" "Ljava/util/ArrayList;") (by decide +kernel)) (fun _ h9 => h9) rfl dX8_requestAt_6 ?_
    refine cg_callV (As := []) (rest := [.int x1]) ⟨hx, hb, hml, hown, hts⟩ 1 3 rfl (ci := 0) rfl rfl (cC_List_size l D yI yO z0 ad g 3 (by decide)) (cwV 0 hts gX8_requestAt_Jx4a65c_size_8abf5 rfl rfl rfl (by decide +kernel) ⟨Nat.le_of_ble_eq_true rfl, Nat.le_of_ble_eq_true rfl⟩) hK hX rfl hl.1 rfl (Nat.le_of_ble_eq_true rfl) dX8_requestAt_9 ⟨Nat.zero_le _, Nat.zero_le _⟩ (fun H locs hX => ?_)
    refine lv_icmp_lt (tgt := 26) hx hb dX8_requestAt_12 (by decide) (fun c2 => ?_) (fun c2 => ?_)
    · replace h := mpos c2 h
      refine lv_aload_n hx hb dX8_requestAt_26 rfl (lv_at hl 0 rfl) ?_
      refine cg_get hx hb hts iC_Court_requestAt_X8 hown hK hX 0 0 rfl rfl rfl 3 (by decide) (hts (.fieldLink RX8 22 "PassageCourt" "requests" "Ljava/util/ArrayList;") (by decide +kernel)) (fun _ h9 => h9) rfl dX8_requestAt_27 ?_
      refine lv_iload_n hx hb dX8_requestAt_30 rfl (lv_at hl 1 rfl) ?_
      obtain ⟨v3, ev3, h⟩ := mbind h
      refine cg_callVq (As := [.int x1]) (rest := []) ⟨hx, hb, hml, hown, hts⟩ 1 3 rfl (ci := 0) rfl rfl (cC_List_get l D yI yO z0 ad (by decide) ev3) (cwV 1 hts gX8_requestAt_Jx4a65c_get_915e3 rfl rfl rfl (by decide +kernel) ⟨Nat.le_of_ble_eq_true rfl, Nat.le_of_ble_eq_true rfl⟩) hK hX rfl hl.1 rfl (Nat.le_of_ble_eq_true rfl) dX8_requestAt_31 ⟨Nat.zero_le _, Nat.zero_le _⟩ (fun H locs hX => ?_)
      refine W.eq (g2 := F0 m 34 ls [.ref (ad 7 v3)]) rfl ?_
      obtain ⟨_, hv4, h⟩ := mbind h
      replace hv4 := ck_spec hv4
      refine cg_cast hx hb hown (hts (.classLink RX8 238 "PassageCourt$Request") (by decide +kernel)) hK hX 7 v3 hv4 (ci := 5) rfl rfl dX8_requestAt_34 ?_
      cases h
    · replace h := mneg c2 h
      exact w_X_Court_requestAt_15 C hlf ht hxs hA h hX (lv_sub hl [0] rfl)
set_option maxRecDepth 20000 in
theorem cC_Court_requestAt (l : Launch) (D : va_G) (yI yO : ClassId) (z0 : Nat) (ad : Nat → Nat → Nat) {g : CS} {rz : Nat} {x1 : Int32} (h : fC_Court_requestAt g x1 = some (.inr rz)) : Met l yX8_requestAt wsX8_requestAt (mR 3 64) (va_Pc [.ref (ad 0 0), .int x1] (cPre D yI yO z0 ad g)) (cQq D yI yO z0 ad 7 (some rz) g (cF ad g)) 0 0 (cF ad g) := by
  refine Met.ofW (cc := cX8_requestAt) (maxL := 2) (ret := (some (.object "PassageCourt$Request"))) (by decide) rfl ?_
  intro p e s m args below meth c s₁ B hml hv
  obtain ⟨hv0, hw, hK⟩ := hv
  have hv1 : args = [.ref (ad 0 0), .int x1].toArray := hv0
  subst hv1
  have C : cC p s m _ meth c cX8_requestAt RX8 (some (.object "PassageCourt$Request")) wsX8_requestAt 2 D yI yO := ⟨B.exec, B.bytes, B.returns, atoms_spec (ws := wsX8_requestAt) B.pre, findClass_of_methodNamed B.named, B.notSynchronized, hml, hK⟩
  have hl := lv_entry ([.ref (ad 0 0), .int x1]) (n := 2) (Nat.le_of_ble_eq_true rfl)
  rw [lg_entry_eq]
  generalize (lg_sl ([.ref (ad 0 0), .int x1]) ++ List.replicate (2 - (lg_sl ([.ref (ad 0 0), .int x1])).length) Slot.unset).toArray = ls at hl ⊢
  have hl : lv_has ls 2 [(0, .ref (ad 0 0)), (1, .int x1)] := hl
  exact w_C_Court_requestAt_0 C h ⟨hw, fun k i hi => ⟨k, i, hi, rfl⟩, va_S.rf⟩ hl
set_option maxRecDepth 20000 in
theorem cX_Court_requestAt (l : Launch) (hlf : l.stackTraces = false) (D : va_G) (yI yO : ClassId) (z0 : Nat) (ad : Nat → Nat → Nat) {g : CS} {ez : Nat} {x1 : Int32} (sz : Nat) (h : fC_Court_requestAt g x1 = some (.inl ez)) : vx_Met l yX8_requestAt wsX8_requestAt (xR 6 90) (va_Pc [.ref (ad 0 0), .int x1] (xPre D yI yO z0 ad g sz)) (xQ (cA ad g sz)) (xXC D yI yO z0 ad g ez (cA ad g sz)) 1 6 (cA ad g sz) := by
  refine vx_ofW (cc := cX8_requestAt) (maxL := 2) (ret := (some (.object "PassageCourt$Request"))) (by decide) rfl ?_
  intro p e s m args below meth c s₁ B hml ht hv
  obtain ⟨hv0, ⟨hw, hK⟩, hsz, hxs⟩ := hv
  subst hsz
  have hv1 : args = [.ref (ad 0 0), .int x1].toArray := hv0
  subst hv1
  have C : cC p s m _ meth c cX8_requestAt RX8 (some (.object "PassageCourt$Request")) wsX8_requestAt 2 D yI yO := ⟨B.exec, B.bytes, B.returns, atoms_spec (ws := wsX8_requestAt) B.pre, findClass_of_methodNamed B.named, B.notSynchronized, hml, hK⟩
  have hl := lv_entry ([.ref (ad 0 0), .int x1]) (n := 2) (Nat.le_of_ble_eq_true rfl)
  rw [lg_entry_eq]
  generalize (lg_sl ([.ref (ad 0 0), .int x1]) ++ List.replicate (2 - (lg_sl ([.ref (ad 0 0), .int x1])).length) Slot.unset).toArray = ls at hl ⊢
  have hl : lv_has ls 2 [(0, .ref (ad 0 0)), (1, .int x1)] := hl
  exact w_X_Court_requestAt_0 C hlf ht hxs (fun q h => Or.inr h) h ⟨hw, fun k i hi => Or.inl ⟨k, i, hi, rfl⟩, va_S.rf⟩ hl
theorem iC_Court_refuseMorePersons_X8 : ∀ w ∈ wsX80, w ∈ wsX8_refuseMorePersons := by decide +kernel
theorem eC_Court_refuseMorePersons_56 : ∀ w ∈ (vx_atS RX8 56 "java/lang/IllegalStateException" ["java/lang/RuntimeException", "java/lang/Exception"]).filter goodWord, w ∈ wsX8_refuseMorePersons := by decide +kernel
def fC_Court_refuseMorePersons (g : CS) : Option (Nat ⊕ Unit) :=
  if (nI (sN g 1)) < 16 then
    some (.inr ())
  else
    some (.inl 2)
set_option maxRecDepth 20000 in
theorem w_C_Court_refuseMorePersons_0 (C : cC p s m args meth c cX8_refuseMorePersons RX8 none wsX8_refuseMorePersons 1 D yI yO) {g : CS} (h : fC_Court_refuseMorePersons g = some (.inr ())) {H : Heap} {locs : List Loc} {ls : Array Slot} (hX : cX D yI yO z0 ad g A s H locs) (hl : lv_has ls 1 [(0, .ref (ad 0 0))]) : W p l e (mR 1 20) s m args below meth c H locs 0 0 (MQ below (cQv D yI yO z0 ad g A) args s 0 0 A) (F0 m 0 ls []) := by
  obtain ⟨hx, hb, hr, hts, hown, hlocks, hml, hK⟩ := id C
  unfold fC_Court_refuseMorePersons at h
  refine lv_aload_n hx hb dX8_refuseMorePersons_0 rfl (lv_at hl 0 rfl) ?_
  refine cg_get hx hb hts iC_Court_refuseMorePersons_X8 hown hK hX 0 0 rfl rfl rfl 1 (by decide) (hts (.fieldLink RX8 16 "PassageCourt" "persons" "Ljava/util/ArrayList;") (by decide +kernel)) (fun _ h9 => h9) rfl dX8_refuseMorePersons_1 ?_
  refine cg_callV (As := []) (rest := []) ⟨hx, hb, hml, hown, hts⟩ 1 1 rfl (ci := 0) rfl rfl (cC_List_size l D yI yO z0 ad g 1 (by decide)) (cwV 0 hts gX8_refuseMorePersons_Jx4a65c_size_8abf5 rfl rfl rfl (by decide +kernel) ⟨Nat.le_of_ble_eq_true rfl, Nat.le_of_ble_eq_true rfl⟩) hK hX rfl hl.1 rfl (Nat.le_of_ble_eq_true rfl) dX8_refuseMorePersons_4 ⟨Nat.zero_le _, Nat.zero_le _⟩ (fun H locs hX => ?_)
  refine lv_bipush (v := 16) hx hb dX8_refuseMorePersons_7 (by decide) ?_
  refine lv_icmp_lt (tgt := 23) hx hb dX8_refuseMorePersons_9 (by decide) (fun c1 => ?_) (fun c1 => ?_)
  · replace h := mpos c1 h
    cases h
    exact cg_retv hx hb hr hlocks hK hX dX8_refuseMorePersons_23
  · replace h := mneg c1 h
    cases h
set_option maxRecDepth 20000 in
theorem w_X_Court_refuseMorePersons_0 (C : cC p s m args meth c cX8_refuseMorePersons RX8 none wsX8_refuseMorePersons 1 D yI yO) {Qc : Array Value → State → Outcome → State → Prop} (hlf : l.stackTraces = false) (ht : ∀ x ∈ c.exceptionTable.toList, False) (hxs : xS A s s.heap) (hA : ∀ q, s.heap.size ≤ q → A q) {ez : Nat} {g : CS} (h : fC_Court_refuseMorePersons g = some (.inl ez)) {H : Heap} {locs : List Loc} {ls : Array Slot} (hX : cX D yI yO z0 ad g A s H locs) (hl : lv_has ls 1 [(0, .ref (ad 0 0))]) : W p l e (xR 6 90) s m args below meth c H locs 0 0 (vx_MQ below Qc (xXC D yI yO z0 ad g ez A) args s 1 6 A) (F0 m 0 ls []) := by
  obtain ⟨hx, hb, hr, hts, hown, hlocks, hml, hK⟩ := id C
  unfold fC_Court_refuseMorePersons at h
  refine lv_aload_n hx hb dX8_refuseMorePersons_0 rfl (lv_at hl 0 rfl) ?_
  refine cg_get hx hb hts iC_Court_refuseMorePersons_X8 hown hK hX 0 0 rfl rfl rfl 1 (by decide) (hts (.fieldLink RX8 16 "PassageCourt" "persons" "Ljava/util/ArrayList;") (by decide +kernel)) (fun _ h9 => h9) rfl dX8_refuseMorePersons_1 ?_
  refine cg_callV (As := []) (rest := []) ⟨hx, hb, hml, hown, hts⟩ 1 1 rfl (ci := 0) rfl rfl (cC_List_size l D yI yO z0 ad g 1 (by decide)) (cwV 0 hts gX8_refuseMorePersons_Jx4a65c_size_8abf5 rfl rfl rfl (by decide +kernel) ⟨Nat.le_of_ble_eq_true rfl, Nat.le_of_ble_eq_true rfl⟩) hK hX rfl hl.1 rfl (Nat.le_of_ble_eq_true rfl) dX8_refuseMorePersons_4 ⟨Nat.zero_le _, Nat.zero_le _⟩ (fun H locs hX => ?_)
  refine lv_bipush (v := 16) hx hb dX8_refuseMorePersons_7 (by decide) ?_
  refine lv_icmp_lt (tgt := 23) hx hb dX8_refuseMorePersons_9 (by decide) (fun c1 => ?_) (fun c1 => ?_)
  · replace h := mpos c1 h
    cases h
  · replace h := mneg c1 h
    cases h
    obtain ⟨sa, hsa⟩ := hxs.2.2.1 (357, "there are 16 persons") (by decide +kernel)
    exact vx_throwSW hx hb hlf (own := RX8) (cls := "java/lang/IllegalStateException") (text := "there are 16 persons") (names := ["java/lang/RuntimeException", "java/lang/Exception"]) (A := A) hown (by decide +kernel) (by decide +kernel) (hts (.classLink RX8 52 "java/lang/IllegalStateException") (by decide +kernel)) (hts (.initialized "java/lang/IllegalStateException") (by decide +kernel)) hsa (vx_hat (fun w hw => hts w (eC_Court_refuseMorePersons_56 w hw)) (B := xB) (by decide +kernel) (fun w hw => va_Nw.use (xB_on w hw) (hxs.2.2.2 w hw))) (by decide +kernel) hxs.1 hxs.2.1 hX.2.2 (hl.1.trans hml.symm) dX8_refuseMorePersons_12 dX8_refuseMorePersons_15 dX8_refuseMorePersons_16 dX8_refuseMorePersons_19 dX8_refuseMorePersons_22 (fun x hx => (ht x hx).elim) (Nat.le_of_ble_eq_true rfl) (Nat.le_of_ble_eq_true rfl) (Nat.le_of_ble_eq_true rfl) (Nat.le_of_ble_eq_true rfl) hlocks (fun t a1 a2 a3 => xX_post rfl hK hX t a1 a2 a3) hX.2.2.2.2 (Nat.le_refl _) (Nat.le_refl _)
set_option maxRecDepth 20000 in
theorem cC_Court_refuseMorePersons (l : Launch) (D : va_G) (yI yO : ClassId) (z0 : Nat) (ad : Nat → Nat → Nat) {g : CS} (h : fC_Court_refuseMorePersons g = some (.inr ())) : Met l yX8_refuseMorePersons wsX8_refuseMorePersons (mR 1 20) (va_Pc [.ref (ad 0 0)] (cPre D yI yO z0 ad g)) (cQv D yI yO z0 ad g (cF ad g)) 0 0 (cF ad g) := by
  refine Met.ofW (cc := cX8_refuseMorePersons) (maxL := 1) (ret := none) (by decide) rfl ?_
  intro p e s m args below meth c s₁ B hml hv
  obtain ⟨hv0, hw, hK⟩ := hv
  have hv1 : args = [.ref (ad 0 0)].toArray := hv0
  subst hv1
  have C : cC p s m _ meth c cX8_refuseMorePersons RX8 none wsX8_refuseMorePersons 1 D yI yO := ⟨B.exec, B.bytes, B.returns, atoms_spec (ws := wsX8_refuseMorePersons) B.pre, findClass_of_methodNamed B.named, B.notSynchronized, hml, hK⟩
  have hl := lv_entry ([.ref (ad 0 0)]) (n := 1) (Nat.le_of_ble_eq_true rfl)
  rw [lg_entry_eq]
  generalize (lg_sl ([.ref (ad 0 0)]) ++ List.replicate (1 - (lg_sl ([.ref (ad 0 0)])).length) Slot.unset).toArray = ls at hl ⊢
  have hl : lv_has ls 1 [(0, .ref (ad 0 0))] := hl
  exact w_C_Court_refuseMorePersons_0 C h ⟨hw, fun k i hi => ⟨k, i, hi, rfl⟩, va_S.rf⟩ hl
set_option maxRecDepth 20000 in
theorem cX_Court_refuseMorePersons (l : Launch) (hlf : l.stackTraces = false) (D : va_G) (yI yO : ClassId) (z0 : Nat) (ad : Nat → Nat → Nat) {g : CS} {ez : Nat} (sz : Nat) (h : fC_Court_refuseMorePersons g = some (.inl ez)) : vx_Met l yX8_refuseMorePersons wsX8_refuseMorePersons (xR 6 90) (va_Pc [.ref (ad 0 0)] (xPre D yI yO z0 ad g sz)) (xQ (cA ad g sz)) (xXC D yI yO z0 ad g ez (cA ad g sz)) 1 6 (cA ad g sz) := by
  refine vx_ofW (cc := cX8_refuseMorePersons) (maxL := 1) (ret := none) (by decide) rfl ?_
  intro p e s m args below meth c s₁ B hml ht hv
  obtain ⟨hv0, ⟨hw, hK⟩, hsz, hxs⟩ := hv
  subst hsz
  have hv1 : args = [.ref (ad 0 0)].toArray := hv0
  subst hv1
  have C : cC p s m _ meth c cX8_refuseMorePersons RX8 none wsX8_refuseMorePersons 1 D yI yO := ⟨B.exec, B.bytes, B.returns, atoms_spec (ws := wsX8_refuseMorePersons) B.pre, findClass_of_methodNamed B.named, B.notSynchronized, hml, hK⟩
  have hl := lv_entry ([.ref (ad 0 0)]) (n := 1) (Nat.le_of_ble_eq_true rfl)
  rw [lg_entry_eq]
  generalize (lg_sl ([.ref (ad 0 0)]) ++ List.replicate (1 - (lg_sl ([.ref (ad 0 0)])).length) Slot.unset).toArray = ls at hl ⊢
  have hl : lv_has ls 1 [(0, .ref (ad 0 0))] := hl
  exact w_X_Court_refuseMorePersons_0 C hlf ht hxs (fun q h => Or.inr h) h ⟨hw, fun k i hi => Or.inl ⟨k, i, hi, rfl⟩, va_S.rf⟩ hl
theorem iC_Court_refuseOneInALand_X3 : ∀ w ∈ wsX30, w ∈ wsX8_refuseOneInALand := by decide +kernel
theorem eC_Court_refuseOneInALand_56 : ∀ w ∈ (vx_atS RX8 56 "java/lang/IllegalStateException" ["java/lang/RuntimeException", "java/lang/Exception"]).filter goodWord, w ∈ wsX8_refuseOneInALand := by decide +kernel
def fC_Court_refuseOneInALand (g : CS) (i1 : Nat) : Option (Nat ⊕ Unit) :=
  (ck g 5 i1).bind fun _ =>
  om (sJ g 5 i1 9) (
    some (.inr ()))
    fun v3 =>
    some (.inl 2)
set_option maxRecDepth 20000 in
theorem w_C_Court_refuseOneInALand_0 (C : cC p s m args meth c cX8_refuseOneInALand RX8 none wsX8_refuseOneInALand 2 D yI yO) {g : CS} {i1 : Nat} (h : fC_Court_refuseOneInALand g i1 = some (.inr ())) {H : Heap} {locs : List Loc} {ls : Array Slot} (hX : cX D yI yO z0 ad g A s H locs) (hl : lv_has ls 2 [(0, .ref (ad 0 0)), (1, .ref (ad 5 i1))]) : W p l e (mR 0 0) s m args below meth c H locs 0 0 (MQ below (cQv D yI yO z0 ad g A) args s 0 0 A) (F0 m 0 ls []) := by
  obtain ⟨hx, hb, hr, hts, hown, hlocks, hml, hK⟩ := id C
  unfold fC_Court_refuseOneInALand at h
  refine lv_aload_n hx hb dX8_refuseOneInALand_0 rfl (lv_at hl 1 rfl) ?_
  obtain ⟨_, hv1, h⟩ := mbind h
  replace hv1 := ck_spec hv1
  rcases ho2 : sJ g 5 i1 9 with _ | v3
  · replace h := om_n ho2 h
    refine cg_get hx hb hts iC_Court_refuseOneInALand_X3 hown hK hX 5 i1 hv1 rfl rfl 9 (by decide) (hts (.fieldLink RX8 110 "PassageCourt$Person" "there" "LPassageCourt$Land;") (by decide +kernel)) (fun _ h9 => h9) (v := .null) (by rw [ho2]; rfl) dX8_refuseOneInALand_1 ?_
    refine lv_ifnullN (tgt := 18) hx hb dX8_refuseOneInALand_4 (by decide) ?_
    cases h
    exact cg_retv hx hb hr hlocks hK hX dX8_refuseOneInALand_18
  · replace h := om_s ho2 h
    refine cg_get hx hb hts iC_Court_refuseOneInALand_X3 hown hK hX 5 i1 hv1 rfl rfl 9 (by decide) (hts (.fieldLink RX8 110 "PassageCourt$Person" "there" "LPassageCourt$Land;") (by decide +kernel)) (fun _ h9 => h9) (v := .ref (ad 4 v3)) (by rw [ho2]; rfl) dX8_refuseOneInALand_1 ?_
    refine lv_ifnull hx hb dX8_refuseOneInALand_4 ?_
    cases h
set_option maxRecDepth 20000 in
theorem w_X_Court_refuseOneInALand_0 (C : cC p s m args meth c cX8_refuseOneInALand RX8 none wsX8_refuseOneInALand 2 D yI yO) {Qc : Array Value → State → Outcome → State → Prop} (hlf : l.stackTraces = false) (ht : ∀ x ∈ c.exceptionTable.toList, False) (hxs : xS A s s.heap) (hA : ∀ q, s.heap.size ≤ q → A q) {ez : Nat} {g : CS} {i1 : Nat} (h : fC_Court_refuseOneInALand g i1 = some (.inl ez)) {H : Heap} {locs : List Loc} {ls : Array Slot} (hX : cX D yI yO z0 ad g A s H locs) (hl : lv_has ls 2 [(0, .ref (ad 0 0)), (1, .ref (ad 5 i1))]) : W p l e (xR 6 90) s m args below meth c H locs 0 0 (vx_MQ below Qc (xXC D yI yO z0 ad g ez A) args s 1 6 A) (F0 m 0 ls []) := by
  obtain ⟨hx, hb, hr, hts, hown, hlocks, hml, hK⟩ := id C
  unfold fC_Court_refuseOneInALand at h
  refine lv_aload_n hx hb dX8_refuseOneInALand_0 rfl (lv_at hl 1 rfl) ?_
  obtain ⟨_, hv1, h⟩ := mbind h
  replace hv1 := ck_spec hv1
  rcases ho2 : sJ g 5 i1 9 with _ | v3
  · replace h := om_n ho2 h
    refine cg_get hx hb hts iC_Court_refuseOneInALand_X3 hown hK hX 5 i1 hv1 rfl rfl 9 (by decide) (hts (.fieldLink RX8 110 "PassageCourt$Person" "there" "LPassageCourt$Land;") (by decide +kernel)) (fun _ h9 => h9) (v := .null) (by rw [ho2]; rfl) dX8_refuseOneInALand_1 ?_
    refine lv_ifnullN (tgt := 18) hx hb dX8_refuseOneInALand_4 (by decide) ?_
    cases h
  · replace h := om_s ho2 h
    refine cg_get hx hb hts iC_Court_refuseOneInALand_X3 hown hK hX 5 i1 hv1 rfl rfl 9 (by decide) (hts (.fieldLink RX8 110 "PassageCourt$Person" "there" "LPassageCourt$Land;") (by decide +kernel)) (fun _ h9 => h9) (v := .ref (ad 4 v3)) (by rw [ho2]; rfl) dX8_refuseOneInALand_1 ?_
    refine lv_ifnull hx hb dX8_refuseOneInALand_4 ?_
    cases h
    obtain ⟨sa, hsa⟩ := hxs.2.2.1 (359, "this one is in a land") (by decide +kernel)
    exact vx_throwSW hx hb hlf (own := RX8) (cls := "java/lang/IllegalStateException") (text := "this one is in a land") (names := ["java/lang/RuntimeException", "java/lang/Exception"]) (A := A) hown (by decide +kernel) (by decide +kernel) (hts (.classLink RX8 52 "java/lang/IllegalStateException") (by decide +kernel)) (hts (.initialized "java/lang/IllegalStateException") (by decide +kernel)) hsa (vx_hat (fun w hw => hts w (eC_Court_refuseOneInALand_56 w hw)) (B := xB) (by decide +kernel) (fun w hw => va_Nw.use (xB_on w hw) (hxs.2.2.2 w hw))) (by decide +kernel) hxs.1 hxs.2.1 hX.2.2 (hl.1.trans hml.symm) dX8_refuseOneInALand_7 dX8_refuseOneInALand_10 dX8_refuseOneInALand_11 dX8_refuseOneInALand_14 dX8_refuseOneInALand_17 (fun x hx => (ht x hx).elim) (Nat.le_of_ble_eq_true rfl) (Nat.le_of_ble_eq_true rfl) (Nat.le_of_ble_eq_true rfl) (Nat.le_of_ble_eq_true rfl) hlocks (fun t a1 a2 a3 => xX_post rfl hK hX t a1 a2 a3) hX.2.2.2.2 (Nat.le_refl _) (Nat.le_refl _)
set_option maxRecDepth 20000 in
theorem cC_Court_refuseOneInALand (l : Launch) (D : va_G) (yI yO : ClassId) (z0 : Nat) (ad : Nat → Nat → Nat) {g : CS} {i1 : Nat} (h : fC_Court_refuseOneInALand g i1 = some (.inr ())) : Met l yX8_refuseOneInALand wsX8_refuseOneInALand (mR 0 0) (va_Pc [.ref (ad 0 0), .ref (ad 5 i1)] (cPre D yI yO z0 ad g)) (cQv D yI yO z0 ad g (cF ad g)) 0 0 (cF ad g) := by
  refine Met.ofW (cc := cX8_refuseOneInALand) (maxL := 2) (ret := none) (by decide) rfl ?_
  intro p e s m args below meth c s₁ B hml hv
  obtain ⟨hv0, hw, hK⟩ := hv
  have hv1 : args = [.ref (ad 0 0), .ref (ad 5 i1)].toArray := hv0
  subst hv1
  have C : cC p s m _ meth c cX8_refuseOneInALand RX8 none wsX8_refuseOneInALand 2 D yI yO := ⟨B.exec, B.bytes, B.returns, atoms_spec (ws := wsX8_refuseOneInALand) B.pre, findClass_of_methodNamed B.named, B.notSynchronized, hml, hK⟩
  have hl := lv_entry ([.ref (ad 0 0), .ref (ad 5 i1)]) (n := 2) (Nat.le_of_ble_eq_true rfl)
  rw [lg_entry_eq]
  generalize (lg_sl ([.ref (ad 0 0), .ref (ad 5 i1)]) ++ List.replicate (2 - (lg_sl ([.ref (ad 0 0), .ref (ad 5 i1)])).length) Slot.unset).toArray = ls at hl ⊢
  have hl : lv_has ls 2 [(0, .ref (ad 0 0)), (1, .ref (ad 5 i1))] := hl
  exact w_C_Court_refuseOneInALand_0 C h ⟨hw, fun k i hi => ⟨k, i, hi, rfl⟩, va_S.rf⟩ hl
set_option maxRecDepth 20000 in
theorem cX_Court_refuseOneInALand (l : Launch) (hlf : l.stackTraces = false) (D : va_G) (yI yO : ClassId) (z0 : Nat) (ad : Nat → Nat → Nat) {g : CS} {ez : Nat} {i1 : Nat} (sz : Nat) (h : fC_Court_refuseOneInALand g i1 = some (.inl ez)) : vx_Met l yX8_refuseOneInALand wsX8_refuseOneInALand (xR 6 90) (va_Pc [.ref (ad 0 0), .ref (ad 5 i1)] (xPre D yI yO z0 ad g sz)) (xQ (cA ad g sz)) (xXC D yI yO z0 ad g ez (cA ad g sz)) 1 6 (cA ad g sz) := by
  refine vx_ofW (cc := cX8_refuseOneInALand) (maxL := 2) (ret := none) (by decide) rfl ?_
  intro p e s m args below meth c s₁ B hml ht hv
  obtain ⟨hv0, ⟨hw, hK⟩, hsz, hxs⟩ := hv
  subst hsz
  have hv1 : args = [.ref (ad 0 0), .ref (ad 5 i1)].toArray := hv0
  subst hv1
  have C : cC p s m _ meth c cX8_refuseOneInALand RX8 none wsX8_refuseOneInALand 2 D yI yO := ⟨B.exec, B.bytes, B.returns, atoms_spec (ws := wsX8_refuseOneInALand) B.pre, findClass_of_methodNamed B.named, B.notSynchronized, hml, hK⟩
  have hl := lv_entry ([.ref (ad 0 0), .ref (ad 5 i1)]) (n := 2) (Nat.le_of_ble_eq_true rfl)
  rw [lg_entry_eq]
  generalize (lg_sl ([.ref (ad 0 0), .ref (ad 5 i1)]) ++ List.replicate (2 - (lg_sl ([.ref (ad 0 0), .ref (ad 5 i1)])).length) Slot.unset).toArray = ls at hl ⊢
  have hl : lv_has ls 2 [(0, .ref (ad 0 0)), (1, .ref (ad 5 i1))] := hl
  exact w_X_Court_refuseOneInALand_0 C hlf ht hxs (fun q h => Or.inr h) h ⟨hw, fun k i hi => Or.inl ⟨k, i, hi, rfl⟩, va_S.rf⟩ hl
theorem eC_Court_refuseUnless_56 : ∀ w ∈ (vx_atS RX8 56 "java/lang/IllegalStateException" ["java/lang/RuntimeException", "java/lang/Exception"]).filter goodWord, w ∈ wsX8_refuseUnless := by decide +kernel
def fC_Court_refuseUnless (g : CS) (x1 : Int32) : Option (Nat ⊕ Unit) :=
  if x1 = 0 then
    some (.inl 2)
  else
    some (.inr ())
set_option maxRecDepth 20000 in
theorem w_C_Court_refuseUnless_0 (C : cC p s m args meth c cX8_refuseUnless RX8 none wsX8_refuseUnless 2 D yI yO) {g : CS} {x1 : Int32} (h : fC_Court_refuseUnless g x1 = some (.inr ())) {H : Heap} {locs : List Loc} {ls : Array Slot} (hX : cX D yI yO z0 ad g A s H locs) (hl : lv_has ls 2 [(0, .ref (ad 0 0)), (1, .int x1)]) : W p l e (mR 0 0) s m args below meth c H locs 0 0 (MQ below (cQv D yI yO z0 ad g A) args s 0 0 A) (F0 m 0 ls []) := by
  obtain ⟨hx, hb, hr, hts, hown, hlocks, hml, hK⟩ := id C
  unfold fC_Court_refuseUnless at h
  refine lv_iload_n hx hb dX8_refuseUnless_0 rfl (lv_at hl 1 rfl) ?_
  refine lv_if_ne (tgt := 15) hx hb dX8_refuseUnless_1 (by decide) (fun c1 => ?_) (fun c1 => ?_)
  · replace h := mneg c1 h
    cases h
    exact cg_retv hx hb hr hlocks hK hX dX8_refuseUnless_15
  · replace h := mpos c1 h
    cases h
set_option maxRecDepth 20000 in
theorem w_X_Court_refuseUnless_0 (C : cC p s m args meth c cX8_refuseUnless RX8 none wsX8_refuseUnless 2 D yI yO) {Qc : Array Value → State → Outcome → State → Prop} (hlf : l.stackTraces = false) (ht : ∀ x ∈ c.exceptionTable.toList, False) (hxs : xS A s s.heap) (hA : ∀ q, s.heap.size ≤ q → A q) {ez : Nat} {g : CS} {x1 : Int32} (h : fC_Court_refuseUnless g x1 = some (.inl ez)) {H : Heap} {locs : List Loc} {ls : Array Slot} (hX : cX D yI yO z0 ad g A s H locs) (hl : lv_has ls 2 [(0, .ref (ad 0 0)), (1, .int x1)]) : W p l e (xR 6 90) s m args below meth c H locs 0 0 (vx_MQ below Qc (xXC D yI yO z0 ad g ez A) args s 1 6 A) (F0 m 0 ls []) := by
  obtain ⟨hx, hb, hr, hts, hown, hlocks, hml, hK⟩ := id C
  unfold fC_Court_refuseUnless at h
  refine lv_iload_n hx hb dX8_refuseUnless_0 rfl (lv_at hl 1 rfl) ?_
  refine lv_if_ne (tgt := 15) hx hb dX8_refuseUnless_1 (by decide) (fun c1 => ?_) (fun c1 => ?_)
  · replace h := mneg c1 h
    cases h
  · replace h := mpos c1 h
    cases h
    obtain ⟨sa, hsa⟩ := hxs.2.2.1 (361, "the request is in another state") (by decide +kernel)
    exact vx_throwSW hx hb hlf (own := RX8) (cls := "java/lang/IllegalStateException") (text := "the request is in another state") (names := ["java/lang/RuntimeException", "java/lang/Exception"]) (A := A) hown (by decide +kernel) (by decide +kernel) (hts (.classLink RX8 52 "java/lang/IllegalStateException") (by decide +kernel)) (hts (.initialized "java/lang/IllegalStateException") (by decide +kernel)) hsa (vx_hat (fun w hw => hts w (eC_Court_refuseUnless_56 w hw)) (B := xB) (by decide +kernel) (fun w hw => va_Nw.use (xB_on w hw) (hxs.2.2.2 w hw))) (by decide +kernel) hxs.1 hxs.2.1 hX.2.2 (hl.1.trans hml.symm) dX8_refuseUnless_4 dX8_refuseUnless_7 dX8_refuseUnless_8 dX8_refuseUnless_11 dX8_refuseUnless_14 (fun x hx => (ht x hx).elim) (Nat.le_of_ble_eq_true rfl) (Nat.le_of_ble_eq_true rfl) (Nat.le_of_ble_eq_true rfl) (Nat.le_of_ble_eq_true rfl) hlocks (fun t a1 a2 a3 => xX_post rfl hK hX t a1 a2 a3) hX.2.2.2.2 (Nat.le_refl _) (Nat.le_refl _)
set_option maxRecDepth 20000 in
theorem cC_Court_refuseUnless (l : Launch) (D : va_G) (yI yO : ClassId) (z0 : Nat) (ad : Nat → Nat → Nat) {g : CS} {x1 : Int32} (h : fC_Court_refuseUnless g x1 = some (.inr ())) : Met l yX8_refuseUnless wsX8_refuseUnless (mR 0 0) (va_Pc [.ref (ad 0 0), .int x1] (cPre D yI yO z0 ad g)) (cQv D yI yO z0 ad g (cF ad g)) 0 0 (cF ad g) := by
  refine Met.ofW (cc := cX8_refuseUnless) (maxL := 2) (ret := none) (by decide) rfl ?_
  intro p e s m args below meth c s₁ B hml hv
  obtain ⟨hv0, hw, hK⟩ := hv
  have hv1 : args = [.ref (ad 0 0), .int x1].toArray := hv0
  subst hv1
  have C : cC p s m _ meth c cX8_refuseUnless RX8 none wsX8_refuseUnless 2 D yI yO := ⟨B.exec, B.bytes, B.returns, atoms_spec (ws := wsX8_refuseUnless) B.pre, findClass_of_methodNamed B.named, B.notSynchronized, hml, hK⟩
  have hl := lv_entry ([.ref (ad 0 0), .int x1]) (n := 2) (Nat.le_of_ble_eq_true rfl)
  rw [lg_entry_eq]
  generalize (lg_sl ([.ref (ad 0 0), .int x1]) ++ List.replicate (2 - (lg_sl ([.ref (ad 0 0), .int x1])).length) Slot.unset).toArray = ls at hl ⊢
  have hl : lv_has ls 2 [(0, .ref (ad 0 0)), (1, .int x1)] := hl
  exact w_C_Court_refuseUnless_0 C h ⟨hw, fun k i hi => ⟨k, i, hi, rfl⟩, va_S.rf⟩ hl
set_option maxRecDepth 20000 in
theorem cX_Court_refuseUnless (l : Launch) (hlf : l.stackTraces = false) (D : va_G) (yI yO : ClassId) (z0 : Nat) (ad : Nat → Nat → Nat) {g : CS} {ez : Nat} {x1 : Int32} (sz : Nat) (h : fC_Court_refuseUnless g x1 = some (.inl ez)) : vx_Met l yX8_refuseUnless wsX8_refuseUnless (xR 6 90) (va_Pc [.ref (ad 0 0), .int x1] (xPre D yI yO z0 ad g sz)) (xQ (cA ad g sz)) (xXC D yI yO z0 ad g ez (cA ad g sz)) 1 6 (cA ad g sz) := by
  refine vx_ofW (cc := cX8_refuseUnless) (maxL := 2) (ret := none) (by decide) rfl ?_
  intro p e s m args below meth c s₁ B hml ht hv
  obtain ⟨hv0, ⟨hw, hK⟩, hsz, hxs⟩ := hv
  subst hsz
  have hv1 : args = [.ref (ad 0 0), .int x1].toArray := hv0
  subst hv1
  have C : cC p s m _ meth c cX8_refuseUnless RX8 none wsX8_refuseUnless 2 D yI yO := ⟨B.exec, B.bytes, B.returns, atoms_spec (ws := wsX8_refuseUnless) B.pre, findClass_of_methodNamed B.named, B.notSynchronized, hml, hK⟩
  have hl := lv_entry ([.ref (ad 0 0), .int x1]) (n := 2) (Nat.le_of_ble_eq_true rfl)
  rw [lg_entry_eq]
  generalize (lg_sl ([.ref (ad 0 0), .int x1]) ++ List.replicate (2 - (lg_sl ([.ref (ad 0 0), .int x1])).length) Slot.unset).toArray = ls at hl ⊢
  have hl : lv_has ls 2 [(0, .ref (ad 0 0)), (1, .int x1)] := hl
  exact w_X_Court_refuseUnless_0 C hlf ht hxs (fun q h => Or.inr h) h ⟨hw, fun k i hi => Or.inl ⟨k, i, hi, rfl⟩, va_S.rf⟩ hl
end GX0
