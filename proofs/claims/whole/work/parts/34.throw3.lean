section GX3
variable {p : Program} {l : Launch} {e : Env} {s : State} {m : MethodId} {args : Array Value} {below : List Frame} {meth : Method} {c : Code} {D : va_G} {yI yO : ClassId} {z0 : Nat} {ad : Nat → Nat → Nat} {A : Nat → Prop}
theorem iC_Court_extend_X1 : ∀ w ∈ wsX10, w ∈ wsX8_extend := by decide +kernel
theorem iC_Court_extend_X2 : ∀ w ∈ wsX20, w ∈ wsX8_extend := by decide +kernel
theorem iC_Court_extend_X3 : ∀ w ∈ wsX30, w ∈ wsX8_extend := by decide +kernel
theorem iC_Court_extend_X8 : ∀ w ∈ wsX80, w ∈ wsX8_extend := by decide +kernel
theorem eC_Court_extend_56 : ∀ w ∈ (vx_atS RX8 56 "java/lang/IllegalStateException" ["java/lang/RuntimeException", "java/lang/Exception"]).filter goodWord, w ∈ wsX8_extend := by decide +kernel
def fC_Court_extend_42 (g : CS) : Option (Nat ⊕ (Int32 × CS)) :=
  some (.inl 2)
set_option maxRecDepth 20000 in
theorem w_C_Court_extend_42 (C : cC p s m args meth c cX8_extend RX8 (some .int) wsX8_extend 5 D yI yO) {gz : CS} {rz : Int32} {g : CS} (h : fC_Court_extend_42 g = some (.inr (rz, gz))) {H : Heap} {locs : List Loc} {ls : Array Slot} (hX : cX D yI yO z0 ad g A s H locs) (hl : lv_has ls 5 [(0, .ref (ad 0 0))]) : W p l e (mR 4 85) s m args below meth c H locs 0 0 (MQ below (cQ D yI yO z0 ad rz gz A) args s 0 0 A) (F0 m 42 ls []) := by
  obtain ⟨hx, hb, hr, hts, hown, hlocks, hml, hK⟩ := id C
  unfold fC_Court_extend_42 at h
  cases h
set_option maxRecDepth 20000 in
theorem w_X_Court_extend_42 (C : cC p s m args meth c cX8_extend RX8 (some .int) wsX8_extend 5 D yI yO) {Qc : Array Value → State → Outcome → State → Prop} (hlf : l.stackTraces = false) (ht : ∀ x ∈ c.exceptionTable.toList, False) (hxs : xS A s s.heap) (hA : ∀ q, s.heap.size ≤ q → A q) {ez : Nat} {g : CS} (h : fC_Court_extend_42 g = some (.inl ez)) {H : Heap} {locs : List Loc} {ls : Array Slot} (hX : cX D yI yO z0 ad g A s H locs) (hl : lv_has ls 5 [(0, .ref (ad 0 0))]) : W p l e (xR 7 111) s m args below meth c H locs 0 0 (vx_MQ below Qc (xXC D yI yO z0 ad g ez A) args s 1 6 A) (F0 m 42 ls []) := by
  obtain ⟨hx, hb, hr, hts, hown, hlocks, hml, hK⟩ := id C
  unfold fC_Court_extend_42 at h
  cases h
  obtain ⟨sa, hsa⟩ := hxs.2.2.1 (291, "no valid permit, or there on too few days") (by decide +kernel)
  exact vx_throwSW hx hb hlf (own := RX8) (cls := "java/lang/IllegalStateException") (text := "no valid permit, or there on too few days") (names := ["java/lang/RuntimeException", "java/lang/Exception"]) (A := A) hown (by decide +kernel) (by decide +kernel) (hts (.classLink RX8 52 "java/lang/IllegalStateException") (by decide +kernel)) (hts (.initialized "java/lang/IllegalStateException") (by decide +kernel)) hsa (vx_hat (fun w hw => hts w (eC_Court_extend_56 w hw)) (B := xB) (by decide +kernel) (fun w hw => va_Nw.use (xB_on w hw) (hxs.2.2.2 w hw))) (by decide +kernel) hxs.1 hxs.2.1 hX.2.2 (hl.1.trans hml.symm) dX8_extend_42 dX8_extend_45 dX8_extend_46 dX8_extend_49 dX8_extend_52 (fun x hx => (ht x hx).elim) (Nat.le_of_ble_eq_true rfl) (Nat.le_of_ble_eq_true rfl) (Nat.le_of_ble_eq_true rfl) (Nat.le_of_ble_eq_true rfl) hlocks (fun t a1 a2 a3 => xX_post rfl hK hX t a1 a2 a3) hX.2.2.2.2 (Nat.le_refl _) (Nat.le_refl _)
def fC_Court_extend (g : CS) (x1 : Int32) (x2 : Int32) : Option (Nat ⊕ (Int32 × CS)) :=
  xb (fC_Court_personAt g x1) fun v1 =>
  xb (fC_Court_landAt g x2) fun v3 =>
  (ck g 5 v1).bind fun _ =>
  (ck g 4 v3).bind fun _ =>
  (fC_Permits_isValid v1 g (sI g 4 v3 0) (sI g 0 0 6)).bind fun r7 =>
  if r7 = 0 then
    fC_Court_extend_42 g
  else
    (fC_Court_wasThereEnough g v1 v3).bind fun r9 =>
    if r9 = 0 then
      fC_Court_extend_42 g
    else
      (fC_Permits_prolong v1 g (sI g 4 v3 0) 360).bind fun g11 =>
      (ck g11 5 v1).bind fun _ =>
      (ck g11 4 v3).bind fun _ =>
      (fC_Row_at 15 v1 g11 (sI g11 4 v3 0)).bind fun r14 =>
      some (.inr (r14, g11))
set_option maxRecDepth 20000 in
theorem w_C_Court_extend_0 (C : cC p s m args meth c cX8_extend RX8 (some .int) wsX8_extend 5 D yI yO) {gz : CS} {rz : Int32} {g : CS} {x1 : Int32} {x2 : Int32} (h : fC_Court_extend g x1 x2 = some (.inr (rz, gz))) {H : Heap} {locs : List Loc} {ls : Array Slot} (hX : cX D yI yO z0 ad g A s H locs) (hl : lv_has ls 5 [(0, .ref (ad 0 0)), (1, .int x1), (2, .int x2)]) : W p l e (mR 4 85) s m args below meth c H locs 0 0 (MQ below (cQ D yI yO z0 ad rz gz A) args s 0 0 A) (F0 m 0 ls []) := by
  obtain ⟨hx, hb, hr, hts, hown, hlocks, hml, hK⟩ := id C
  unfold fC_Court_extend at h
  refine lv_aload_n hx hb dX8_extend_0 rfl (lv_at hl 0 rfl) ?_
  refine lv_iload_n hx hb dX8_extend_1 rfl (lv_at hl 1 rfl) ?_
  obtain ⟨v1, et2, h⟩ := xb_ret h
  refine cg_callVq (As := [.int x1]) (rest := []) ⟨hx, hb, hml, hown, hts⟩ 0 0 rfl (ci := 9) rfl rfl (cC_Court_personAt l D yI yO z0 ad et2) (cwV 1 hts gX8_extend_X8_personAt rfl rfl rfl (by decide +kernel) ⟨Nat.le_of_ble_eq_true rfl, Nat.le_of_ble_eq_true rfl⟩) hK hX rfl hl.1 rfl (Nat.le_of_ble_eq_true rfl) dX8_extend_2 ⟨Nat.zero_le _, Nat.zero_le _⟩ (fun H locs hX => ?_)
  refine W.eq (g2 := F0 m 5 ls [.ref (ad 5 v1)]) rfl ?_
  refine lv_astore_n (lv' := [(3, .ref (ad 5 v1)), (0, .ref (ad 0 0)), (1, .int x1), (2, .int x2)]) hx hb dX8_extend_5 rfl hl (by decide) rfl (fun ls hl => ?_)
  refine lv_aload_n hx hb dX8_extend_6 rfl (lv_at hl 1 rfl) ?_
  refine lv_iload_n hx hb dX8_extend_7 rfl (lv_at hl 3 rfl) ?_
  obtain ⟨v3, et4, h⟩ := xb_ret h
  refine cg_callVq (As := [.int x2]) (rest := []) ⟨hx, hb, hml, hown, hts⟩ 0 0 rfl (ci := 9) rfl rfl (cC_Court_landAt l D yI yO z0 ad et4) (cwV 1 hts gX8_extend_X8_landAt rfl rfl rfl (by decide +kernel) ⟨Nat.le_of_ble_eq_true rfl, Nat.le_of_ble_eq_true rfl⟩) hK hX rfl hl.1 rfl (Nat.le_of_ble_eq_true rfl) dX8_extend_8 ⟨Nat.zero_le _, Nat.zero_le _⟩ (fun H locs hX => ?_)
  refine W.eq (g2 := F0 m 11 ls [.ref (ad 4 v3)]) rfl ?_
  refine lv_astore (lv' := [(4, .ref (ad 4 v3)), (3, .ref (ad 5 v1)), (0, .ref (ad 0 0)), (1, .int x1), (2, .int x2)]) hx hb dX8_extend_11 hl (by decide) rfl (fun ls hl => ?_)
  refine lv_aload_n hx hb dX8_extend_13 rfl (lv_at hl 1 rfl) ?_
  obtain ⟨_, hv5, h⟩ := mbind h
  replace hv5 := ck_spec hv5
  refine cg_get hx hb hts iC_Court_extend_X3 hown hK hX 5 v1 hv5 rfl rfl 7 (by decide) (hts (.fieldLink RX8 279 "PassageCourt$Person" "permits" "LPassageCourt$Permits;") (by decide +kernel)) (fun _ h9 => h9) rfl dX8_extend_14 ?_
  refine lv_aload hx hb dX8_extend_17 (lv_at hl 0 rfl) ?_
  obtain ⟨_, hv6, h⟩ := mbind h
  replace hv6 := ck_spec hv6
  refine cg_get hx hb hts iC_Court_extend_X1 hown hK hX 4 v3 hv6 rfl rfl 0 (by decide) (hts (.fieldLink RX8 66 "PassageCourt$Land" "number" "I") (by decide +kernel)) (fun _ h9 => h9) rfl dX8_extend_19 ?_
  refine lv_aload_n hx hb dX8_extend_22 rfl (lv_at hl 2 rfl) ?_
  refine cg_get hx hb hts iC_Court_extend_X8 hown hK hX 0 0 rfl rfl rfl 6 (by decide) (hts (.fieldLink RX8 37 "PassageCourt" "today" "I") (by decide +kernel)) (fun _ h9 => h9) rfl dX8_extend_23 ?_
  obtain ⟨r7, er7, h⟩ := mbind h
  refine cg_callV (As := [.int (sI g 4 v3 0), .int (sI g 0 0 6)]) (rest := []) ⟨hx, hb, hml, hown, hts⟩ 25 v1 hv5 (ci := 3) rfl rfl (cC_Permits_isValid l D yI yO z0 ad er7) (cwV 2 hts gX8_extend_X2_isValid rfl rfl rfl (by decide +kernel) ⟨Nat.le_of_ble_eq_true rfl, Nat.le_of_ble_eq_true rfl⟩) hK hX rfl hl.1 rfl (Nat.le_of_ble_eq_true rfl) dX8_extend_26 ⟨Nat.zero_le _, Nat.zero_le _⟩ (fun H locs hX => ?_)
  refine lv_if_eq (tgt := 42) hx hb dX8_extend_29 (by decide) (fun c8 => ?_) (fun c8 => ?_)
  · replace h := mpos c8 h
    exact w_C_Court_extend_42 C h hX (lv_sub hl [2] rfl)
  · replace h := mneg c8 h
    refine lv_aload_n hx hb dX8_extend_32 rfl (lv_at hl 2 rfl) ?_
    refine lv_aload_n hx hb dX8_extend_33 rfl (lv_at hl 1 rfl) ?_
    refine lv_aload hx hb dX8_extend_34 (lv_at hl 0 rfl) ?_
    obtain ⟨r9, er9, h⟩ := mbind h
    refine cg_callV (As := [.ref (ad 5 v1), .ref (ad 4 v3)]) (rest := []) ⟨hx, hb, hml, hown, hts⟩ 0 0 rfl (ci := 9) rfl rfl (cC_Court_wasThereEnough l D yI yO z0 ad er9) (cwV 2 hts gX8_extend_X8_wasThereEnough rfl rfl rfl (by decide +kernel) ⟨Nat.le_of_ble_eq_true rfl, Nat.le_of_ble_eq_true rfl⟩) hK hX rfl hl.1 rfl (Nat.le_of_ble_eq_true rfl) dX8_extend_36 ⟨Nat.zero_le _, Nat.zero_le _⟩ (fun H locs hX => ?_)
    refine lv_if_ne (tgt := 53) hx hb dX8_extend_39 (by decide) (fun c10 => ?_) (fun c10 => ?_)
    · replace h := mneg c10 h
      refine lv_aload_n hx hb dX8_extend_53 rfl (lv_at hl 1 rfl) ?_
      refine cg_get hx hb hts iC_Court_extend_X3 hown hK hX 5 v1 hv5 rfl rfl 7 (by decide) (hts (.fieldLink RX8 279 "PassageCourt$Person" "permits" "LPassageCourt$Permits;") (by decide +kernel)) (fun _ h9 => h9) rfl dX8_extend_54 ?_
      refine lv_aload hx hb dX8_extend_57 (lv_at hl 0 rfl) ?_
      refine cg_get hx hb hts iC_Court_extend_X1 hown hK hX 4 v3 hv6 rfl rfl 0 (by decide) (hts (.fieldLink RX8 66 "PassageCourt$Land" "number" "I") (by decide +kernel)) (fun _ h9 => h9) rfl dX8_extend_59 ?_
      refine lv_sipush (v := 360) hx hb dX8_extend_62 (by decide) ?_
      obtain ⟨g11, eg11, h⟩ := mbind h
      refine cg_callVv (As := [.int (sI g 4 v3 0), .int 360]) (rest := []) ⟨hx, hb, hml, hown, hts⟩ 25 v1 hv5 (ci := 3) rfl rfl (cC_Permits_prolong l D yI yO z0 ad eg11) (cwV 2 hts gX8_extend_X2_prolong rfl rfl rfl (by decide +kernel) ⟨Nat.le_of_ble_eq_true rfl, Nat.le_of_ble_eq_true rfl⟩) hK hX rfl hl.1 rfl (Nat.le_of_ble_eq_true rfl) dX8_extend_65 ⟨Nat.zero_le _, Nat.zero_le _⟩ (fun H locs hX => ?_)
      refine lv_aload_n hx hb dX8_extend_68 rfl (lv_at hl 1 rfl) ?_
      obtain ⟨_, hv12, h⟩ := mbind h
      replace hv12 := ck_spec hv12
      refine cg_get hx hb hts iC_Court_extend_X3 hown hK hX 5 v1 hv12 rfl rfl 7 (by decide) (hts (.fieldLink RX8 279 "PassageCourt$Person" "permits" "LPassageCourt$Permits;") (by decide +kernel)) (fun _ h9 => h9) rfl dX8_extend_69 ?_
      refine cg_get hx hb hts iC_Court_extend_X2 hown hK hX 25 v1 hv12 rfl rfl 1 (by decide) (hts (.fieldLink RX8 296 "PassageCourt$Permits" "last" "LPassageCourt$Row;") (by decide +kernel)) (fun _ h9 => h9) rfl dX8_extend_72 ?_
      refine lv_aload hx hb dX8_extend_75 (lv_at hl 0 rfl) ?_
      obtain ⟨_, hv13, h⟩ := mbind h
      replace hv13 := ck_spec hv13
      refine cg_get hx hb hts iC_Court_extend_X1 hown hK hX 4 v3 hv13 rfl rfl 0 (by decide) (hts (.fieldLink RX8 66 "PassageCourt$Land" "number" "I") (by decide +kernel)) (fun _ h9 => h9) rfl dX8_extend_77 ?_
      obtain ⟨r14, er14, h⟩ := mbind h
      refine cg_callV (As := [.int (sI g11 4 v3 0)]) (rest := []) ⟨hx, hb, hml, hown, hts⟩ 15 v1 hv12 (ci := 6) rfl rfl (cC_Row_at l D yI yO z0 ad ⟨by decide, by decide⟩ er14) (cwV 1 hts gX8_extend_X5_at rfl rfl rfl (by decide +kernel) ⟨Nat.le_of_ble_eq_true rfl, Nat.le_of_ble_eq_true rfl⟩) hK hX rfl hl.1 rfl (Nat.le_of_ble_eq_true rfl) dX8_extend_80 ⟨Nat.zero_le _, Nat.zero_le _⟩ (fun H locs hX => ?_)
      cases h
      exact cg_reti hx hb hr hlocks hK hX dX8_extend_83
    · replace h := mpos c10 h
      exact w_C_Court_extend_42 C h hX (lv_sub hl [2] rfl)
set_option maxRecDepth 20000 in
theorem w_X_Court_extend_0 (C : cC p s m args meth c cX8_extend RX8 (some .int) wsX8_extend 5 D yI yO) {Qc : Array Value → State → Outcome → State → Prop} (hlf : l.stackTraces = false) (ht : ∀ x ∈ c.exceptionTable.toList, False) (hxs : xS A s s.heap) (hA : ∀ q, s.heap.size ≤ q → A q) {ez : Nat} {g : CS} {x1 : Int32} {x2 : Int32} (h : fC_Court_extend g x1 x2 = some (.inl ez)) {H : Heap} {locs : List Loc} {ls : Array Slot} (hX : cX D yI yO z0 ad g A s H locs) (hl : lv_has ls 5 [(0, .ref (ad 0 0)), (1, .int x1), (2, .int x2)]) : W p l e (xR 7 111) s m args below meth c H locs 0 0 (vx_MQ below Qc (xXC D yI yO z0 ad g ez A) args s 1 6 A) (F0 m 0 ls []) := by
  obtain ⟨hx, hb, hr, hts, hown, hlocks, hml, hK⟩ := id C
  unfold fC_Court_extend at h
  refine lv_aload_n hx hb dX8_extend_0 rfl (lv_at hl 0 rfl) ?_
  refine lv_iload_n hx hb dX8_extend_1 rfl (lv_at hl 1 rfl) ?_
  rcases xb_thr h with et2 | ⟨v1, et2, h⟩
  · exact xg_callV (As := [.int x1]) (rest := []) ⟨hx, hb, hml, hown, hts⟩ 0 0 rfl (ci := 9) rfl rfl (cX_Court_personAt l hlf D yI yO z0 ad H.size et2) (cwV 1 hts gX8_extend_X8_personAt rfl rfl rfl (by decide +kernel) ⟨Nat.le_of_ble_eq_true rfl, Nat.le_of_ble_eq_true rfl⟩) hK hX hA hxs ht hlocks rfl hl.1 rfl (Nat.le_of_ble_eq_true rfl) dX8_extend_2 ⟨Nat.le_refl _, Nat.le_refl _⟩
  refine cg_callVq (As := [.int x1]) (rest := []) ⟨hx, hb, hml, hown, hts⟩ 0 0 rfl (ci := 9) rfl rfl (cC_Court_personAt l D yI yO z0 ad et2) (cwV 1 hts gX8_extend_X8_personAt rfl rfl rfl (by decide +kernel) ⟨Nat.le_of_ble_eq_true rfl, Nat.le_of_ble_eq_true rfl⟩) hK hX rfl hl.1 rfl (Nat.le_of_ble_eq_true rfl) dX8_extend_2 ⟨Nat.zero_le _, Nat.zero_le _⟩ (fun H locs hX => ?_)
  refine W.eq (g2 := F0 m 5 ls [.ref (ad 5 v1)]) rfl ?_
  refine lv_astore_n (lv' := [(3, .ref (ad 5 v1)), (0, .ref (ad 0 0)), (1, .int x1), (2, .int x2)]) hx hb dX8_extend_5 rfl hl (by decide) rfl (fun ls hl => ?_)
  refine lv_aload_n hx hb dX8_extend_6 rfl (lv_at hl 1 rfl) ?_
  refine lv_iload_n hx hb dX8_extend_7 rfl (lv_at hl 3 rfl) ?_
  rcases xb_thr h with et4 | ⟨v3, et4, h⟩
  · exact xg_callV (As := [.int x2]) (rest := []) ⟨hx, hb, hml, hown, hts⟩ 0 0 rfl (ci := 9) rfl rfl (cX_Court_landAt l hlf D yI yO z0 ad H.size et4) (cwV 1 hts gX8_extend_X8_landAt rfl rfl rfl (by decide +kernel) ⟨Nat.le_of_ble_eq_true rfl, Nat.le_of_ble_eq_true rfl⟩) hK hX hA hxs ht hlocks rfl hl.1 rfl (Nat.le_of_ble_eq_true rfl) dX8_extend_8 ⟨Nat.le_refl _, Nat.le_refl _⟩
  refine cg_callVq (As := [.int x2]) (rest := []) ⟨hx, hb, hml, hown, hts⟩ 0 0 rfl (ci := 9) rfl rfl (cC_Court_landAt l D yI yO z0 ad et4) (cwV 1 hts gX8_extend_X8_landAt rfl rfl rfl (by decide +kernel) ⟨Nat.le_of_ble_eq_true rfl, Nat.le_of_ble_eq_true rfl⟩) hK hX rfl hl.1 rfl (Nat.le_of_ble_eq_true rfl) dX8_extend_8 ⟨Nat.zero_le _, Nat.zero_le _⟩ (fun H locs hX => ?_)
  refine W.eq (g2 := F0 m 11 ls [.ref (ad 4 v3)]) rfl ?_
  refine lv_astore (lv' := [(4, .ref (ad 4 v3)), (3, .ref (ad 5 v1)), (0, .ref (ad 0 0)), (1, .int x1), (2, .int x2)]) hx hb dX8_extend_11 hl (by decide) rfl (fun ls hl => ?_)
  refine lv_aload_n hx hb dX8_extend_13 rfl (lv_at hl 1 rfl) ?_
  obtain ⟨_, hv5, h⟩ := mbind h
  replace hv5 := ck_spec hv5
  refine cg_get hx hb hts iC_Court_extend_X3 hown hK hX 5 v1 hv5 rfl rfl 7 (by decide) (hts (.fieldLink RX8 279 "PassageCourt$Person" "permits" "LPassageCourt$Permits;") (by decide +kernel)) (fun _ h9 => h9) rfl dX8_extend_14 ?_
  refine lv_aload hx hb dX8_extend_17 (lv_at hl 0 rfl) ?_
  obtain ⟨_, hv6, h⟩ := mbind h
  replace hv6 := ck_spec hv6
  refine cg_get hx hb hts iC_Court_extend_X1 hown hK hX 4 v3 hv6 rfl rfl 0 (by decide) (hts (.fieldLink RX8 66 "PassageCourt$Land" "number" "I") (by decide +kernel)) (fun _ h9 => h9) rfl dX8_extend_19 ?_
  refine lv_aload_n hx hb dX8_extend_22 rfl (lv_at hl 2 rfl) ?_
  refine cg_get hx hb hts iC_Court_extend_X8 hown hK hX 0 0 rfl rfl rfl 6 (by decide) (hts (.fieldLink RX8 37 "PassageCourt" "today" "I") (by decide +kernel)) (fun _ h9 => h9) rfl dX8_extend_23 ?_
  obtain ⟨r7, er7, h⟩ := mbind h
  refine cg_callV (As := [.int (sI g 4 v3 0), .int (sI g 0 0 6)]) (rest := []) ⟨hx, hb, hml, hown, hts⟩ 25 v1 hv5 (ci := 3) rfl rfl (cC_Permits_isValid l D yI yO z0 ad er7) (cwV 2 hts gX8_extend_X2_isValid rfl rfl rfl (by decide +kernel) ⟨Nat.le_of_ble_eq_true rfl, Nat.le_of_ble_eq_true rfl⟩) hK hX rfl hl.1 rfl (Nat.le_of_ble_eq_true rfl) dX8_extend_26 ⟨Nat.zero_le _, Nat.zero_le _⟩ (fun H locs hX => ?_)
  refine lv_if_eq (tgt := 42) hx hb dX8_extend_29 (by decide) (fun c8 => ?_) (fun c8 => ?_)
  · replace h := mpos c8 h
    exact w_X_Court_extend_42 C hlf ht hxs hA h hX (lv_sub hl [2] rfl)
  · replace h := mneg c8 h
    refine lv_aload_n hx hb dX8_extend_32 rfl (lv_at hl 2 rfl) ?_
    refine lv_aload_n hx hb dX8_extend_33 rfl (lv_at hl 1 rfl) ?_
    refine lv_aload hx hb dX8_extend_34 (lv_at hl 0 rfl) ?_
    obtain ⟨r9, er9, h⟩ := mbind h
    refine cg_callV (As := [.ref (ad 5 v1), .ref (ad 4 v3)]) (rest := []) ⟨hx, hb, hml, hown, hts⟩ 0 0 rfl (ci := 9) rfl rfl (cC_Court_wasThereEnough l D yI yO z0 ad er9) (cwV 2 hts gX8_extend_X8_wasThereEnough rfl rfl rfl (by decide +kernel) ⟨Nat.le_of_ble_eq_true rfl, Nat.le_of_ble_eq_true rfl⟩) hK hX rfl hl.1 rfl (Nat.le_of_ble_eq_true rfl) dX8_extend_36 ⟨Nat.zero_le _, Nat.zero_le _⟩ (fun H locs hX => ?_)
    refine lv_if_ne (tgt := 53) hx hb dX8_extend_39 (by decide) (fun c10 => ?_) (fun c10 => ?_)
    · replace h := mneg c10 h
      refine lv_aload_n hx hb dX8_extend_53 rfl (lv_at hl 1 rfl) ?_
      refine cg_get hx hb hts iC_Court_extend_X3 hown hK hX 5 v1 hv5 rfl rfl 7 (by decide) (hts (.fieldLink RX8 279 "PassageCourt$Person" "permits" "LPassageCourt$Permits;") (by decide +kernel)) (fun _ h9 => h9) rfl dX8_extend_54 ?_
      refine lv_aload hx hb dX8_extend_57 (lv_at hl 0 rfl) ?_
      refine cg_get hx hb hts iC_Court_extend_X1 hown hK hX 4 v3 hv6 rfl rfl 0 (by decide) (hts (.fieldLink RX8 66 "PassageCourt$Land" "number" "I") (by decide +kernel)) (fun _ h9 => h9) rfl dX8_extend_59 ?_
      refine lv_sipush (v := 360) hx hb dX8_extend_62 (by decide) ?_
      obtain ⟨g11, eg11, h⟩ := mbind h
      refine cg_callVv (As := [.int (sI g 4 v3 0), .int 360]) (rest := []) ⟨hx, hb, hml, hown, hts⟩ 25 v1 hv5 (ci := 3) rfl rfl (cC_Permits_prolong l D yI yO z0 ad eg11) (cwV 2 hts gX8_extend_X2_prolong rfl rfl rfl (by decide +kernel) ⟨Nat.le_of_ble_eq_true rfl, Nat.le_of_ble_eq_true rfl⟩) hK hX rfl hl.1 rfl (Nat.le_of_ble_eq_true rfl) dX8_extend_65 ⟨Nat.zero_le _, Nat.zero_le _⟩ (fun H locs hX => ?_)
      refine lv_aload_n hx hb dX8_extend_68 rfl (lv_at hl 1 rfl) ?_
      obtain ⟨_, hv12, h⟩ := mbind h
      replace hv12 := ck_spec hv12
      refine cg_get hx hb hts iC_Court_extend_X3 hown hK hX 5 v1 hv12 rfl rfl 7 (by decide) (hts (.fieldLink RX8 279 "PassageCourt$Person" "permits" "LPassageCourt$Permits;") (by decide +kernel)) (fun _ h9 => h9) rfl dX8_extend_69 ?_
      refine cg_get hx hb hts iC_Court_extend_X2 hown hK hX 25 v1 hv12 rfl rfl 1 (by decide) (hts (.fieldLink RX8 296 "PassageCourt$Permits" "last" "LPassageCourt$Row;") (by decide +kernel)) (fun _ h9 => h9) rfl dX8_extend_72 ?_
      refine lv_aload hx hb dX8_extend_75 (lv_at hl 0 rfl) ?_
      obtain ⟨_, hv13, h⟩ := mbind h
      replace hv13 := ck_spec hv13
      refine cg_get hx hb hts iC_Court_extend_X1 hown hK hX 4 v3 hv13 rfl rfl 0 (by decide) (hts (.fieldLink RX8 66 "PassageCourt$Land" "number" "I") (by decide +kernel)) (fun _ h9 => h9) rfl dX8_extend_77 ?_
      obtain ⟨r14, er14, h⟩ := mbind h
      refine cg_callV (As := [.int (sI g11 4 v3 0)]) (rest := []) ⟨hx, hb, hml, hown, hts⟩ 15 v1 hv12 (ci := 6) rfl rfl (cC_Row_at l D yI yO z0 ad ⟨by decide, by decide⟩ er14) (cwV 1 hts gX8_extend_X5_at rfl rfl rfl (by decide +kernel) ⟨Nat.le_of_ble_eq_true rfl, Nat.le_of_ble_eq_true rfl⟩) hK hX rfl hl.1 rfl (Nat.le_of_ble_eq_true rfl) dX8_extend_80 ⟨Nat.zero_le _, Nat.zero_le _⟩ (fun H locs hX => ?_)
      cases h
    · replace h := mpos c10 h
      exact w_X_Court_extend_42 C hlf ht hxs hA h hX (lv_sub hl [2] rfl)
set_option maxRecDepth 20000 in
theorem cC_Court_extend (l : Launch) (D : va_G) (yI yO : ClassId) (z0 : Nat) (ad : Nat → Nat → Nat) {g : CS} {gz : CS} {rz : Int32} {x1 : Int32} {x2 : Int32} (h : fC_Court_extend g x1 x2 = some (.inr (rz, gz))) : Met l yX8_extend wsX8_extend (mR 4 85) (va_Pc [.ref (ad 0 0), .int x1, .int x2] (cPre D yI yO z0 ad g)) (cQ D yI yO z0 ad rz gz (cF ad g)) 0 0 (cF ad g) := by
  refine Met.ofW (cc := cX8_extend) (maxL := 5) (ret := (some .int)) (by decide) rfl ?_
  intro p e s m args below meth c s₁ B hml hv
  obtain ⟨hv0, hw, hK⟩ := hv
  have hv1 : args = [.ref (ad 0 0), .int x1, .int x2].toArray := hv0
  subst hv1
  have C : cC p s m _ meth c cX8_extend RX8 (some .int) wsX8_extend 5 D yI yO := ⟨B.exec, B.bytes, B.returns, atoms_spec (ws := wsX8_extend) B.pre, findClass_of_methodNamed B.named, B.notSynchronized, hml, hK⟩
  have hl := lv_entry ([.ref (ad 0 0), .int x1, .int x2]) (n := 5) (Nat.le_of_ble_eq_true rfl)
  rw [lg_entry_eq]
  generalize (lg_sl ([.ref (ad 0 0), .int x1, .int x2]) ++ List.replicate (5 - (lg_sl ([.ref (ad 0 0), .int x1, .int x2])).length) Slot.unset).toArray = ls at hl ⊢
  have hl : lv_has ls 5 [(0, .ref (ad 0 0)), (1, .int x1), (2, .int x2)] := hl
  exact w_C_Court_extend_0 C h ⟨hw, fun k i hi => ⟨k, i, hi, rfl⟩, va_S.rf⟩ hl
set_option maxRecDepth 20000 in
theorem cX_Court_extend (l : Launch) (hlf : l.stackTraces = false) (D : va_G) (yI yO : ClassId) (z0 : Nat) (ad : Nat → Nat → Nat) {g : CS} {ez : Nat} {x1 : Int32} {x2 : Int32} (sz : Nat) (h : fC_Court_extend g x1 x2 = some (.inl ez)) : vx_Met l yX8_extend wsX8_extend (xR 7 111) (va_Pc [.ref (ad 0 0), .int x1, .int x2] (xPre D yI yO z0 ad g sz)) (xQ (cA ad g sz)) (xXC D yI yO z0 ad g ez (cA ad g sz)) 1 6 (cA ad g sz) := by
  refine vx_ofW (cc := cX8_extend) (maxL := 5) (ret := (some .int)) (by decide) rfl ?_
  intro p e s m args below meth c s₁ B hml ht hv
  obtain ⟨hv0, ⟨hw, hK⟩, hsz, hxs⟩ := hv
  subst hsz
  have hv1 : args = [.ref (ad 0 0), .int x1, .int x2].toArray := hv0
  subst hv1
  have C : cC p s m _ meth c cX8_extend RX8 (some .int) wsX8_extend 5 D yI yO := ⟨B.exec, B.bytes, B.returns, atoms_spec (ws := wsX8_extend) B.pre, findClass_of_methodNamed B.named, B.notSynchronized, hml, hK⟩
  have hl := lv_entry ([.ref (ad 0 0), .int x1, .int x2]) (n := 5) (Nat.le_of_ble_eq_true rfl)
  rw [lg_entry_eq]
  generalize (lg_sl ([.ref (ad 0 0), .int x1, .int x2]) ++ List.replicate (5 - (lg_sl ([.ref (ad 0 0), .int x1, .int x2])).length) Slot.unset).toArray = ls at hl ⊢
  have hl : lv_has ls 5 [(0, .ref (ad 0 0)), (1, .int x1), (2, .int x2)] := hl
  exact w_X_Court_extend_0 C hlf ht hxs (fun q h => Or.inr h) h ⟨hw, fun k i hi => Or.inl ⟨k, i, hi, rfl⟩, va_S.rf⟩ hl
theorem iC_Court_oath_X1 : ∀ w ∈ wsX10, w ∈ wsX8_oath := by decide +kernel
theorem iC_Court_oath_X2 : ∀ w ∈ wsX20, w ∈ wsX8_oath := by decide +kernel
theorem iC_Court_oath_X3 : ∀ w ∈ wsX30, w ∈ wsX8_oath := by decide +kernel
theorem iC_Court_oath_X8 : ∀ w ∈ wsX80, w ∈ wsX8_oath := by decide +kernel
theorem eC_Court_oath_56 : ∀ w ∈ (vx_atS RX8 56 "java/lang/IllegalStateException" ["java/lang/RuntimeException", "java/lang/Exception"]).filter goodWord, w ∈ wsX8_oath := by decide +kernel
def fC_Court_oath_76 (g : CS) : Option (Nat ⊕ (Int32 × CS)) :=
  some (.inl 2)
set_option maxRecDepth 20000 in
theorem w_C_Court_oath_76 (C : cC p s m args meth c cX8_oath RX8 (some .int) wsX8_oath 5 D yI yO) {gz : CS} {rz : Int32} {g : CS} (h : fC_Court_oath_76 g = some (.inr (rz, gz))) {H : Heap} {locs : List Loc} {ls : Array Slot} (hX : cX D yI yO z0 ad g A s H locs) (hl : lv_has ls 5 [(0, .ref (ad 0 0))]) : W p l e (mR 4 85) s m args below meth c H locs 0 0 (MQ below (cQ D yI yO z0 ad rz gz A) args s 0 0 A) (F0 m 76 ls []) := by
  obtain ⟨hx, hb, hr, hts, hown, hlocks, hml, hK⟩ := id C
  unfold fC_Court_oath_76 at h
  cases h
set_option maxRecDepth 20000 in
theorem w_X_Court_oath_76 (C : cC p s m args meth c cX8_oath RX8 (some .int) wsX8_oath 5 D yI yO) {Qc : Array Value → State → Outcome → State → Prop} (hlf : l.stackTraces = false) (ht : ∀ x ∈ c.exceptionTable.toList, False) (hxs : xS A s s.heap) (hA : ∀ q, s.heap.size ≤ q → A q) {ez : Nat} {g : CS} (h : fC_Court_oath_76 g = some (.inl ez)) {H : Heap} {locs : List Loc} {ls : Array Slot} (hX : cX D yI yO z0 ad g A s H locs) (hl : lv_has ls 5 [(0, .ref (ad 0 0))]) : W p l e (xR 7 111) s m args below meth c H locs 0 0 (vx_MQ below Qc (xXC D yI yO z0 ad g ez A) args s 1 6 A) (F0 m 76 ls []) := by
  obtain ⟨hx, hb, hr, hts, hown, hlocks, hml, hK⟩ := id C
  unfold fC_Court_oath_76 at h
  cases h
  obtain ⟨sa, hsa⟩ := hxs.2.2.1 (300, "not there, of that nation already, or no such permit") (by decide +kernel)
  exact vx_throwSW hx hb hlf (own := RX8) (cls := "java/lang/IllegalStateException") (text := "not there, of that nation already, or no such permit") (names := ["java/lang/RuntimeException", "java/lang/Exception"]) (A := A) hown (by decide +kernel) (by decide +kernel) (hts (.classLink RX8 52 "java/lang/IllegalStateException") (by decide +kernel)) (hts (.initialized "java/lang/IllegalStateException") (by decide +kernel)) hsa (vx_hat (fun w hw => hts w (eC_Court_oath_56 w hw)) (B := xB) (by decide +kernel) (fun w hw => va_Nw.use (xB_on w hw) (hxs.2.2.2 w hw))) (by decide +kernel) hxs.1 hxs.2.1 hX.2.2 (hl.1.trans hml.symm) dX8_oath_76 dX8_oath_79 dX8_oath_80 dX8_oath_83 dX8_oath_86 (fun x hx => (ht x hx).elim) (Nat.le_of_ble_eq_true rfl) (Nat.le_of_ble_eq_true rfl) (Nat.le_of_ble_eq_true rfl) (Nat.le_of_ble_eq_true rfl) hlocks (fun t a1 a2 a3 => xX_post rfl hK hX t a1 a2 a3) hX.2.2.2.2 (Nat.le_refl _) (Nat.le_refl _)
def fC_Court_oath (g : CS) (x1 : Int32) (x2 : Int32) : Option (Nat ⊕ (Int32 × CS)) :=
  xb (fC_Court_personAt g x1) fun v1 =>
  xb (fC_Court_landAt g x2) fun v3 =>
  (ck g 5 v1).bind fun _ =>
  om (sJ g 5 v1 9) (
    fC_Court_oath_76 g)
    fun v7 =>
    (ck g 4 v7).bind fun _ =>
    (ck g 4 v3).bind fun _ =>
    if v7 = v3 then
      (fC_Person_isOf v1 g v3).bind fun r12 =>
      if r12 = 0 then
        (fC_Permits_isValid v1 g (sI g 4 v3 0) (sI g 0 0 6)).bind fun r14 =>
        if r14 = 0 then
          fC_Court_oath_76 g
        else
          (fC_Row_at 14 v1 g (sI g 4 v3 0)).bind fun r16 =>
          if 1080 ≤ ((sI g 0 0 6) - r16) then
            (fC_Land_bit v3 g).bind fun r18 =>
            (some (uI g 5 v1 8 ((sI g 5 v1 8) ||| r18))).bind fun g19 =>
            some (.inr (sI g19 5 v1 8, g19))
          else
            fC_Court_oath_76 g
      else
        fC_Court_oath_76 g
    else
      fC_Court_oath_76 g
set_option maxRecDepth 20000 in
theorem w_C_Court_oath_0 (C : cC p s m args meth c cX8_oath RX8 (some .int) wsX8_oath 5 D yI yO) {gz : CS} {rz : Int32} {g : CS} {x1 : Int32} {x2 : Int32} (h : fC_Court_oath g x1 x2 = some (.inr (rz, gz))) {H : Heap} {locs : List Loc} {ls : Array Slot} (hX : cX D yI yO z0 ad g A s H locs) (hl : lv_has ls 5 [(0, .ref (ad 0 0)), (1, .int x1), (2, .int x2)]) : W p l e (mR 4 85) s m args below meth c H locs 0 0 (MQ below (cQ D yI yO z0 ad rz gz A) args s 0 0 A) (F0 m 0 ls []) := by
  obtain ⟨hx, hb, hr, hts, hown, hlocks, hml, hK⟩ := id C
  unfold fC_Court_oath at h
  refine lv_aload_n hx hb dX8_oath_0 rfl (lv_at hl 0 rfl) ?_
  refine lv_iload_n hx hb dX8_oath_1 rfl (lv_at hl 1 rfl) ?_
  obtain ⟨v1, et2, h⟩ := xb_ret h
  refine cg_callVq (As := [.int x1]) (rest := []) ⟨hx, hb, hml, hown, hts⟩ 0 0 rfl (ci := 9) rfl rfl (cC_Court_personAt l D yI yO z0 ad et2) (cwV 1 hts gX8_oath_X8_personAt rfl rfl rfl (by decide +kernel) ⟨Nat.le_of_ble_eq_true rfl, Nat.le_of_ble_eq_true rfl⟩) hK hX rfl hl.1 rfl (Nat.le_of_ble_eq_true rfl) dX8_oath_2 ⟨Nat.zero_le _, Nat.zero_le _⟩ (fun H locs hX => ?_)
  refine W.eq (g2 := F0 m 5 ls [.ref (ad 5 v1)]) rfl ?_
  refine lv_astore_n (lv' := [(3, .ref (ad 5 v1)), (0, .ref (ad 0 0)), (1, .int x1), (2, .int x2)]) hx hb dX8_oath_5 rfl hl (by decide) rfl (fun ls hl => ?_)
  refine lv_aload_n hx hb dX8_oath_6 rfl (lv_at hl 1 rfl) ?_
  refine lv_iload_n hx hb dX8_oath_7 rfl (lv_at hl 3 rfl) ?_
  obtain ⟨v3, et4, h⟩ := xb_ret h
  refine cg_callVq (As := [.int x2]) (rest := []) ⟨hx, hb, hml, hown, hts⟩ 0 0 rfl (ci := 9) rfl rfl (cC_Court_landAt l D yI yO z0 ad et4) (cwV 1 hts gX8_oath_X8_landAt rfl rfl rfl (by decide +kernel) ⟨Nat.le_of_ble_eq_true rfl, Nat.le_of_ble_eq_true rfl⟩) hK hX rfl hl.1 rfl (Nat.le_of_ble_eq_true rfl) dX8_oath_8 ⟨Nat.zero_le _, Nat.zero_le _⟩ (fun H locs hX => ?_)
  refine W.eq (g2 := F0 m 11 ls [.ref (ad 4 v3)]) rfl ?_
  refine lv_astore (lv' := [(4, .ref (ad 4 v3)), (3, .ref (ad 5 v1)), (0, .ref (ad 0 0)), (1, .int x1), (2, .int x2)]) hx hb dX8_oath_11 hl (by decide) rfl (fun ls hl => ?_)
  refine lv_aload_n hx hb dX8_oath_13 rfl (lv_at hl 1 rfl) ?_
  obtain ⟨_, hv5, h⟩ := mbind h
  replace hv5 := ck_spec hv5
  rcases ho6 : sJ g 5 v1 9 with _ | v7
  · replace h := om_n ho6 h
    refine cg_get hx hb hts iC_Court_oath_X3 hown hK hX 5 v1 hv5 rfl rfl 9 (by decide) (hts (.fieldLink RX8 110 "PassageCourt$Person" "there" "LPassageCourt$Land;") (by decide +kernel)) (fun _ h9 => h9) (v := .null) (by rw [ho6]; rfl) dX8_oath_14 ?_
    refine lv_aload hx hb dX8_oath_17 (lv_at hl 0 rfl) ?_
    refine lv_acmp_ne (rx := none) (ry := some (ad 4 v3)) (tgt := 76) hx hb dX8_oath_19 (by decide) (fun c8 => ?_) (fun c8 => ?_)
    · skip
      exact w_C_Court_oath_76 C h hX (lv_sub hl [2] rfl)
    · cases c8
  · replace h := om_s ho6 h
    refine cg_get hx hb hts iC_Court_oath_X3 hown hK hX 5 v1 hv5 rfl rfl 9 (by decide) (hts (.fieldLink RX8 110 "PassageCourt$Person" "there" "LPassageCourt$Land;") (by decide +kernel)) (fun _ h9 => h9) (v := .ref (ad 4 v7)) (by rw [ho6]; rfl) dX8_oath_14 ?_
    refine lv_aload hx hb dX8_oath_17 (lv_at hl 0 rfl) ?_
    obtain ⟨_, hv10, h⟩ := mbind h
    replace hv10 := ck_spec hv10
    obtain ⟨_, hv11, h⟩ := mbind h
    replace hv11 := ck_spec hv11
    refine lv_acmp_ne (rx := some (ad 4 v7)) (ry := some (ad 4 v3)) (tgt := 76) hx hb dX8_oath_19 (by decide) (fun c9 => ?_) (fun c9 => ?_)
    · replace h := mneg (fun z => c9 ((cX_inj (k := 4) hX hv10 hv11).mpr z)) h
      exact w_C_Court_oath_76 C h hX (lv_sub hl [2] rfl)
    · replace h := mpos ((cX_inj (k := 4) hX hv10 hv11).mp c9) h
      refine lv_aload_n hx hb dX8_oath_22 rfl (lv_at hl 1 rfl) ?_
      refine lv_aload hx hb dX8_oath_23 (lv_at hl 0 rfl) ?_
      obtain ⟨r12, er12, h⟩ := mbind h
      refine cg_callV (As := [.ref (ad 4 v3)]) (rest := []) ⟨hx, hb, hml, hown, hts⟩ 5 v1 hv5 (ci := 4) rfl rfl (cC_Person_isOf l D yI yO z0 ad er12) (cwV 1 hts gX8_oath_X3_isOf rfl rfl rfl (by decide +kernel) ⟨Nat.le_of_ble_eq_true rfl, Nat.le_of_ble_eq_true rfl⟩) hK hX rfl hl.1 rfl (Nat.le_of_ble_eq_true rfl) dX8_oath_25 ⟨Nat.zero_le _, Nat.zero_le _⟩ (fun H locs hX => ?_)
      refine lv_if_ne (tgt := 76) hx hb dX8_oath_28 (by decide) (fun c13 => ?_) (fun c13 => ?_)
      · replace h := mneg c13 h
        exact w_C_Court_oath_76 C h hX (lv_sub hl [2] rfl)
      · replace h := mpos c13 h
        refine lv_aload_n hx hb dX8_oath_31 rfl (lv_at hl 1 rfl) ?_
        refine cg_get hx hb hts iC_Court_oath_X3 hown hK hX 5 v1 hv5 rfl rfl 7 (by decide) (hts (.fieldLink RX8 279 "PassageCourt$Person" "permits" "LPassageCourt$Permits;") (by decide +kernel)) (fun _ h9 => h9) rfl dX8_oath_32 ?_
        refine lv_aload hx hb dX8_oath_35 (lv_at hl 0 rfl) ?_
        refine cg_get hx hb hts iC_Court_oath_X1 hown hK hX 4 v3 hv11 rfl rfl 0 (by decide) (hts (.fieldLink RX8 66 "PassageCourt$Land" "number" "I") (by decide +kernel)) (fun _ h9 => h9) rfl dX8_oath_37 ?_
        refine lv_aload_n hx hb dX8_oath_40 rfl (lv_at hl 2 rfl) ?_
        refine cg_get hx hb hts iC_Court_oath_X8 hown hK hX 0 0 rfl rfl rfl 6 (by decide) (hts (.fieldLink RX8 37 "PassageCourt" "today" "I") (by decide +kernel)) (fun _ h9 => h9) rfl dX8_oath_41 ?_
        obtain ⟨r14, er14, h⟩ := mbind h
        refine cg_callV (As := [.int (sI g 4 v3 0), .int (sI g 0 0 6)]) (rest := []) ⟨hx, hb, hml, hown, hts⟩ 25 v1 hv5 (ci := 3) rfl rfl (cC_Permits_isValid l D yI yO z0 ad er14) (cwV 2 hts gX8_oath_X2_isValid rfl rfl rfl (by decide +kernel) ⟨Nat.le_of_ble_eq_true rfl, Nat.le_of_ble_eq_true rfl⟩) hK hX rfl hl.1 rfl (Nat.le_of_ble_eq_true rfl) dX8_oath_44 ⟨Nat.zero_le _, Nat.zero_le _⟩ (fun H locs hX => ?_)
        refine lv_if_eq (tgt := 76) hx hb dX8_oath_47 (by decide) (fun c15 => ?_) (fun c15 => ?_)
        · replace h := mpos c15 h
          exact w_C_Court_oath_76 C h hX (lv_sub hl [2] rfl)
        · replace h := mneg c15 h
          refine lv_aload_n hx hb dX8_oath_50 rfl (lv_at hl 2 rfl) ?_
          refine cg_get hx hb hts iC_Court_oath_X8 hown hK hX 0 0 rfl rfl rfl 6 (by decide) (hts (.fieldLink RX8 37 "PassageCourt" "today" "I") (by decide +kernel)) (fun _ h9 => h9) rfl dX8_oath_51 ?_
          refine lv_aload_n hx hb dX8_oath_54 rfl (lv_at hl 1 rfl) ?_
          refine cg_get hx hb hts iC_Court_oath_X3 hown hK hX 5 v1 hv5 rfl rfl 7 (by decide) (hts (.fieldLink RX8 279 "PassageCourt$Person" "permits" "LPassageCourt$Permits;") (by decide +kernel)) (fun _ h9 => h9) rfl dX8_oath_55 ?_
          refine cg_get hx hb hts iC_Court_oath_X2 hown hK hX 25 v1 hv5 rfl rfl 0 (by decide) (hts (.fieldLink RX8 297 "PassageCourt$Permits" "since" "LPassageCourt$Row;") (by decide +kernel)) (fun _ h9 => h9) rfl dX8_oath_58 ?_
          refine lv_aload hx hb dX8_oath_61 (lv_at hl 0 rfl) ?_
          refine cg_get hx hb hts iC_Court_oath_X1 hown hK hX 4 v3 hv11 rfl rfl 0 (by decide) (hts (.fieldLink RX8 66 "PassageCourt$Land" "number" "I") (by decide +kernel)) (fun _ h9 => h9) rfl dX8_oath_63 ?_
          obtain ⟨r16, er16, h⟩ := mbind h
          refine cg_callV (As := [.int (sI g 4 v3 0)]) (rest := [.int (sI g 0 0 6)]) ⟨hx, hb, hml, hown, hts⟩ 14 v1 hv5 (ci := 6) rfl rfl (cC_Row_at l D yI yO z0 ad ⟨by decide, by decide⟩ er16) (cwV 1 hts gX8_oath_X5_at rfl rfl rfl (by decide +kernel) ⟨Nat.le_of_ble_eq_true rfl, Nat.le_of_ble_eq_true rfl⟩) hK hX rfl hl.1 rfl (Nat.le_of_ble_eq_true rfl) dX8_oath_66 ⟨Nat.zero_le _, Nat.zero_le _⟩ (fun H locs hX => ?_)
          refine lv_isub hx hb dX8_oath_69 ?_
          refine lv_sipush (v := 1080) hx hb dX8_oath_70 (by decide) ?_
          refine lv_icmp_ge (tgt := 87) hx hb dX8_oath_73 (by decide) (fun c17 => ?_) (fun c17 => ?_)
          · replace h := mpos c17 h
            refine lv_aload_n hx hb dX8_oath_87 rfl (lv_at hl 1 rfl) ?_
            refine lv_dup hx hb dX8_oath_88 rfl ?_
            refine cg_get hx hb hts iC_Court_oath_X3 hown hK hX 5 v1 hv5 rfl rfl 8 (by decide) (hts (.fieldLink RX8 124 "PassageCourt$Person" "nations" "I") (by decide +kernel)) (fun _ h9 => h9) rfl dX8_oath_89 ?_
            refine lv_aload hx hb dX8_oath_92 (lv_at hl 0 rfl) ?_
            obtain ⟨r18, er18, h⟩ := mbind h
            refine cg_callV (As := []) (rest := [.int (sI g 5 v1 8), .ref (ad 5 v1)]) ⟨hx, hb, hml, hown, hts⟩ 4 v3 hv11 (ci := 2) rfl rfl (cC_Land_bit l D yI yO z0 ad er18) (cwV 0 hts gX8_oath_X1_bit rfl rfl rfl (by decide +kernel) ⟨Nat.le_of_ble_eq_true rfl, Nat.le_of_ble_eq_true rfl⟩) hK hX rfl hl.1 rfl (Nat.le_of_ble_eq_true rfl) dX8_oath_94 ⟨Nat.zero_le _, Nat.zero_le _⟩ (fun H locs hX => ?_)
            refine lv_ior hx hb dX8_oath_97 ?_
            obtain ⟨g19, eg19, h⟩ := mbind h
            refine cg_put hx hb hts iC_Court_oath_X3 tyX3 tyX3_ok nmX3 hown hK hX 5 v1 hv5 rfl rfl 8 (by decide) (hts (.fieldLink RX8 124 "PassageCourt$Person" "nations" "I") (by decide +kernel)) (fun _ h9 => h9) rfl (by decide +kernel) rfl rfl (ty := .int) (g1 := (uI g 5 v1 8 ((sI g 5 v1 8) ||| r18))) (Nat.le_of_ble_eq_true rfl) (by unfold cent; rw [sI_up]; rfl) (fun _ _ => rfl) rfl (fun _ _ hab => cent_uI yI yO ad _ _ _ hab) dX8_oath_98 (fun H locs hX => ?_)
            have eg19 := Option.some.inj eg19
            rw [eg19] at hX
            have hv20 : clvb g19 5 v1 = true := by rw [← eg19]; exact hv5
            have hv21 : clvb g19 4 v7 = true := by rw [← eg19]; exact hv10
            have hv22 : clvb g19 4 v3 = true := by rw [← eg19]; exact hv11
            refine lv_aload_n hx hb dX8_oath_101 rfl (lv_at hl 1 rfl) ?_
            refine cg_get hx hb hts iC_Court_oath_X3 hown hK hX 5 v1 hv20 rfl rfl 8 (by decide) (hts (.fieldLink RX8 124 "PassageCourt$Person" "nations" "I") (by decide +kernel)) (fun _ h9 => h9) rfl dX8_oath_102 ?_
            cases h
            exact cg_reti hx hb hr hlocks hK hX dX8_oath_105
          · replace h := mneg c17 h
            exact w_C_Court_oath_76 C h hX (lv_sub hl [2] rfl)
set_option maxRecDepth 20000 in
theorem w_X_Court_oath_0 (C : cC p s m args meth c cX8_oath RX8 (some .int) wsX8_oath 5 D yI yO) {Qc : Array Value → State → Outcome → State → Prop} (hlf : l.stackTraces = false) (ht : ∀ x ∈ c.exceptionTable.toList, False) (hxs : xS A s s.heap) (hA : ∀ q, s.heap.size ≤ q → A q) {ez : Nat} {g : CS} {x1 : Int32} {x2 : Int32} (h : fC_Court_oath g x1 x2 = some (.inl ez)) {H : Heap} {locs : List Loc} {ls : Array Slot} (hX : cX D yI yO z0 ad g A s H locs) (hl : lv_has ls 5 [(0, .ref (ad 0 0)), (1, .int x1), (2, .int x2)]) : W p l e (xR 7 111) s m args below meth c H locs 0 0 (vx_MQ below Qc (xXC D yI yO z0 ad g ez A) args s 1 6 A) (F0 m 0 ls []) := by
  obtain ⟨hx, hb, hr, hts, hown, hlocks, hml, hK⟩ := id C
  unfold fC_Court_oath at h
  refine lv_aload_n hx hb dX8_oath_0 rfl (lv_at hl 0 rfl) ?_
  refine lv_iload_n hx hb dX8_oath_1 rfl (lv_at hl 1 rfl) ?_
  rcases xb_thr h with et2 | ⟨v1, et2, h⟩
  · exact xg_callV (As := [.int x1]) (rest := []) ⟨hx, hb, hml, hown, hts⟩ 0 0 rfl (ci := 9) rfl rfl (cX_Court_personAt l hlf D yI yO z0 ad H.size et2) (cwV 1 hts gX8_oath_X8_personAt rfl rfl rfl (by decide +kernel) ⟨Nat.le_of_ble_eq_true rfl, Nat.le_of_ble_eq_true rfl⟩) hK hX hA hxs ht hlocks rfl hl.1 rfl (Nat.le_of_ble_eq_true rfl) dX8_oath_2 ⟨Nat.le_refl _, Nat.le_refl _⟩
  refine cg_callVq (As := [.int x1]) (rest := []) ⟨hx, hb, hml, hown, hts⟩ 0 0 rfl (ci := 9) rfl rfl (cC_Court_personAt l D yI yO z0 ad et2) (cwV 1 hts gX8_oath_X8_personAt rfl rfl rfl (by decide +kernel) ⟨Nat.le_of_ble_eq_true rfl, Nat.le_of_ble_eq_true rfl⟩) hK hX rfl hl.1 rfl (Nat.le_of_ble_eq_true rfl) dX8_oath_2 ⟨Nat.zero_le _, Nat.zero_le _⟩ (fun H locs hX => ?_)
  refine W.eq (g2 := F0 m 5 ls [.ref (ad 5 v1)]) rfl ?_
  refine lv_astore_n (lv' := [(3, .ref (ad 5 v1)), (0, .ref (ad 0 0)), (1, .int x1), (2, .int x2)]) hx hb dX8_oath_5 rfl hl (by decide) rfl (fun ls hl => ?_)
  refine lv_aload_n hx hb dX8_oath_6 rfl (lv_at hl 1 rfl) ?_
  refine lv_iload_n hx hb dX8_oath_7 rfl (lv_at hl 3 rfl) ?_
  rcases xb_thr h with et4 | ⟨v3, et4, h⟩
  · exact xg_callV (As := [.int x2]) (rest := []) ⟨hx, hb, hml, hown, hts⟩ 0 0 rfl (ci := 9) rfl rfl (cX_Court_landAt l hlf D yI yO z0 ad H.size et4) (cwV 1 hts gX8_oath_X8_landAt rfl rfl rfl (by decide +kernel) ⟨Nat.le_of_ble_eq_true rfl, Nat.le_of_ble_eq_true rfl⟩) hK hX hA hxs ht hlocks rfl hl.1 rfl (Nat.le_of_ble_eq_true rfl) dX8_oath_8 ⟨Nat.le_refl _, Nat.le_refl _⟩
  refine cg_callVq (As := [.int x2]) (rest := []) ⟨hx, hb, hml, hown, hts⟩ 0 0 rfl (ci := 9) rfl rfl (cC_Court_landAt l D yI yO z0 ad et4) (cwV 1 hts gX8_oath_X8_landAt rfl rfl rfl (by decide +kernel) ⟨Nat.le_of_ble_eq_true rfl, Nat.le_of_ble_eq_true rfl⟩) hK hX rfl hl.1 rfl (Nat.le_of_ble_eq_true rfl) dX8_oath_8 ⟨Nat.zero_le _, Nat.zero_le _⟩ (fun H locs hX => ?_)
  refine W.eq (g2 := F0 m 11 ls [.ref (ad 4 v3)]) rfl ?_
  refine lv_astore (lv' := [(4, .ref (ad 4 v3)), (3, .ref (ad 5 v1)), (0, .ref (ad 0 0)), (1, .int x1), (2, .int x2)]) hx hb dX8_oath_11 hl (by decide) rfl (fun ls hl => ?_)
  refine lv_aload_n hx hb dX8_oath_13 rfl (lv_at hl 1 rfl) ?_
  obtain ⟨_, hv5, h⟩ := mbind h
  replace hv5 := ck_spec hv5
  rcases ho6 : sJ g 5 v1 9 with _ | v7
  · replace h := om_n ho6 h
    refine cg_get hx hb hts iC_Court_oath_X3 hown hK hX 5 v1 hv5 rfl rfl 9 (by decide) (hts (.fieldLink RX8 110 "PassageCourt$Person" "there" "LPassageCourt$Land;") (by decide +kernel)) (fun _ h9 => h9) (v := .null) (by rw [ho6]; rfl) dX8_oath_14 ?_
    refine lv_aload hx hb dX8_oath_17 (lv_at hl 0 rfl) ?_
    refine lv_acmp_ne (rx := none) (ry := some (ad 4 v3)) (tgt := 76) hx hb dX8_oath_19 (by decide) (fun c8 => ?_) (fun c8 => ?_)
    · skip
      exact w_X_Court_oath_76 C hlf ht hxs hA h hX (lv_sub hl [2] rfl)
    · cases c8
  · replace h := om_s ho6 h
    refine cg_get hx hb hts iC_Court_oath_X3 hown hK hX 5 v1 hv5 rfl rfl 9 (by decide) (hts (.fieldLink RX8 110 "PassageCourt$Person" "there" "LPassageCourt$Land;") (by decide +kernel)) (fun _ h9 => h9) (v := .ref (ad 4 v7)) (by rw [ho6]; rfl) dX8_oath_14 ?_
    refine lv_aload hx hb dX8_oath_17 (lv_at hl 0 rfl) ?_
    obtain ⟨_, hv10, h⟩ := mbind h
    replace hv10 := ck_spec hv10
    obtain ⟨_, hv11, h⟩ := mbind h
    replace hv11 := ck_spec hv11
    refine lv_acmp_ne (rx := some (ad 4 v7)) (ry := some (ad 4 v3)) (tgt := 76) hx hb dX8_oath_19 (by decide) (fun c9 => ?_) (fun c9 => ?_)
    · replace h := mneg (fun z => c9 ((cX_inj (k := 4) hX hv10 hv11).mpr z)) h
      exact w_X_Court_oath_76 C hlf ht hxs hA h hX (lv_sub hl [2] rfl)
    · replace h := mpos ((cX_inj (k := 4) hX hv10 hv11).mp c9) h
      refine lv_aload_n hx hb dX8_oath_22 rfl (lv_at hl 1 rfl) ?_
      refine lv_aload hx hb dX8_oath_23 (lv_at hl 0 rfl) ?_
      obtain ⟨r12, er12, h⟩ := mbind h
      refine cg_callV (As := [.ref (ad 4 v3)]) (rest := []) ⟨hx, hb, hml, hown, hts⟩ 5 v1 hv5 (ci := 4) rfl rfl (cC_Person_isOf l D yI yO z0 ad er12) (cwV 1 hts gX8_oath_X3_isOf rfl rfl rfl (by decide +kernel) ⟨Nat.le_of_ble_eq_true rfl, Nat.le_of_ble_eq_true rfl⟩) hK hX rfl hl.1 rfl (Nat.le_of_ble_eq_true rfl) dX8_oath_25 ⟨Nat.zero_le _, Nat.zero_le _⟩ (fun H locs hX => ?_)
      refine lv_if_ne (tgt := 76) hx hb dX8_oath_28 (by decide) (fun c13 => ?_) (fun c13 => ?_)
      · replace h := mneg c13 h
        exact w_X_Court_oath_76 C hlf ht hxs hA h hX (lv_sub hl [2] rfl)
      · replace h := mpos c13 h
        refine lv_aload_n hx hb dX8_oath_31 rfl (lv_at hl 1 rfl) ?_
        refine cg_get hx hb hts iC_Court_oath_X3 hown hK hX 5 v1 hv5 rfl rfl 7 (by decide) (hts (.fieldLink RX8 279 "PassageCourt$Person" "permits" "LPassageCourt$Permits;") (by decide +kernel)) (fun _ h9 => h9) rfl dX8_oath_32 ?_
        refine lv_aload hx hb dX8_oath_35 (lv_at hl 0 rfl) ?_
        refine cg_get hx hb hts iC_Court_oath_X1 hown hK hX 4 v3 hv11 rfl rfl 0 (by decide) (hts (.fieldLink RX8 66 "PassageCourt$Land" "number" "I") (by decide +kernel)) (fun _ h9 => h9) rfl dX8_oath_37 ?_
        refine lv_aload_n hx hb dX8_oath_40 rfl (lv_at hl 2 rfl) ?_
        refine cg_get hx hb hts iC_Court_oath_X8 hown hK hX 0 0 rfl rfl rfl 6 (by decide) (hts (.fieldLink RX8 37 "PassageCourt" "today" "I") (by decide +kernel)) (fun _ h9 => h9) rfl dX8_oath_41 ?_
        obtain ⟨r14, er14, h⟩ := mbind h
        refine cg_callV (As := [.int (sI g 4 v3 0), .int (sI g 0 0 6)]) (rest := []) ⟨hx, hb, hml, hown, hts⟩ 25 v1 hv5 (ci := 3) rfl rfl (cC_Permits_isValid l D yI yO z0 ad er14) (cwV 2 hts gX8_oath_X2_isValid rfl rfl rfl (by decide +kernel) ⟨Nat.le_of_ble_eq_true rfl, Nat.le_of_ble_eq_true rfl⟩) hK hX rfl hl.1 rfl (Nat.le_of_ble_eq_true rfl) dX8_oath_44 ⟨Nat.zero_le _, Nat.zero_le _⟩ (fun H locs hX => ?_)
        refine lv_if_eq (tgt := 76) hx hb dX8_oath_47 (by decide) (fun c15 => ?_) (fun c15 => ?_)
        · replace h := mpos c15 h
          exact w_X_Court_oath_76 C hlf ht hxs hA h hX (lv_sub hl [2] rfl)
        · replace h := mneg c15 h
          refine lv_aload_n hx hb dX8_oath_50 rfl (lv_at hl 2 rfl) ?_
          refine cg_get hx hb hts iC_Court_oath_X8 hown hK hX 0 0 rfl rfl rfl 6 (by decide) (hts (.fieldLink RX8 37 "PassageCourt" "today" "I") (by decide +kernel)) (fun _ h9 => h9) rfl dX8_oath_51 ?_
          refine lv_aload_n hx hb dX8_oath_54 rfl (lv_at hl 1 rfl) ?_
          refine cg_get hx hb hts iC_Court_oath_X3 hown hK hX 5 v1 hv5 rfl rfl 7 (by decide) (hts (.fieldLink RX8 279 "PassageCourt$Person" "permits" "LPassageCourt$Permits;") (by decide +kernel)) (fun _ h9 => h9) rfl dX8_oath_55 ?_
          refine cg_get hx hb hts iC_Court_oath_X2 hown hK hX 25 v1 hv5 rfl rfl 0 (by decide) (hts (.fieldLink RX8 297 "PassageCourt$Permits" "since" "LPassageCourt$Row;") (by decide +kernel)) (fun _ h9 => h9) rfl dX8_oath_58 ?_
          refine lv_aload hx hb dX8_oath_61 (lv_at hl 0 rfl) ?_
          refine cg_get hx hb hts iC_Court_oath_X1 hown hK hX 4 v3 hv11 rfl rfl 0 (by decide) (hts (.fieldLink RX8 66 "PassageCourt$Land" "number" "I") (by decide +kernel)) (fun _ h9 => h9) rfl dX8_oath_63 ?_
          obtain ⟨r16, er16, h⟩ := mbind h
          refine cg_callV (As := [.int (sI g 4 v3 0)]) (rest := [.int (sI g 0 0 6)]) ⟨hx, hb, hml, hown, hts⟩ 14 v1 hv5 (ci := 6) rfl rfl (cC_Row_at l D yI yO z0 ad ⟨by decide, by decide⟩ er16) (cwV 1 hts gX8_oath_X5_at rfl rfl rfl (by decide +kernel) ⟨Nat.le_of_ble_eq_true rfl, Nat.le_of_ble_eq_true rfl⟩) hK hX rfl hl.1 rfl (Nat.le_of_ble_eq_true rfl) dX8_oath_66 ⟨Nat.zero_le _, Nat.zero_le _⟩ (fun H locs hX => ?_)
          refine lv_isub hx hb dX8_oath_69 ?_
          refine lv_sipush (v := 1080) hx hb dX8_oath_70 (by decide) ?_
          refine lv_icmp_ge (tgt := 87) hx hb dX8_oath_73 (by decide) (fun c17 => ?_) (fun c17 => ?_)
          · replace h := mpos c17 h
            refine lv_aload_n hx hb dX8_oath_87 rfl (lv_at hl 1 rfl) ?_
            refine lv_dup hx hb dX8_oath_88 rfl ?_
            refine cg_get hx hb hts iC_Court_oath_X3 hown hK hX 5 v1 hv5 rfl rfl 8 (by decide) (hts (.fieldLink RX8 124 "PassageCourt$Person" "nations" "I") (by decide +kernel)) (fun _ h9 => h9) rfl dX8_oath_89 ?_
            refine lv_aload hx hb dX8_oath_92 (lv_at hl 0 rfl) ?_
            obtain ⟨r18, er18, h⟩ := mbind h
            refine cg_callV (As := []) (rest := [.int (sI g 5 v1 8), .ref (ad 5 v1)]) ⟨hx, hb, hml, hown, hts⟩ 4 v3 hv11 (ci := 2) rfl rfl (cC_Land_bit l D yI yO z0 ad er18) (cwV 0 hts gX8_oath_X1_bit rfl rfl rfl (by decide +kernel) ⟨Nat.le_of_ble_eq_true rfl, Nat.le_of_ble_eq_true rfl⟩) hK hX rfl hl.1 rfl (Nat.le_of_ble_eq_true rfl) dX8_oath_94 ⟨Nat.zero_le _, Nat.zero_le _⟩ (fun H locs hX => ?_)
            refine lv_ior hx hb dX8_oath_97 ?_
            obtain ⟨g19, eg19, h⟩ := mbind h
            refine cg_put hx hb hts iC_Court_oath_X3 tyX3 tyX3_ok nmX3 hown hK hX 5 v1 hv5 rfl rfl 8 (by decide) (hts (.fieldLink RX8 124 "PassageCourt$Person" "nations" "I") (by decide +kernel)) (fun _ h9 => h9) rfl (by decide +kernel) rfl rfl (ty := .int) (g1 := (uI g 5 v1 8 ((sI g 5 v1 8) ||| r18))) (Nat.le_of_ble_eq_true rfl) (by unfold cent; rw [sI_up]; rfl) (fun _ _ => rfl) rfl (fun _ _ hab => cent_uI yI yO ad _ _ _ hab) dX8_oath_98 (fun H locs hX => ?_)
            have eg19 := Option.some.inj eg19
            rw [eg19] at hX
            have hv20 : clvb g19 5 v1 = true := by rw [← eg19]; exact hv5
            have hv21 : clvb g19 4 v7 = true := by rw [← eg19]; exact hv10
            have hv22 : clvb g19 4 v3 = true := by rw [← eg19]; exact hv11
            refine lv_aload_n hx hb dX8_oath_101 rfl (lv_at hl 1 rfl) ?_
            refine cg_get hx hb hts iC_Court_oath_X3 hown hK hX 5 v1 hv20 rfl rfl 8 (by decide) (hts (.fieldLink RX8 124 "PassageCourt$Person" "nations" "I") (by decide +kernel)) (fun _ h9 => h9) rfl dX8_oath_102 ?_
            cases h
          · replace h := mneg c17 h
            exact w_X_Court_oath_76 C hlf ht hxs hA h hX (lv_sub hl [2] rfl)
set_option maxRecDepth 20000 in
theorem cC_Court_oath (l : Launch) (D : va_G) (yI yO : ClassId) (z0 : Nat) (ad : Nat → Nat → Nat) {g : CS} {gz : CS} {rz : Int32} {x1 : Int32} {x2 : Int32} (h : fC_Court_oath g x1 x2 = some (.inr (rz, gz))) : Met l yX8_oath wsX8_oath (mR 4 85) (va_Pc [.ref (ad 0 0), .int x1, .int x2] (cPre D yI yO z0 ad g)) (cQ D yI yO z0 ad rz gz (cF ad g)) 0 0 (cF ad g) := by
  refine Met.ofW (cc := cX8_oath) (maxL := 5) (ret := (some .int)) (by decide) rfl ?_
  intro p e s m args below meth c s₁ B hml hv
  obtain ⟨hv0, hw, hK⟩ := hv
  have hv1 : args = [.ref (ad 0 0), .int x1, .int x2].toArray := hv0
  subst hv1
  have C : cC p s m _ meth c cX8_oath RX8 (some .int) wsX8_oath 5 D yI yO := ⟨B.exec, B.bytes, B.returns, atoms_spec (ws := wsX8_oath) B.pre, findClass_of_methodNamed B.named, B.notSynchronized, hml, hK⟩
  have hl := lv_entry ([.ref (ad 0 0), .int x1, .int x2]) (n := 5) (Nat.le_of_ble_eq_true rfl)
  rw [lg_entry_eq]
  generalize (lg_sl ([.ref (ad 0 0), .int x1, .int x2]) ++ List.replicate (5 - (lg_sl ([.ref (ad 0 0), .int x1, .int x2])).length) Slot.unset).toArray = ls at hl ⊢
  have hl : lv_has ls 5 [(0, .ref (ad 0 0)), (1, .int x1), (2, .int x2)] := hl
  exact w_C_Court_oath_0 C h ⟨hw, fun k i hi => ⟨k, i, hi, rfl⟩, va_S.rf⟩ hl
set_option maxRecDepth 20000 in
theorem cX_Court_oath (l : Launch) (hlf : l.stackTraces = false) (D : va_G) (yI yO : ClassId) (z0 : Nat) (ad : Nat → Nat → Nat) {g : CS} {ez : Nat} {x1 : Int32} {x2 : Int32} (sz : Nat) (h : fC_Court_oath g x1 x2 = some (.inl ez)) : vx_Met l yX8_oath wsX8_oath (xR 7 111) (va_Pc [.ref (ad 0 0), .int x1, .int x2] (xPre D yI yO z0 ad g sz)) (xQ (cA ad g sz)) (xXC D yI yO z0 ad g ez (cA ad g sz)) 1 6 (cA ad g sz) := by
  refine vx_ofW (cc := cX8_oath) (maxL := 5) (ret := (some .int)) (by decide) rfl ?_
  intro p e s m args below meth c s₁ B hml ht hv
  obtain ⟨hv0, ⟨hw, hK⟩, hsz, hxs⟩ := hv
  subst hsz
  have hv1 : args = [.ref (ad 0 0), .int x1, .int x2].toArray := hv0
  subst hv1
  have C : cC p s m _ meth c cX8_oath RX8 (some .int) wsX8_oath 5 D yI yO := ⟨B.exec, B.bytes, B.returns, atoms_spec (ws := wsX8_oath) B.pre, findClass_of_methodNamed B.named, B.notSynchronized, hml, hK⟩
  have hl := lv_entry ([.ref (ad 0 0), .int x1, .int x2]) (n := 5) (Nat.le_of_ble_eq_true rfl)
  rw [lg_entry_eq]
  generalize (lg_sl ([.ref (ad 0 0), .int x1, .int x2]) ++ List.replicate (5 - (lg_sl ([.ref (ad 0 0), .int x1, .int x2])).length) Slot.unset).toArray = ls at hl ⊢
  have hl : lv_has ls 5 [(0, .ref (ad 0 0)), (1, .int x1), (2, .int x2)] := hl
  exact w_X_Court_oath_0 C hlf ht hxs (fun q h => Or.inr h) h ⟨hw, fun k i hi => Or.inl ⟨k, i, hi, rfl⟩, va_S.rf⟩ hl
theorem iC_Court_pass_X8 : ∀ w ∈ wsX80, w ∈ wsX8_pass := by decide +kernel
theorem eC_Court_pass_45 : ∀ w ∈ (vx_atS RX8 45 "java/lang/IllegalArgumentException" ["java/lang/RuntimeException", "java/lang/Exception"]).filter goodWord, w ∈ wsX8_pass := by decide +kernel
theorem eC_Court_pass_56 : ∀ w ∈ (vx_atS RX8 56 "java/lang/IllegalStateException" ["java/lang/RuntimeException", "java/lang/Exception"]).filter goodWord, w ∈ wsX8_pass := by decide +kernel
def fC_Court_pass_11 (g : CS) : Option (Nat ⊕ (Int32 × CS)) :=
  some (.inl 1)
set_option maxRecDepth 20000 in
theorem w_C_Court_pass_11 (C : cC p s m args meth c cX8_pass RX8 (some .int) wsX8_pass 3 D yI yO) {gz : CS} {rz : Int32} {g : CS} (h : fC_Court_pass_11 g = some (.inr (rz, gz))) {H : Heap} {locs : List Loc} {ls : Array Slot} (hX : cX D yI yO z0 ad g A s H locs) (hl : lv_has ls 3 [(0, .ref (ad 0 0))]) : W p l e (mR 8 178) s m args below meth c H locs 0 0 (MQ below (cQ D yI yO z0 ad rz gz A) args s 0 0 A) (F0 m 11 ls []) := by
  obtain ⟨hx, hb, hr, hts, hown, hlocks, hml, hK⟩ := id C
  unfold fC_Court_pass_11 at h
  cases h
set_option maxRecDepth 20000 in
theorem w_X_Court_pass_11 (C : cC p s m args meth c cX8_pass RX8 (some .int) wsX8_pass 3 D yI yO) {Qc : Array Value → State → Outcome → State → Prop} (hlf : l.stackTraces = false) (ht : ∀ x ∈ c.exceptionTable.toList, False) (hxs : xS A s s.heap) (hA : ∀ q, s.heap.size ≤ q → A q) {ez : Nat} {g : CS} (h : fC_Court_pass_11 g = some (.inl ez)) {H : Heap} {locs : List Loc} {ls : Array Slot} (hX : cX D yI yO z0 ad g A s H locs) (hl : lv_has ls 3 [(0, .ref (ad 0 0))]) : W p l e (xR 8 178) s m args below meth c H locs 0 0 (vx_MQ below Qc (xXC D yI yO z0 ad g ez A) args s 1 6 A) (F0 m 11 ls []) := by
  obtain ⟨hx, hb, hr, hts, hown, hlocks, hml, hK⟩ := id C
  unfold fC_Court_pass_11 at h
  cases h
  obtain ⟨sa, hsa⟩ := hxs.2.2.1 (208, "days is out of range") (by decide +kernel)
  exact vx_throwS hx hb hlf (own := RX8) (cls := "java/lang/IllegalArgumentException") (text := "days is out of range") (names := ["java/lang/RuntimeException", "java/lang/Exception"]) (A := A) hown (by decide +kernel) (by decide +kernel) (hts (.classLink RX8 41 "java/lang/IllegalArgumentException") (by decide +kernel)) (hts (.initialized "java/lang/IllegalArgumentException") (by decide +kernel)) hsa (vx_hat (fun w hw => hts w (eC_Court_pass_45 w hw)) (B := xB) (by decide +kernel) (fun w hw => va_Nw.use (xB_on w hw) (hxs.2.2.2 w hw))) (by decide +kernel) hxs.1 hxs.2.1 hX.2.2 (hl.1.trans hml.symm) dX8_pass_11 dX8_pass_14 dX8_pass_15 dX8_pass_17 dX8_pass_20 (fun x hx => (ht x hx).elim) (Nat.le_of_ble_eq_true rfl) (Nat.le_of_ble_eq_true rfl) (Nat.le_of_ble_eq_true rfl) (Nat.le_of_ble_eq_true rfl) hlocks (fun t a1 a2 a3 => xX_post rfl hK hX t a1 a2 a3) hX.2.2.2.2 (Nat.le_refl _) (Nat.le_refl _)
def fC_Court_pass_46 : Nat → CS → Int32 → Int32 → Option (Nat ⊕ (Int32 × CS))
  | 0, _, _, _ => none
  | n + 1, g, x1, x2 =>
    if x1 ≤ x2 then
      some (.inr (sI g 0 0 6, g))
    else
      (fC_Court_beginDay g).bind fun g2 =>
      fC_Court_pass_46 n g2 x1 (x2 + 1)
set_option maxRecDepth 20000 in
theorem w_C_Court_pass_46 (C : cC p s m args meth c cX8_pass RX8 (some .int) wsX8_pass 3 D yI yO) {gz : CS} {rz : Int32} : ∀ (n : Nat) {g : CS} {x1 : Int32} {x2 : Int32} (h : fC_Court_pass_46 n g x1 x2 = some (.inr (rz, gz))) {H : Heap} {locs : List Loc} {ls : Array Slot} (hX : cX D yI yO z0 ad g A s H locs) (hl : lv_has ls 3 [(0, .ref (ad 0 0)), (1, .int x1), (2, .int x2)]), W p l e (mR 8 178) s m args below meth c H locs 0 0 (MQ below (cQ D yI yO z0 ad rz gz A) args s 0 0 A) (F0 m 46 ls []) := by
  obtain ⟨hx, hb, hr, hts, hown, hlocks, hml, hK⟩ := id C
  intro n
  induction n with
  | zero =>
    intro g x1 x2 h
    cases (show (none : Option _) = _ from h)
  | succ n ih =>
    intro g x1 x2 h H locs ls hX hl
    rw [fC_Court_pass_46] at h
    refine lv_iload_n hx hb dX8_pass_46 rfl (lv_at hl 2 rfl) ?_
    refine lv_iload_n hx hb dX8_pass_47 rfl (lv_at hl 1 rfl) ?_
    refine lv_icmp_ge (tgt := 61) hx hb dX8_pass_48 (by decide) (fun c1 => ?_) (fun c1 => ?_)
    · replace h := mpos c1 h
      refine lv_aload_n hx hb dX8_pass_61 rfl (lv_at hl 0 rfl) ?_
      refine cg_get hx hb hts iC_Court_pass_X8 hown hK hX 0 0 rfl rfl rfl 6 (by decide) (hts (.fieldLink RX8 37 "PassageCourt" "today" "I") (by decide +kernel)) (fun _ h9 => h9) rfl dX8_pass_62 ?_
      cases h
      exact cg_reti hx hb hr hlocks hK hX dX8_pass_65
    · replace h := mneg c1 h
      refine lv_aload_n hx hb dX8_pass_51 rfl (lv_at hl 0 rfl) ?_
      obtain ⟨g2, eg2, h⟩ := mbind h
      refine cg_callVv (As := []) (rest := []) ⟨hx, hb, hml, hown, hts⟩ 0 0 rfl (ci := 9) rfl rfl (cC_Court_beginDay l D yI yO z0 ad eg2) (cwV 0 hts gX8_pass_X8_beginDay rfl rfl rfl (by decide +kernel) ⟨Nat.le_of_ble_eq_true rfl, Nat.le_of_ble_eq_true rfl⟩) hK hX rfl hl.1 rfl (Nat.le_of_ble_eq_true rfl) dX8_pass_52 ⟨Nat.zero_le _, Nat.zero_le _⟩ (fun H locs hX => ?_)
      refine lv_iinc (v := x2 + 1) (lv' := [(2, .int (x2 + 1)), (0, .ref (ad 0 0)), (1, .int x1)]) hx hb dX8_pass_55 hl (k := 2) rfl rfl (by decide) rfl (fun ls hl => ?_)
      refine lv_goto (tgt := 46) hx hb dX8_pass_58 (by decide) ?_
      exact ih h hX (lv_sub hl [1, 2, 0] rfl)
theorem nt_C_Court_pass_46 : ∀ (n : Nat) {g : CS} {x1 : Int32} {x2 : Int32}, ntp (fC_Court_pass_46 n g x1 x2) := by
  intro n
  induction n with
  | zero => intros; exact ntp_none
  | succ n ih =>
    intros
    rw [fC_Court_pass_46]
    repeat' first | exact ntp_inr _ | exact ntp_none | refine ntp_bind (fun _ => ?_) | refine ntp_cb2 (fun _ _ => ?_) | refine ntp_om ?_ (fun _ => ?_) | refine ntp_ite ?_ ?_ | exact ih
def fC_Court_pass (g : CS) (x1 : Int32) : Option (Nat ⊕ (Int32 × CS)) :=
  if x1 < 1 then
    fC_Court_pass_11 g
  else
    if x1 ≤ 100 then
      if ((sI g 0 0 6) + x1) ≤ 3600 then
        fC_Court_pass_46 4096 g x1 0
      else
        some (.inl 2)
    else
      fC_Court_pass_11 g
set_option maxRecDepth 20000 in
theorem w_C_Court_pass_0 (C : cC p s m args meth c cX8_pass RX8 (some .int) wsX8_pass 3 D yI yO) {gz : CS} {rz : Int32} {g : CS} {x1 : Int32} (h : fC_Court_pass g x1 = some (.inr (rz, gz))) {H : Heap} {locs : List Loc} {ls : Array Slot} (hX : cX D yI yO z0 ad g A s H locs) (hl : lv_has ls 3 [(0, .ref (ad 0 0)), (1, .int x1)]) : W p l e (mR 8 178) s m args below meth c H locs 0 0 (MQ below (cQ D yI yO z0 ad rz gz A) args s 0 0 A) (F0 m 0 ls []) := by
  obtain ⟨hx, hb, hr, hts, hown, hlocks, hml, hK⟩ := id C
  unfold fC_Court_pass at h
  refine lv_iload_n hx hb dX8_pass_0 rfl (lv_at hl 1 rfl) ?_
  refine lv_iconst (v := 1) hx hb dX8_pass_1 (by decide) ?_
  refine lv_icmp_lt (tgt := 11) hx hb dX8_pass_2 (by decide) (fun c1 => ?_) (fun c1 => ?_)
  · replace h := mpos c1 h
    exact w_C_Court_pass_11 C h hX (lv_sub hl [0] rfl)
  · replace h := mneg c1 h
    refine lv_iload_n hx hb dX8_pass_5 rfl (lv_at hl 1 rfl) ?_
    refine lv_bipush (v := 100) hx hb dX8_pass_6 (by decide) ?_
    refine lv_icmp_le (tgt := 21) hx hb dX8_pass_8 (by decide) (fun c2 => ?_) (fun c2 => ?_)
    · replace h := mpos c2 h
      refine lv_aload_n hx hb dX8_pass_21 rfl (lv_at hl 0 rfl) ?_
      refine cg_get hx hb hts iC_Court_pass_X8 hown hK hX 0 0 rfl rfl rfl 6 (by decide) (hts (.fieldLink RX8 37 "PassageCourt" "today" "I") (by decide +kernel)) (fun _ h9 => h9) rfl dX8_pass_22 ?_
      refine lv_iload_n hx hb dX8_pass_25 rfl (lv_at hl 1 rfl) ?_
      refine lv_iadd hx hb dX8_pass_26 ?_
      refine lv_sipush (v := 3600) hx hb dX8_pass_27 (by decide) ?_
      refine lv_icmp_le (tgt := 44) hx hb dX8_pass_30 (by decide) (fun c3 => ?_) (fun c3 => ?_)
      · replace h := mpos c3 h
        refine lv_iconst (v := 0) hx hb dX8_pass_44 (by decide) ?_
        refine lv_istore_n (lv' := [(2, .int 0), (0, .ref (ad 0 0)), (1, .int x1)]) hx hb dX8_pass_45 rfl hl (by decide) rfl (fun ls hl => ?_)
        exact w_C_Court_pass_46 C 4096 h hX (lv_sub hl [1, 2, 0] rfl)
      · replace h := mneg c3 h
        cases h
    · replace h := mneg c2 h
      exact w_C_Court_pass_11 C h hX (lv_sub hl [0] rfl)
set_option maxRecDepth 20000 in
theorem w_X_Court_pass_0 (C : cC p s m args meth c cX8_pass RX8 (some .int) wsX8_pass 3 D yI yO) {Qc : Array Value → State → Outcome → State → Prop} (hlf : l.stackTraces = false) (ht : ∀ x ∈ c.exceptionTable.toList, False) (hxs : xS A s s.heap) (hA : ∀ q, s.heap.size ≤ q → A q) {ez : Nat} {g : CS} {x1 : Int32} (h : fC_Court_pass g x1 = some (.inl ez)) {H : Heap} {locs : List Loc} {ls : Array Slot} (hX : cX D yI yO z0 ad g A s H locs) (hl : lv_has ls 3 [(0, .ref (ad 0 0)), (1, .int x1)]) : W p l e (xR 8 178) s m args below meth c H locs 0 0 (vx_MQ below Qc (xXC D yI yO z0 ad g ez A) args s 1 6 A) (F0 m 0 ls []) := by
  obtain ⟨hx, hb, hr, hts, hown, hlocks, hml, hK⟩ := id C
  unfold fC_Court_pass at h
  refine lv_iload_n hx hb dX8_pass_0 rfl (lv_at hl 1 rfl) ?_
  refine lv_iconst (v := 1) hx hb dX8_pass_1 (by decide) ?_
  refine lv_icmp_lt (tgt := 11) hx hb dX8_pass_2 (by decide) (fun c1 => ?_) (fun c1 => ?_)
  · replace h := mpos c1 h
    exact w_X_Court_pass_11 C hlf ht hxs hA h hX (lv_sub hl [0] rfl)
  · replace h := mneg c1 h
    refine lv_iload_n hx hb dX8_pass_5 rfl (lv_at hl 1 rfl) ?_
    refine lv_bipush (v := 100) hx hb dX8_pass_6 (by decide) ?_
    refine lv_icmp_le (tgt := 21) hx hb dX8_pass_8 (by decide) (fun c2 => ?_) (fun c2 => ?_)
    · replace h := mpos c2 h
      refine lv_aload_n hx hb dX8_pass_21 rfl (lv_at hl 0 rfl) ?_
      refine cg_get hx hb hts iC_Court_pass_X8 hown hK hX 0 0 rfl rfl rfl 6 (by decide) (hts (.fieldLink RX8 37 "PassageCourt" "today" "I") (by decide +kernel)) (fun _ h9 => h9) rfl dX8_pass_22 ?_
      refine lv_iload_n hx hb dX8_pass_25 rfl (lv_at hl 1 rfl) ?_
      refine lv_iadd hx hb dX8_pass_26 ?_
      refine lv_sipush (v := 3600) hx hb dX8_pass_27 (by decide) ?_
      refine lv_icmp_le (tgt := 44) hx hb dX8_pass_30 (by decide) (fun c3 => ?_) (fun c3 => ?_)
      · replace h := mpos c3 h
        refine lv_iconst (v := 0) hx hb dX8_pass_44 (by decide) ?_
        refine lv_istore_n (lv' := [(2, .int 0), (0, .ref (ad 0 0)), (1, .int x1)]) hx hb dX8_pass_45 rfl hl (by decide) rfl (fun ls hl => ?_)
        exact (nt_C_Court_pass_46 4096 _ h).elim
      · replace h := mneg c3 h
        cases h
        obtain ⟨sa, hsa⟩ := hxs.2.2.1 (302, "no day is above 3600") (by decide +kernel)
        exact vx_throwSW hx hb hlf (own := RX8) (cls := "java/lang/IllegalStateException") (text := "no day is above 3600") (names := ["java/lang/RuntimeException", "java/lang/Exception"]) (A := A) hown (by decide +kernel) (by decide +kernel) (hts (.classLink RX8 52 "java/lang/IllegalStateException") (by decide +kernel)) (hts (.initialized "java/lang/IllegalStateException") (by decide +kernel)) hsa (vx_hat (fun w hw => hts w (eC_Court_pass_56 w hw)) (B := xB) (by decide +kernel) (fun w hw => va_Nw.use (xB_on w hw) (hxs.2.2.2 w hw))) (by decide +kernel) hxs.1 hxs.2.1 hX.2.2 (hl.1.trans hml.symm) dX8_pass_33 dX8_pass_36 dX8_pass_37 dX8_pass_40 dX8_pass_43 (fun x hx => (ht x hx).elim) (Nat.le_of_ble_eq_true rfl) (Nat.le_of_ble_eq_true rfl) (Nat.le_of_ble_eq_true rfl) (Nat.le_of_ble_eq_true rfl) hlocks (fun t a1 a2 a3 => xX_post rfl hK hX t a1 a2 a3) hX.2.2.2.2 (Nat.le_refl _) (Nat.le_refl _)
    · replace h := mneg c2 h
      exact w_X_Court_pass_11 C hlf ht hxs hA h hX (lv_sub hl [0] rfl)
set_option maxRecDepth 20000 in
theorem cC_Court_pass (l : Launch) (D : va_G) (yI yO : ClassId) (z0 : Nat) (ad : Nat → Nat → Nat) {g : CS} {gz : CS} {rz : Int32} {x1 : Int32} (h : fC_Court_pass g x1 = some (.inr (rz, gz))) : Met l yX8_pass wsX8_pass (mR 8 178) (va_Pc [.ref (ad 0 0), .int x1] (cPre D yI yO z0 ad g)) (cQ D yI yO z0 ad rz gz (cF ad g)) 0 0 (cF ad g) := by
  refine Met.ofW (cc := cX8_pass) (maxL := 3) (ret := (some .int)) (by decide) rfl ?_
  intro p e s m args below meth c s₁ B hml hv
  obtain ⟨hv0, hw, hK⟩ := hv
  have hv1 : args = [.ref (ad 0 0), .int x1].toArray := hv0
  subst hv1
  have C : cC p s m _ meth c cX8_pass RX8 (some .int) wsX8_pass 3 D yI yO := ⟨B.exec, B.bytes, B.returns, atoms_spec (ws := wsX8_pass) B.pre, findClass_of_methodNamed B.named, B.notSynchronized, hml, hK⟩
  have hl := lv_entry ([.ref (ad 0 0), .int x1]) (n := 3) (Nat.le_of_ble_eq_true rfl)
  rw [lg_entry_eq]
  generalize (lg_sl ([.ref (ad 0 0), .int x1]) ++ List.replicate (3 - (lg_sl ([.ref (ad 0 0), .int x1])).length) Slot.unset).toArray = ls at hl ⊢
  have hl : lv_has ls 3 [(0, .ref (ad 0 0)), (1, .int x1)] := hl
  exact w_C_Court_pass_0 C h ⟨hw, fun k i hi => ⟨k, i, hi, rfl⟩, va_S.rf⟩ hl
set_option maxRecDepth 20000 in
theorem cX_Court_pass (l : Launch) (hlf : l.stackTraces = false) (D : va_G) (yI yO : ClassId) (z0 : Nat) (ad : Nat → Nat → Nat) {g : CS} {ez : Nat} {x1 : Int32} (sz : Nat) (h : fC_Court_pass g x1 = some (.inl ez)) : vx_Met l yX8_pass wsX8_pass (xR 8 178) (va_Pc [.ref (ad 0 0), .int x1] (xPre D yI yO z0 ad g sz)) (xQ (cA ad g sz)) (xXC D yI yO z0 ad g ez (cA ad g sz)) 1 6 (cA ad g sz) := by
  refine vx_ofW (cc := cX8_pass) (maxL := 3) (ret := (some .int)) (by decide) rfl ?_
  intro p e s m args below meth c s₁ B hml ht hv
  obtain ⟨hv0, ⟨hw, hK⟩, hsz, hxs⟩ := hv
  subst hsz
  have hv1 : args = [.ref (ad 0 0), .int x1].toArray := hv0
  subst hv1
  have C : cC p s m _ meth c cX8_pass RX8 (some .int) wsX8_pass 3 D yI yO := ⟨B.exec, B.bytes, B.returns, atoms_spec (ws := wsX8_pass) B.pre, findClass_of_methodNamed B.named, B.notSynchronized, hml, hK⟩
  have hl := lv_entry ([.ref (ad 0 0), .int x1]) (n := 3) (Nat.le_of_ble_eq_true rfl)
  rw [lg_entry_eq]
  generalize (lg_sl ([.ref (ad 0 0), .int x1]) ++ List.replicate (3 - (lg_sl ([.ref (ad 0 0), .int x1])).length) Slot.unset).toArray = ls at hl ⊢
  have hl : lv_has ls 3 [(0, .ref (ad 0 0)), (1, .int x1)] := hl
  exact w_X_Court_pass_0 C hlf ht hxs (fun q h => Or.inr h) h ⟨hw, fun k i hi => Or.inl ⟨k, i, hi, rfl⟩, va_S.rf⟩ hl
def fC_Court_status (g : CS) (x1 : Int32) : Option (Nat ⊕ Int32) :=
  xb (fC_Court_personAt g x1) fun v1 =>
  (fC_Court_statusToday g v1).bind fun r3 =>
  some (.inr r3)
set_option maxRecDepth 20000 in
theorem w_C_Court_status_0 (C : cC p s m args meth c cX8_status RX8 (some .int) wsX8_status 2 D yI yO) {rz : Int32} {g : CS} {x1 : Int32} (h : fC_Court_status g x1 = some (.inr rz)) {H : Heap} {locs : List Loc} {ls : Array Slot} (hX : cX D yI yO z0 ad g A s H locs) (hl : lv_has ls 2 [(0, .ref (ad 0 0)), (1, .int x1)]) : W p l e (mR 4 85) s m args below meth c H locs 0 0 (MQ below (cQ D yI yO z0 ad rz g A) args s 0 0 A) (F0 m 0 ls []) := by
  obtain ⟨hx, hb, hr, hts, hown, hlocks, hml, hK⟩ := id C
  unfold fC_Court_status at h
  refine lv_aload_n hx hb dX8_status_0 rfl (lv_at hl 0 rfl) ?_
  refine lv_aload_n hx hb dX8_status_1 rfl (lv_at hl 0 rfl) ?_
  refine lv_iload_n hx hb dX8_status_2 rfl (lv_at hl 1 rfl) ?_
  obtain ⟨v1, et2, h⟩ := xb_ret h
  refine cg_callVq (As := [.int x1]) (rest := [.ref (ad 0 0)]) ⟨hx, hb, hml, hown, hts⟩ 0 0 rfl (ci := 9) rfl rfl (cC_Court_personAt l D yI yO z0 ad et2) (cwV 1 hts gX8_status_X8_personAt rfl rfl rfl (by decide +kernel) ⟨Nat.le_of_ble_eq_true rfl, Nat.le_of_ble_eq_true rfl⟩) hK hX rfl hl.1 rfl (Nat.le_of_ble_eq_true rfl) dX8_status_3 ⟨Nat.zero_le _, Nat.zero_le _⟩ (fun H locs hX => ?_)
  refine W.eq (g2 := F0 m 6 ls [.ref (ad 5 v1), .ref (ad 0 0)]) rfl ?_
  obtain ⟨r3, er3, h⟩ := mbind h
  refine cg_callV (As := [.ref (ad 5 v1)]) (rest := []) ⟨hx, hb, hml, hown, hts⟩ 0 0 rfl (ci := 9) rfl rfl (cC_Court_statusToday l D yI yO z0 ad er3) (cwV 1 hts gX8_status_X8_statusToday rfl rfl rfl (by decide +kernel) ⟨Nat.le_of_ble_eq_true rfl, Nat.le_of_ble_eq_true rfl⟩) hK hX rfl hl.1 rfl (Nat.le_of_ble_eq_true rfl) dX8_status_6 ⟨Nat.zero_le _, Nat.zero_le _⟩ (fun H locs hX => ?_)
  cases h
  exact cg_reti hx hb hr hlocks hK hX dX8_status_9
set_option maxRecDepth 20000 in
theorem w_X_Court_status_0 (C : cC p s m args meth c cX8_status RX8 (some .int) wsX8_status 2 D yI yO) {Qc : Array Value → State → Outcome → State → Prop} (hlf : l.stackTraces = false) (ht : ∀ x ∈ c.exceptionTable.toList, False) (hxs : xS A s s.heap) (hA : ∀ q, s.heap.size ≤ q → A q) {ez : Nat} {g : CS} {x1 : Int32} (h : fC_Court_status g x1 = some (.inl ez)) {H : Heap} {locs : List Loc} {ls : Array Slot} (hX : cX D yI yO z0 ad g A s H locs) (hl : lv_has ls 2 [(0, .ref (ad 0 0)), (1, .int x1)]) : W p l e (xR 7 111) s m args below meth c H locs 0 0 (vx_MQ below Qc (xXC D yI yO z0 ad g ez A) args s 1 6 A) (F0 m 0 ls []) := by
  obtain ⟨hx, hb, hr, hts, hown, hlocks, hml, hK⟩ := id C
  unfold fC_Court_status at h
  refine lv_aload_n hx hb dX8_status_0 rfl (lv_at hl 0 rfl) ?_
  refine lv_aload_n hx hb dX8_status_1 rfl (lv_at hl 0 rfl) ?_
  refine lv_iload_n hx hb dX8_status_2 rfl (lv_at hl 1 rfl) ?_
  rcases xb_thr h with et2 | ⟨v1, et2, h⟩
  · exact xg_callV (As := [.int x1]) (rest := [.ref (ad 0 0)]) ⟨hx, hb, hml, hown, hts⟩ 0 0 rfl (ci := 9) rfl rfl (cX_Court_personAt l hlf D yI yO z0 ad H.size et2) (cwV 1 hts gX8_status_X8_personAt rfl rfl rfl (by decide +kernel) ⟨Nat.le_of_ble_eq_true rfl, Nat.le_of_ble_eq_true rfl⟩) hK hX hA hxs ht hlocks rfl hl.1 rfl (Nat.le_of_ble_eq_true rfl) dX8_status_3 ⟨Nat.le_refl _, Nat.le_refl _⟩
  refine cg_callVq (As := [.int x1]) (rest := [.ref (ad 0 0)]) ⟨hx, hb, hml, hown, hts⟩ 0 0 rfl (ci := 9) rfl rfl (cC_Court_personAt l D yI yO z0 ad et2) (cwV 1 hts gX8_status_X8_personAt rfl rfl rfl (by decide +kernel) ⟨Nat.le_of_ble_eq_true rfl, Nat.le_of_ble_eq_true rfl⟩) hK hX rfl hl.1 rfl (Nat.le_of_ble_eq_true rfl) dX8_status_3 ⟨Nat.zero_le _, Nat.zero_le _⟩ (fun H locs hX => ?_)
  refine W.eq (g2 := F0 m 6 ls [.ref (ad 5 v1), .ref (ad 0 0)]) rfl ?_
  obtain ⟨r3, er3, h⟩ := mbind h
  refine cg_callV (As := [.ref (ad 5 v1)]) (rest := []) ⟨hx, hb, hml, hown, hts⟩ 0 0 rfl (ci := 9) rfl rfl (cC_Court_statusToday l D yI yO z0 ad er3) (cwV 1 hts gX8_status_X8_statusToday rfl rfl rfl (by decide +kernel) ⟨Nat.le_of_ble_eq_true rfl, Nat.le_of_ble_eq_true rfl⟩) hK hX rfl hl.1 rfl (Nat.le_of_ble_eq_true rfl) dX8_status_6 ⟨Nat.zero_le _, Nat.zero_le _⟩ (fun H locs hX => ?_)
  cases h
set_option maxRecDepth 20000 in
theorem cC_Court_status (l : Launch) (D : va_G) (yI yO : ClassId) (z0 : Nat) (ad : Nat → Nat → Nat) {g : CS} {rz : Int32} {x1 : Int32} (h : fC_Court_status g x1 = some (.inr rz)) : Met l yX8_status wsX8_status (mR 4 85) (va_Pc [.ref (ad 0 0), .int x1] (cPre D yI yO z0 ad g)) (cQ D yI yO z0 ad rz g (cF ad g)) 0 0 (cF ad g) := by
  refine Met.ofW (cc := cX8_status) (maxL := 2) (ret := (some .int)) (by decide) rfl ?_
  intro p e s m args below meth c s₁ B hml hv
  obtain ⟨hv0, hw, hK⟩ := hv
  have hv1 : args = [.ref (ad 0 0), .int x1].toArray := hv0
  subst hv1
  have C : cC p s m _ meth c cX8_status RX8 (some .int) wsX8_status 2 D yI yO := ⟨B.exec, B.bytes, B.returns, atoms_spec (ws := wsX8_status) B.pre, findClass_of_methodNamed B.named, B.notSynchronized, hml, hK⟩
  have hl := lv_entry ([.ref (ad 0 0), .int x1]) (n := 2) (Nat.le_of_ble_eq_true rfl)
  rw [lg_entry_eq]
  generalize (lg_sl ([.ref (ad 0 0), .int x1]) ++ List.replicate (2 - (lg_sl ([.ref (ad 0 0), .int x1])).length) Slot.unset).toArray = ls at hl ⊢
  have hl : lv_has ls 2 [(0, .ref (ad 0 0)), (1, .int x1)] := hl
  exact w_C_Court_status_0 C h ⟨hw, fun k i hi => ⟨k, i, hi, rfl⟩, va_S.rf⟩ hl
set_option maxRecDepth 20000 in
theorem cX_Court_status (l : Launch) (hlf : l.stackTraces = false) (D : va_G) (yI yO : ClassId) (z0 : Nat) (ad : Nat → Nat → Nat) {g : CS} {ez : Nat} {x1 : Int32} (sz : Nat) (h : fC_Court_status g x1 = some (.inl ez)) : vx_Met l yX8_status wsX8_status (xR 7 111) (va_Pc [.ref (ad 0 0), .int x1] (xPre D yI yO z0 ad g sz)) (xQ (cA ad g sz)) (xXC D yI yO z0 ad g ez (cA ad g sz)) 1 6 (cA ad g sz) := by
  refine vx_ofW (cc := cX8_status) (maxL := 2) (ret := (some .int)) (by decide) rfl ?_
  intro p e s m args below meth c s₁ B hml ht hv
  obtain ⟨hv0, ⟨hw, hK⟩, hsz, hxs⟩ := hv
  subst hsz
  have hv1 : args = [.ref (ad 0 0), .int x1].toArray := hv0
  subst hv1
  have C : cC p s m _ meth c cX8_status RX8 (some .int) wsX8_status 2 D yI yO := ⟨B.exec, B.bytes, B.returns, atoms_spec (ws := wsX8_status) B.pre, findClass_of_methodNamed B.named, B.notSynchronized, hml, hK⟩
  have hl := lv_entry ([.ref (ad 0 0), .int x1]) (n := 2) (Nat.le_of_ble_eq_true rfl)
  rw [lg_entry_eq]
  generalize (lg_sl ([.ref (ad 0 0), .int x1]) ++ List.replicate (2 - (lg_sl ([.ref (ad 0 0), .int x1])).length) Slot.unset).toArray = ls at hl ⊢
  have hl : lv_has ls 2 [(0, .ref (ad 0 0)), (1, .int x1)] := hl
  exact w_X_Court_status_0 C hlf ht hxs (fun q h => Or.inr h) h ⟨hw, fun k i hi => Or.inl ⟨k, i, hi, rfl⟩, va_S.rf⟩ hl
theorem iC_Court_about_X1 : ∀ w ∈ wsX10, w ∈ wsX8_about := by decide +kernel
theorem iC_Court_about_X3 : ∀ w ∈ wsX30, w ∈ wsX8_about := by decide +kernel
theorem iC_Court_about_X6 : ∀ w ∈ wsX60, w ∈ wsX8_about := by decide +kernel
theorem iC_Court_about_X7 : ∀ w ∈ wsX70, w ∈ wsX8_about := by decide +kernel
theorem iC_Court_about_X8 : ∀ w ∈ wsX80, w ∈ wsX8_about := by decide +kernel
theorem eC_Court_about_45 : ∀ w ∈ (vx_atS RX8 45 "java/lang/IllegalArgumentException" ["java/lang/RuntimeException", "java/lang/Exception"]).filter goodWord, w ∈ wsX8_about := by decide +kernel
def fC_Court_about_58 (g : CS) (xs0 : Int32) : Option (Nat ⊕ Int32) :=
  some (.inr xs0)
set_option maxRecDepth 20000 in
theorem w_C_Court_about_58 (C : cC p s m args meth c cX8_about RX8 (some .int) wsX8_about 4 D yI yO) {rz : Int32} {g : CS} {xs0 : Int32} (h : fC_Court_about_58 g xs0 = some (.inr rz)) {H : Heap} {locs : List Loc} {ls : Array Slot} (hX : cX D yI yO z0 ad g A s H locs) (hl : lv_has ls 4 [(0, .ref (ad 0 0))]) : W p l e (mR 4 87) s m args below meth c H locs 0 0 (MQ below (cQ D yI yO z0 ad rz g A) args s 0 0 A) (F0 m 58 ls [.int xs0]) := by
  obtain ⟨hx, hb, hr, hts, hown, hlocks, hml, hK⟩ := id C
  unfold fC_Court_about_58 at h
  cases h
  exact cg_reti hx hb hr hlocks hK hX dX8_about_58
theorem nt_C_Court_about_58 {g : CS} {xs0 : Int32} : ntp (fC_Court_about_58 g xs0) := by
  unfold fC_Court_about_58
  repeat' first | exact ntp_inr _ | exact ntp_none | refine ntp_bind (fun _ => ?_) | refine ntp_cb2 (fun _ _ => ?_) | refine ntp_om ?_ (fun _ => ?_) | refine ntp_ite ?_ ?_
def fC_Court_about_114 (g : CS) (xs0 : Int32) : Option (Nat ⊕ Int32) :=
  some (.inr xs0)
set_option maxRecDepth 20000 in
theorem w_C_Court_about_114 (C : cC p s m args meth c cX8_about RX8 (some .int) wsX8_about 4 D yI yO) {rz : Int32} {g : CS} {xs0 : Int32} (h : fC_Court_about_114 g xs0 = some (.inr rz)) {H : Heap} {locs : List Loc} {ls : Array Slot} (hX : cX D yI yO z0 ad g A s H locs) (hl : lv_has ls 4 [(0, .ref (ad 0 0))]) : W p l e (mR 4 87) s m args below meth c H locs 0 0 (MQ below (cQ D yI yO z0 ad rz g A) args s 0 0 A) (F0 m 114 ls [.int xs0]) := by
  obtain ⟨hx, hb, hr, hts, hown, hlocks, hml, hK⟩ := id C
  unfold fC_Court_about_114 at h
  cases h
  exact cg_reti hx hb hr hlocks hK hX dX8_about_114
theorem nt_C_Court_about_114 {g : CS} {xs0 : Int32} : ntp (fC_Court_about_114 g xs0) := by
  unfold fC_Court_about_114
  repeat' first | exact ntp_inr _ | exact ntp_none | exact nt_C_Court_about_58 | refine ntp_bind (fun _ => ?_) | refine ntp_cb2 (fun _ _ => ?_) | refine ntp_om ?_ (fun _ => ?_) | refine ntp_ite ?_ ?_
def fC_Court_about_131 (g : CS) (xs0 : Int32) : Option (Nat ⊕ Int32) :=
  some (.inr xs0)
set_option maxRecDepth 20000 in
theorem w_C_Court_about_131 (C : cC p s m args meth c cX8_about RX8 (some .int) wsX8_about 4 D yI yO) {rz : Int32} {g : CS} {xs0 : Int32} (h : fC_Court_about_131 g xs0 = some (.inr rz)) {H : Heap} {locs : List Loc} {ls : Array Slot} (hX : cX D yI yO z0 ad g A s H locs) (hl : lv_has ls 4 [(0, .ref (ad 0 0))]) : W p l e (mR 4 87) s m args below meth c H locs 0 0 (MQ below (cQ D yI yO z0 ad rz g A) args s 0 0 A) (F0 m 131 ls [.int xs0]) := by
  obtain ⟨hx, hb, hr, hts, hown, hlocks, hml, hK⟩ := id C
  unfold fC_Court_about_131 at h
  cases h
  exact cg_reti hx hb hr hlocks hK hX dX8_about_131
theorem nt_C_Court_about_131 {g : CS} {xs0 : Int32} : ntp (fC_Court_about_131 g xs0) := by
  unfold fC_Court_about_131
  repeat' first | exact ntp_inr _ | exact ntp_none | exact nt_C_Court_about_58 | exact nt_C_Court_about_114 | refine ntp_bind (fun _ => ?_) | refine ntp_cb2 (fun _ _ => ?_) | refine ntp_om ?_ (fun _ => ?_) | refine ntp_ite ?_ ?_
def fC_Court_about (g : CS) (x1 : Int32) (x2 : Int32) : Option (Nat ⊕ Int32) :=
  xb (fC_Court_personAt g x1) fun v1 =>
  if x2 = 0 then
    (ck g 5 v1).bind fun _ =>
    om (sJ g 5 v1 9) (
      fC_Court_about_58 g ((-1)))
      fun v6 =>
      om (sJ g 5 v1 9) (
        none)
        fun v8 =>
        (ck g 4 v8).bind fun _ =>
        fC_Court_about_58 g (sI g 4 v8 0)
  else
  if x2 = 1 then
    (ck g 5 v1).bind fun _ =>
    some (.inr (sI g 5 v1 8))
  else
  if x2 = 2 then
    (ck g 5 v1).bind fun _ =>
    (fC_Row_at 10 v1 g (sI g 0 0 6)).bind fun r14 =>
    (fC_Court_ruleToday g).bind fun v15 =>
    (ck g 3 v15).bind fun _ =>
    (fC_Row_at 10 v1 g ((sI g 0 0 6) - (sI g 3 v15 2))).bind fun r17 =>
    some (.inr (r14 - r17))
  else
  if x2 = 3 then
    (ck g 5 v1).bind fun _ =>
    om (sJ g 5 v1 10) (
      fC_Court_about_114 g ((-1)))
      fun v21 =>
      om (sJ g 5 v1 10) (
        none)
        fun v23 =>
        (ck g 6 v23).bind fun _ =>
        fC_Court_about_114 g (sI g 6 v23 0)
  else
  if x2 = 4 then
    (ck g 5 v1).bind fun _ =>
    om (sJ g 5 v1 9) (
      fC_Court_about_131 g 0)
      fun v28 =>
      (fC_Court_overstayedDays g v1).bind fun r29 =>
      fC_Court_about_131 g r29
  else
    some (.inl 1)
set_option maxRecDepth 20000 in
theorem w_C_Court_about_0 (C : cC p s m args meth c cX8_about RX8 (some .int) wsX8_about 4 D yI yO) {rz : Int32} {g : CS} {x1 : Int32} {x2 : Int32} (h : fC_Court_about g x1 x2 = some (.inr rz)) {H : Heap} {locs : List Loc} {ls : Array Slot} (hX : cX D yI yO z0 ad g A s H locs) (hl : lv_has ls 4 [(0, .ref (ad 0 0)), (1, .int x1), (2, .int x2)]) : W p l e (mR 4 87) s m args below meth c H locs 0 0 (MQ below (cQ D yI yO z0 ad rz g A) args s 0 0 A) (F0 m 0 ls []) := by
  obtain ⟨hx, hb, hr, hts, hown, hlocks, hml, hK⟩ := id C
  unfold fC_Court_about at h
  refine lv_aload_n hx hb dX8_about_0 rfl (lv_at hl 0 rfl) ?_
  refine lv_iload_n hx hb dX8_about_1 rfl (lv_at hl 1 rfl) ?_
  obtain ⟨v1, et2, h⟩ := xb_ret h
  refine cg_callVq (As := [.int x1]) (rest := []) ⟨hx, hb, hml, hown, hts⟩ 0 0 rfl (ci := 9) rfl rfl (cC_Court_personAt l D yI yO z0 ad et2) (cwV 1 hts gX8_about_X8_personAt rfl rfl rfl (by decide +kernel) ⟨Nat.le_of_ble_eq_true rfl, Nat.le_of_ble_eq_true rfl⟩) hK hX rfl hl.1 rfl (Nat.le_of_ble_eq_true rfl) dX8_about_2 ⟨Nat.zero_le _, Nat.zero_le _⟩ (fun H locs hX => ?_)
  refine W.eq (g2 := F0 m 5 ls [.ref (ad 5 v1)]) rfl ?_
  refine lv_astore_n (lv' := [(3, .ref (ad 5 v1)), (0, .ref (ad 0 0)), (1, .int x1), (2, .int x2)]) hx hb dX8_about_5 rfl hl (by decide) rfl (fun ls hl => ?_)
  refine lv_iload_n hx hb dX8_about_6 rfl (lv_at hl 3 rfl) ?_
  by_cases c3 : x2 = 0
  · replace h := mpos c3 h
    refine lv_tableIn (tgt := 40) hx hb dX8_about_7 (by rw [c3]; decide) (by rw [c3]; decide) (by rw [c3]; rfl) (by decide) ?_
    refine lv_aload_n hx hb dX8_about_40 rfl (lv_at hl 0 rfl) ?_
    obtain ⟨_, hv4, h⟩ := mbind h
    replace hv4 := ck_spec hv4
    rcases ho5 : sJ g 5 v1 9 with _ | v6
    · replace h := om_n ho5 h
      refine cg_get hx hb hts iC_Court_about_X3 hown hK hX 5 v1 hv4 rfl rfl 9 (by decide) (hts (.fieldLink RX8 110 "PassageCourt$Person" "there" "LPassageCourt$Land;") (by decide +kernel)) (fun _ h9 => h9) (v := .null) (by rw [ho5]; rfl) dX8_about_41 ?_
      refine lv_ifnonnullN hx hb dX8_about_44 ?_
      refine lv_iconst (v := -1) hx hb dX8_about_47 (by decide) ?_
      refine lv_goto (tgt := 58) hx hb dX8_about_48 (by decide) ?_
      exact w_C_Court_about_58 C h hX (lv_sub hl [1] rfl)
    · replace h := om_s ho5 h
      refine cg_get hx hb hts iC_Court_about_X3 hown hK hX 5 v1 hv4 rfl rfl 9 (by decide) (hts (.fieldLink RX8 110 "PassageCourt$Person" "there" "LPassageCourt$Land;") (by decide +kernel)) (fun _ h9 => h9) (v := .ref (ad 4 v6)) (by rw [ho5]; rfl) dX8_about_41 ?_
      refine lv_ifnonnull (tgt := 51) hx hb dX8_about_44 (by decide) ?_
      refine lv_aload_n hx hb dX8_about_51 rfl (lv_at hl 0 rfl) ?_
      rcases ho7 : sJ g 5 v1 9 with _ | v8
      · replace h := om_n ho7 h
        refine cg_get hx hb hts iC_Court_about_X3 hown hK hX 5 v1 hv4 rfl rfl 9 (by decide) (hts (.fieldLink RX8 110 "PassageCourt$Person" "there" "LPassageCourt$Land;") (by decide +kernel)) (fun _ h9 => h9) (v := .null) (by rw [ho7]; rfl) dX8_about_52 ?_
        cases h
      · replace h := om_s ho7 h
        refine cg_get hx hb hts iC_Court_about_X3 hown hK hX 5 v1 hv4 rfl rfl 9 (by decide) (hts (.fieldLink RX8 110 "PassageCourt$Person" "there" "LPassageCourt$Land;") (by decide +kernel)) (fun _ h9 => h9) (v := .ref (ad 4 v8)) (by rw [ho7]; rfl) dX8_about_52 ?_
        obtain ⟨_, hv9, h⟩ := mbind h
        replace hv9 := ck_spec hv9
        refine cg_get hx hb hts iC_Court_about_X1 hown hK hX 4 v8 hv9 rfl rfl 0 (by decide) (hts (.fieldLink RX8 66 "PassageCourt$Land" "number" "I") (by decide +kernel)) (fun _ h9 => h9) rfl dX8_about_55 ?_
        exact w_C_Court_about_58 C h hX (lv_sub hl [1] rfl)
  replace h := mneg c3 h
  by_cases c10 : x2 = 1
  · replace h := mpos c10 h
    refine lv_tableIn (tgt := 59) hx hb dX8_about_7 (by rw [c10]; decide) (by rw [c10]; decide) (by rw [c10]; rfl) (by decide) ?_
    refine lv_aload_n hx hb dX8_about_59 rfl (lv_at hl 0 rfl) ?_
    obtain ⟨_, hv11, h⟩ := mbind h
    replace hv11 := ck_spec hv11
    refine cg_get hx hb hts iC_Court_about_X3 hown hK hX 5 v1 hv11 rfl rfl 8 (by decide) (hts (.fieldLink RX8 124 "PassageCourt$Person" "nations" "I") (by decide +kernel)) (fun _ h9 => h9) rfl dX8_about_60 ?_
    cases h
    exact cg_reti hx hb hr hlocks hK hX dX8_about_63
  replace h := mneg c10 h
  by_cases c12 : x2 = 2
  · replace h := mpos c12 h
    refine lv_tableIn (tgt := 64) hx hb dX8_about_7 (by rw [c12]; decide) (by rw [c12]; decide) (by rw [c12]; rfl) (by decide) ?_
    refine lv_aload_n hx hb dX8_about_64 rfl (lv_at hl 0 rfl) ?_
    obtain ⟨_, hv13, h⟩ := mbind h
    replace hv13 := ck_spec hv13
    refine cg_get hx hb hts iC_Court_about_X3 hown hK hX 5 v1 hv13 rfl rfl 5 (by decide) (hts (.fieldLink RX8 307 "PassageCourt$Person" "counted" "LPassageCourt$Row;") (by decide +kernel)) (fun _ h9 => h9) rfl dX8_about_65 ?_
    refine lv_aload_n hx hb dX8_about_68 rfl (lv_at hl 1 rfl) ?_
    refine cg_get hx hb hts iC_Court_about_X8 hown hK hX 0 0 rfl rfl rfl 6 (by decide) (hts (.fieldLink RX8 37 "PassageCourt" "today" "I") (by decide +kernel)) (fun _ h9 => h9) rfl dX8_about_69 ?_
    obtain ⟨r14, er14, h⟩ := mbind h
    refine cg_callV (As := [.int (sI g 0 0 6)]) (rest := []) ⟨hx, hb, hml, hown, hts⟩ 10 v1 hv13 (ci := 6) rfl rfl (cC_Row_at l D yI yO z0 ad ⟨by decide, by decide⟩ er14) (cwV 1 hts gX8_about_X5_at rfl rfl rfl (by decide +kernel) ⟨Nat.le_of_ble_eq_true rfl, Nat.le_of_ble_eq_true rfl⟩) hK hX rfl hl.1 rfl (Nat.le_of_ble_eq_true rfl) dX8_about_72 ⟨Nat.zero_le _, Nat.zero_le _⟩ (fun H locs hX => ?_)
    refine lv_aload_n hx hb dX8_about_75 rfl (lv_at hl 0 rfl) ?_
    refine cg_get hx hb hts iC_Court_about_X3 hown hK hX 5 v1 hv13 rfl rfl 5 (by decide) (hts (.fieldLink RX8 307 "PassageCourt$Person" "counted" "LPassageCourt$Row;") (by decide +kernel)) (fun _ h9 => h9) rfl dX8_about_76 ?_
    refine lv_aload_n hx hb dX8_about_79 rfl (lv_at hl 1 rfl) ?_
    refine cg_get hx hb hts iC_Court_about_X8 hown hK hX 0 0 rfl rfl rfl 6 (by decide) (hts (.fieldLink RX8 37 "PassageCourt" "today" "I") (by decide +kernel)) (fun _ h9 => h9) rfl dX8_about_80 ?_
    refine lv_aload_n hx hb dX8_about_83 rfl (lv_at hl 1 rfl) ?_
    obtain ⟨v15, ev15, h⟩ := mbind h
    refine cg_callVq (As := []) (rest := [.int (sI g 0 0 6), .ref (ad 10 v1), .int r14]) ⟨hx, hb, hml, hown, hts⟩ 0 0 rfl (ci := 9) rfl rfl (cC_Court_ruleToday l D yI yO z0 ad ev15) (cwV 0 hts gX8_about_X8_ruleToday rfl rfl rfl (by decide +kernel) ⟨Nat.le_of_ble_eq_true rfl, Nat.le_of_ble_eq_true rfl⟩) hK hX rfl hl.1 rfl (Nat.le_of_ble_eq_true rfl) dX8_about_84 ⟨Nat.zero_le _, Nat.zero_le _⟩ (fun H locs hX => ?_)
    refine W.eq (g2 := F0 m 87 ls [.ref (ad 3 v15), .int (sI g 0 0 6), .ref (ad 10 v1), .int r14]) rfl ?_
    obtain ⟨_, hv16, h⟩ := mbind h
    replace hv16 := ck_spec hv16
    refine cg_get hx hb hts iC_Court_about_X6 hown hK hX 3 v15 hv16 rfl rfl 2 (by decide) (hts (.fieldLink RX8 314 "PassageCourt$Rule" "window" "I") (by decide +kernel)) (fun _ h9 => h9) rfl dX8_about_87 ?_
    refine lv_isub hx hb dX8_about_90 ?_
    obtain ⟨r17, er17, h⟩ := mbind h
    refine cg_callV (As := [.int ((sI g 0 0 6) - (sI g 3 v15 2))]) (rest := [.int r14]) ⟨hx, hb, hml, hown, hts⟩ 10 v1 hv13 (ci := 6) rfl rfl (cC_Row_at l D yI yO z0 ad ⟨by decide, by decide⟩ er17) (cwV 1 hts gX8_about_X5_at rfl rfl rfl (by decide +kernel) ⟨Nat.le_of_ble_eq_true rfl, Nat.le_of_ble_eq_true rfl⟩) hK hX rfl hl.1 rfl (Nat.le_of_ble_eq_true rfl) dX8_about_91 ⟨Nat.zero_le _, Nat.zero_le _⟩ (fun H locs hX => ?_)
    refine lv_isub hx hb dX8_about_94 ?_
    cases h
    exact cg_reti hx hb hr hlocks hK hX dX8_about_95
  replace h := mneg c12 h
  by_cases c18 : x2 = 3
  · replace h := mpos c18 h
    refine lv_tableIn (tgt := 96) hx hb dX8_about_7 (by rw [c18]; decide) (by rw [c18]; decide) (by rw [c18]; rfl) (by decide) ?_
    refine lv_aload_n hx hb dX8_about_96 rfl (lv_at hl 0 rfl) ?_
    obtain ⟨_, hv19, h⟩ := mbind h
    replace hv19 := ck_spec hv19
    rcases ho20 : sJ g 5 v1 10 with _ | v21
    · replace h := om_n ho20 h
      refine cg_get hx hb hts iC_Court_about_X3 hown hK hX 5 v1 hv19 rfl rfl 10 (by decide) (hts (.fieldLink RX8 185 "PassageCourt$Person" "visa" "LPassageCourt$Visa;") (by decide +kernel)) (fun _ h9 => h9) (v := .null) (by rw [ho20]; rfl) dX8_about_97 ?_
      refine lv_ifnonnullN hx hb dX8_about_100 ?_
      refine lv_iconst (v := -1) hx hb dX8_about_103 (by decide) ?_
      refine lv_goto (tgt := 114) hx hb dX8_about_104 (by decide) ?_
      exact w_C_Court_about_114 C h hX (lv_sub hl [1] rfl)
    · replace h := om_s ho20 h
      refine cg_get hx hb hts iC_Court_about_X3 hown hK hX 5 v1 hv19 rfl rfl 10 (by decide) (hts (.fieldLink RX8 185 "PassageCourt$Person" "visa" "LPassageCourt$Visa;") (by decide +kernel)) (fun _ h9 => h9) (v := .ref (ad 6 v21)) (by rw [ho20]; rfl) dX8_about_97 ?_
      refine lv_ifnonnull (tgt := 107) hx hb dX8_about_100 (by decide) ?_
      refine lv_aload_n hx hb dX8_about_107 rfl (lv_at hl 0 rfl) ?_
      rcases ho22 : sJ g 5 v1 10 with _ | v23
      · replace h := om_n ho22 h
        refine cg_get hx hb hts iC_Court_about_X3 hown hK hX 5 v1 hv19 rfl rfl 10 (by decide) (hts (.fieldLink RX8 185 "PassageCourt$Person" "visa" "LPassageCourt$Visa;") (by decide +kernel)) (fun _ h9 => h9) (v := .null) (by rw [ho22]; rfl) dX8_about_108 ?_
        cases h
      · replace h := om_s ho22 h
        refine cg_get hx hb hts iC_Court_about_X3 hown hK hX 5 v1 hv19 rfl rfl 10 (by decide) (hts (.fieldLink RX8 185 "PassageCourt$Person" "visa" "LPassageCourt$Visa;") (by decide +kernel)) (fun _ h9 => h9) (v := .ref (ad 6 v23)) (by rw [ho22]; rfl) dX8_about_108 ?_
        obtain ⟨_, hv24, h⟩ := mbind h
        replace hv24 := ck_spec hv24
        refine cg_get hx hb hts iC_Court_about_X7 hown hK hX 6 v23 hv24 rfl rfl 0 (by decide) (hts (.fieldLink RX8 144 "PassageCourt$Visa" "number" "I") (by decide +kernel)) (fun _ h9 => h9) rfl dX8_about_111 ?_
        exact w_C_Court_about_114 C h hX (lv_sub hl [1] rfl)
  replace h := mneg c18 h
  by_cases c25 : x2 = 4
  · replace h := mpos c25 h
    refine lv_tableIn (tgt := 115) hx hb dX8_about_7 (by rw [c25]; decide) (by rw [c25]; decide) (by rw [c25]; rfl) (by decide) ?_
    refine lv_aload_n hx hb dX8_about_115 rfl (lv_at hl 0 rfl) ?_
    obtain ⟨_, hv26, h⟩ := mbind h
    replace hv26 := ck_spec hv26
    rcases ho27 : sJ g 5 v1 9 with _ | v28
    · replace h := om_n ho27 h
      refine cg_get hx hb hts iC_Court_about_X3 hown hK hX 5 v1 hv26 rfl rfl 9 (by decide) (hts (.fieldLink RX8 110 "PassageCourt$Person" "there" "LPassageCourt$Land;") (by decide +kernel)) (fun _ h9 => h9) (v := .null) (by rw [ho27]; rfl) dX8_about_116 ?_
      refine lv_ifnonnullN hx hb dX8_about_119 ?_
      refine lv_iconst (v := 0) hx hb dX8_about_122 (by decide) ?_
      refine lv_goto (tgt := 131) hx hb dX8_about_123 (by decide) ?_
      exact w_C_Court_about_131 C h hX (lv_sub hl [1] rfl)
    · replace h := om_s ho27 h
      refine cg_get hx hb hts iC_Court_about_X3 hown hK hX 5 v1 hv26 rfl rfl 9 (by decide) (hts (.fieldLink RX8 110 "PassageCourt$Person" "there" "LPassageCourt$Land;") (by decide +kernel)) (fun _ h9 => h9) (v := .ref (ad 4 v28)) (by rw [ho27]; rfl) dX8_about_116 ?_
      refine lv_ifnonnull (tgt := 126) hx hb dX8_about_119 (by decide) ?_
      refine lv_aload_n hx hb dX8_about_126 rfl (lv_at hl 1 rfl) ?_
      refine lv_aload_n hx hb dX8_about_127 rfl (lv_at hl 0 rfl) ?_
      obtain ⟨r29, er29, h⟩ := mbind h
      refine cg_callV (As := [.ref (ad 5 v1)]) (rest := []) ⟨hx, hb, hml, hown, hts⟩ 0 0 rfl (ci := 9) rfl rfl (cC_Court_overstayedDays l D yI yO z0 ad er29) (cwV 1 hts gX8_about_X8_overstayedDays rfl rfl rfl (by decide +kernel) ⟨Nat.le_of_ble_eq_true rfl, Nat.le_of_ble_eq_true rfl⟩) hK hX rfl hl.1 rfl (Nat.le_of_ble_eq_true rfl) dX8_about_128 ⟨Nat.zero_le _, Nat.zero_le _⟩ (fun H locs hX => ?_)
      exact w_C_Court_about_131 C h hX (lv_sub hl [1] rfl)
  replace h := mneg c25 h
  have nc3 := lv_neT c3 (show (0 : Int32).toInt = 0 from rfl)
  have nc10 := lv_neT c10 (show (1 : Int32).toInt = 1 from rfl)
  have nc12 := lv_neT c12 (show (2 : Int32).toInt = 2 from rfl)
  have nc18 := lv_neT c18 (show (3 : Int32).toInt = 3 from rfl)
  have nc25 := lv_neT c25 (show (4 : Int32).toInt = 4 from rfl)
  refine lv_tableOut (tgt := 132) hx hb dX8_about_7 (by omega) (by decide) ?_
  cases h
set_option maxRecDepth 20000 in
theorem w_X_Court_about_0 (C : cC p s m args meth c cX8_about RX8 (some .int) wsX8_about 4 D yI yO) {Qc : Array Value → State → Outcome → State → Prop} (hlf : l.stackTraces = false) (ht : ∀ x ∈ c.exceptionTable.toList, False) (hxs : xS A s s.heap) (hA : ∀ q, s.heap.size ≤ q → A q) {ez : Nat} {g : CS} {x1 : Int32} {x2 : Int32} (h : fC_Court_about g x1 x2 = some (.inl ez)) {H : Heap} {locs : List Loc} {ls : Array Slot} (hX : cX D yI yO z0 ad g A s H locs) (hl : lv_has ls 4 [(0, .ref (ad 0 0)), (1, .int x1), (2, .int x2)]) : W p l e (xR 7 111) s m args below meth c H locs 0 0 (vx_MQ below Qc (xXC D yI yO z0 ad g ez A) args s 1 6 A) (F0 m 0 ls []) := by
  obtain ⟨hx, hb, hr, hts, hown, hlocks, hml, hK⟩ := id C
  unfold fC_Court_about at h
  refine lv_aload_n hx hb dX8_about_0 rfl (lv_at hl 0 rfl) ?_
  refine lv_iload_n hx hb dX8_about_1 rfl (lv_at hl 1 rfl) ?_
  rcases xb_thr h with et2 | ⟨v1, et2, h⟩
  · exact xg_callV (As := [.int x1]) (rest := []) ⟨hx, hb, hml, hown, hts⟩ 0 0 rfl (ci := 9) rfl rfl (cX_Court_personAt l hlf D yI yO z0 ad H.size et2) (cwV 1 hts gX8_about_X8_personAt rfl rfl rfl (by decide +kernel) ⟨Nat.le_of_ble_eq_true rfl, Nat.le_of_ble_eq_true rfl⟩) hK hX hA hxs ht hlocks rfl hl.1 rfl (Nat.le_of_ble_eq_true rfl) dX8_about_2 ⟨Nat.le_refl _, Nat.le_refl _⟩
  refine cg_callVq (As := [.int x1]) (rest := []) ⟨hx, hb, hml, hown, hts⟩ 0 0 rfl (ci := 9) rfl rfl (cC_Court_personAt l D yI yO z0 ad et2) (cwV 1 hts gX8_about_X8_personAt rfl rfl rfl (by decide +kernel) ⟨Nat.le_of_ble_eq_true rfl, Nat.le_of_ble_eq_true rfl⟩) hK hX rfl hl.1 rfl (Nat.le_of_ble_eq_true rfl) dX8_about_2 ⟨Nat.zero_le _, Nat.zero_le _⟩ (fun H locs hX => ?_)
  refine W.eq (g2 := F0 m 5 ls [.ref (ad 5 v1)]) rfl ?_
  refine lv_astore_n (lv' := [(3, .ref (ad 5 v1)), (0, .ref (ad 0 0)), (1, .int x1), (2, .int x2)]) hx hb dX8_about_5 rfl hl (by decide) rfl (fun ls hl => ?_)
  refine lv_iload_n hx hb dX8_about_6 rfl (lv_at hl 3 rfl) ?_
  by_cases c3 : x2 = 0
  · replace h := mpos c3 h
    refine lv_tableIn (tgt := 40) hx hb dX8_about_7 (by rw [c3]; decide) (by rw [c3]; decide) (by rw [c3]; rfl) (by decide) ?_
    refine lv_aload_n hx hb dX8_about_40 rfl (lv_at hl 0 rfl) ?_
    obtain ⟨_, hv4, h⟩ := mbind h
    replace hv4 := ck_spec hv4
    rcases ho5 : sJ g 5 v1 9 with _ | v6
    · replace h := om_n ho5 h
      refine cg_get hx hb hts iC_Court_about_X3 hown hK hX 5 v1 hv4 rfl rfl 9 (by decide) (hts (.fieldLink RX8 110 "PassageCourt$Person" "there" "LPassageCourt$Land;") (by decide +kernel)) (fun _ h9 => h9) (v := .null) (by rw [ho5]; rfl) dX8_about_41 ?_
      refine lv_ifnonnullN hx hb dX8_about_44 ?_
      refine lv_iconst (v := -1) hx hb dX8_about_47 (by decide) ?_
      refine lv_goto (tgt := 58) hx hb dX8_about_48 (by decide) ?_
      exact (nt_C_Court_about_58 _ h).elim
    · replace h := om_s ho5 h
      refine cg_get hx hb hts iC_Court_about_X3 hown hK hX 5 v1 hv4 rfl rfl 9 (by decide) (hts (.fieldLink RX8 110 "PassageCourt$Person" "there" "LPassageCourt$Land;") (by decide +kernel)) (fun _ h9 => h9) (v := .ref (ad 4 v6)) (by rw [ho5]; rfl) dX8_about_41 ?_
      refine lv_ifnonnull (tgt := 51) hx hb dX8_about_44 (by decide) ?_
      refine lv_aload_n hx hb dX8_about_51 rfl (lv_at hl 0 rfl) ?_
      rcases ho7 : sJ g 5 v1 9 with _ | v8
      · replace h := om_n ho7 h
        refine cg_get hx hb hts iC_Court_about_X3 hown hK hX 5 v1 hv4 rfl rfl 9 (by decide) (hts (.fieldLink RX8 110 "PassageCourt$Person" "there" "LPassageCourt$Land;") (by decide +kernel)) (fun _ h9 => h9) (v := .null) (by rw [ho7]; rfl) dX8_about_52 ?_
        cases h
      · replace h := om_s ho7 h
        refine cg_get hx hb hts iC_Court_about_X3 hown hK hX 5 v1 hv4 rfl rfl 9 (by decide) (hts (.fieldLink RX8 110 "PassageCourt$Person" "there" "LPassageCourt$Land;") (by decide +kernel)) (fun _ h9 => h9) (v := .ref (ad 4 v8)) (by rw [ho7]; rfl) dX8_about_52 ?_
        obtain ⟨_, hv9, h⟩ := mbind h
        replace hv9 := ck_spec hv9
        refine cg_get hx hb hts iC_Court_about_X1 hown hK hX 4 v8 hv9 rfl rfl 0 (by decide) (hts (.fieldLink RX8 66 "PassageCourt$Land" "number" "I") (by decide +kernel)) (fun _ h9 => h9) rfl dX8_about_55 ?_
        exact (nt_C_Court_about_58 _ h).elim
  replace h := mneg c3 h
  by_cases c10 : x2 = 1
  · replace h := mpos c10 h
    refine lv_tableIn (tgt := 59) hx hb dX8_about_7 (by rw [c10]; decide) (by rw [c10]; decide) (by rw [c10]; rfl) (by decide) ?_
    refine lv_aload_n hx hb dX8_about_59 rfl (lv_at hl 0 rfl) ?_
    obtain ⟨_, hv11, h⟩ := mbind h
    replace hv11 := ck_spec hv11
    refine cg_get hx hb hts iC_Court_about_X3 hown hK hX 5 v1 hv11 rfl rfl 8 (by decide) (hts (.fieldLink RX8 124 "PassageCourt$Person" "nations" "I") (by decide +kernel)) (fun _ h9 => h9) rfl dX8_about_60 ?_
    cases h
  replace h := mneg c10 h
  by_cases c12 : x2 = 2
  · replace h := mpos c12 h
    refine lv_tableIn (tgt := 64) hx hb dX8_about_7 (by rw [c12]; decide) (by rw [c12]; decide) (by rw [c12]; rfl) (by decide) ?_
    refine lv_aload_n hx hb dX8_about_64 rfl (lv_at hl 0 rfl) ?_
    obtain ⟨_, hv13, h⟩ := mbind h
    replace hv13 := ck_spec hv13
    refine cg_get hx hb hts iC_Court_about_X3 hown hK hX 5 v1 hv13 rfl rfl 5 (by decide) (hts (.fieldLink RX8 307 "PassageCourt$Person" "counted" "LPassageCourt$Row;") (by decide +kernel)) (fun _ h9 => h9) rfl dX8_about_65 ?_
    refine lv_aload_n hx hb dX8_about_68 rfl (lv_at hl 1 rfl) ?_
    refine cg_get hx hb hts iC_Court_about_X8 hown hK hX 0 0 rfl rfl rfl 6 (by decide) (hts (.fieldLink RX8 37 "PassageCourt" "today" "I") (by decide +kernel)) (fun _ h9 => h9) rfl dX8_about_69 ?_
    obtain ⟨r14, er14, h⟩ := mbind h
    refine cg_callV (As := [.int (sI g 0 0 6)]) (rest := []) ⟨hx, hb, hml, hown, hts⟩ 10 v1 hv13 (ci := 6) rfl rfl (cC_Row_at l D yI yO z0 ad ⟨by decide, by decide⟩ er14) (cwV 1 hts gX8_about_X5_at rfl rfl rfl (by decide +kernel) ⟨Nat.le_of_ble_eq_true rfl, Nat.le_of_ble_eq_true rfl⟩) hK hX rfl hl.1 rfl (Nat.le_of_ble_eq_true rfl) dX8_about_72 ⟨Nat.zero_le _, Nat.zero_le _⟩ (fun H locs hX => ?_)
    refine lv_aload_n hx hb dX8_about_75 rfl (lv_at hl 0 rfl) ?_
    refine cg_get hx hb hts iC_Court_about_X3 hown hK hX 5 v1 hv13 rfl rfl 5 (by decide) (hts (.fieldLink RX8 307 "PassageCourt$Person" "counted" "LPassageCourt$Row;") (by decide +kernel)) (fun _ h9 => h9) rfl dX8_about_76 ?_
    refine lv_aload_n hx hb dX8_about_79 rfl (lv_at hl 1 rfl) ?_
    refine cg_get hx hb hts iC_Court_about_X8 hown hK hX 0 0 rfl rfl rfl 6 (by decide) (hts (.fieldLink RX8 37 "PassageCourt" "today" "I") (by decide +kernel)) (fun _ h9 => h9) rfl dX8_about_80 ?_
    refine lv_aload_n hx hb dX8_about_83 rfl (lv_at hl 1 rfl) ?_
    obtain ⟨v15, ev15, h⟩ := mbind h
    refine cg_callVq (As := []) (rest := [.int (sI g 0 0 6), .ref (ad 10 v1), .int r14]) ⟨hx, hb, hml, hown, hts⟩ 0 0 rfl (ci := 9) rfl rfl (cC_Court_ruleToday l D yI yO z0 ad ev15) (cwV 0 hts gX8_about_X8_ruleToday rfl rfl rfl (by decide +kernel) ⟨Nat.le_of_ble_eq_true rfl, Nat.le_of_ble_eq_true rfl⟩) hK hX rfl hl.1 rfl (Nat.le_of_ble_eq_true rfl) dX8_about_84 ⟨Nat.zero_le _, Nat.zero_le _⟩ (fun H locs hX => ?_)
    refine W.eq (g2 := F0 m 87 ls [.ref (ad 3 v15), .int (sI g 0 0 6), .ref (ad 10 v1), .int r14]) rfl ?_
    obtain ⟨_, hv16, h⟩ := mbind h
    replace hv16 := ck_spec hv16
    refine cg_get hx hb hts iC_Court_about_X6 hown hK hX 3 v15 hv16 rfl rfl 2 (by decide) (hts (.fieldLink RX8 314 "PassageCourt$Rule" "window" "I") (by decide +kernel)) (fun _ h9 => h9) rfl dX8_about_87 ?_
    refine lv_isub hx hb dX8_about_90 ?_
    obtain ⟨r17, er17, h⟩ := mbind h
    refine cg_callV (As := [.int ((sI g 0 0 6) - (sI g 3 v15 2))]) (rest := [.int r14]) ⟨hx, hb, hml, hown, hts⟩ 10 v1 hv13 (ci := 6) rfl rfl (cC_Row_at l D yI yO z0 ad ⟨by decide, by decide⟩ er17) (cwV 1 hts gX8_about_X5_at rfl rfl rfl (by decide +kernel) ⟨Nat.le_of_ble_eq_true rfl, Nat.le_of_ble_eq_true rfl⟩) hK hX rfl hl.1 rfl (Nat.le_of_ble_eq_true rfl) dX8_about_91 ⟨Nat.zero_le _, Nat.zero_le _⟩ (fun H locs hX => ?_)
    refine lv_isub hx hb dX8_about_94 ?_
    cases h
  replace h := mneg c12 h
  by_cases c18 : x2 = 3
  · replace h := mpos c18 h
    refine lv_tableIn (tgt := 96) hx hb dX8_about_7 (by rw [c18]; decide) (by rw [c18]; decide) (by rw [c18]; rfl) (by decide) ?_
    refine lv_aload_n hx hb dX8_about_96 rfl (lv_at hl 0 rfl) ?_
    obtain ⟨_, hv19, h⟩ := mbind h
    replace hv19 := ck_spec hv19
    rcases ho20 : sJ g 5 v1 10 with _ | v21
    · replace h := om_n ho20 h
      refine cg_get hx hb hts iC_Court_about_X3 hown hK hX 5 v1 hv19 rfl rfl 10 (by decide) (hts (.fieldLink RX8 185 "PassageCourt$Person" "visa" "LPassageCourt$Visa;") (by decide +kernel)) (fun _ h9 => h9) (v := .null) (by rw [ho20]; rfl) dX8_about_97 ?_
      refine lv_ifnonnullN hx hb dX8_about_100 ?_
      refine lv_iconst (v := -1) hx hb dX8_about_103 (by decide) ?_
      refine lv_goto (tgt := 114) hx hb dX8_about_104 (by decide) ?_
      exact (nt_C_Court_about_114 _ h).elim
    · replace h := om_s ho20 h
      refine cg_get hx hb hts iC_Court_about_X3 hown hK hX 5 v1 hv19 rfl rfl 10 (by decide) (hts (.fieldLink RX8 185 "PassageCourt$Person" "visa" "LPassageCourt$Visa;") (by decide +kernel)) (fun _ h9 => h9) (v := .ref (ad 6 v21)) (by rw [ho20]; rfl) dX8_about_97 ?_
      refine lv_ifnonnull (tgt := 107) hx hb dX8_about_100 (by decide) ?_
      refine lv_aload_n hx hb dX8_about_107 rfl (lv_at hl 0 rfl) ?_
      rcases ho22 : sJ g 5 v1 10 with _ | v23
      · replace h := om_n ho22 h
        refine cg_get hx hb hts iC_Court_about_X3 hown hK hX 5 v1 hv19 rfl rfl 10 (by decide) (hts (.fieldLink RX8 185 "PassageCourt$Person" "visa" "LPassageCourt$Visa;") (by decide +kernel)) (fun _ h9 => h9) (v := .null) (by rw [ho22]; rfl) dX8_about_108 ?_
        cases h
      · replace h := om_s ho22 h
        refine cg_get hx hb hts iC_Court_about_X3 hown hK hX 5 v1 hv19 rfl rfl 10 (by decide) (hts (.fieldLink RX8 185 "PassageCourt$Person" "visa" "LPassageCourt$Visa;") (by decide +kernel)) (fun _ h9 => h9) (v := .ref (ad 6 v23)) (by rw [ho22]; rfl) dX8_about_108 ?_
        obtain ⟨_, hv24, h⟩ := mbind h
        replace hv24 := ck_spec hv24
        refine cg_get hx hb hts iC_Court_about_X7 hown hK hX 6 v23 hv24 rfl rfl 0 (by decide) (hts (.fieldLink RX8 144 "PassageCourt$Visa" "number" "I") (by decide +kernel)) (fun _ h9 => h9) rfl dX8_about_111 ?_
        exact (nt_C_Court_about_114 _ h).elim
  replace h := mneg c18 h
  by_cases c25 : x2 = 4
  · replace h := mpos c25 h
    refine lv_tableIn (tgt := 115) hx hb dX8_about_7 (by rw [c25]; decide) (by rw [c25]; decide) (by rw [c25]; rfl) (by decide) ?_
    refine lv_aload_n hx hb dX8_about_115 rfl (lv_at hl 0 rfl) ?_
    obtain ⟨_, hv26, h⟩ := mbind h
    replace hv26 := ck_spec hv26
    rcases ho27 : sJ g 5 v1 9 with _ | v28
    · replace h := om_n ho27 h
      refine cg_get hx hb hts iC_Court_about_X3 hown hK hX 5 v1 hv26 rfl rfl 9 (by decide) (hts (.fieldLink RX8 110 "PassageCourt$Person" "there" "LPassageCourt$Land;") (by decide +kernel)) (fun _ h9 => h9) (v := .null) (by rw [ho27]; rfl) dX8_about_116 ?_
      refine lv_ifnonnullN hx hb dX8_about_119 ?_
      refine lv_iconst (v := 0) hx hb dX8_about_122 (by decide) ?_
      refine lv_goto (tgt := 131) hx hb dX8_about_123 (by decide) ?_
      exact (nt_C_Court_about_131 _ h).elim
    · replace h := om_s ho27 h
      refine cg_get hx hb hts iC_Court_about_X3 hown hK hX 5 v1 hv26 rfl rfl 9 (by decide) (hts (.fieldLink RX8 110 "PassageCourt$Person" "there" "LPassageCourt$Land;") (by decide +kernel)) (fun _ h9 => h9) (v := .ref (ad 4 v28)) (by rw [ho27]; rfl) dX8_about_116 ?_
      refine lv_ifnonnull (tgt := 126) hx hb dX8_about_119 (by decide) ?_
      refine lv_aload_n hx hb dX8_about_126 rfl (lv_at hl 1 rfl) ?_
      refine lv_aload_n hx hb dX8_about_127 rfl (lv_at hl 0 rfl) ?_
      obtain ⟨r29, er29, h⟩ := mbind h
      refine cg_callV (As := [.ref (ad 5 v1)]) (rest := []) ⟨hx, hb, hml, hown, hts⟩ 0 0 rfl (ci := 9) rfl rfl (cC_Court_overstayedDays l D yI yO z0 ad er29) (cwV 1 hts gX8_about_X8_overstayedDays rfl rfl rfl (by decide +kernel) ⟨Nat.le_of_ble_eq_true rfl, Nat.le_of_ble_eq_true rfl⟩) hK hX rfl hl.1 rfl (Nat.le_of_ble_eq_true rfl) dX8_about_128 ⟨Nat.zero_le _, Nat.zero_le _⟩ (fun H locs hX => ?_)
      exact (nt_C_Court_about_131 _ h).elim
  replace h := mneg c25 h
  have nc3 := lv_neT c3 (show (0 : Int32).toInt = 0 from rfl)
  have nc10 := lv_neT c10 (show (1 : Int32).toInt = 1 from rfl)
  have nc12 := lv_neT c12 (show (2 : Int32).toInt = 2 from rfl)
  have nc18 := lv_neT c18 (show (3 : Int32).toInt = 3 from rfl)
  have nc25 := lv_neT c25 (show (4 : Int32).toInt = 4 from rfl)
  refine lv_tableOut (tgt := 132) hx hb dX8_about_7 (by omega) (by decide) ?_
  cases h
  obtain ⟨sa, hsa⟩ := hxs.2.2.1 (317, "what is out of range") (by decide +kernel)
  exact vx_throwSW hx hb hlf (own := RX8) (cls := "java/lang/IllegalArgumentException") (text := "what is out of range") (names := ["java/lang/RuntimeException", "java/lang/Exception"]) (A := A) hown (by decide +kernel) (by decide +kernel) (hts (.classLink RX8 41 "java/lang/IllegalArgumentException") (by decide +kernel)) (hts (.initialized "java/lang/IllegalArgumentException") (by decide +kernel)) hsa (vx_hat (fun w hw => hts w (eC_Court_about_45 w hw)) (B := xB) (by decide +kernel) (fun w hw => va_Nw.use (xB_on w hw) (hxs.2.2.2 w hw))) (by decide +kernel) hxs.1 hxs.2.1 hX.2.2 (hl.1.trans hml.symm) dX8_about_132 dX8_about_135 dX8_about_136 dX8_about_139 dX8_about_142 (fun x hx => (ht x hx).elim) (Nat.le_of_ble_eq_true rfl) (Nat.le_of_ble_eq_true rfl) (Nat.le_of_ble_eq_true rfl) (Nat.le_of_ble_eq_true rfl) hlocks (fun t a1 a2 a3 => xX_post rfl hK hX t a1 a2 a3) hX.2.2.2.2 (Nat.le_refl _) (Nat.le_refl _)
set_option maxRecDepth 20000 in
theorem cC_Court_about (l : Launch) (D : va_G) (yI yO : ClassId) (z0 : Nat) (ad : Nat → Nat → Nat) {g : CS} {rz : Int32} {x1 : Int32} {x2 : Int32} (h : fC_Court_about g x1 x2 = some (.inr rz)) : Met l yX8_about wsX8_about (mR 4 87) (va_Pc [.ref (ad 0 0), .int x1, .int x2] (cPre D yI yO z0 ad g)) (cQ D yI yO z0 ad rz g (cF ad g)) 0 0 (cF ad g) := by
  refine Met.ofW (cc := cX8_about) (maxL := 4) (ret := (some .int)) (by decide) rfl ?_
  intro p e s m args below meth c s₁ B hml hv
  obtain ⟨hv0, hw, hK⟩ := hv
  have hv1 : args = [.ref (ad 0 0), .int x1, .int x2].toArray := hv0
  subst hv1
  have C : cC p s m _ meth c cX8_about RX8 (some .int) wsX8_about 4 D yI yO := ⟨B.exec, B.bytes, B.returns, atoms_spec (ws := wsX8_about) B.pre, findClass_of_methodNamed B.named, B.notSynchronized, hml, hK⟩
  have hl := lv_entry ([.ref (ad 0 0), .int x1, .int x2]) (n := 4) (Nat.le_of_ble_eq_true rfl)
  rw [lg_entry_eq]
  generalize (lg_sl ([.ref (ad 0 0), .int x1, .int x2]) ++ List.replicate (4 - (lg_sl ([.ref (ad 0 0), .int x1, .int x2])).length) Slot.unset).toArray = ls at hl ⊢
  have hl : lv_has ls 4 [(0, .ref (ad 0 0)), (1, .int x1), (2, .int x2)] := hl
  exact w_C_Court_about_0 C h ⟨hw, fun k i hi => ⟨k, i, hi, rfl⟩, va_S.rf⟩ hl
set_option maxRecDepth 20000 in
theorem cX_Court_about (l : Launch) (hlf : l.stackTraces = false) (D : va_G) (yI yO : ClassId) (z0 : Nat) (ad : Nat → Nat → Nat) {g : CS} {ez : Nat} {x1 : Int32} {x2 : Int32} (sz : Nat) (h : fC_Court_about g x1 x2 = some (.inl ez)) : vx_Met l yX8_about wsX8_about (xR 7 111) (va_Pc [.ref (ad 0 0), .int x1, .int x2] (xPre D yI yO z0 ad g sz)) (xQ (cA ad g sz)) (xXC D yI yO z0 ad g ez (cA ad g sz)) 1 6 (cA ad g sz) := by
  refine vx_ofW (cc := cX8_about) (maxL := 4) (ret := (some .int)) (by decide) rfl ?_
  intro p e s m args below meth c s₁ B hml ht hv
  obtain ⟨hv0, ⟨hw, hK⟩, hsz, hxs⟩ := hv
  subst hsz
  have hv1 : args = [.ref (ad 0 0), .int x1, .int x2].toArray := hv0
  subst hv1
  have C : cC p s m _ meth c cX8_about RX8 (some .int) wsX8_about 4 D yI yO := ⟨B.exec, B.bytes, B.returns, atoms_spec (ws := wsX8_about) B.pre, findClass_of_methodNamed B.named, B.notSynchronized, hml, hK⟩
  have hl := lv_entry ([.ref (ad 0 0), .int x1, .int x2]) (n := 4) (Nat.le_of_ble_eq_true rfl)
  rw [lg_entry_eq]
  generalize (lg_sl ([.ref (ad 0 0), .int x1, .int x2]) ++ List.replicate (4 - (lg_sl ([.ref (ad 0 0), .int x1, .int x2])).length) Slot.unset).toArray = ls at hl ⊢
  have hl : lv_has ls 4 [(0, .ref (ad 0 0)), (1, .int x1), (2, .int x2)] := hl
  exact w_X_Court_about_0 C hlf ht hxs (fun q h => Or.inr h) h ⟨hw, fun k i hi => Or.inl ⟨k, i, hi, rfl⟩, va_S.rf⟩ hl
theorem iC_Court_daysAnew_X3 : ∀ w ∈ wsX30, w ∈ wsX8_daysAnew := by decide +kernel
theorem iC_Court_daysAnew_X6 : ∀ w ∈ wsX60, w ∈ wsX8_daysAnew := by decide +kernel
theorem iC_Court_daysAnew_X8 : ∀ w ∈ wsX80, w ∈ wsX8_daysAnew := by decide +kernel
def fC_Court_daysAnew_56 (rec28 : CS → Nat → Int32 → Int32 → Option (Nat ⊕ Int32)) (g : CS) (i2 : Nat) (x3 : Int32) (x4 : Int32) : Option (Nat ⊕ Int32) :=
  rec28 g i2 x3 (x4 + 1)
set_option maxRecDepth 20000 in
theorem w_C_Court_daysAnew_56 (C : cC p s m args meth c cX8_daysAnew RX8 (some .int) wsX8_daysAnew 5 D yI yO) {rz : Int32} {g : CS} {rec28 : CS → Nat → Int32 → Int32 → Option (Nat ⊕ Int32)} (hrec28 : ∀ {i2 : Nat} {x3 : Int32} {x4 : Int32}  (_ : rec28 g i2 x3 x4 = some (.inr rz)) {H : Heap} {locs : List Loc} {ls : Array Slot} (_ : cX D yI yO z0 ad g A s H locs) (_ : lv_has ls 5 [(0, .ref (ad 0 0)), (2, .ref (ad 5 i2)), (3, .int x3), (4, .int x4)]), W p l e (mR 4 87) s m args below meth c H locs 0 0 (MQ below (cQ D yI yO z0 ad rz g A) args s 0 0 A) (F0 m 28 ls [])) {i2 : Nat} {x3 : Int32} {x4 : Int32} (h : fC_Court_daysAnew_56 rec28 g i2 x3 x4 = some (.inr rz)) {H : Heap} {locs : List Loc} {ls : Array Slot} (hX : cX D yI yO z0 ad g A s H locs) (hl : lv_has ls 5 [(0, .ref (ad 0 0)), (2, .ref (ad 5 i2)), (3, .int x3), (4, .int x4)]) : W p l e (mR 4 87) s m args below meth c H locs 0 0 (MQ below (cQ D yI yO z0 ad rz g A) args s 0 0 A) (F0 m 56 ls []) := by
  obtain ⟨hx, hb, hr, hts, hown, hlocks, hml, hK⟩ := id C
  unfold fC_Court_daysAnew_56 at h
  refine lv_iinc (v := x4 + 1) (lv' := [(4, .int (x4 + 1)), (0, .ref (ad 0 0)), (2, .ref (ad 5 i2)), (3, .int x3)]) hx hb dX8_daysAnew_56 hl (k := 3) rfl rfl (by decide) rfl (fun ls hl => ?_)
  refine lv_goto (tgt := 28) hx hb dX8_daysAnew_59 (by decide) ?_
  exact hrec28 h hX (lv_sub hl [1, 2, 3, 0] rfl)
theorem nt_C_Court_daysAnew_56 {rec28 : CS → Nat → Int32 → Int32 → Option (Nat ⊕ Int32)} (hrec28 : ∀ {g : CS} {i2 : Nat} {x3 : Int32} {x4 : Int32}, ntp (rec28 g i2 x3 x4)) {g : CS} {i2 : Nat} {x3 : Int32} {x4 : Int32} : ntp (fC_Court_daysAnew_56 rec28 g i2 x3 x4) := by
  unfold fC_Court_daysAnew_56
  repeat' first | exact ntp_inr _ | exact ntp_none | exact hrec28 | refine ntp_bind (fun _ => ?_) | refine ntp_cb2 (fun _ _ => ?_) | refine ntp_om ?_ (fun _ => ?_) | refine ntp_ite ?_ ?_
def fC_Court_daysAnew_28 : Nat → CS → Nat → Int32 → Int32 → Option (Nat ⊕ Int32)
  | 0, _, _, _, _ => none
  | n + 1, g, i2, x3, x4 =>
    if (sI g 0 0 6) < x4 then
      some (.inr x3)
    else
      (ck g 5 i2).bind fun _ =>
      (fC_Row_at 9 i2 g x4).bind fun r3 =>
      (fC_Court_isCounting g r3).bind fun r4 =>
      if r4 = 0 then
        fC_Court_daysAnew_56 (fC_Court_daysAnew_28 n) g i2 x3 x4
      else
        fC_Court_daysAnew_56 (fC_Court_daysAnew_28 n) g i2 (x3 + 1) x4
set_option maxRecDepth 20000 in
theorem w_C_Court_daysAnew_28 (C : cC p s m args meth c cX8_daysAnew RX8 (some .int) wsX8_daysAnew 5 D yI yO) {rz : Int32} {g : CS} : ∀ (n : Nat) {i2 : Nat} {x3 : Int32} {x4 : Int32} (h : fC_Court_daysAnew_28 n g i2 x3 x4 = some (.inr rz)) {H : Heap} {locs : List Loc} {ls : Array Slot} (hX : cX D yI yO z0 ad g A s H locs) (hl : lv_has ls 5 [(0, .ref (ad 0 0)), (2, .ref (ad 5 i2)), (3, .int x3), (4, .int x4)]), W p l e (mR 4 87) s m args below meth c H locs 0 0 (MQ below (cQ D yI yO z0 ad rz g A) args s 0 0 A) (F0 m 28 ls []) := by
  obtain ⟨hx, hb, hr, hts, hown, hlocks, hml, hK⟩ := id C
  intro n
  induction n with
  | zero =>
    intro i2 x3 x4 h
    cases (show (none : Option _) = _ from h)
  | succ n ih =>
    intro i2 x3 x4 h H locs ls hX hl
    rw [fC_Court_daysAnew_28] at h
    refine lv_iload hx hb dX8_daysAnew_28 (lv_at hl 3 rfl) ?_
    refine lv_aload_n hx hb dX8_daysAnew_30 rfl (lv_at hl 0 rfl) ?_
    refine cg_get hx hb hts iC_Court_daysAnew_X8 hown hK hX 0 0 rfl rfl rfl 6 (by decide) (hts (.fieldLink RX8 37 "PassageCourt" "today" "I") (by decide +kernel)) (fun _ h9 => h9) rfl dX8_daysAnew_31 ?_
    refine lv_icmp_gt (tgt := 62) hx hb dX8_daysAnew_34 (by decide) (fun c1 => ?_) (fun c1 => ?_)
    · replace h := mpos c1 h
      refine lv_iload_n hx hb dX8_daysAnew_62 rfl (lv_at hl 2 rfl) ?_
      cases h
      exact cg_reti hx hb hr hlocks hK hX dX8_daysAnew_63
    · replace h := mneg c1 h
      refine lv_aload_n hx hb dX8_daysAnew_37 rfl (lv_at hl 0 rfl) ?_
      refine lv_aload_n hx hb dX8_daysAnew_38 rfl (lv_at hl 1 rfl) ?_
      obtain ⟨_, hv2, h⟩ := mbind h
      replace hv2 := ck_spec hv2
      refine cg_get hx hb hts iC_Court_daysAnew_X3 hown hK hX 5 i2 hv2 rfl rfl 4 (by decide) (hts (.fieldLink RX8 322 "PassageCourt$Person" "days" "LPassageCourt$Row;") (by decide +kernel)) (fun _ h9 => h9) rfl dX8_daysAnew_39 ?_
      refine lv_iload hx hb dX8_daysAnew_42 (lv_at hl 3 rfl) ?_
      obtain ⟨r3, er3, h⟩ := mbind h
      refine cg_callV (As := [.int x4]) (rest := [.ref (ad 0 0)]) ⟨hx, hb, hml, hown, hts⟩ 9 i2 hv2 (ci := 6) rfl rfl (cC_Row_at l D yI yO z0 ad ⟨by decide, by decide⟩ er3) (cwV 1 hts gX8_daysAnew_X5_at rfl rfl rfl (by decide +kernel) ⟨Nat.le_of_ble_eq_true rfl, Nat.le_of_ble_eq_true rfl⟩) hK hX rfl hl.1 rfl (Nat.le_of_ble_eq_true rfl) dX8_daysAnew_44 ⟨Nat.zero_le _, Nat.zero_le _⟩ (fun H locs hX => ?_)
      obtain ⟨r4, er4, h⟩ := mbind h
      refine cg_callV (As := [.int r3]) (rest := []) ⟨hx, hb, hml, hown, hts⟩ 0 0 rfl (ci := 9) rfl rfl (cC_Court_isCounting l D yI yO z0 ad er4) (cwV 1 hts gX8_daysAnew_X8_isCounting rfl rfl rfl (by decide +kernel) ⟨Nat.le_of_ble_eq_true rfl, Nat.le_of_ble_eq_true rfl⟩) hK hX rfl hl.1 rfl (Nat.le_of_ble_eq_true rfl) dX8_daysAnew_47 ⟨Nat.zero_le _, Nat.zero_le _⟩ (fun H locs hX => ?_)
      refine lv_if_eq (tgt := 56) hx hb dX8_daysAnew_50 (by decide) (fun c5 => ?_) (fun c5 => ?_)
      · replace h := mpos c5 h
        exact w_C_Court_daysAnew_56 C ih h hX (lv_sub hl [0, 1, 2, 3] rfl)
      · replace h := mneg c5 h
        refine lv_iinc (v := x3 + 1) (lv' := [(3, .int (x3 + 1)), (0, .ref (ad 0 0)), (2, .ref (ad 5 i2)), (4, .int x4)]) hx hb dX8_daysAnew_53 hl (k := 2) rfl rfl (by decide) rfl (fun ls hl => ?_)
        exact w_C_Court_daysAnew_56 C ih h hX (lv_sub hl [1, 2, 0, 3] rfl)
theorem nt_C_Court_daysAnew_28 : ∀ (n : Nat) {g : CS} {i2 : Nat} {x3 : Int32} {x4 : Int32}, ntp (fC_Court_daysAnew_28 n g i2 x3 x4) := by
  intro n
  induction n with
  | zero => intros; exact ntp_none
  | succ n ih =>
    intros
    rw [fC_Court_daysAnew_28]
    repeat' first | exact ntp_inr _ | exact ntp_none | exact nt_C_Court_daysAnew_56 ih | refine ntp_bind (fun _ => ?_) | refine ntp_cb2 (fun _ _ => ?_) | refine ntp_om ?_ (fun _ => ?_) | refine ntp_ite ?_ ?_ | exact ih
def fC_Court_daysAnew (g : CS) (x1 : Int32) : Option (Nat ⊕ Int32) :=
  xb (fC_Court_personAt g x1) fun v1 =>
  (fC_Court_ruleToday g).bind fun v3 =>
  (ck g 3 v3).bind fun _ =>
  fC_Court_daysAnew_28 4096 g v1 0 (if 0 < (((sI g 0 0 6) - (sI g 3 v3 2)) + 1) then (((sI g 0 0 6) - (sI g 3 v3 2)) + 1) else 0)
set_option maxRecDepth 20000 in
theorem w_C_Court_daysAnew_0 (C : cC p s m args meth c cX8_daysAnew RX8 (some .int) wsX8_daysAnew 5 D yI yO) {rz : Int32} {g : CS} {x1 : Int32} (h : fC_Court_daysAnew g x1 = some (.inr rz)) {H : Heap} {locs : List Loc} {ls : Array Slot} (hX : cX D yI yO z0 ad g A s H locs) (hl : lv_has ls 5 [(0, .ref (ad 0 0)), (1, .int x1)]) : W p l e (mR 4 87) s m args below meth c H locs 0 0 (MQ below (cQ D yI yO z0 ad rz g A) args s 0 0 A) (F0 m 0 ls []) := by
  obtain ⟨hx, hb, hr, hts, hown, hlocks, hml, hK⟩ := id C
  unfold fC_Court_daysAnew at h
  refine lv_aload_n hx hb dX8_daysAnew_0 rfl (lv_at hl 0 rfl) ?_
  refine lv_iload_n hx hb dX8_daysAnew_1 rfl (lv_at hl 1 rfl) ?_
  obtain ⟨v1, et2, h⟩ := xb_ret h
  refine cg_callVq (As := [.int x1]) (rest := []) ⟨hx, hb, hml, hown, hts⟩ 0 0 rfl (ci := 9) rfl rfl (cC_Court_personAt l D yI yO z0 ad et2) (cwV 1 hts gX8_daysAnew_X8_personAt rfl rfl rfl (by decide +kernel) ⟨Nat.le_of_ble_eq_true rfl, Nat.le_of_ble_eq_true rfl⟩) hK hX rfl hl.1 rfl (Nat.le_of_ble_eq_true rfl) dX8_daysAnew_2 ⟨Nat.zero_le _, Nat.zero_le _⟩ (fun H locs hX => ?_)
  refine W.eq (g2 := F0 m 5 ls [.ref (ad 5 v1)]) rfl ?_
  refine lv_astore_n (lv' := [(2, .ref (ad 5 v1)), (0, .ref (ad 0 0)), (1, .int x1)]) hx hb dX8_daysAnew_5 rfl hl (by decide) rfl (fun ls hl => ?_)
  refine lv_iconst (v := 0) hx hb dX8_daysAnew_6 (by decide) ?_
  refine lv_istore_n (lv' := [(3, .int 0), (2, .ref (ad 5 v1)), (0, .ref (ad 0 0)), (1, .int x1)]) hx hb dX8_daysAnew_7 rfl hl (by decide) rfl (fun ls hl => ?_)
  refine lv_iconst (v := 0) hx hb dX8_daysAnew_8 (by decide) ?_
  refine lv_aload_n hx hb dX8_daysAnew_9 rfl (lv_at hl 2 rfl) ?_
  refine cg_get hx hb hts iC_Court_daysAnew_X8 hown hK hX 0 0 rfl rfl rfl 6 (by decide) (hts (.fieldLink RX8 37 "PassageCourt" "today" "I") (by decide +kernel)) (fun _ h9 => h9) rfl dX8_daysAnew_10 ?_
  refine lv_aload_n hx hb dX8_daysAnew_13 rfl (lv_at hl 2 rfl) ?_
  obtain ⟨v3, ev3, h⟩ := mbind h
  refine cg_callVq (As := []) (rest := [.int (sI g 0 0 6), .int 0]) ⟨hx, hb, hml, hown, hts⟩ 0 0 rfl (ci := 9) rfl rfl (cC_Court_ruleToday l D yI yO z0 ad ev3) (cwV 0 hts gX8_daysAnew_X8_ruleToday rfl rfl rfl (by decide +kernel) ⟨Nat.le_of_ble_eq_true rfl, Nat.le_of_ble_eq_true rfl⟩) hK hX rfl hl.1 rfl (Nat.le_of_ble_eq_true rfl) dX8_daysAnew_14 ⟨Nat.zero_le _, Nat.zero_le _⟩ (fun H locs hX => ?_)
  refine W.eq (g2 := F0 m 17 ls [.ref (ad 3 v3), .int (sI g 0 0 6), .int 0]) rfl ?_
  obtain ⟨_, hv4, h⟩ := mbind h
  replace hv4 := ck_spec hv4
  refine cg_get hx hb hts iC_Court_daysAnew_X6 hown hK hX 3 v3 hv4 rfl rfl 2 (by decide) (hts (.fieldLink RX8 314 "PassageCourt$Rule" "window" "I") (by decide +kernel)) (fun _ h9 => h9) rfl dX8_daysAnew_17 ?_
  refine lv_isub hx hb dX8_daysAnew_20 ?_
  refine lv_iconst (v := 1) hx hb dX8_daysAnew_21 (by decide) ?_
  refine lv_iadd hx hb dX8_daysAnew_22 ?_
  refine va_mmax hx hb (hml.trans hl.1.symm) hown (hts (.methodLink RX8 319 Lib.Math.max.name) (by decide +kernel)) (hts (.static Lib.Math.max.name) (by decide +kernel)) (hts (.initialized "java/lang/Math") (by decide +kernel)) (hts (.code Lib.Math.max.name Lib.Math.max.code 2 (some .int)) (by decide +kernel)) (Nat.le_of_ble_eq_true rfl) (Nat.le_of_ble_eq_true rfl) (Nat.le_of_ble_eq_true rfl) (Nat.le_of_ble_eq_true rfl) dX8_daysAnew_23 ?_
  refine lv_istore (lv' := [(4, .int (if 0 < (((sI g 0 0 6) - (sI g 3 v3 2)) + 1) then (((sI g 0 0 6) - (sI g 3 v3 2)) + 1) else 0)), (3, .int 0), (2, .ref (ad 5 v1)), (0, .ref (ad 0 0)), (1, .int x1)]) hx hb dX8_daysAnew_26 hl (by decide) rfl (fun ls hl => ?_)
  exact w_C_Court_daysAnew_28 C 4096 h hX (lv_sub hl [3, 2, 1, 0] rfl)
set_option maxRecDepth 20000 in
theorem w_X_Court_daysAnew_0 (C : cC p s m args meth c cX8_daysAnew RX8 (some .int) wsX8_daysAnew 5 D yI yO) {Qc : Array Value → State → Outcome → State → Prop} (hlf : l.stackTraces = false) (ht : ∀ x ∈ c.exceptionTable.toList, False) (hxs : xS A s s.heap) (hA : ∀ q, s.heap.size ≤ q → A q) {ez : Nat} {g : CS} {x1 : Int32} (h : fC_Court_daysAnew g x1 = some (.inl ez)) {H : Heap} {locs : List Loc} {ls : Array Slot} (hX : cX D yI yO z0 ad g A s H locs) (hl : lv_has ls 5 [(0, .ref (ad 0 0)), (1, .int x1)]) : W p l e (xR 7 111) s m args below meth c H locs 0 0 (vx_MQ below Qc (xXC D yI yO z0 ad g ez A) args s 1 6 A) (F0 m 0 ls []) := by
  obtain ⟨hx, hb, hr, hts, hown, hlocks, hml, hK⟩ := id C
  unfold fC_Court_daysAnew at h
  refine lv_aload_n hx hb dX8_daysAnew_0 rfl (lv_at hl 0 rfl) ?_
  refine lv_iload_n hx hb dX8_daysAnew_1 rfl (lv_at hl 1 rfl) ?_
  rcases xb_thr h with et2 | ⟨v1, et2, h⟩
  · exact xg_callV (As := [.int x1]) (rest := []) ⟨hx, hb, hml, hown, hts⟩ 0 0 rfl (ci := 9) rfl rfl (cX_Court_personAt l hlf D yI yO z0 ad H.size et2) (cwV 1 hts gX8_daysAnew_X8_personAt rfl rfl rfl (by decide +kernel) ⟨Nat.le_of_ble_eq_true rfl, Nat.le_of_ble_eq_true rfl⟩) hK hX hA hxs ht hlocks rfl hl.1 rfl (Nat.le_of_ble_eq_true rfl) dX8_daysAnew_2 ⟨Nat.le_refl _, Nat.le_refl _⟩
  refine cg_callVq (As := [.int x1]) (rest := []) ⟨hx, hb, hml, hown, hts⟩ 0 0 rfl (ci := 9) rfl rfl (cC_Court_personAt l D yI yO z0 ad et2) (cwV 1 hts gX8_daysAnew_X8_personAt rfl rfl rfl (by decide +kernel) ⟨Nat.le_of_ble_eq_true rfl, Nat.le_of_ble_eq_true rfl⟩) hK hX rfl hl.1 rfl (Nat.le_of_ble_eq_true rfl) dX8_daysAnew_2 ⟨Nat.zero_le _, Nat.zero_le _⟩ (fun H locs hX => ?_)
  refine W.eq (g2 := F0 m 5 ls [.ref (ad 5 v1)]) rfl ?_
  refine lv_astore_n (lv' := [(2, .ref (ad 5 v1)), (0, .ref (ad 0 0)), (1, .int x1)]) hx hb dX8_daysAnew_5 rfl hl (by decide) rfl (fun ls hl => ?_)
  refine lv_iconst (v := 0) hx hb dX8_daysAnew_6 (by decide) ?_
  refine lv_istore_n (lv' := [(3, .int 0), (2, .ref (ad 5 v1)), (0, .ref (ad 0 0)), (1, .int x1)]) hx hb dX8_daysAnew_7 rfl hl (by decide) rfl (fun ls hl => ?_)
  refine lv_iconst (v := 0) hx hb dX8_daysAnew_8 (by decide) ?_
  refine lv_aload_n hx hb dX8_daysAnew_9 rfl (lv_at hl 2 rfl) ?_
  refine cg_get hx hb hts iC_Court_daysAnew_X8 hown hK hX 0 0 rfl rfl rfl 6 (by decide) (hts (.fieldLink RX8 37 "PassageCourt" "today" "I") (by decide +kernel)) (fun _ h9 => h9) rfl dX8_daysAnew_10 ?_
  refine lv_aload_n hx hb dX8_daysAnew_13 rfl (lv_at hl 2 rfl) ?_
  obtain ⟨v3, ev3, h⟩ := mbind h
  refine cg_callVq (As := []) (rest := [.int (sI g 0 0 6), .int 0]) ⟨hx, hb, hml, hown, hts⟩ 0 0 rfl (ci := 9) rfl rfl (cC_Court_ruleToday l D yI yO z0 ad ev3) (cwV 0 hts gX8_daysAnew_X8_ruleToday rfl rfl rfl (by decide +kernel) ⟨Nat.le_of_ble_eq_true rfl, Nat.le_of_ble_eq_true rfl⟩) hK hX rfl hl.1 rfl (Nat.le_of_ble_eq_true rfl) dX8_daysAnew_14 ⟨Nat.zero_le _, Nat.zero_le _⟩ (fun H locs hX => ?_)
  refine W.eq (g2 := F0 m 17 ls [.ref (ad 3 v3), .int (sI g 0 0 6), .int 0]) rfl ?_
  obtain ⟨_, hv4, h⟩ := mbind h
  replace hv4 := ck_spec hv4
  refine cg_get hx hb hts iC_Court_daysAnew_X6 hown hK hX 3 v3 hv4 rfl rfl 2 (by decide) (hts (.fieldLink RX8 314 "PassageCourt$Rule" "window" "I") (by decide +kernel)) (fun _ h9 => h9) rfl dX8_daysAnew_17 ?_
  refine lv_isub hx hb dX8_daysAnew_20 ?_
  refine lv_iconst (v := 1) hx hb dX8_daysAnew_21 (by decide) ?_
  refine lv_iadd hx hb dX8_daysAnew_22 ?_
  refine va_mmax hx hb (hml.trans hl.1.symm) hown (hts (.methodLink RX8 319 Lib.Math.max.name) (by decide +kernel)) (hts (.static Lib.Math.max.name) (by decide +kernel)) (hts (.initialized "java/lang/Math") (by decide +kernel)) (hts (.code Lib.Math.max.name Lib.Math.max.code 2 (some .int)) (by decide +kernel)) (Nat.le_of_ble_eq_true rfl) (Nat.le_of_ble_eq_true rfl) (Nat.le_of_ble_eq_true rfl) (Nat.le_of_ble_eq_true rfl) dX8_daysAnew_23 ?_
  refine lv_istore (lv' := [(4, .int (if 0 < (((sI g 0 0 6) - (sI g 3 v3 2)) + 1) then (((sI g 0 0 6) - (sI g 3 v3 2)) + 1) else 0)), (3, .int 0), (2, .ref (ad 5 v1)), (0, .ref (ad 0 0)), (1, .int x1)]) hx hb dX8_daysAnew_26 hl (by decide) rfl (fun ls hl => ?_)
  exact (nt_C_Court_daysAnew_28 4096 _ h).elim
set_option maxRecDepth 20000 in
theorem cC_Court_daysAnew (l : Launch) (D : va_G) (yI yO : ClassId) (z0 : Nat) (ad : Nat → Nat → Nat) {g : CS} {rz : Int32} {x1 : Int32} (h : fC_Court_daysAnew g x1 = some (.inr rz)) : Met l yX8_daysAnew wsX8_daysAnew (mR 4 87) (va_Pc [.ref (ad 0 0), .int x1] (cPre D yI yO z0 ad g)) (cQ D yI yO z0 ad rz g (cF ad g)) 0 0 (cF ad g) := by
  refine Met.ofW (cc := cX8_daysAnew) (maxL := 5) (ret := (some .int)) (by decide) rfl ?_
  intro p e s m args below meth c s₁ B hml hv
  obtain ⟨hv0, hw, hK⟩ := hv
  have hv1 : args = [.ref (ad 0 0), .int x1].toArray := hv0
  subst hv1
  have C : cC p s m _ meth c cX8_daysAnew RX8 (some .int) wsX8_daysAnew 5 D yI yO := ⟨B.exec, B.bytes, B.returns, atoms_spec (ws := wsX8_daysAnew) B.pre, findClass_of_methodNamed B.named, B.notSynchronized, hml, hK⟩
  have hl := lv_entry ([.ref (ad 0 0), .int x1]) (n := 5) (Nat.le_of_ble_eq_true rfl)
  rw [lg_entry_eq]
  generalize (lg_sl ([.ref (ad 0 0), .int x1]) ++ List.replicate (5 - (lg_sl ([.ref (ad 0 0), .int x1])).length) Slot.unset).toArray = ls at hl ⊢
  have hl : lv_has ls 5 [(0, .ref (ad 0 0)), (1, .int x1)] := hl
  exact w_C_Court_daysAnew_0 C h ⟨hw, fun k i hi => ⟨k, i, hi, rfl⟩, va_S.rf⟩ hl
set_option maxRecDepth 20000 in
theorem cX_Court_daysAnew (l : Launch) (hlf : l.stackTraces = false) (D : va_G) (yI yO : ClassId) (z0 : Nat) (ad : Nat → Nat → Nat) {g : CS} {ez : Nat} {x1 : Int32} (sz : Nat) (h : fC_Court_daysAnew g x1 = some (.inl ez)) : vx_Met l yX8_daysAnew wsX8_daysAnew (xR 7 111) (va_Pc [.ref (ad 0 0), .int x1] (xPre D yI yO z0 ad g sz)) (xQ (cA ad g sz)) (xXC D yI yO z0 ad g ez (cA ad g sz)) 1 6 (cA ad g sz) := by
  refine vx_ofW (cc := cX8_daysAnew) (maxL := 5) (ret := (some .int)) (by decide) rfl ?_
  intro p e s m args below meth c s₁ B hml ht hv
  obtain ⟨hv0, ⟨hw, hK⟩, hsz, hxs⟩ := hv
  subst hsz
  have hv1 : args = [.ref (ad 0 0), .int x1].toArray := hv0
  subst hv1
  have C : cC p s m _ meth c cX8_daysAnew RX8 (some .int) wsX8_daysAnew 5 D yI yO := ⟨B.exec, B.bytes, B.returns, atoms_spec (ws := wsX8_daysAnew) B.pre, findClass_of_methodNamed B.named, B.notSynchronized, hml, hK⟩
  have hl := lv_entry ([.ref (ad 0 0), .int x1]) (n := 5) (Nat.le_of_ble_eq_true rfl)
  rw [lg_entry_eq]
  generalize (lg_sl ([.ref (ad 0 0), .int x1]) ++ List.replicate (5 - (lg_sl ([.ref (ad 0 0), .int x1])).length) Slot.unset).toArray = ls at hl ⊢
  have hl : lv_has ls 5 [(0, .ref (ad 0 0)), (1, .int x1)] := hl
  exact w_X_Court_daysAnew_0 C hlf ht hxs (fun q h => Or.inr h) h ⟨hw, fun k i hi => Or.inl ⟨k, i, hi, rfl⟩, va_S.rf⟩ hl
theorem iC_Court_was_X3 : ∀ w ∈ wsX30, w ∈ wsX8_was := by decide +kernel
theorem iC_Court_was_X8 : ∀ w ∈ wsX80, w ∈ wsX8_was := by decide +kernel
theorem eC_Court_was_45 : ∀ w ∈ (vx_atS RX8 45 "java/lang/IllegalArgumentException" ["java/lang/RuntimeException", "java/lang/Exception"]).filter goodWord, w ∈ wsX8_was := by decide +kernel
def fC_Court_was_18 (g : CS) : Option (Nat ⊕ Int32) :=
  some (.inl 1)
set_option maxRecDepth 20000 in
theorem w_C_Court_was_18 (C : cC p s m args meth c cX8_was RX8 (some .int) wsX8_was 4 D yI yO) {rz : Int32} {g : CS} (h : fC_Court_was_18 g = some (.inr rz)) {H : Heap} {locs : List Loc} {ls : Array Slot} (hX : cX D yI yO z0 ad g A s H locs) (hl : lv_has ls 4 [(0, .ref (ad 0 0))]) : W p l e (mR 4 85) s m args below meth c H locs 0 0 (MQ below (cQ D yI yO z0 ad rz g A) args s 0 0 A) (F0 m 18 ls []) := by
  obtain ⟨hx, hb, hr, hts, hown, hlocks, hml, hK⟩ := id C
  unfold fC_Court_was_18 at h
  cases h
set_option maxRecDepth 20000 in
theorem w_X_Court_was_18 (C : cC p s m args meth c cX8_was RX8 (some .int) wsX8_was 4 D yI yO) {Qc : Array Value → State → Outcome → State → Prop} (hlf : l.stackTraces = false) (ht : ∀ x ∈ c.exceptionTable.toList, False) (hxs : xS A s s.heap) (hA : ∀ q, s.heap.size ≤ q → A q) {ez : Nat} {g : CS} (h : fC_Court_was_18 g = some (.inl ez)) {H : Heap} {locs : List Loc} {ls : Array Slot} (hX : cX D yI yO z0 ad g A s H locs) (hl : lv_has ls 4 [(0, .ref (ad 0 0))]) : W p l e (xR 7 111) s m args below meth c H locs 0 0 (vx_MQ below Qc (xXC D yI yO z0 ad g ez A) args s 1 6 A) (F0 m 18 ls []) := by
  obtain ⟨hx, hb, hr, hts, hown, hlocks, hml, hK⟩ := id C
  unfold fC_Court_was_18 at h
  cases h
  obtain ⟨sa, hsa⟩ := hxs.2.2.1 (327, "day is out of range") (by decide +kernel)
  exact vx_throwSW hx hb hlf (own := RX8) (cls := "java/lang/IllegalArgumentException") (text := "day is out of range") (names := ["java/lang/RuntimeException", "java/lang/Exception"]) (A := A) hown (by decide +kernel) (by decide +kernel) (hts (.classLink RX8 41 "java/lang/IllegalArgumentException") (by decide +kernel)) (hts (.initialized "java/lang/IllegalArgumentException") (by decide +kernel)) hsa (vx_hat (fun w hw => hts w (eC_Court_was_45 w hw)) (B := xB) (by decide +kernel) (fun w hw => va_Nw.use (xB_on w hw) (hxs.2.2.2 w hw))) (by decide +kernel) hxs.1 hxs.2.1 hX.2.2 (hl.1.trans hml.symm) dX8_was_18 dX8_was_21 dX8_was_22 dX8_was_25 dX8_was_28 (fun x hx => (ht x hx).elim) (Nat.le_of_ble_eq_true rfl) (Nat.le_of_ble_eq_true rfl) (Nat.le_of_ble_eq_true rfl) (Nat.le_of_ble_eq_true rfl) hlocks (fun t a1 a2 a3 => xX_post rfl hK hX t a1 a2 a3) hX.2.2.2.2 (Nat.le_refl _) (Nat.le_refl _)
def fC_Court_was (g : CS) (x1 : Int32) (x2 : Int32) : Option (Nat ⊕ Int32) :=
  xb (fC_Court_personAt g x1) fun v1 =>
  if x2 < 0 then
    fC_Court_was_18 g
  else
    if x2 ≤ (sI g 0 0 6) then
      (ck g 5 v1).bind fun _ =>
      (fC_Row_at 9 v1 g x2).bind fun r6 =>
      some (.inr r6)
    else
      fC_Court_was_18 g
set_option maxRecDepth 20000 in
theorem w_C_Court_was_0 (C : cC p s m args meth c cX8_was RX8 (some .int) wsX8_was 4 D yI yO) {rz : Int32} {g : CS} {x1 : Int32} {x2 : Int32} (h : fC_Court_was g x1 x2 = some (.inr rz)) {H : Heap} {locs : List Loc} {ls : Array Slot} (hX : cX D yI yO z0 ad g A s H locs) (hl : lv_has ls 4 [(0, .ref (ad 0 0)), (1, .int x1), (2, .int x2)]) : W p l e (mR 4 85) s m args below meth c H locs 0 0 (MQ below (cQ D yI yO z0 ad rz g A) args s 0 0 A) (F0 m 0 ls []) := by
  obtain ⟨hx, hb, hr, hts, hown, hlocks, hml, hK⟩ := id C
  unfold fC_Court_was at h
  refine lv_aload_n hx hb dX8_was_0 rfl (lv_at hl 0 rfl) ?_
  refine lv_iload_n hx hb dX8_was_1 rfl (lv_at hl 1 rfl) ?_
  obtain ⟨v1, et2, h⟩ := xb_ret h
  refine cg_callVq (As := [.int x1]) (rest := []) ⟨hx, hb, hml, hown, hts⟩ 0 0 rfl (ci := 9) rfl rfl (cC_Court_personAt l D yI yO z0 ad et2) (cwV 1 hts gX8_was_X8_personAt rfl rfl rfl (by decide +kernel) ⟨Nat.le_of_ble_eq_true rfl, Nat.le_of_ble_eq_true rfl⟩) hK hX rfl hl.1 rfl (Nat.le_of_ble_eq_true rfl) dX8_was_2 ⟨Nat.zero_le _, Nat.zero_le _⟩ (fun H locs hX => ?_)
  refine W.eq (g2 := F0 m 5 ls [.ref (ad 5 v1)]) rfl ?_
  refine lv_astore_n (lv' := [(3, .ref (ad 5 v1)), (0, .ref (ad 0 0)), (1, .int x1), (2, .int x2)]) hx hb dX8_was_5 rfl hl (by decide) rfl (fun ls hl => ?_)
  refine lv_iload_n hx hb dX8_was_6 rfl (lv_at hl 3 rfl) ?_
  refine lv_if_lt (tgt := 18) hx hb dX8_was_7 (by decide) (fun c3 => ?_) (fun c3 => ?_)
  · replace h := mpos c3 h
    exact w_C_Court_was_18 C h hX (lv_sub hl [1] rfl)
  · replace h := mneg c3 h
    refine lv_iload_n hx hb dX8_was_10 rfl (lv_at hl 3 rfl) ?_
    refine lv_aload_n hx hb dX8_was_11 rfl (lv_at hl 1 rfl) ?_
    refine cg_get hx hb hts iC_Court_was_X8 hown hK hX 0 0 rfl rfl rfl 6 (by decide) (hts (.fieldLink RX8 37 "PassageCourt" "today" "I") (by decide +kernel)) (fun _ h9 => h9) rfl dX8_was_12 ?_
    refine lv_icmp_le (tgt := 29) hx hb dX8_was_15 (by decide) (fun c4 => ?_) (fun c4 => ?_)
    · replace h := mpos c4 h
      refine lv_aload_n hx hb dX8_was_29 rfl (lv_at hl 0 rfl) ?_
      obtain ⟨_, hv5, h⟩ := mbind h
      replace hv5 := ck_spec hv5
      refine cg_get hx hb hts iC_Court_was_X3 hown hK hX 5 v1 hv5 rfl rfl 4 (by decide) (hts (.fieldLink RX8 322 "PassageCourt$Person" "days" "LPassageCourt$Row;") (by decide +kernel)) (fun _ h9 => h9) rfl dX8_was_30 ?_
      refine lv_iload_n hx hb dX8_was_33 rfl (lv_at hl 3 rfl) ?_
      obtain ⟨r6, er6, h⟩ := mbind h
      refine cg_callV (As := [.int x2]) (rest := []) ⟨hx, hb, hml, hown, hts⟩ 9 v1 hv5 (ci := 6) rfl rfl (cC_Row_at l D yI yO z0 ad ⟨by decide, by decide⟩ er6) (cwV 1 hts gX8_was_X5_at rfl rfl rfl (by decide +kernel) ⟨Nat.le_of_ble_eq_true rfl, Nat.le_of_ble_eq_true rfl⟩) hK hX rfl hl.1 rfl (Nat.le_of_ble_eq_true rfl) dX8_was_34 ⟨Nat.zero_le _, Nat.zero_le _⟩ (fun H locs hX => ?_)
      cases h
      exact cg_reti hx hb hr hlocks hK hX dX8_was_37
    · replace h := mneg c4 h
      exact w_C_Court_was_18 C h hX (lv_sub hl [1] rfl)
set_option maxRecDepth 20000 in
theorem w_X_Court_was_0 (C : cC p s m args meth c cX8_was RX8 (some .int) wsX8_was 4 D yI yO) {Qc : Array Value → State → Outcome → State → Prop} (hlf : l.stackTraces = false) (ht : ∀ x ∈ c.exceptionTable.toList, False) (hxs : xS A s s.heap) (hA : ∀ q, s.heap.size ≤ q → A q) {ez : Nat} {g : CS} {x1 : Int32} {x2 : Int32} (h : fC_Court_was g x1 x2 = some (.inl ez)) {H : Heap} {locs : List Loc} {ls : Array Slot} (hX : cX D yI yO z0 ad g A s H locs) (hl : lv_has ls 4 [(0, .ref (ad 0 0)), (1, .int x1), (2, .int x2)]) : W p l e (xR 7 111) s m args below meth c H locs 0 0 (vx_MQ below Qc (xXC D yI yO z0 ad g ez A) args s 1 6 A) (F0 m 0 ls []) := by
  obtain ⟨hx, hb, hr, hts, hown, hlocks, hml, hK⟩ := id C
  unfold fC_Court_was at h
  refine lv_aload_n hx hb dX8_was_0 rfl (lv_at hl 0 rfl) ?_
  refine lv_iload_n hx hb dX8_was_1 rfl (lv_at hl 1 rfl) ?_
  rcases xb_thr h with et2 | ⟨v1, et2, h⟩
  · exact xg_callV (As := [.int x1]) (rest := []) ⟨hx, hb, hml, hown, hts⟩ 0 0 rfl (ci := 9) rfl rfl (cX_Court_personAt l hlf D yI yO z0 ad H.size et2) (cwV 1 hts gX8_was_X8_personAt rfl rfl rfl (by decide +kernel) ⟨Nat.le_of_ble_eq_true rfl, Nat.le_of_ble_eq_true rfl⟩) hK hX hA hxs ht hlocks rfl hl.1 rfl (Nat.le_of_ble_eq_true rfl) dX8_was_2 ⟨Nat.le_refl _, Nat.le_refl _⟩
  refine cg_callVq (As := [.int x1]) (rest := []) ⟨hx, hb, hml, hown, hts⟩ 0 0 rfl (ci := 9) rfl rfl (cC_Court_personAt l D yI yO z0 ad et2) (cwV 1 hts gX8_was_X8_personAt rfl rfl rfl (by decide +kernel) ⟨Nat.le_of_ble_eq_true rfl, Nat.le_of_ble_eq_true rfl⟩) hK hX rfl hl.1 rfl (Nat.le_of_ble_eq_true rfl) dX8_was_2 ⟨Nat.zero_le _, Nat.zero_le _⟩ (fun H locs hX => ?_)
  refine W.eq (g2 := F0 m 5 ls [.ref (ad 5 v1)]) rfl ?_
  refine lv_astore_n (lv' := [(3, .ref (ad 5 v1)), (0, .ref (ad 0 0)), (1, .int x1), (2, .int x2)]) hx hb dX8_was_5 rfl hl (by decide) rfl (fun ls hl => ?_)
  refine lv_iload_n hx hb dX8_was_6 rfl (lv_at hl 3 rfl) ?_
  refine lv_if_lt (tgt := 18) hx hb dX8_was_7 (by decide) (fun c3 => ?_) (fun c3 => ?_)
  · replace h := mpos c3 h
    exact w_X_Court_was_18 C hlf ht hxs hA h hX (lv_sub hl [1] rfl)
  · replace h := mneg c3 h
    refine lv_iload_n hx hb dX8_was_10 rfl (lv_at hl 3 rfl) ?_
    refine lv_aload_n hx hb dX8_was_11 rfl (lv_at hl 1 rfl) ?_
    refine cg_get hx hb hts iC_Court_was_X8 hown hK hX 0 0 rfl rfl rfl 6 (by decide) (hts (.fieldLink RX8 37 "PassageCourt" "today" "I") (by decide +kernel)) (fun _ h9 => h9) rfl dX8_was_12 ?_
    refine lv_icmp_le (tgt := 29) hx hb dX8_was_15 (by decide) (fun c4 => ?_) (fun c4 => ?_)
    · replace h := mpos c4 h
      refine lv_aload_n hx hb dX8_was_29 rfl (lv_at hl 0 rfl) ?_
      obtain ⟨_, hv5, h⟩ := mbind h
      replace hv5 := ck_spec hv5
      refine cg_get hx hb hts iC_Court_was_X3 hown hK hX 5 v1 hv5 rfl rfl 4 (by decide) (hts (.fieldLink RX8 322 "PassageCourt$Person" "days" "LPassageCourt$Row;") (by decide +kernel)) (fun _ h9 => h9) rfl dX8_was_30 ?_
      refine lv_iload_n hx hb dX8_was_33 rfl (lv_at hl 3 rfl) ?_
      obtain ⟨r6, er6, h⟩ := mbind h
      refine cg_callV (As := [.int x2]) (rest := []) ⟨hx, hb, hml, hown, hts⟩ 9 v1 hv5 (ci := 6) rfl rfl (cC_Row_at l D yI yO z0 ad ⟨by decide, by decide⟩ er6) (cwV 1 hts gX8_was_X5_at rfl rfl rfl (by decide +kernel) ⟨Nat.le_of_ble_eq_true rfl, Nat.le_of_ble_eq_true rfl⟩) hK hX rfl hl.1 rfl (Nat.le_of_ble_eq_true rfl) dX8_was_34 ⟨Nat.zero_le _, Nat.zero_le _⟩ (fun H locs hX => ?_)
      cases h
    · replace h := mneg c4 h
      exact w_X_Court_was_18 C hlf ht hxs hA h hX (lv_sub hl [1] rfl)
set_option maxRecDepth 20000 in
theorem cC_Court_was (l : Launch) (D : va_G) (yI yO : ClassId) (z0 : Nat) (ad : Nat → Nat → Nat) {g : CS} {rz : Int32} {x1 : Int32} {x2 : Int32} (h : fC_Court_was g x1 x2 = some (.inr rz)) : Met l yX8_was wsX8_was (mR 4 85) (va_Pc [.ref (ad 0 0), .int x1, .int x2] (cPre D yI yO z0 ad g)) (cQ D yI yO z0 ad rz g (cF ad g)) 0 0 (cF ad g) := by
  refine Met.ofW (cc := cX8_was) (maxL := 4) (ret := (some .int)) (by decide) rfl ?_
  intro p e s m args below meth c s₁ B hml hv
  obtain ⟨hv0, hw, hK⟩ := hv
  have hv1 : args = [.ref (ad 0 0), .int x1, .int x2].toArray := hv0
  subst hv1
  have C : cC p s m _ meth c cX8_was RX8 (some .int) wsX8_was 4 D yI yO := ⟨B.exec, B.bytes, B.returns, atoms_spec (ws := wsX8_was) B.pre, findClass_of_methodNamed B.named, B.notSynchronized, hml, hK⟩
  have hl := lv_entry ([.ref (ad 0 0), .int x1, .int x2]) (n := 4) (Nat.le_of_ble_eq_true rfl)
  rw [lg_entry_eq]
  generalize (lg_sl ([.ref (ad 0 0), .int x1, .int x2]) ++ List.replicate (4 - (lg_sl ([.ref (ad 0 0), .int x1, .int x2])).length) Slot.unset).toArray = ls at hl ⊢
  have hl : lv_has ls 4 [(0, .ref (ad 0 0)), (1, .int x1), (2, .int x2)] := hl
  exact w_C_Court_was_0 C h ⟨hw, fun k i hi => ⟨k, i, hi, rfl⟩, va_S.rf⟩ hl
set_option maxRecDepth 20000 in
theorem cX_Court_was (l : Launch) (hlf : l.stackTraces = false) (D : va_G) (yI yO : ClassId) (z0 : Nat) (ad : Nat → Nat → Nat) {g : CS} {ez : Nat} {x1 : Int32} {x2 : Int32} (sz : Nat) (h : fC_Court_was g x1 x2 = some (.inl ez)) : vx_Met l yX8_was wsX8_was (xR 7 111) (va_Pc [.ref (ad 0 0), .int x1, .int x2] (xPre D yI yO z0 ad g sz)) (xQ (cA ad g sz)) (xXC D yI yO z0 ad g ez (cA ad g sz)) 1 6 (cA ad g sz) := by
  refine vx_ofW (cc := cX8_was) (maxL := 4) (ret := (some .int)) (by decide) rfl ?_
  intro p e s m args below meth c s₁ B hml ht hv
  obtain ⟨hv0, ⟨hw, hK⟩, hsz, hxs⟩ := hv
  subst hsz
  have hv1 : args = [.ref (ad 0 0), .int x1, .int x2].toArray := hv0
  subst hv1
  have C : cC p s m _ meth c cX8_was RX8 (some .int) wsX8_was 4 D yI yO := ⟨B.exec, B.bytes, B.returns, atoms_spec (ws := wsX8_was) B.pre, findClass_of_methodNamed B.named, B.notSynchronized, hml, hK⟩
  have hl := lv_entry ([.ref (ad 0 0), .int x1, .int x2]) (n := 4) (Nat.le_of_ble_eq_true rfl)
  rw [lg_entry_eq]
  generalize (lg_sl ([.ref (ad 0 0), .int x1, .int x2]) ++ List.replicate (4 - (lg_sl ([.ref (ad 0 0), .int x1, .int x2])).length) Slot.unset).toArray = ls at hl ⊢
  have hl : lv_has ls 4 [(0, .ref (ad 0 0)), (1, .int x1), (2, .int x2)] := hl
  exact w_X_Court_was_0 C hlf ht hxs (fun q h => Or.inr h) h ⟨hw, fun k i hi => Or.inl ⟨k, i, hi, rfl⟩, va_S.rf⟩ hl
end GX3
