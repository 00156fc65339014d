section GX2
variable {p : Program} {l : Launch} {e : Env} {s : State} {m : MethodId} {args : Array Value} {below : List Frame} {meth : Method} {c : Code} {D : va_G} {yI yO : ClassId} {z0 : Nat} {ad : Nat → Nat → Nat} {A : Nat → Prop}
theorem iC_Court_lift_X1 : ∀ w ∈ wsX10, w ∈ wsX8_lift := by decide +kernel
theorem iC_Court_lift_X3 : ∀ w ∈ wsX30, w ∈ wsX8_lift := by decide +kernel
theorem iC_Court_lift_X8 : ∀ w ∈ wsX80, w ∈ wsX8_lift := by decide +kernel
def fC_Court_lift (g : CS) (x1 : Int32) (x2 : Int32) : Option (Nat ⊕ (Int32 × CS)) :=
  xb (fC_Court_landAt g x1) fun v1 =>
  xb (fC_Court_personAt g x2) fun v3 =>
  (ck g 5 v3).bind fun _ =>
  (ck g 4 v1).bind fun _ =>
  (fC_Bans_stands v3 g (sI g 4 v1 0) (sI g 0 0 6)).bind fun r7 =>
  (fC_Bans_clear v3 g (sI g 4 v1 0)).bind fun g8 =>
  (mbo r7).bind fun b9 => some (.inr (b9, g8))
set_option maxRecDepth 20000 in
theorem w_C_Court_lift_0 (C : cC p s m args meth c cX8_lift RX8 (some .boolean) wsX8_lift 6 D yI yO) {gz : CS} {rz : Int32} {g : CS} {x1 : Int32} {x2 : Int32} (h : fC_Court_lift g x1 x2 = some (.inr (rz, gz))) {H : Heap} {locs : List Loc} {ls : Array Slot} (hX : cX D yI yO z0 ad g A s H locs) (hl : lv_has ls 6 [(0, .ref (ad 0 0)), (1, .int x1), (2, .int x2)]) : W p l e (mR 4 85) s m args below meth c H locs 0 0 (MQ below (cQ D yI yO z0 ad rz gz A) args s 0 0 A) (F0 m 0 ls []) := by
  obtain ⟨hx, hb, hr, hts, hown, hlocks, hml, hK⟩ := id C
  unfold fC_Court_lift at h
  refine lv_aload_n hx hb dX8_lift_0 rfl (lv_at hl 0 rfl) ?_
  refine lv_iload_n hx hb dX8_lift_1 rfl (lv_at hl 1 rfl) ?_
  obtain ⟨v1, et2, h⟩ := xb_ret h
  refine cg_callVq (As := [.int x1]) (rest := []) ⟨hx, hb, hml, hown, hts⟩ 0 0 rfl (ci := 9) rfl rfl (cC_Court_landAt l D yI yO z0 ad et2) (cwV 1 hts gX8_lift_X8_landAt rfl rfl rfl (by decide +kernel) ⟨Nat.le_of_ble_eq_true rfl, Nat.le_of_ble_eq_true rfl⟩) hK hX rfl hl.1 rfl (Nat.le_of_ble_eq_true rfl) dX8_lift_2 ⟨Nat.zero_le _, Nat.zero_le _⟩ (fun H locs hX => ?_)
  refine W.eq (g2 := F0 m 5 ls [.ref (ad 4 v1)]) rfl ?_
  refine lv_astore_n (lv' := [(3, .ref (ad 4 v1)), (0, .ref (ad 0 0)), (1, .int x1), (2, .int x2)]) hx hb dX8_lift_5 rfl hl (by decide) rfl (fun ls hl => ?_)
  refine lv_aload_n hx hb dX8_lift_6 rfl (lv_at hl 1 rfl) ?_
  refine lv_iload_n hx hb dX8_lift_7 rfl (lv_at hl 3 rfl) ?_
  obtain ⟨v3, et4, h⟩ := xb_ret h
  refine cg_callVq (As := [.int x2]) (rest := []) ⟨hx, hb, hml, hown, hts⟩ 0 0 rfl (ci := 9) rfl rfl (cC_Court_personAt l D yI yO z0 ad et4) (cwV 1 hts gX8_lift_X8_personAt rfl rfl rfl (by decide +kernel) ⟨Nat.le_of_ble_eq_true rfl, Nat.le_of_ble_eq_true rfl⟩) hK hX rfl hl.1 rfl (Nat.le_of_ble_eq_true rfl) dX8_lift_8 ⟨Nat.zero_le _, Nat.zero_le _⟩ (fun H locs hX => ?_)
  refine W.eq (g2 := F0 m 11 ls [.ref (ad 5 v3)]) rfl ?_
  refine lv_astore (lv' := [(4, .ref (ad 5 v3)), (3, .ref (ad 4 v1)), (0, .ref (ad 0 0)), (1, .int x1), (2, .int x2)]) hx hb dX8_lift_11 hl (by decide) rfl (fun ls hl => ?_)
  refine lv_aload hx hb dX8_lift_13 (lv_at hl 0 rfl) ?_
  obtain ⟨_, hv5, h⟩ := mbind h
  replace hv5 := ck_spec hv5
  refine cg_get hx hb hts iC_Court_lift_X3 hown hK hX 5 v3 hv5 rfl rfl 6 (by decide) (hts (.fieldLink RX8 189 "PassageCourt$Person" "bans" "LPassageCourt$Bans;") (by decide +kernel)) (fun _ h9 => h9) rfl dX8_lift_15 ?_
  refine lv_aload_n hx hb dX8_lift_18 rfl (lv_at hl 1 rfl) ?_
  obtain ⟨_, hv6, h⟩ := mbind h
  replace hv6 := ck_spec hv6
  refine cg_get hx hb hts iC_Court_lift_X1 hown hK hX 4 v1 hv6 rfl rfl 0 (by decide) (hts (.fieldLink RX8 66 "PassageCourt$Land" "number" "I") (by decide +kernel)) (fun _ h9 => h9) rfl dX8_lift_19 ?_
  refine lv_aload_n hx hb dX8_lift_22 rfl (lv_at hl 2 rfl) ?_
  refine cg_get hx hb hts iC_Court_lift_X8 hown hK hX 0 0 rfl rfl rfl 6 (by decide) (hts (.fieldLink RX8 37 "PassageCourt" "today" "I") (by decide +kernel)) (fun _ h9 => h9) rfl dX8_lift_23 ?_
  obtain ⟨r7, er7, h⟩ := mbind h
  refine cg_callV (As := [.int (sI g 4 v1 0), .int (sI g 0 0 6)]) (rest := []) ⟨hx, hb, hml, hown, hts⟩ 24 v3 hv5 (ci := 1) rfl rfl (cC_Bans_stands l D yI yO z0 ad er7) (cwV 2 hts gX8_lift_X0_stands rfl rfl rfl (by decide +kernel) ⟨Nat.le_of_ble_eq_true rfl, Nat.le_of_ble_eq_true rfl⟩) hK hX rfl hl.1 rfl (Nat.le_of_ble_eq_true rfl) dX8_lift_26 ⟨Nat.zero_le _, Nat.zero_le _⟩ (fun H locs hX => ?_)
  refine lv_istore (lv' := [(5, .int r7), (4, .ref (ad 5 v3)), (3, .ref (ad 4 v1)), (0, .ref (ad 0 0)), (1, .int x1), (2, .int x2)]) hx hb dX8_lift_29 hl (by decide) rfl (fun ls hl => ?_)
  refine lv_aload hx hb dX8_lift_31 (lv_at hl 1 rfl) ?_
  refine cg_get hx hb hts iC_Court_lift_X3 hown hK hX 5 v3 hv5 rfl rfl 6 (by decide) (hts (.fieldLink RX8 189 "PassageCourt$Person" "bans" "LPassageCourt$Bans;") (by decide +kernel)) (fun _ h9 => h9) rfl dX8_lift_33 ?_
  refine lv_aload_n hx hb dX8_lift_36 rfl (lv_at hl 2 rfl) ?_
  refine cg_get hx hb hts iC_Court_lift_X1 hown hK hX 4 v1 hv6 rfl rfl 0 (by decide) (hts (.fieldLink RX8 66 "PassageCourt$Land" "number" "I") (by decide +kernel)) (fun _ h9 => h9) rfl dX8_lift_37 ?_
  obtain ⟨g8, eg8, h⟩ := mbind h
  refine cg_callVv (As := [.int (sI g 4 v1 0)]) (rest := []) ⟨hx, hb, hml, hown, hts⟩ 24 v3 hv5 (ci := 1) rfl rfl (cC_Bans_clear l D yI yO z0 ad eg8) (cwV 1 hts gX8_lift_X0_clear rfl rfl rfl (by decide +kernel) ⟨Nat.le_of_ble_eq_true rfl, Nat.le_of_ble_eq_true rfl⟩) hK hX rfl hl.1 rfl (Nat.le_of_ble_eq_true rfl) dX8_lift_40 ⟨Nat.zero_le _, Nat.zero_le _⟩ (fun H locs hX => ?_)
  refine lv_iload hx hb dX8_lift_43 (lv_at hl 0 rfl) ?_
  obtain ⟨b9, eb9, h⟩ := mbind h
  cases h
  exact cg_retz hx hb hr hlocks hK hX dX8_lift_45 eb9
set_option maxRecDepth 20000 in
theorem w_X_Court_lift_0 (C : cC p s m args meth c cX8_lift RX8 (some .boolean) wsX8_lift 6 D yI yO) {Qc : Array Value → State → Outcome → State → Prop} (hlf : l.stackTraces = false) (ht : ∀ x ∈ c.exceptionTable.toList, False) (hxs : xS A s s.heap) (hA : ∀ q, s.heap.size ≤ q → A q) {ez : Nat} {g : CS} {x1 : Int32} {x2 : Int32} (h : fC_Court_lift g x1 x2 = some (.inl ez)) {H : Heap} {locs : List Loc} {ls : Array Slot} (hX : cX D yI yO z0 ad g A s H locs) (hl : lv_has ls 6 [(0, .ref (ad 0 0)), (1, .int x1), (2, .int x2)]) : W p l e (xR 7 111) s m args below meth c H locs 0 0 (vx_MQ below Qc (xXC D yI yO z0 ad g ez A) args s 1 6 A) (F0 m 0 ls []) := by
  obtain ⟨hx, hb, hr, hts, hown, hlocks, hml, hK⟩ := id C
  unfold fC_Court_lift at h
  refine lv_aload_n hx hb dX8_lift_0 rfl (lv_at hl 0 rfl) ?_
  refine lv_iload_n hx hb dX8_lift_1 rfl (lv_at hl 1 rfl) ?_
  rcases xb_thr h with et2 | ⟨v1, et2, h⟩
  · exact xg_callV (As := [.int x1]) (rest := []) ⟨hx, hb, hml, hown, hts⟩ 0 0 rfl (ci := 9) rfl rfl (cX_Court_landAt l hlf D yI yO z0 ad H.size et2) (cwV 1 hts gX8_lift_X8_landAt rfl rfl rfl (by decide +kernel) ⟨Nat.le_of_ble_eq_true rfl, Nat.le_of_ble_eq_true rfl⟩) hK hX hA hxs ht hlocks rfl hl.1 rfl (Nat.le_of_ble_eq_true rfl) dX8_lift_2 ⟨Nat.le_refl _, Nat.le_refl _⟩
  refine cg_callVq (As := [.int x1]) (rest := []) ⟨hx, hb, hml, hown, hts⟩ 0 0 rfl (ci := 9) rfl rfl (cC_Court_landAt l D yI yO z0 ad et2) (cwV 1 hts gX8_lift_X8_landAt rfl rfl rfl (by decide +kernel) ⟨Nat.le_of_ble_eq_true rfl, Nat.le_of_ble_eq_true rfl⟩) hK hX rfl hl.1 rfl (Nat.le_of_ble_eq_true rfl) dX8_lift_2 ⟨Nat.zero_le _, Nat.zero_le _⟩ (fun H locs hX => ?_)
  refine W.eq (g2 := F0 m 5 ls [.ref (ad 4 v1)]) rfl ?_
  refine lv_astore_n (lv' := [(3, .ref (ad 4 v1)), (0, .ref (ad 0 0)), (1, .int x1), (2, .int x2)]) hx hb dX8_lift_5 rfl hl (by decide) rfl (fun ls hl => ?_)
  refine lv_aload_n hx hb dX8_lift_6 rfl (lv_at hl 1 rfl) ?_
  refine lv_iload_n hx hb dX8_lift_7 rfl (lv_at hl 3 rfl) ?_
  rcases xb_thr h with et4 | ⟨v3, et4, h⟩
  · exact xg_callV (As := [.int x2]) (rest := []) ⟨hx, hb, hml, hown, hts⟩ 0 0 rfl (ci := 9) rfl rfl (cX_Court_personAt l hlf D yI yO z0 ad H.size et4) (cwV 1 hts gX8_lift_X8_personAt rfl rfl rfl (by decide +kernel) ⟨Nat.le_of_ble_eq_true rfl, Nat.le_of_ble_eq_true rfl⟩) hK hX hA hxs ht hlocks rfl hl.1 rfl (Nat.le_of_ble_eq_true rfl) dX8_lift_8 ⟨Nat.le_refl _, Nat.le_refl _⟩
  refine cg_callVq (As := [.int x2]) (rest := []) ⟨hx, hb, hml, hown, hts⟩ 0 0 rfl (ci := 9) rfl rfl (cC_Court_personAt l D yI yO z0 ad et4) (cwV 1 hts gX8_lift_X8_personAt rfl rfl rfl (by decide +kernel) ⟨Nat.le_of_ble_eq_true rfl, Nat.le_of_ble_eq_true rfl⟩) hK hX rfl hl.1 rfl (Nat.le_of_ble_eq_true rfl) dX8_lift_8 ⟨Nat.zero_le _, Nat.zero_le _⟩ (fun H locs hX => ?_)
  refine W.eq (g2 := F0 m 11 ls [.ref (ad 5 v3)]) rfl ?_
  refine lv_astore (lv' := [(4, .ref (ad 5 v3)), (3, .ref (ad 4 v1)), (0, .ref (ad 0 0)), (1, .int x1), (2, .int x2)]) hx hb dX8_lift_11 hl (by decide) rfl (fun ls hl => ?_)
  refine lv_aload hx hb dX8_lift_13 (lv_at hl 0 rfl) ?_
  obtain ⟨_, hv5, h⟩ := mbind h
  replace hv5 := ck_spec hv5
  refine cg_get hx hb hts iC_Court_lift_X3 hown hK hX 5 v3 hv5 rfl rfl 6 (by decide) (hts (.fieldLink RX8 189 "PassageCourt$Person" "bans" "LPassageCourt$Bans;") (by decide +kernel)) (fun _ h9 => h9) rfl dX8_lift_15 ?_
  refine lv_aload_n hx hb dX8_lift_18 rfl (lv_at hl 1 rfl) ?_
  obtain ⟨_, hv6, h⟩ := mbind h
  replace hv6 := ck_spec hv6
  refine cg_get hx hb hts iC_Court_lift_X1 hown hK hX 4 v1 hv6 rfl rfl 0 (by decide) (hts (.fieldLink RX8 66 "PassageCourt$Land" "number" "I") (by decide +kernel)) (fun _ h9 => h9) rfl dX8_lift_19 ?_
  refine lv_aload_n hx hb dX8_lift_22 rfl (lv_at hl 2 rfl) ?_
  refine cg_get hx hb hts iC_Court_lift_X8 hown hK hX 0 0 rfl rfl rfl 6 (by decide) (hts (.fieldLink RX8 37 "PassageCourt" "today" "I") (by decide +kernel)) (fun _ h9 => h9) rfl dX8_lift_23 ?_
  obtain ⟨r7, er7, h⟩ := mbind h
  refine cg_callV (As := [.int (sI g 4 v1 0), .int (sI g 0 0 6)]) (rest := []) ⟨hx, hb, hml, hown, hts⟩ 24 v3 hv5 (ci := 1) rfl rfl (cC_Bans_stands l D yI yO z0 ad er7) (cwV 2 hts gX8_lift_X0_stands rfl rfl rfl (by decide +kernel) ⟨Nat.le_of_ble_eq_true rfl, Nat.le_of_ble_eq_true rfl⟩) hK hX rfl hl.1 rfl (Nat.le_of_ble_eq_true rfl) dX8_lift_26 ⟨Nat.zero_le _, Nat.zero_le _⟩ (fun H locs hX => ?_)
  refine lv_istore (lv' := [(5, .int r7), (4, .ref (ad 5 v3)), (3, .ref (ad 4 v1)), (0, .ref (ad 0 0)), (1, .int x1), (2, .int x2)]) hx hb dX8_lift_29 hl (by decide) rfl (fun ls hl => ?_)
  refine lv_aload hx hb dX8_lift_31 (lv_at hl 1 rfl) ?_
  refine cg_get hx hb hts iC_Court_lift_X3 hown hK hX 5 v3 hv5 rfl rfl 6 (by decide) (hts (.fieldLink RX8 189 "PassageCourt$Person" "bans" "LPassageCourt$Bans;") (by decide +kernel)) (fun _ h9 => h9) rfl dX8_lift_33 ?_
  refine lv_aload_n hx hb dX8_lift_36 rfl (lv_at hl 2 rfl) ?_
  refine cg_get hx hb hts iC_Court_lift_X1 hown hK hX 4 v1 hv6 rfl rfl 0 (by decide) (hts (.fieldLink RX8 66 "PassageCourt$Land" "number" "I") (by decide +kernel)) (fun _ h9 => h9) rfl dX8_lift_37 ?_
  obtain ⟨g8, eg8, h⟩ := mbind h
  refine cg_callVv (As := [.int (sI g 4 v1 0)]) (rest := []) ⟨hx, hb, hml, hown, hts⟩ 24 v3 hv5 (ci := 1) rfl rfl (cC_Bans_clear l D yI yO z0 ad eg8) (cwV 1 hts gX8_lift_X0_clear rfl rfl rfl (by decide +kernel) ⟨Nat.le_of_ble_eq_true rfl, Nat.le_of_ble_eq_true rfl⟩) hK hX rfl hl.1 rfl (Nat.le_of_ble_eq_true rfl) dX8_lift_40 ⟨Nat.zero_le _, Nat.zero_le _⟩ (fun H locs hX => ?_)
  refine lv_iload hx hb dX8_lift_43 (lv_at hl 0 rfl) ?_
  obtain ⟨b9, eb9, h⟩ := mbind h
  cases h
set_option maxRecDepth 20000 in
theorem cC_Court_lift (l : Launch) (D : va_G) (yI yO : ClassId) (z0 : Nat) (ad : Nat → Nat → Nat) {g : CS} {gz : CS} {rz : Int32} {x1 : Int32} {x2 : Int32} (h : fC_Court_lift g x1 x2 = some (.inr (rz, gz))) : Met l yX8_lift wsX8_lift (mR 4 85) (va_Pc [.ref (ad 0 0), .int x1, .int x2] (cPre D yI yO z0 ad g)) (cQ D yI yO z0 ad rz gz (cF ad g)) 0 0 (cF ad g) := by
  refine Met.ofW (cc := cX8_lift) (maxL := 6) (ret := (some .boolean)) (by decide) rfl ?_
  intro p e s m args below meth c s₁ B hml hv
  obtain ⟨hv0, hw, hK⟩ := hv
  have hv1 : args = [.ref (ad 0 0), .int x1, .int x2].toArray := hv0
  subst hv1
  have C : cC p s m _ meth c cX8_lift RX8 (some .boolean) wsX8_lift 6 D yI yO := ⟨B.exec, B.bytes, B.returns, atoms_spec (ws := wsX8_lift) B.pre, findClass_of_methodNamed B.named, B.notSynchronized, hml, hK⟩
  have hl := lv_entry ([.ref (ad 0 0), .int x1, .int x2]) (n := 6) (Nat.le_of_ble_eq_true rfl)
  rw [lg_entry_eq]
  generalize (lg_sl ([.ref (ad 0 0), .int x1, .int x2]) ++ List.replicate (6 - (lg_sl ([.ref (ad 0 0), .int x1, .int x2])).length) Slot.unset).toArray = ls at hl ⊢
  have hl : lv_has ls 6 [(0, .ref (ad 0 0)), (1, .int x1), (2, .int x2)] := hl
  exact w_C_Court_lift_0 C h ⟨hw, fun k i hi => ⟨k, i, hi, rfl⟩, va_S.rf⟩ hl
set_option maxRecDepth 20000 in
theorem cX_Court_lift (l : Launch) (hlf : l.stackTraces = false) (D : va_G) (yI yO : ClassId) (z0 : Nat) (ad : Nat → Nat → Nat) {g : CS} {ez : Nat} {x1 : Int32} {x2 : Int32} (sz : Nat) (h : fC_Court_lift g x1 x2 = some (.inl ez)) : vx_Met l yX8_lift wsX8_lift (xR 7 111) (va_Pc [.ref (ad 0 0), .int x1, .int x2] (xPre D yI yO z0 ad g sz)) (xQ (cA ad g sz)) (xXC D yI yO z0 ad g ez (cA ad g sz)) 1 6 (cA ad g sz) := by
  refine vx_ofW (cc := cX8_lift) (maxL := 6) (ret := (some .boolean)) (by decide) rfl ?_
  intro p e s m args below meth c s₁ B hml ht hv
  obtain ⟨hv0, ⟨hw, hK⟩, hsz, hxs⟩ := hv
  subst hsz
  have hv1 : args = [.ref (ad 0 0), .int x1, .int x2].toArray := hv0
  subst hv1
  have C : cC p s m _ meth c cX8_lift RX8 (some .boolean) wsX8_lift 6 D yI yO := ⟨B.exec, B.bytes, B.returns, atoms_spec (ws := wsX8_lift) B.pre, findClass_of_methodNamed B.named, B.notSynchronized, hml, hK⟩
  have hl := lv_entry ([.ref (ad 0 0), .int x1, .int x2]) (n := 6) (Nat.le_of_ble_eq_true rfl)
  rw [lg_entry_eq]
  generalize (lg_sl ([.ref (ad 0 0), .int x1, .int x2]) ++ List.replicate (6 - (lg_sl ([.ref (ad 0 0), .int x1, .int x2])).length) Slot.unset).toArray = ls at hl ⊢
  have hl : lv_has ls 6 [(0, .ref (ad 0 0)), (1, .int x1), (2, .int x2)] := hl
  exact w_X_Court_lift_0 C hlf ht hxs (fun q h => Or.inr h) h ⟨hw, fun k i hi => Or.inl ⟨k, i, hi, rfl⟩, va_S.rf⟩ hl
theorem iC_Court_quota_X1 : ∀ w ∈ wsX10, w ∈ wsX8_quota := by decide +kernel
theorem eC_Court_quota_45 : ∀ w ∈ (vx_atS RX8 45 "java/lang/IllegalArgumentException" ["java/lang/RuntimeException", "java/lang/Exception"]).filter goodWord, w ∈ wsX8_quota := by decide +kernel
def fC_Court_quota_26 (g : CS) : Option (Nat ⊕ (Int32 × CS)) :=
  some (.inl 1)
set_option maxRecDepth 20000 in
theorem w_C_Court_quota_26 (C : cC p s m args meth c cX8_quota RX8 (some .int) wsX8_quota 6 D yI yO) {gz : CS} {rz : Int32} {g : CS} (h : fC_Court_quota_26 g = some (.inr (rz, gz))) {H : Heap} {locs : List Loc} {ls : Array Slot} (hX : cX D yI yO z0 ad g A s H locs) (hl : lv_has ls 6 [(0, .ref (ad 0 0))]) : W p l e (mR 4 85) s m args below meth c H locs 0 0 (MQ below (cQ D yI yO z0 ad rz gz A) args s 0 0 A) (F0 m 26 ls []) := by
  obtain ⟨hx, hb, hr, hts, hown, hlocks, hml, hK⟩ := id C
  unfold fC_Court_quota_26 at h
  cases h
set_option maxRecDepth 20000 in
theorem w_X_Court_quota_26 (C : cC p s m args meth c cX8_quota RX8 (some .int) wsX8_quota 6 D yI yO) {Qc : Array Value → State → Outcome → State → Prop} (hlf : l.stackTraces = false) (ht : ∀ x ∈ c.exceptionTable.toList, False) (hxs : xS A s s.heap) (hA : ∀ q, s.heap.size ≤ q → A q) {ez : Nat} {g : CS} (h : fC_Court_quota_26 g = some (.inl ez)) {H : Heap} {locs : List Loc} {ls : Array Slot} (hX : cX D yI yO z0 ad g A s H locs) (hl : lv_has ls 6 [(0, .ref (ad 0 0))]) : W p l e (xR 7 111) s m args below meth c H locs 0 0 (vx_MQ below Qc (xXC D yI yO z0 ad g ez A) args s 1 6 A) (F0 m 26 ls []) := by
  obtain ⟨hx, hb, hr, hts, hown, hlocks, hml, hK⟩ := id C
  unfold fC_Court_quota_26 at h
  cases h
  obtain ⟨sa, hsa⟩ := hxs.2.2.1 (218, "type or quota is out of range") (by decide +kernel)
  exact vx_throwS hx hb hlf (own := RX8) (cls := "java/lang/IllegalArgumentException") (text := "type or quota is out of range") (names := ["java/lang/RuntimeException", "java/lang/Exception"]) (A := A) hown (by decide +kernel) (by decide +kernel) (hts (.classLink RX8 41 "java/lang/IllegalArgumentException") (by decide +kernel)) (hts (.initialized "java/lang/IllegalArgumentException") (by decide +kernel)) hsa (vx_hat (fun w hw => hts w (eC_Court_quota_45 w hw)) (B := xB) (by decide +kernel) (fun w hw => va_Nw.use (xB_on w hw) (hxs.2.2.2 w hw))) (by decide +kernel) hxs.1 hxs.2.1 hX.2.2 (hl.1.trans hml.symm) dX8_quota_26 dX8_quota_29 dX8_quota_30 dX8_quota_32 dX8_quota_35 (fun x hx => (ht x hx).elim) (Nat.le_of_ble_eq_true rfl) (Nat.le_of_ble_eq_true rfl) (Nat.le_of_ble_eq_true rfl) (Nat.le_of_ble_eq_true rfl) hlocks (fun t a1 a2 a3 => xX_post rfl hK hX t a1 a2 a3) hX.2.2.2.2 (Nat.le_refl _) (Nat.le_refl _)
def fC_Court_quota (g : CS) (x1 : Int32) (x2 : Int32) (x3 : Int32) : Option (Nat ⊕ (Int32 × CS)) :=
  xb (fC_Court_landAt g x1) fun v1 =>
  if x2 < 0 then
    fC_Court_quota_26 g
  else
    if 3 ≤ x2 then
      fC_Court_quota_26 g
    else
      if x3 < 0 then
        fC_Court_quota_26 g
      else
        if x3 ≤ 9 then
          (ck g 4 v1).bind fun _ =>
          (fC_Row_at 8 v1 g x2).bind fun r8 =>
          (fC_Row_put 8 v1 g x2 x3).bind fun g9 =>
          some (.inr (r8, g9))
        else
          fC_Court_quota_26 g
set_option maxRecDepth 20000 in
theorem w_C_Court_quota_0 (C : cC p s m args meth c cX8_quota RX8 (some .int) wsX8_quota 6 D yI yO) {gz : CS} {rz : Int32} {g : CS} {x1 : Int32} {x2 : Int32} {x3 : Int32} (h : fC_Court_quota g x1 x2 x3 = some (.inr (rz, gz))) {H : Heap} {locs : List Loc} {ls : Array Slot} (hX : cX D yI yO z0 ad g A s H locs) (hl : lv_has ls 6 [(0, .ref (ad 0 0)), (1, .int x1), (2, .int x2), (3, .int x3)]) : W p l e (mR 4 85) s m args below meth c H locs 0 0 (MQ below (cQ D yI yO z0 ad rz gz A) args s 0 0 A) (F0 m 0 ls []) := by
  obtain ⟨hx, hb, hr, hts, hown, hlocks, hml, hK⟩ := id C
  unfold fC_Court_quota at h
  refine lv_aload_n hx hb dX8_quota_0 rfl (lv_at hl 0 rfl) ?_
  refine lv_iload_n hx hb dX8_quota_1 rfl (lv_at hl 1 rfl) ?_
  obtain ⟨v1, et2, h⟩ := xb_ret h
  refine cg_callVq (As := [.int x1]) (rest := []) ⟨hx, hb, hml, hown, hts⟩ 0 0 rfl (ci := 9) rfl rfl (cC_Court_landAt l D yI yO z0 ad et2) (cwV 1 hts gX8_quota_X8_landAt rfl rfl rfl (by decide +kernel) ⟨Nat.le_of_ble_eq_true rfl, Nat.le_of_ble_eq_true rfl⟩) hK hX rfl hl.1 rfl (Nat.le_of_ble_eq_true rfl) dX8_quota_2 ⟨Nat.zero_le _, Nat.zero_le _⟩ (fun H locs hX => ?_)
  refine W.eq (g2 := F0 m 5 ls [.ref (ad 4 v1)]) rfl ?_
  refine lv_astore (lv' := [(4, .ref (ad 4 v1)), (0, .ref (ad 0 0)), (1, .int x1), (2, .int x2), (3, .int x3)]) hx hb dX8_quota_5 hl (by decide) rfl (fun ls hl => ?_)
  refine lv_iload_n hx hb dX8_quota_7 rfl (lv_at hl 3 rfl) ?_
  refine lv_if_lt (tgt := 26) hx hb dX8_quota_8 (by decide) (fun c3 => ?_) (fun c3 => ?_)
  · replace h := mpos c3 h
    exact w_C_Court_quota_26 C h hX (lv_sub hl [1] rfl)
  · replace h := mneg c3 h
    refine lv_iload_n hx hb dX8_quota_11 rfl (lv_at hl 3 rfl) ?_
    refine lv_iconst (v := 3) hx hb dX8_quota_12 (by decide) ?_
    refine lv_icmp_ge (tgt := 26) hx hb dX8_quota_13 (by decide) (fun c4 => ?_) (fun c4 => ?_)
    · replace h := mpos c4 h
      exact w_C_Court_quota_26 C h hX (lv_sub hl [1] rfl)
    · replace h := mneg c4 h
      refine lv_iload_n hx hb dX8_quota_16 rfl (lv_at hl 4 rfl) ?_
      refine lv_if_lt (tgt := 26) hx hb dX8_quota_17 (by decide) (fun c5 => ?_) (fun c5 => ?_)
      · replace h := mpos c5 h
        exact w_C_Court_quota_26 C h hX (lv_sub hl [1] rfl)
      · replace h := mneg c5 h
        refine lv_iload_n hx hb dX8_quota_20 rfl (lv_at hl 4 rfl) ?_
        refine lv_bipush (v := 9) hx hb dX8_quota_21 (by decide) ?_
        refine lv_icmp_le (tgt := 36) hx hb dX8_quota_23 (by decide) (fun c6 => ?_) (fun c6 => ?_)
        · replace h := mpos c6 h
          refine lv_aload hx hb dX8_quota_36 (lv_at hl 0 rfl) ?_
          obtain ⟨_, hv7, h⟩ := mbind h
          replace hv7 := ck_spec hv7
          refine cg_get hx hb hts iC_Court_quota_X1 hown hK hX 4 v1 hv7 rfl rfl 5 (by decide) (hts (.fieldLink RX8 220 "PassageCourt$Land" "quotas" "LPassageCourt$Row;") (by decide +kernel)) (fun _ h9 => h9) rfl dX8_quota_38 ?_
          refine lv_iload_n hx hb dX8_quota_41 rfl (lv_at hl 3 rfl) ?_
          obtain ⟨r8, er8, h⟩ := mbind h
          refine cg_callV (As := [.int x2]) (rest := []) ⟨hx, hb, hml, hown, hts⟩ 8 v1 hv7 (ci := 6) rfl rfl (cC_Row_at l D yI yO z0 ad ⟨by decide, by decide⟩ er8) (cwV 1 hts gX8_quota_X5_at rfl rfl rfl (by decide +kernel) ⟨Nat.le_of_ble_eq_true rfl, Nat.le_of_ble_eq_true rfl⟩) hK hX rfl hl.1 rfl (Nat.le_of_ble_eq_true rfl) dX8_quota_42 ⟨Nat.zero_le _, Nat.zero_le _⟩ (fun H locs hX => ?_)
          refine lv_istore (lv' := [(5, .int r8), (4, .ref (ad 4 v1)), (0, .ref (ad 0 0)), (1, .int x1), (2, .int x2), (3, .int x3)]) hx hb dX8_quota_45 hl (by decide) rfl (fun ls hl => ?_)
          refine lv_aload hx hb dX8_quota_47 (lv_at hl 1 rfl) ?_
          refine cg_get hx hb hts iC_Court_quota_X1 hown hK hX 4 v1 hv7 rfl rfl 5 (by decide) (hts (.fieldLink RX8 220 "PassageCourt$Land" "quotas" "LPassageCourt$Row;") (by decide +kernel)) (fun _ h9 => h9) rfl dX8_quota_49 ?_
          refine lv_iload_n hx hb dX8_quota_52 rfl (lv_at hl 4 rfl) ?_
          refine lv_iload_n hx hb dX8_quota_53 rfl (lv_at hl 5 rfl) ?_
          obtain ⟨g9, eg9, h⟩ := mbind h
          refine cg_callVv (As := [.int x2, .int x3]) (rest := []) ⟨hx, hb, hml, hown, hts⟩ 8 v1 hv7 (ci := 6) rfl rfl (cC_Row_put l D yI yO z0 ad ⟨by decide, by decide⟩ eg9) (cwV 2 hts gX8_quota_X5_put rfl rfl rfl (by decide +kernel) ⟨Nat.le_of_ble_eq_true rfl, Nat.le_of_ble_eq_true rfl⟩) hK hX rfl hl.1 rfl (Nat.le_of_ble_eq_true rfl) dX8_quota_54 ⟨Nat.zero_le _, Nat.zero_le _⟩ (fun H locs hX => ?_)
          refine lv_iload hx hb dX8_quota_57 (lv_at hl 0 rfl) ?_
          cases h
          exact cg_reti hx hb hr hlocks hK hX dX8_quota_59
        · replace h := mneg c6 h
          exact w_C_Court_quota_26 C h hX (lv_sub hl [1] rfl)
set_option maxRecDepth 20000 in
theorem w_X_Court_quota_0 (C : cC p s m args meth c cX8_quota RX8 (some .int) wsX8_quota 6 D yI yO) {Qc : Array Value → State → Outcome → State → Prop} (hlf : l.stackTraces = false) (ht : ∀ x ∈ c.exceptionTable.toList, False) (hxs : xS A s s.heap) (hA : ∀ q, s.heap.size ≤ q → A q) {ez : Nat} {g : CS} {x1 : Int32} {x2 : Int32} {x3 : Int32} (h : fC_Court_quota g x1 x2 x3 = some (.inl ez)) {H : Heap} {locs : List Loc} {ls : Array Slot} (hX : cX D yI yO z0 ad g A s H locs) (hl : lv_has ls 6 [(0, .ref (ad 0 0)), (1, .int x1), (2, .int x2), (3, .int x3)]) : W p l e (xR 7 111) s m args below meth c H locs 0 0 (vx_MQ below Qc (xXC D yI yO z0 ad g ez A) args s 1 6 A) (F0 m 0 ls []) := by
  obtain ⟨hx, hb, hr, hts, hown, hlocks, hml, hK⟩ := id C
  unfold fC_Court_quota at h
  refine lv_aload_n hx hb dX8_quota_0 rfl (lv_at hl 0 rfl) ?_
  refine lv_iload_n hx hb dX8_quota_1 rfl (lv_at hl 1 rfl) ?_
  rcases xb_thr h with et2 | ⟨v1, et2, h⟩
  · exact xg_callV (As := [.int x1]) (rest := []) ⟨hx, hb, hml, hown, hts⟩ 0 0 rfl (ci := 9) rfl rfl (cX_Court_landAt l hlf D yI yO z0 ad H.size et2) (cwV 1 hts gX8_quota_X8_landAt rfl rfl rfl (by decide +kernel) ⟨Nat.le_of_ble_eq_true rfl, Nat.le_of_ble_eq_true rfl⟩) hK hX hA hxs ht hlocks rfl hl.1 rfl (Nat.le_of_ble_eq_true rfl) dX8_quota_2 ⟨Nat.le_refl _, Nat.le_refl _⟩
  refine cg_callVq (As := [.int x1]) (rest := []) ⟨hx, hb, hml, hown, hts⟩ 0 0 rfl (ci := 9) rfl rfl (cC_Court_landAt l D yI yO z0 ad et2) (cwV 1 hts gX8_quota_X8_landAt rfl rfl rfl (by decide +kernel) ⟨Nat.le_of_ble_eq_true rfl, Nat.le_of_ble_eq_true rfl⟩) hK hX rfl hl.1 rfl (Nat.le_of_ble_eq_true rfl) dX8_quota_2 ⟨Nat.zero_le _, Nat.zero_le _⟩ (fun H locs hX => ?_)
  refine W.eq (g2 := F0 m 5 ls [.ref (ad 4 v1)]) rfl ?_
  refine lv_astore (lv' := [(4, .ref (ad 4 v1)), (0, .ref (ad 0 0)), (1, .int x1), (2, .int x2), (3, .int x3)]) hx hb dX8_quota_5 hl (by decide) rfl (fun ls hl => ?_)
  refine lv_iload_n hx hb dX8_quota_7 rfl (lv_at hl 3 rfl) ?_
  refine lv_if_lt (tgt := 26) hx hb dX8_quota_8 (by decide) (fun c3 => ?_) (fun c3 => ?_)
  · replace h := mpos c3 h
    exact w_X_Court_quota_26 C hlf ht hxs hA h hX (lv_sub hl [1] rfl)
  · replace h := mneg c3 h
    refine lv_iload_n hx hb dX8_quota_11 rfl (lv_at hl 3 rfl) ?_
    refine lv_iconst (v := 3) hx hb dX8_quota_12 (by decide) ?_
    refine lv_icmp_ge (tgt := 26) hx hb dX8_quota_13 (by decide) (fun c4 => ?_) (fun c4 => ?_)
    · replace h := mpos c4 h
      exact w_X_Court_quota_26 C hlf ht hxs hA h hX (lv_sub hl [1] rfl)
    · replace h := mneg c4 h
      refine lv_iload_n hx hb dX8_quota_16 rfl (lv_at hl 4 rfl) ?_
      refine lv_if_lt (tgt := 26) hx hb dX8_quota_17 (by decide) (fun c5 => ?_) (fun c5 => ?_)
      · replace h := mpos c5 h
        exact w_X_Court_quota_26 C hlf ht hxs hA h hX (lv_sub hl [1] rfl)
      · replace h := mneg c5 h
        refine lv_iload_n hx hb dX8_quota_20 rfl (lv_at hl 4 rfl) ?_
        refine lv_bipush (v := 9) hx hb dX8_quota_21 (by decide) ?_
        refine lv_icmp_le (tgt := 36) hx hb dX8_quota_23 (by decide) (fun c6 => ?_) (fun c6 => ?_)
        · replace h := mpos c6 h
          refine lv_aload hx hb dX8_quota_36 (lv_at hl 0 rfl) ?_
          obtain ⟨_, hv7, h⟩ := mbind h
          replace hv7 := ck_spec hv7
          refine cg_get hx hb hts iC_Court_quota_X1 hown hK hX 4 v1 hv7 rfl rfl 5 (by decide) (hts (.fieldLink RX8 220 "PassageCourt$Land" "quotas" "LPassageCourt$Row;") (by decide +kernel)) (fun _ h9 => h9) rfl dX8_quota_38 ?_
          refine lv_iload_n hx hb dX8_quota_41 rfl (lv_at hl 3 rfl) ?_
          obtain ⟨r8, er8, h⟩ := mbind h
          refine cg_callV (As := [.int x2]) (rest := []) ⟨hx, hb, hml, hown, hts⟩ 8 v1 hv7 (ci := 6) rfl rfl (cC_Row_at l D yI yO z0 ad ⟨by decide, by decide⟩ er8) (cwV 1 hts gX8_quota_X5_at rfl rfl rfl (by decide +kernel) ⟨Nat.le_of_ble_eq_true rfl, Nat.le_of_ble_eq_true rfl⟩) hK hX rfl hl.1 rfl (Nat.le_of_ble_eq_true rfl) dX8_quota_42 ⟨Nat.zero_le _, Nat.zero_le _⟩ (fun H locs hX => ?_)
          refine lv_istore (lv' := [(5, .int r8), (4, .ref (ad 4 v1)), (0, .ref (ad 0 0)), (1, .int x1), (2, .int x2), (3, .int x3)]) hx hb dX8_quota_45 hl (by decide) rfl (fun ls hl => ?_)
          refine lv_aload hx hb dX8_quota_47 (lv_at hl 1 rfl) ?_
          refine cg_get hx hb hts iC_Court_quota_X1 hown hK hX 4 v1 hv7 rfl rfl 5 (by decide) (hts (.fieldLink RX8 220 "PassageCourt$Land" "quotas" "LPassageCourt$Row;") (by decide +kernel)) (fun _ h9 => h9) rfl dX8_quota_49 ?_
          refine lv_iload_n hx hb dX8_quota_52 rfl (lv_at hl 4 rfl) ?_
          refine lv_iload_n hx hb dX8_quota_53 rfl (lv_at hl 5 rfl) ?_
          obtain ⟨g9, eg9, h⟩ := mbind h
          refine cg_callVv (As := [.int x2, .int x3]) (rest := []) ⟨hx, hb, hml, hown, hts⟩ 8 v1 hv7 (ci := 6) rfl rfl (cC_Row_put l D yI yO z0 ad ⟨by decide, by decide⟩ eg9) (cwV 2 hts gX8_quota_X5_put rfl rfl rfl (by decide +kernel) ⟨Nat.le_of_ble_eq_true rfl, Nat.le_of_ble_eq_true rfl⟩) hK hX rfl hl.1 rfl (Nat.le_of_ble_eq_true rfl) dX8_quota_54 ⟨Nat.zero_le _, Nat.zero_le _⟩ (fun H locs hX => ?_)
          refine lv_iload hx hb dX8_quota_57 (lv_at hl 0 rfl) ?_
          cases h
        · replace h := mneg c6 h
          exact w_X_Court_quota_26 C hlf ht hxs hA h hX (lv_sub hl [1] rfl)
set_option maxRecDepth 20000 in
theorem cC_Court_quota (l : Launch) (D : va_G) (yI yO : ClassId) (z0 : Nat) (ad : Nat → Nat → Nat) {g : CS} {gz : CS} {rz : Int32} {x1 : Int32} {x2 : Int32} {x3 : Int32} (h : fC_Court_quota g x1 x2 x3 = some (.inr (rz, gz))) : Met l yX8_quota wsX8_quota (mR 4 85) (va_Pc [.ref (ad 0 0), .int x1, .int x2, .int x3] (cPre D yI yO z0 ad g)) (cQ D yI yO z0 ad rz gz (cF ad g)) 0 0 (cF ad g) := by
  refine Met.ofW (cc := cX8_quota) (maxL := 6) (ret := (some .int)) (by decide) rfl ?_
  intro p e s m args below meth c s₁ B hml hv
  obtain ⟨hv0, hw, hK⟩ := hv
  have hv1 : args = [.ref (ad 0 0), .int x1, .int x2, .int x3].toArray := hv0
  subst hv1
  have C : cC p s m _ meth c cX8_quota RX8 (some .int) wsX8_quota 6 D yI yO := ⟨B.exec, B.bytes, B.returns, atoms_spec (ws := wsX8_quota) B.pre, findClass_of_methodNamed B.named, B.notSynchronized, hml, hK⟩
  have hl := lv_entry ([.ref (ad 0 0), .int x1, .int x2, .int x3]) (n := 6) (Nat.le_of_ble_eq_true rfl)
  rw [lg_entry_eq]
  generalize (lg_sl ([.ref (ad 0 0), .int x1, .int x2, .int x3]) ++ List.replicate (6 - (lg_sl ([.ref (ad 0 0), .int x1, .int x2, .int x3])).length) Slot.unset).toArray = ls at hl ⊢
  have hl : lv_has ls 6 [(0, .ref (ad 0 0)), (1, .int x1), (2, .int x2), (3, .int x3)] := hl
  exact w_C_Court_quota_0 C h ⟨hw, fun k i hi => ⟨k, i, hi, rfl⟩, va_S.rf⟩ hl
set_option maxRecDepth 20000 in
theorem cX_Court_quota (l : Launch) (hlf : l.stackTraces = false) (D : va_G) (yI yO : ClassId) (z0 : Nat) (ad : Nat → Nat → Nat) {g : CS} {ez : Nat} {x1 : Int32} {x2 : Int32} {x3 : Int32} (sz : Nat) (h : fC_Court_quota g x1 x2 x3 = some (.inl ez)) : vx_Met l yX8_quota wsX8_quota (xR 7 111) (va_Pc [.ref (ad 0 0), .int x1, .int x2, .int x3] (xPre D yI yO z0 ad g sz)) (xQ (cA ad g sz)) (xXC D yI yO z0 ad g ez (cA ad g sz)) 1 6 (cA ad g sz) := by
  refine vx_ofW (cc := cX8_quota) (maxL := 6) (ret := (some .int)) (by decide) rfl ?_
  intro p e s m args below meth c s₁ B hml ht hv
  obtain ⟨hv0, ⟨hw, hK⟩, hsz, hxs⟩ := hv
  subst hsz
  have hv1 : args = [.ref (ad 0 0), .int x1, .int x2, .int x3].toArray := hv0
  subst hv1
  have C : cC p s m _ meth c cX8_quota RX8 (some .int) wsX8_quota 6 D yI yO := ⟨B.exec, B.bytes, B.returns, atoms_spec (ws := wsX8_quota) B.pre, findClass_of_methodNamed B.named, B.notSynchronized, hml, hK⟩
  have hl := lv_entry ([.ref (ad 0 0), .int x1, .int x2, .int x3]) (n := 6) (Nat.le_of_ble_eq_true rfl)
  rw [lg_entry_eq]
  generalize (lg_sl ([.ref (ad 0 0), .int x1, .int x2, .int x3]) ++ List.replicate (6 - (lg_sl ([.ref (ad 0 0), .int x1, .int x2, .int x3])).length) Slot.unset).toArray = ls at hl ⊢
  have hl : lv_has ls 6 [(0, .ref (ad 0 0)), (1, .int x1), (2, .int x2), (3, .int x3)] := hl
  exact w_X_Court_quota_0 C hlf ht hxs (fun q h => Or.inr h) h ⟨hw, fun k i hi => Or.inl ⟨k, i, hi, rfl⟩, va_S.rf⟩ hl
theorem iC_Court_join_X3 : ∀ w ∈ wsX30, w ∈ wsX8_join := by decide +kernel
theorem iC_Court_join_X4 : ∀ w ∈ wsX40, w ∈ wsX8_join := by decide +kernel
theorem eC_Court_join_56 : ∀ w ∈ (vx_atS RX8 56 "java/lang/IllegalStateException" ["java/lang/RuntimeException", "java/lang/Exception"]).filter goodWord, w ∈ wsX8_join := by decide +kernel
def fC_Court_join_71 (g : CS) : Option (Nat ⊕ (Int32 × CS)) :=
  some (.inl 2)
set_option maxRecDepth 20000 in
theorem w_C_Court_join_71 (C : cC p s m args meth c cX8_join RX8 (some .int) wsX8_join 5 D yI yO) {gz : CS} {rz : Int32} {g : CS} (h : fC_Court_join_71 g = some (.inr (rz, gz))) {H : Heap} {locs : List Loc} {ls : Array Slot} (hX : cX D yI yO z0 ad g A s H locs) (hl : lv_has ls 5 [(0, .ref (ad 0 0))]) : W p l e (mR 4 85) s m args below meth c H locs 0 0 (MQ below (cQ D yI yO z0 ad rz gz A) args s 0 0 A) (F0 m 71 ls []) := by
  obtain ⟨hx, hb, hr, hts, hown, hlocks, hml, hK⟩ := id C
  unfold fC_Court_join_71 at h
  cases h
set_option maxRecDepth 20000 in
theorem w_X_Court_join_71 (C : cC p s m args meth c cX8_join RX8 (some .int) wsX8_join 5 D yI yO) {Qc : Array Value → State → Outcome → State → Prop} (hlf : l.stackTraces = false) (ht : ∀ x ∈ c.exceptionTable.toList, False) (hxs : xS A s s.heap) (hA : ∀ q, s.heap.size ≤ q → A q) {ez : Nat} {g : CS} (h : fC_Court_join_71 g = some (.inl ez)) {H : Heap} {locs : List Loc} {ls : Array Slot} (hX : cX D yI yO z0 ad g A s H locs) (hl : lv_has ls 5 [(0, .ref (ad 0 0))]) : W p l e (xR 7 111) s m args below meth c H locs 0 0 (vx_MQ below Qc (xXC D yI yO z0 ad g ez A) args s 1 6 A) (F0 m 71 ls []) := by
  obtain ⟨hx, hb, hr, hts, hown, hlocks, hml, hK⟩ := id C
  unfold fC_Court_join_71 at h
  cases h
  obtain ⟨sa, hsa⟩ := hxs.2.2.1 (268, "this person can\'t follow, or 3 do") (by decide +kernel)
  exact vx_throwSW hx hb hlf (own := RX8) (cls := "java/lang/IllegalStateException") (text := "this person can\'t follow, or 3 do") (names := ["java/lang/RuntimeException", "java/lang/Exception"]) (A := A) hown (by decide +kernel) (by decide +kernel) (hts (.classLink RX8 52 "java/lang/IllegalStateException") (by decide +kernel)) (hts (.initialized "java/lang/IllegalStateException") (by decide +kernel)) hsa (vx_hat (fun w hw => hts w (eC_Court_join_56 w hw)) (B := xB) (by decide +kernel) (fun w hw => va_Nw.use (xB_on w hw) (hxs.2.2.2 w hw))) (by decide +kernel) hxs.1 hxs.2.1 hX.2.2 (hl.1.trans hml.symm) dX8_join_71 dX8_join_74 dX8_join_75 dX8_join_78 dX8_join_81 (fun x hx => (ht x hx).elim) (Nat.le_of_ble_eq_true rfl) (Nat.le_of_ble_eq_true rfl) (Nat.le_of_ble_eq_true rfl) (Nat.le_of_ble_eq_true rfl) hlocks (fun t a1 a2 a3 => xX_post rfl hK hX t a1 a2 a3) hX.2.2.2.2 (Nat.le_refl _) (Nat.le_refl _)
def fC_Court_join_26 (g : CS) (i3 : Nat) (i4 : Nat) (xs0 : Int32) : Option (Nat ⊕ (Int32 × CS)) :=
  xb (fC_Court_refuseUnless g xs0) fun _ =>
  (ck g 7 i3).bind fun _ =>
  (ck g 5 i4).bind fun _ =>
  if (sI g 7 i3 1) = (sI g 5 i4 0) then
    fC_Court_join_71 g
  else
    (fC_Request_isFollowedBy i3 g (sI g 5 i4 0)).bind fun r5 =>
    if r5 = 0 then
      (fC_Request_countFollowers i3 g).bind fun r7 =>
      if 3 ≤ r7 then
        fC_Court_join_71 g
      else
        (fC_Court_isTooOldFor g i3 i4).bind fun r9 =>
        if r9 = 0 then
          (some (uI g 7 i3 7 ((sI g 7 i3 7) ||| (1 <<< ((sI g 5 i4 0) &&& 31))))).bind fun g11 =>
          (fC_Request_countFollowers i3 g11).bind fun r14 =>
          some (.inr (r14, g11))
        else
          fC_Court_join_71 g
    else
      fC_Court_join_71 g
set_option maxRecDepth 20000 in
theorem w_C_Court_join_26 (C : cC p s m args meth c cX8_join RX8 (some .int) wsX8_join 5 D yI yO) {gz : CS} {rz : Int32} {g : CS} {i3 : Nat} {i4 : Nat} {xs0 : Int32} (h : fC_Court_join_26 g i3 i4 xs0 = some (.inr (rz, gz))) {H : Heap} {locs : List Loc} {ls : Array Slot} (hX : cX D yI yO z0 ad g A s H locs) (hl : lv_has ls 5 [(0, .ref (ad 0 0)), (3, .ref (ad 7 i3)), (4, .ref (ad 5 i4))]) : W p l e (mR 4 85) s m args below meth c H locs 0 0 (MQ below (cQ D yI yO z0 ad rz gz A) args s 0 0 A) (F0 m 26 ls [.int xs0, .ref (ad 0 0)]) := by
  obtain ⟨hx, hb, hr, hts, hown, hlocks, hml, hK⟩ := id C
  unfold fC_Court_join_26 at h
  obtain ⟨_, et1, h⟩ := xb_ret h
  refine cg_callVv (As := [.int xs0]) (rest := []) ⟨hx, hb, hml, hown, hts⟩ 0 0 rfl (ci := 9) rfl rfl (cC_Court_refuseUnless l D yI yO z0 ad et1) (cwV 1 hts gX8_join_X8_refuseUnless rfl rfl rfl (by decide +kernel) ⟨Nat.le_of_ble_eq_true rfl, Nat.le_of_ble_eq_true rfl⟩) hK hX rfl hl.1 rfl (Nat.le_of_ble_eq_true rfl) dX8_join_26 ⟨Nat.zero_le _, Nat.zero_le _⟩ (fun H locs hX => ?_)
  refine lv_aload_n hx hb dX8_join_29 rfl (lv_at hl 1 rfl) ?_
  obtain ⟨_, hv2, h⟩ := mbind h
  replace hv2 := ck_spec hv2
  refine cg_get hx hb hts iC_Court_join_X4 hown hK hX 7 i3 hv2 rfl rfl 1 (by decide) (hts (.fieldLink RX8 255 "PassageCourt$Request" "person" "I") (by decide +kernel)) (fun _ h9 => h9) rfl dX8_join_30 ?_
  refine lv_aload hx hb dX8_join_33 (lv_at hl 2 rfl) ?_
  obtain ⟨_, hv3, h⟩ := mbind h
  replace hv3 := ck_spec hv3
  refine cg_get hx hb hts iC_Court_join_X3 hown hK hX 5 i4 hv3 rfl rfl 0 (by decide) (hts (.fieldLink RX8 101 "PassageCourt$Person" "number" "I") (by decide +kernel)) (fun _ h9 => h9) rfl dX8_join_35 ?_
  refine lv_icmp_eq (tgt := 71) hx hb dX8_join_38 (by decide) (fun c4 => ?_) (fun c4 => ?_)
  · replace h := mpos c4 h
    exact w_C_Court_join_71 C h hX (lv_sub hl [0] rfl)
  · replace h := mneg c4 h
    refine lv_aload_n hx hb dX8_join_41 rfl (lv_at hl 1 rfl) ?_
    refine lv_aload hx hb dX8_join_42 (lv_at hl 2 rfl) ?_
    refine cg_get hx hb hts iC_Court_join_X3 hown hK hX 5 i4 hv3 rfl rfl 0 (by decide) (hts (.fieldLink RX8 101 "PassageCourt$Person" "number" "I") (by decide +kernel)) (fun _ h9 => h9) rfl dX8_join_44 ?_
    obtain ⟨r5, er5, h⟩ := mbind h
    refine cg_callV (As := [.int (sI g 5 i4 0)]) (rest := []) ⟨hx, hb, hml, hown, hts⟩ 7 i3 hv2 (ci := 5) rfl rfl (cC_Request_isFollowedBy l D yI yO z0 ad er5) (cwV 1 hts gX8_join_X4_isFollowedBy rfl rfl rfl (by decide +kernel) ⟨Nat.le_of_ble_eq_true rfl, Nat.le_of_ble_eq_true rfl⟩) hK hX rfl hl.1 rfl (Nat.le_of_ble_eq_true rfl) dX8_join_47 ⟨Nat.zero_le _, Nat.zero_le _⟩ (fun H locs hX => ?_)
    refine lv_if_ne (tgt := 71) hx hb dX8_join_50 (by decide) (fun c6 => ?_) (fun c6 => ?_)
    · replace h := mneg c6 h
      exact w_C_Court_join_71 C h hX (lv_sub hl [0] rfl)
    · replace h := mpos c6 h
      refine lv_aload_n hx hb dX8_join_53 rfl (lv_at hl 1 rfl) ?_
      obtain ⟨r7, er7, h⟩ := mbind h
      refine cg_callV (As := []) (rest := []) ⟨hx, hb, hml, hown, hts⟩ 7 i3 hv2 (ci := 5) rfl rfl (cC_Request_countFollowers l D yI yO z0 ad er7) (cwV 0 hts gX8_join_X4_countFollowers rfl rfl rfl (by decide +kernel) ⟨Nat.le_of_ble_eq_true rfl, Nat.le_of_ble_eq_true rfl⟩) hK hX rfl hl.1 rfl (Nat.le_of_ble_eq_true rfl) dX8_join_54 ⟨Nat.zero_le _, Nat.zero_le _⟩ (fun H locs hX => ?_)
      refine lv_iconst (v := 3) hx hb dX8_join_57 (by decide) ?_
      refine lv_icmp_ge (tgt := 71) hx hb dX8_join_58 (by decide) (fun c8 => ?_) (fun c8 => ?_)
      · replace h := mpos c8 h
        exact w_C_Court_join_71 C h hX (lv_sub hl [0] rfl)
      · replace h := mneg c8 h
        refine lv_aload_n hx hb dX8_join_61 rfl (lv_at hl 0 rfl) ?_
        refine lv_aload_n hx hb dX8_join_62 rfl (lv_at hl 1 rfl) ?_
        refine lv_aload hx hb dX8_join_63 (lv_at hl 2 rfl) ?_
        obtain ⟨r9, er9, h⟩ := mbind h
        refine cg_callV (As := [.ref (ad 7 i3), .ref (ad 5 i4)]) (rest := []) ⟨hx, hb, hml, hown, hts⟩ 0 0 rfl (ci := 9) rfl rfl (cC_Court_isTooOldFor l D yI yO z0 ad er9) (cwV 2 hts gX8_join_X8_isTooOldFor rfl rfl rfl (by decide +kernel) ⟨Nat.le_of_ble_eq_true rfl, Nat.le_of_ble_eq_true rfl⟩) hK hX rfl hl.1 rfl (Nat.le_of_ble_eq_true rfl) dX8_join_65 ⟨Nat.zero_le _, Nat.zero_le _⟩ (fun H locs hX => ?_)
        refine lv_if_eq (tgt := 82) hx hb dX8_join_68 (by decide) (fun c10 => ?_) (fun c10 => ?_)
        · replace h := mpos c10 h
          refine lv_aload_n hx hb dX8_join_82 rfl (lv_at hl 1 rfl) ?_
          refine lv_dup hx hb dX8_join_83 rfl ?_
          refine cg_get hx hb hts iC_Court_join_X4 hown hK hX 7 i3 hv2 rfl rfl 7 (by decide) (hts (.fieldLink RX8 270 "PassageCourt$Request" "followers" "I") (by decide +kernel)) (fun _ h9 => h9) rfl dX8_join_84 ?_
          refine lv_iconst (v := 1) hx hb dX8_join_87 (by decide) ?_
          refine lv_aload hx hb dX8_join_88 (lv_at hl 2 rfl) ?_
          refine cg_get hx hb hts iC_Court_join_X3 hown hK hX 5 i4 hv3 rfl rfl 0 (by decide) (hts (.fieldLink RX8 101 "PassageCourt$Person" "number" "I") (by decide +kernel)) (fun _ h9 => h9) rfl dX8_join_90 ?_
          refine lv_ishl hx hb dX8_join_93 ?_
          refine lv_ior hx hb dX8_join_94 ?_
          obtain ⟨g11, eg11, h⟩ := mbind h
          refine cg_put hx hb hts iC_Court_join_X4 tyX4 tyX4_ok nmX4 hown hK hX 7 i3 hv2 rfl rfl 7 (by decide) (hts (.fieldLink RX8 270 "PassageCourt$Request" "followers" "I") (by decide +kernel)) (fun _ h9 => h9) rfl (by decide +kernel) rfl rfl (ty := .int) (g1 := (uI g 7 i3 7 ((sI g 7 i3 7) ||| (1 <<< ((sI g 5 i4 0) &&& 31))))) (Nat.le_of_ble_eq_true rfl) (by unfold cent; rw [sI_up]; rfl) (fun _ _ => rfl) rfl (fun _ _ hab => cent_uI yI yO ad _ _ _ hab) dX8_join_95 (fun H locs hX => ?_)
          have eg11 := Option.some.inj eg11
          rw [eg11] at hX
          have hv12 : clvb g11 7 i3 = true := by rw [← eg11]; exact hv2
          have hv13 : clvb g11 5 i4 = true := by rw [← eg11]; exact hv3
          refine lv_aload_n hx hb dX8_join_98 rfl (lv_at hl 1 rfl) ?_
          obtain ⟨r14, er14, h⟩ := mbind h
          refine cg_callV (As := []) (rest := []) ⟨hx, hb, hml, hown, hts⟩ 7 i3 hv12 (ci := 5) rfl rfl (cC_Request_countFollowers l D yI yO z0 ad er14) (cwV 0 hts gX8_join_X4_countFollowers rfl rfl rfl (by decide +kernel) ⟨Nat.le_of_ble_eq_true rfl, Nat.le_of_ble_eq_true rfl⟩) hK hX rfl hl.1 rfl (Nat.le_of_ble_eq_true rfl) dX8_join_99 ⟨Nat.zero_le _, Nat.zero_le _⟩ (fun H locs hX => ?_)
          cases h
          exact cg_reti hx hb hr hlocks hK hX dX8_join_102
        · replace h := mneg c10 h
          exact w_C_Court_join_71 C h hX (lv_sub hl [0] rfl)
set_option maxRecDepth 20000 in
theorem w_X_Court_join_26 (C : cC p s m args meth c cX8_join RX8 (some .int) wsX8_join 5 D yI yO) {Qc : Array Value → State → Outcome → State → Prop} (hlf : l.stackTraces = false) (ht : ∀ x ∈ c.exceptionTable.toList, False) (hxs : xS A s s.heap) (hA : ∀ q, s.heap.size ≤ q → A q) {ez : Nat} {g : CS} {i3 : Nat} {i4 : Nat} {xs0 : Int32} (h : fC_Court_join_26 g i3 i4 xs0 = some (.inl ez)) {H : Heap} {locs : List Loc} {ls : Array Slot} (hX : cX D yI yO z0 ad g A s H locs) (hl : lv_has ls 5 [(0, .ref (ad 0 0)), (3, .ref (ad 7 i3)), (4, .ref (ad 5 i4))]) : W p l e (xR 7 111) s m args below meth c H locs 0 0 (vx_MQ below Qc (xXC D yI yO z0 ad g ez A) args s 1 6 A) (F0 m 26 ls [.int xs0, .ref (ad 0 0)]) := by
  obtain ⟨hx, hb, hr, hts, hown, hlocks, hml, hK⟩ := id C
  unfold fC_Court_join_26 at h
  rcases xb_thr h with et1 | ⟨_, et1, h⟩
  · exact xg_callV (As := [.int xs0]) (rest := []) ⟨hx, hb, hml, hown, hts⟩ 0 0 rfl (ci := 9) rfl rfl (cX_Court_refuseUnless l hlf D yI yO z0 ad H.size et1) (cwV 1 hts gX8_join_X8_refuseUnless rfl rfl rfl (by decide +kernel) ⟨Nat.le_of_ble_eq_true rfl, Nat.le_of_ble_eq_true rfl⟩) hK hX hA hxs ht hlocks rfl hl.1 rfl (Nat.le_of_ble_eq_true rfl) dX8_join_26 ⟨Nat.le_refl _, Nat.le_refl _⟩
  refine cg_callVv (As := [.int xs0]) (rest := []) ⟨hx, hb, hml, hown, hts⟩ 0 0 rfl (ci := 9) rfl rfl (cC_Court_refuseUnless l D yI yO z0 ad et1) (cwV 1 hts gX8_join_X8_refuseUnless rfl rfl rfl (by decide +kernel) ⟨Nat.le_of_ble_eq_true rfl, Nat.le_of_ble_eq_true rfl⟩) hK hX rfl hl.1 rfl (Nat.le_of_ble_eq_true rfl) dX8_join_26 ⟨Nat.zero_le _, Nat.zero_le _⟩ (fun H locs hX => ?_)
  refine lv_aload_n hx hb dX8_join_29 rfl (lv_at hl 1 rfl) ?_
  obtain ⟨_, hv2, h⟩ := mbind h
  replace hv2 := ck_spec hv2
  refine cg_get hx hb hts iC_Court_join_X4 hown hK hX 7 i3 hv2 rfl rfl 1 (by decide) (hts (.fieldLink RX8 255 "PassageCourt$Request" "person" "I") (by decide +kernel)) (fun _ h9 => h9) rfl dX8_join_30 ?_
  refine lv_aload hx hb dX8_join_33 (lv_at hl 2 rfl) ?_
  obtain ⟨_, hv3, h⟩ := mbind h
  replace hv3 := ck_spec hv3
  refine cg_get hx hb hts iC_Court_join_X3 hown hK hX 5 i4 hv3 rfl rfl 0 (by decide) (hts (.fieldLink RX8 101 "PassageCourt$Person" "number" "I") (by decide +kernel)) (fun _ h9 => h9) rfl dX8_join_35 ?_
  refine lv_icmp_eq (tgt := 71) hx hb dX8_join_38 (by decide) (fun c4 => ?_) (fun c4 => ?_)
  · replace h := mpos c4 h
    exact w_X_Court_join_71 C hlf ht hxs hA h hX (lv_sub hl [0] rfl)
  · replace h := mneg c4 h
    refine lv_aload_n hx hb dX8_join_41 rfl (lv_at hl 1 rfl) ?_
    refine lv_aload hx hb dX8_join_42 (lv_at hl 2 rfl) ?_
    refine cg_get hx hb hts iC_Court_join_X3 hown hK hX 5 i4 hv3 rfl rfl 0 (by decide) (hts (.fieldLink RX8 101 "PassageCourt$Person" "number" "I") (by decide +kernel)) (fun _ h9 => h9) rfl dX8_join_44 ?_
    obtain ⟨r5, er5, h⟩ := mbind h
    refine cg_callV (As := [.int (sI g 5 i4 0)]) (rest := []) ⟨hx, hb, hml, hown, hts⟩ 7 i3 hv2 (ci := 5) rfl rfl (cC_Request_isFollowedBy l D yI yO z0 ad er5) (cwV 1 hts gX8_join_X4_isFollowedBy rfl rfl rfl (by decide +kernel) ⟨Nat.le_of_ble_eq_true rfl, Nat.le_of_ble_eq_true rfl⟩) hK hX rfl hl.1 rfl (Nat.le_of_ble_eq_true rfl) dX8_join_47 ⟨Nat.zero_le _, Nat.zero_le _⟩ (fun H locs hX => ?_)
    refine lv_if_ne (tgt := 71) hx hb dX8_join_50 (by decide) (fun c6 => ?_) (fun c6 => ?_)
    · replace h := mneg c6 h
      exact w_X_Court_join_71 C hlf ht hxs hA h hX (lv_sub hl [0] rfl)
    · replace h := mpos c6 h
      refine lv_aload_n hx hb dX8_join_53 rfl (lv_at hl 1 rfl) ?_
      obtain ⟨r7, er7, h⟩ := mbind h
      refine cg_callV (As := []) (rest := []) ⟨hx, hb, hml, hown, hts⟩ 7 i3 hv2 (ci := 5) rfl rfl (cC_Request_countFollowers l D yI yO z0 ad er7) (cwV 0 hts gX8_join_X4_countFollowers rfl rfl rfl (by decide +kernel) ⟨Nat.le_of_ble_eq_true rfl, Nat.le_of_ble_eq_true rfl⟩) hK hX rfl hl.1 rfl (Nat.le_of_ble_eq_true rfl) dX8_join_54 ⟨Nat.zero_le _, Nat.zero_le _⟩ (fun H locs hX => ?_)
      refine lv_iconst (v := 3) hx hb dX8_join_57 (by decide) ?_
      refine lv_icmp_ge (tgt := 71) hx hb dX8_join_58 (by decide) (fun c8 => ?_) (fun c8 => ?_)
      · replace h := mpos c8 h
        exact w_X_Court_join_71 C hlf ht hxs hA h hX (lv_sub hl [0] rfl)
      · replace h := mneg c8 h
        refine lv_aload_n hx hb dX8_join_61 rfl (lv_at hl 0 rfl) ?_
        refine lv_aload_n hx hb dX8_join_62 rfl (lv_at hl 1 rfl) ?_
        refine lv_aload hx hb dX8_join_63 (lv_at hl 2 rfl) ?_
        obtain ⟨r9, er9, h⟩ := mbind h
        refine cg_callV (As := [.ref (ad 7 i3), .ref (ad 5 i4)]) (rest := []) ⟨hx, hb, hml, hown, hts⟩ 0 0 rfl (ci := 9) rfl rfl (cC_Court_isTooOldFor l D yI yO z0 ad er9) (cwV 2 hts gX8_join_X8_isTooOldFor rfl rfl rfl (by decide +kernel) ⟨Nat.le_of_ble_eq_true rfl, Nat.le_of_ble_eq_true rfl⟩) hK hX rfl hl.1 rfl (Nat.le_of_ble_eq_true rfl) dX8_join_65 ⟨Nat.zero_le _, Nat.zero_le _⟩ (fun H locs hX => ?_)
        refine lv_if_eq (tgt := 82) hx hb dX8_join_68 (by decide) (fun c10 => ?_) (fun c10 => ?_)
        · replace h := mpos c10 h
          refine lv_aload_n hx hb dX8_join_82 rfl (lv_at hl 1 rfl) ?_
          refine lv_dup hx hb dX8_join_83 rfl ?_
          refine cg_get hx hb hts iC_Court_join_X4 hown hK hX 7 i3 hv2 rfl rfl 7 (by decide) (hts (.fieldLink RX8 270 "PassageCourt$Request" "followers" "I") (by decide +kernel)) (fun _ h9 => h9) rfl dX8_join_84 ?_
          refine lv_iconst (v := 1) hx hb dX8_join_87 (by decide) ?_
          refine lv_aload hx hb dX8_join_88 (lv_at hl 2 rfl) ?_
          refine cg_get hx hb hts iC_Court_join_X3 hown hK hX 5 i4 hv3 rfl rfl 0 (by decide) (hts (.fieldLink RX8 101 "PassageCourt$Person" "number" "I") (by decide +kernel)) (fun _ h9 => h9) rfl dX8_join_90 ?_
          refine lv_ishl hx hb dX8_join_93 ?_
          refine lv_ior hx hb dX8_join_94 ?_
          obtain ⟨g11, eg11, h⟩ := mbind h
          refine cg_put hx hb hts iC_Court_join_X4 tyX4 tyX4_ok nmX4 hown hK hX 7 i3 hv2 rfl rfl 7 (by decide) (hts (.fieldLink RX8 270 "PassageCourt$Request" "followers" "I") (by decide +kernel)) (fun _ h9 => h9) rfl (by decide +kernel) rfl rfl (ty := .int) (g1 := (uI g 7 i3 7 ((sI g 7 i3 7) ||| (1 <<< ((sI g 5 i4 0) &&& 31))))) (Nat.le_of_ble_eq_true rfl) (by unfold cent; rw [sI_up]; rfl) (fun _ _ => rfl) rfl (fun _ _ hab => cent_uI yI yO ad _ _ _ hab) dX8_join_95 (fun H locs hX => ?_)
          have eg11 := Option.some.inj eg11
          rw [eg11] at hX
          have hv12 : clvb g11 7 i3 = true := by rw [← eg11]; exact hv2
          have hv13 : clvb g11 5 i4 = true := by rw [← eg11]; exact hv3
          refine lv_aload_n hx hb dX8_join_98 rfl (lv_at hl 1 rfl) ?_
          obtain ⟨r14, er14, h⟩ := mbind h
          refine cg_callV (As := []) (rest := []) ⟨hx, hb, hml, hown, hts⟩ 7 i3 hv12 (ci := 5) rfl rfl (cC_Request_countFollowers l D yI yO z0 ad er14) (cwV 0 hts gX8_join_X4_countFollowers rfl rfl rfl (by decide +kernel) ⟨Nat.le_of_ble_eq_true rfl, Nat.le_of_ble_eq_true rfl⟩) hK hX rfl hl.1 rfl (Nat.le_of_ble_eq_true rfl) dX8_join_99 ⟨Nat.zero_le _, Nat.zero_le _⟩ (fun H locs hX => ?_)
          cases h
        · replace h := mneg c10 h
          exact w_X_Court_join_71 C hlf ht hxs hA h hX (lv_sub hl [0] rfl)
def fC_Court_join (g : CS) (x1 : Int32) (x2 : Int32) : Option (Nat ⊕ (Int32 × CS)) :=
  xb (fC_Court_requestAt g x1) fun v1 =>
  xb (fC_Court_personAt g x2) fun v3 =>
  (ck g 7 v1).bind fun _ =>
  if (sI g 7 v1 5) = 0 then
    fC_Court_join_26 g v1 v3 1
  else
    fC_Court_join_26 g v1 v3 0
set_option maxRecDepth 20000 in
theorem w_C_Court_join_0 (C : cC p s m args meth c cX8_join RX8 (some .int) wsX8_join 5 D yI yO) {gz : CS} {rz : Int32} {g : CS} {x1 : Int32} {x2 : Int32} (h : fC_Court_join g x1 x2 = some (.inr (rz, gz))) {H : Heap} {locs : List Loc} {ls : Array Slot} (hX : cX D yI yO z0 ad g A s H locs) (hl : lv_has ls 5 [(0, .ref (ad 0 0)), (1, .int x1), (2, .int x2)]) : W p l e (mR 4 85) s m args below meth c H locs 0 0 (MQ below (cQ D yI yO z0 ad rz gz A) args s 0 0 A) (F0 m 0 ls []) := by
  obtain ⟨hx, hb, hr, hts, hown, hlocks, hml, hK⟩ := id C
  unfold fC_Court_join at h
  refine lv_aload_n hx hb dX8_join_0 rfl (lv_at hl 0 rfl) ?_
  refine lv_iload_n hx hb dX8_join_1 rfl (lv_at hl 1 rfl) ?_
  obtain ⟨v1, et2, h⟩ := xb_ret h
  refine cg_callVq (As := [.int x1]) (rest := []) ⟨hx, hb, hml, hown, hts⟩ 0 0 rfl (ci := 9) rfl rfl (cC_Court_requestAt l D yI yO z0 ad et2) (cwV 1 hts gX8_join_X8_requestAt rfl rfl rfl (by decide +kernel) ⟨Nat.le_of_ble_eq_true rfl, Nat.le_of_ble_eq_true rfl⟩) hK hX rfl hl.1 rfl (Nat.le_of_ble_eq_true rfl) dX8_join_2 ⟨Nat.zero_le _, Nat.zero_le _⟩ (fun H locs hX => ?_)
  refine W.eq (g2 := F0 m 5 ls [.ref (ad 7 v1)]) rfl ?_
  refine lv_astore_n (lv' := [(3, .ref (ad 7 v1)), (0, .ref (ad 0 0)), (1, .int x1), (2, .int x2)]) hx hb dX8_join_5 rfl hl (by decide) rfl (fun ls hl => ?_)
  refine lv_aload_n hx hb dX8_join_6 rfl (lv_at hl 1 rfl) ?_
  refine lv_iload_n hx hb dX8_join_7 rfl (lv_at hl 3 rfl) ?_
  obtain ⟨v3, et4, h⟩ := xb_ret h
  refine cg_callVq (As := [.int x2]) (rest := []) ⟨hx, hb, hml, hown, hts⟩ 0 0 rfl (ci := 9) rfl rfl (cC_Court_personAt l D yI yO z0 ad et4) (cwV 1 hts gX8_join_X8_personAt rfl rfl rfl (by decide +kernel) ⟨Nat.le_of_ble_eq_true rfl, Nat.le_of_ble_eq_true rfl⟩) hK hX rfl hl.1 rfl (Nat.le_of_ble_eq_true rfl) dX8_join_8 ⟨Nat.zero_le _, Nat.zero_le _⟩ (fun H locs hX => ?_)
  refine W.eq (g2 := F0 m 11 ls [.ref (ad 5 v3)]) rfl ?_
  refine lv_astore (lv' := [(4, .ref (ad 5 v3)), (3, .ref (ad 7 v1)), (0, .ref (ad 0 0)), (1, .int x1), (2, .int x2)]) hx hb dX8_join_11 hl (by decide) rfl (fun ls hl => ?_)
  refine lv_aload_n hx hb dX8_join_13 rfl (lv_at hl 2 rfl) ?_
  refine lv_aload_n hx hb dX8_join_14 rfl (lv_at hl 1 rfl) ?_
  obtain ⟨_, hv5, h⟩ := mbind h
  replace hv5 := ck_spec hv5
  refine cg_get hx hb hts iC_Court_join_X4 hown hK hX 7 v1 hv5 rfl rfl 5 (by decide) (hts (.fieldLink RX8 248 "PassageCourt$Request" "state" "I") (by decide +kernel)) (fun _ h9 => h9) rfl dX8_join_15 ?_
  refine lv_if_ne (tgt := 25) hx hb dX8_join_18 (by decide) (fun c6 => ?_) (fun c6 => ?_)
  · replace h := mneg c6 h
    refine lv_iconst (v := 0) hx hb dX8_join_25 (by decide) ?_
    exact w_C_Court_join_26 C h hX (lv_sub hl [2, 1, 0] rfl)
  · replace h := mpos c6 h
    refine lv_iconst (v := 1) hx hb dX8_join_21 (by decide) ?_
    refine lv_goto (tgt := 26) hx hb dX8_join_22 (by decide) ?_
    exact w_C_Court_join_26 C h hX (lv_sub hl [2, 1, 0] rfl)
set_option maxRecDepth 20000 in
theorem w_X_Court_join_0 (C : cC p s m args meth c cX8_join RX8 (some .int) wsX8_join 5 D yI yO) {Qc : Array Value → State → Outcome → State → Prop} (hlf : l.stackTraces = false) (ht : ∀ x ∈ c.exceptionTable.toList, False) (hxs : xS A s s.heap) (hA : ∀ q, s.heap.size ≤ q → A q) {ez : Nat} {g : CS} {x1 : Int32} {x2 : Int32} (h : fC_Court_join g x1 x2 = some (.inl ez)) {H : Heap} {locs : List Loc} {ls : Array Slot} (hX : cX D yI yO z0 ad g A s H locs) (hl : lv_has ls 5 [(0, .ref (ad 0 0)), (1, .int x1), (2, .int x2)]) : W p l e (xR 7 111) s m args below meth c H locs 0 0 (vx_MQ below Qc (xXC D yI yO z0 ad g ez A) args s 1 6 A) (F0 m 0 ls []) := by
  obtain ⟨hx, hb, hr, hts, hown, hlocks, hml, hK⟩ := id C
  unfold fC_Court_join at h
  refine lv_aload_n hx hb dX8_join_0 rfl (lv_at hl 0 rfl) ?_
  refine lv_iload_n hx hb dX8_join_1 rfl (lv_at hl 1 rfl) ?_
  rcases xb_thr h with et2 | ⟨v1, et2, h⟩
  · exact xg_callV (As := [.int x1]) (rest := []) ⟨hx, hb, hml, hown, hts⟩ 0 0 rfl (ci := 9) rfl rfl (cX_Court_requestAt l hlf D yI yO z0 ad H.size et2) (cwV 1 hts gX8_join_X8_requestAt rfl rfl rfl (by decide +kernel) ⟨Nat.le_of_ble_eq_true rfl, Nat.le_of_ble_eq_true rfl⟩) hK hX hA hxs ht hlocks rfl hl.1 rfl (Nat.le_of_ble_eq_true rfl) dX8_join_2 ⟨Nat.le_refl _, Nat.le_refl _⟩
  refine cg_callVq (As := [.int x1]) (rest := []) ⟨hx, hb, hml, hown, hts⟩ 0 0 rfl (ci := 9) rfl rfl (cC_Court_requestAt l D yI yO z0 ad et2) (cwV 1 hts gX8_join_X8_requestAt rfl rfl rfl (by decide +kernel) ⟨Nat.le_of_ble_eq_true rfl, Nat.le_of_ble_eq_true rfl⟩) hK hX rfl hl.1 rfl (Nat.le_of_ble_eq_true rfl) dX8_join_2 ⟨Nat.zero_le _, Nat.zero_le _⟩ (fun H locs hX => ?_)
  refine W.eq (g2 := F0 m 5 ls [.ref (ad 7 v1)]) rfl ?_
  refine lv_astore_n (lv' := [(3, .ref (ad 7 v1)), (0, .ref (ad 0 0)), (1, .int x1), (2, .int x2)]) hx hb dX8_join_5 rfl hl (by decide) rfl (fun ls hl => ?_)
  refine lv_aload_n hx hb dX8_join_6 rfl (lv_at hl 1 rfl) ?_
  refine lv_iload_n hx hb dX8_join_7 rfl (lv_at hl 3 rfl) ?_
  rcases xb_thr h with et4 | ⟨v3, et4, h⟩
  · exact xg_callV (As := [.int x2]) (rest := []) ⟨hx, hb, hml, hown, hts⟩ 0 0 rfl (ci := 9) rfl rfl (cX_Court_personAt l hlf D yI yO z0 ad H.size et4) (cwV 1 hts gX8_join_X8_personAt rfl rfl rfl (by decide +kernel) ⟨Nat.le_of_ble_eq_true rfl, Nat.le_of_ble_eq_true rfl⟩) hK hX hA hxs ht hlocks rfl hl.1 rfl (Nat.le_of_ble_eq_true rfl) dX8_join_8 ⟨Nat.le_refl _, Nat.le_refl _⟩
  refine cg_callVq (As := [.int x2]) (rest := []) ⟨hx, hb, hml, hown, hts⟩ 0 0 rfl (ci := 9) rfl rfl (cC_Court_personAt l D yI yO z0 ad et4) (cwV 1 hts gX8_join_X8_personAt rfl rfl rfl (by decide +kernel) ⟨Nat.le_of_ble_eq_true rfl, Nat.le_of_ble_eq_true rfl⟩) hK hX rfl hl.1 rfl (Nat.le_of_ble_eq_true rfl) dX8_join_8 ⟨Nat.zero_le _, Nat.zero_le _⟩ (fun H locs hX => ?_)
  refine W.eq (g2 := F0 m 11 ls [.ref (ad 5 v3)]) rfl ?_
  refine lv_astore (lv' := [(4, .ref (ad 5 v3)), (3, .ref (ad 7 v1)), (0, .ref (ad 0 0)), (1, .int x1), (2, .int x2)]) hx hb dX8_join_11 hl (by decide) rfl (fun ls hl => ?_)
  refine lv_aload_n hx hb dX8_join_13 rfl (lv_at hl 2 rfl) ?_
  refine lv_aload_n hx hb dX8_join_14 rfl (lv_at hl 1 rfl) ?_
  obtain ⟨_, hv5, h⟩ := mbind h
  replace hv5 := ck_spec hv5
  refine cg_get hx hb hts iC_Court_join_X4 hown hK hX 7 v1 hv5 rfl rfl 5 (by decide) (hts (.fieldLink RX8 248 "PassageCourt$Request" "state" "I") (by decide +kernel)) (fun _ h9 => h9) rfl dX8_join_15 ?_
  refine lv_if_ne (tgt := 25) hx hb dX8_join_18 (by decide) (fun c6 => ?_) (fun c6 => ?_)
  · replace h := mneg c6 h
    refine lv_iconst (v := 0) hx hb dX8_join_25 (by decide) ?_
    exact w_X_Court_join_26 C hlf ht hxs hA h hX (lv_sub hl [2, 1, 0] rfl)
  · replace h := mpos c6 h
    refine lv_iconst (v := 1) hx hb dX8_join_21 (by decide) ?_
    refine lv_goto (tgt := 26) hx hb dX8_join_22 (by decide) ?_
    exact w_X_Court_join_26 C hlf ht hxs hA h hX (lv_sub hl [2, 1, 0] rfl)
set_option maxRecDepth 20000 in
theorem cC_Court_join (l : Launch) (D : va_G) (yI yO : ClassId) (z0 : Nat) (ad : Nat → Nat → Nat) {g : CS} {gz : CS} {rz : Int32} {x1 : Int32} {x2 : Int32} (h : fC_Court_join g x1 x2 = some (.inr (rz, gz))) : Met l yX8_join wsX8_join (mR 4 85) (va_Pc [.ref (ad 0 0), .int x1, .int x2] (cPre D yI yO z0 ad g)) (cQ D yI yO z0 ad rz gz (cF ad g)) 0 0 (cF ad g) := by
  refine Met.ofW (cc := cX8_join) (maxL := 5) (ret := (some .int)) (by decide) rfl ?_
  intro p e s m args below meth c s₁ B hml hv
  obtain ⟨hv0, hw, hK⟩ := hv
  have hv1 : args = [.ref (ad 0 0), .int x1, .int x2].toArray := hv0
  subst hv1
  have C : cC p s m _ meth c cX8_join RX8 (some .int) wsX8_join 5 D yI yO := ⟨B.exec, B.bytes, B.returns, atoms_spec (ws := wsX8_join) B.pre, findClass_of_methodNamed B.named, B.notSynchronized, hml, hK⟩
  have hl := lv_entry ([.ref (ad 0 0), .int x1, .int x2]) (n := 5) (Nat.le_of_ble_eq_true rfl)
  rw [lg_entry_eq]
  generalize (lg_sl ([.ref (ad 0 0), .int x1, .int x2]) ++ List.replicate (5 - (lg_sl ([.ref (ad 0 0), .int x1, .int x2])).length) Slot.unset).toArray = ls at hl ⊢
  have hl : lv_has ls 5 [(0, .ref (ad 0 0)), (1, .int x1), (2, .int x2)] := hl
  exact w_C_Court_join_0 C h ⟨hw, fun k i hi => ⟨k, i, hi, rfl⟩, va_S.rf⟩ hl
set_option maxRecDepth 20000 in
theorem cX_Court_join (l : Launch) (hlf : l.stackTraces = false) (D : va_G) (yI yO : ClassId) (z0 : Nat) (ad : Nat → Nat → Nat) {g : CS} {ez : Nat} {x1 : Int32} {x2 : Int32} (sz : Nat) (h : fC_Court_join g x1 x2 = some (.inl ez)) : vx_Met l yX8_join wsX8_join (xR 7 111) (va_Pc [.ref (ad 0 0), .int x1, .int x2] (xPre D yI yO z0 ad g sz)) (xQ (cA ad g sz)) (xXC D yI yO z0 ad g ez (cA ad g sz)) 1 6 (cA ad g sz) := by
  refine vx_ofW (cc := cX8_join) (maxL := 5) (ret := (some .int)) (by decide) rfl ?_
  intro p e s m args below meth c s₁ B hml ht hv
  obtain ⟨hv0, ⟨hw, hK⟩, hsz, hxs⟩ := hv
  subst hsz
  have hv1 : args = [.ref (ad 0 0), .int x1, .int x2].toArray := hv0
  subst hv1
  have C : cC p s m _ meth c cX8_join RX8 (some .int) wsX8_join 5 D yI yO := ⟨B.exec, B.bytes, B.returns, atoms_spec (ws := wsX8_join) B.pre, findClass_of_methodNamed B.named, B.notSynchronized, hml, hK⟩
  have hl := lv_entry ([.ref (ad 0 0), .int x1, .int x2]) (n := 5) (Nat.le_of_ble_eq_true rfl)
  rw [lg_entry_eq]
  generalize (lg_sl ([.ref (ad 0 0), .int x1, .int x2]) ++ List.replicate (5 - (lg_sl ([.ref (ad 0 0), .int x1, .int x2])).length) Slot.unset).toArray = ls at hl ⊢
  have hl : lv_has ls 5 [(0, .ref (ad 0 0)), (1, .int x1), (2, .int x2)] := hl
  exact w_X_Court_join_0 C hlf ht hxs (fun q h => Or.inr h) h ⟨hw, fun k i hi => Or.inl ⟨k, i, hi, rfl⟩, va_S.rf⟩ hl
theorem iC_Court_refuse_X4 : ∀ w ∈ wsX40, w ∈ wsX8_refuse := by decide +kernel
theorem iC_Court_refuse_X8 : ∀ w ∈ wsX80, w ∈ wsX8_refuse := by decide +kernel
def fC_Court_refuse_19 (g : CS) (i2 : Nat) (xs0 : Int32) : Option (Nat ⊕ (Int32 × CS)) :=
  xb (fC_Court_refuseUnless g xs0) fun _ =>
  (ck g 7 i2).bind fun _ =>
  (some (uI g 7 i2 5 2)).bind fun g3 =>
  (some (uI g3 7 i2 6 ((sI g3 0 0 6) + 30))).bind fun g5 =>
  some (.inr (sI g5 7 i2 6, g5))
set_option maxRecDepth 20000 in
theorem w_C_Court_refuse_19 (C : cC p s m args meth c cX8_refuse RX8 (some .int) wsX8_refuse 3 D yI yO) {gz : CS} {rz : Int32} {g : CS} {i2 : Nat} {xs0 : Int32} (h : fC_Court_refuse_19 g i2 xs0 = some (.inr (rz, gz))) {H : Heap} {locs : List Loc} {ls : Array Slot} (hX : cX D yI yO z0 ad g A s H locs) (hl : lv_has ls 3 [(0, .ref (ad 0 0)), (2, .ref (ad 7 i2))]) : W p l e (mR 4 85) s m args below meth c H locs 0 0 (MQ below (cQ D yI yO z0 ad rz gz A) args s 0 0 A) (F0 m 19 ls [.int xs0, .ref (ad 0 0)]) := by
  obtain ⟨hx, hb, hr, hts, hown, hlocks, hml, hK⟩ := id C
  unfold fC_Court_refuse_19 at h
  obtain ⟨_, et1, h⟩ := xb_ret h
  refine cg_callVv (As := [.int xs0]) (rest := []) ⟨hx, hb, hml, hown, hts⟩ 0 0 rfl (ci := 9) rfl rfl (cC_Court_refuseUnless l D yI yO z0 ad et1) (cwV 1 hts gX8_refuse_X8_refuseUnless rfl rfl rfl (by decide +kernel) ⟨Nat.le_of_ble_eq_true rfl, Nat.le_of_ble_eq_true rfl⟩) hK hX rfl hl.1 rfl (Nat.le_of_ble_eq_true rfl) dX8_refuse_19 ⟨Nat.zero_le _, Nat.zero_le _⟩ (fun H locs hX => ?_)
  refine lv_aload_n hx hb dX8_refuse_22 rfl (lv_at hl 1 rfl) ?_
  refine lv_iconst (v := 2) hx hb dX8_refuse_23 (by decide) ?_
  obtain ⟨_, hv2, h⟩ := mbind h
  replace hv2 := ck_spec hv2
  obtain ⟨g3, eg3, h⟩ := mbind h
  refine cg_put hx hb hts iC_Court_refuse_X4 tyX4 tyX4_ok nmX4 hown hK hX 7 i2 hv2 rfl rfl 5 (by decide) (hts (.fieldLink RX8 248 "PassageCourt$Request" "state" "I") (by decide +kernel)) (fun _ h9 => h9) rfl (by decide +kernel) rfl rfl (ty := .int) (g1 := (uI g 7 i2 5 2)) (Nat.le_of_ble_eq_true rfl) (by unfold cent; rw [sI_up]; rfl) (fun _ _ => rfl) rfl (fun _ _ hab => cent_uI yI yO ad _ _ _ hab) dX8_refuse_24 (fun H locs hX => ?_)
  have eg3 := Option.some.inj eg3
  rw [eg3] at hX
  have hv4 : clvb g3 7 i2 = true := by rw [← eg3]; exact hv2
  refine lv_aload_n hx hb dX8_refuse_27 rfl (lv_at hl 1 rfl) ?_
  refine lv_aload_n hx hb dX8_refuse_28 rfl (lv_at hl 0 rfl) ?_
  refine cg_get hx hb hts iC_Court_refuse_X8 hown hK hX 0 0 rfl rfl rfl 6 (by decide) (hts (.fieldLink RX8 37 "PassageCourt" "today" "I") (by decide +kernel)) (fun _ h9 => h9) rfl dX8_refuse_29 ?_
  refine lv_bipush (v := 30) hx hb dX8_refuse_32 (by decide) ?_
  refine lv_iadd hx hb dX8_refuse_34 ?_
  obtain ⟨g5, eg5, h⟩ := mbind h
  refine cg_put hx hb hts iC_Court_refuse_X4 tyX4 tyX4_ok nmX4 hown hK hX 7 i2 hv4 rfl rfl 6 (by decide) (hts (.fieldLink RX8 273 "PassageCourt$Request" "lastDay" "I") (by decide +kernel)) (fun _ h9 => h9) rfl (by decide +kernel) rfl rfl (ty := .int) (g1 := (uI g3 7 i2 6 ((sI g3 0 0 6) + 30))) (Nat.le_of_ble_eq_true rfl) (by unfold cent; rw [sI_up]; rfl) (fun _ _ => rfl) rfl (fun _ _ hab => cent_uI yI yO ad _ _ _ hab) dX8_refuse_35 (fun H locs hX => ?_)
  have eg5 := Option.some.inj eg5
  rw [eg5] at hX
  have hv6 : clvb g5 7 i2 = true := by rw [← eg5]; exact hv4
  refine lv_aload_n hx hb dX8_refuse_38 rfl (lv_at hl 1 rfl) ?_
  refine cg_get hx hb hts iC_Court_refuse_X4 hown hK hX 7 i2 hv6 rfl rfl 6 (by decide) (hts (.fieldLink RX8 273 "PassageCourt$Request" "lastDay" "I") (by decide +kernel)) (fun _ h9 => h9) rfl dX8_refuse_39 ?_
  cases h
  exact cg_reti hx hb hr hlocks hK hX dX8_refuse_42
set_option maxRecDepth 20000 in
theorem w_X_Court_refuse_19 (C : cC p s m args meth c cX8_refuse RX8 (some .int) wsX8_refuse 3 D yI yO) {Qc : Array Value → State → Outcome → State → Prop} (hlf : l.stackTraces = false) (ht : ∀ x ∈ c.exceptionTable.toList, False) (hxs : xS A s s.heap) (hA : ∀ q, s.heap.size ≤ q → A q) {ez : Nat} {g : CS} {i2 : Nat} {xs0 : Int32} (h : fC_Court_refuse_19 g i2 xs0 = some (.inl ez)) {H : Heap} {locs : List Loc} {ls : Array Slot} (hX : cX D yI yO z0 ad g A s H locs) (hl : lv_has ls 3 [(0, .ref (ad 0 0)), (2, .ref (ad 7 i2))]) : W p l e (xR 7 111) s m args below meth c H locs 0 0 (vx_MQ below Qc (xXC D yI yO z0 ad g ez A) args s 1 6 A) (F0 m 19 ls [.int xs0, .ref (ad 0 0)]) := by
  obtain ⟨hx, hb, hr, hts, hown, hlocks, hml, hK⟩ := id C
  unfold fC_Court_refuse_19 at h
  rcases xb_thr h with et1 | ⟨_, et1, h⟩
  · exact xg_callV (As := [.int xs0]) (rest := []) ⟨hx, hb, hml, hown, hts⟩ 0 0 rfl (ci := 9) rfl rfl (cX_Court_refuseUnless l hlf D yI yO z0 ad H.size et1) (cwV 1 hts gX8_refuse_X8_refuseUnless rfl rfl rfl (by decide +kernel) ⟨Nat.le_of_ble_eq_true rfl, Nat.le_of_ble_eq_true rfl⟩) hK hX hA hxs ht hlocks rfl hl.1 rfl (Nat.le_of_ble_eq_true rfl) dX8_refuse_19 ⟨Nat.le_refl _, Nat.le_refl _⟩
  refine cg_callVv (As := [.int xs0]) (rest := []) ⟨hx, hb, hml, hown, hts⟩ 0 0 rfl (ci := 9) rfl rfl (cC_Court_refuseUnless l D yI yO z0 ad et1) (cwV 1 hts gX8_refuse_X8_refuseUnless rfl rfl rfl (by decide +kernel) ⟨Nat.le_of_ble_eq_true rfl, Nat.le_of_ble_eq_true rfl⟩) hK hX rfl hl.1 rfl (Nat.le_of_ble_eq_true rfl) dX8_refuse_19 ⟨Nat.zero_le _, Nat.zero_le _⟩ (fun H locs hX => ?_)
  refine lv_aload_n hx hb dX8_refuse_22 rfl (lv_at hl 1 rfl) ?_
  refine lv_iconst (v := 2) hx hb dX8_refuse_23 (by decide) ?_
  obtain ⟨_, hv2, h⟩ := mbind h
  replace hv2 := ck_spec hv2
  obtain ⟨g3, eg3, h⟩ := mbind h
  refine cg_put hx hb hts iC_Court_refuse_X4 tyX4 tyX4_ok nmX4 hown hK hX 7 i2 hv2 rfl rfl 5 (by decide) (hts (.fieldLink RX8 248 "PassageCourt$Request" "state" "I") (by decide +kernel)) (fun _ h9 => h9) rfl (by decide +kernel) rfl rfl (ty := .int) (g1 := (uI g 7 i2 5 2)) (Nat.le_of_ble_eq_true rfl) (by unfold cent; rw [sI_up]; rfl) (fun _ _ => rfl) rfl (fun _ _ hab => cent_uI yI yO ad _ _ _ hab) dX8_refuse_24 (fun H locs hX => ?_)
  have eg3 := Option.some.inj eg3
  rw [eg3] at hX
  have hv4 : clvb g3 7 i2 = true := by rw [← eg3]; exact hv2
  refine lv_aload_n hx hb dX8_refuse_27 rfl (lv_at hl 1 rfl) ?_
  refine lv_aload_n hx hb dX8_refuse_28 rfl (lv_at hl 0 rfl) ?_
  refine cg_get hx hb hts iC_Court_refuse_X8 hown hK hX 0 0 rfl rfl rfl 6 (by decide) (hts (.fieldLink RX8 37 "PassageCourt" "today" "I") (by decide +kernel)) (fun _ h9 => h9) rfl dX8_refuse_29 ?_
  refine lv_bipush (v := 30) hx hb dX8_refuse_32 (by decide) ?_
  refine lv_iadd hx hb dX8_refuse_34 ?_
  obtain ⟨g5, eg5, h⟩ := mbind h
  refine cg_put hx hb hts iC_Court_refuse_X4 tyX4 tyX4_ok nmX4 hown hK hX 7 i2 hv4 rfl rfl 6 (by decide) (hts (.fieldLink RX8 273 "PassageCourt$Request" "lastDay" "I") (by decide +kernel)) (fun _ h9 => h9) rfl (by decide +kernel) rfl rfl (ty := .int) (g1 := (uI g3 7 i2 6 ((sI g3 0 0 6) + 30))) (Nat.le_of_ble_eq_true rfl) (by unfold cent; rw [sI_up]; rfl) (fun _ _ => rfl) rfl (fun _ _ hab => cent_uI yI yO ad _ _ _ hab) dX8_refuse_35 (fun H locs hX => ?_)
  have eg5 := Option.some.inj eg5
  rw [eg5] at hX
  have hv6 : clvb g5 7 i2 = true := by rw [← eg5]; exact hv4
  refine lv_aload_n hx hb dX8_refuse_38 rfl (lv_at hl 1 rfl) ?_
  refine cg_get hx hb hts iC_Court_refuse_X4 hown hK hX 7 i2 hv6 rfl rfl 6 (by decide) (hts (.fieldLink RX8 273 "PassageCourt$Request" "lastDay" "I") (by decide +kernel)) (fun _ h9 => h9) rfl dX8_refuse_39 ?_
  cases h
def fC_Court_refuse (g : CS) (x1 : Int32) : Option (Nat ⊕ (Int32 × CS)) :=
  xb (fC_Court_requestAt g x1) fun v1 =>
  (ck g 7 v1).bind fun _ =>
  if (sI g 7 v1 5) = 0 then
    fC_Court_refuse_19 g v1 1
  else
    fC_Court_refuse_19 g v1 0
set_option maxRecDepth 20000 in
theorem w_C_Court_refuse_0 (C : cC p s m args meth c cX8_refuse RX8 (some .int) wsX8_refuse 3 D yI yO) {gz : CS} {rz : Int32} {g : CS} {x1 : Int32} (h : fC_Court_refuse g x1 = some (.inr (rz, gz))) {H : Heap} {locs : List Loc} {ls : Array Slot} (hX : cX D yI yO z0 ad g A s H locs) (hl : lv_has ls 3 [(0, .ref (ad 0 0)), (1, .int x1)]) : W p l e (mR 4 85) s m args below meth c H locs 0 0 (MQ below (cQ D yI yO z0 ad rz gz A) args s 0 0 A) (F0 m 0 ls []) := by
  obtain ⟨hx, hb, hr, hts, hown, hlocks, hml, hK⟩ := id C
  unfold fC_Court_refuse at h
  refine lv_aload_n hx hb dX8_refuse_0 rfl (lv_at hl 0 rfl) ?_
  refine lv_iload_n hx hb dX8_refuse_1 rfl (lv_at hl 1 rfl) ?_
  obtain ⟨v1, et2, h⟩ := xb_ret h
  refine cg_callVq (As := [.int x1]) (rest := []) ⟨hx, hb, hml, hown, hts⟩ 0 0 rfl (ci := 9) rfl rfl (cC_Court_requestAt l D yI yO z0 ad et2) (cwV 1 hts gX8_refuse_X8_requestAt rfl rfl rfl (by decide +kernel) ⟨Nat.le_of_ble_eq_true rfl, Nat.le_of_ble_eq_true rfl⟩) hK hX rfl hl.1 rfl (Nat.le_of_ble_eq_true rfl) dX8_refuse_2 ⟨Nat.zero_le _, Nat.zero_le _⟩ (fun H locs hX => ?_)
  refine W.eq (g2 := F0 m 5 ls [.ref (ad 7 v1)]) rfl ?_
  refine lv_astore_n (lv' := [(2, .ref (ad 7 v1)), (0, .ref (ad 0 0)), (1, .int x1)]) hx hb dX8_refuse_5 rfl hl (by decide) rfl (fun ls hl => ?_)
  refine lv_aload_n hx hb dX8_refuse_6 rfl (lv_at hl 1 rfl) ?_
  refine lv_aload_n hx hb dX8_refuse_7 rfl (lv_at hl 0 rfl) ?_
  obtain ⟨_, hv3, h⟩ := mbind h
  replace hv3 := ck_spec hv3
  refine cg_get hx hb hts iC_Court_refuse_X4 hown hK hX 7 v1 hv3 rfl rfl 5 (by decide) (hts (.fieldLink RX8 248 "PassageCourt$Request" "state" "I") (by decide +kernel)) (fun _ h9 => h9) rfl dX8_refuse_8 ?_
  refine lv_if_ne (tgt := 18) hx hb dX8_refuse_11 (by decide) (fun c4 => ?_) (fun c4 => ?_)
  · replace h := mneg c4 h
    refine lv_iconst (v := 0) hx hb dX8_refuse_18 (by decide) ?_
    exact w_C_Court_refuse_19 C h hX (lv_sub hl [1, 0] rfl)
  · replace h := mpos c4 h
    refine lv_iconst (v := 1) hx hb dX8_refuse_14 (by decide) ?_
    refine lv_goto (tgt := 19) hx hb dX8_refuse_15 (by decide) ?_
    exact w_C_Court_refuse_19 C h hX (lv_sub hl [1, 0] rfl)
set_option maxRecDepth 20000 in
theorem w_X_Court_refuse_0 (C : cC p s m args meth c cX8_refuse RX8 (some .int) wsX8_refuse 3 D yI yO) {Qc : Array Value → State → Outcome → State → Prop} (hlf : l.stackTraces = false) (ht : ∀ x ∈ c.exceptionTable.toList, False) (hxs : xS A s s.heap) (hA : ∀ q, s.heap.size ≤ q → A q) {ez : Nat} {g : CS} {x1 : Int32} (h : fC_Court_refuse g x1 = some (.inl ez)) {H : Heap} {locs : List Loc} {ls : Array Slot} (hX : cX D yI yO z0 ad g A s H locs) (hl : lv_has ls 3 [(0, .ref (ad 0 0)), (1, .int x1)]) : W p l e (xR 7 111) s m args below meth c H locs 0 0 (vx_MQ below Qc (xXC D yI yO z0 ad g ez A) args s 1 6 A) (F0 m 0 ls []) := by
  obtain ⟨hx, hb, hr, hts, hown, hlocks, hml, hK⟩ := id C
  unfold fC_Court_refuse at h
  refine lv_aload_n hx hb dX8_refuse_0 rfl (lv_at hl 0 rfl) ?_
  refine lv_iload_n hx hb dX8_refuse_1 rfl (lv_at hl 1 rfl) ?_
  rcases xb_thr h with et2 | ⟨v1, et2, h⟩
  · exact xg_callV (As := [.int x1]) (rest := []) ⟨hx, hb, hml, hown, hts⟩ 0 0 rfl (ci := 9) rfl rfl (cX_Court_requestAt l hlf D yI yO z0 ad H.size et2) (cwV 1 hts gX8_refuse_X8_requestAt rfl rfl rfl (by decide +kernel) ⟨Nat.le_of_ble_eq_true rfl, Nat.le_of_ble_eq_true rfl⟩) hK hX hA hxs ht hlocks rfl hl.1 rfl (Nat.le_of_ble_eq_true rfl) dX8_refuse_2 ⟨Nat.le_refl _, Nat.le_refl _⟩
  refine cg_callVq (As := [.int x1]) (rest := []) ⟨hx, hb, hml, hown, hts⟩ 0 0 rfl (ci := 9) rfl rfl (cC_Court_requestAt l D yI yO z0 ad et2) (cwV 1 hts gX8_refuse_X8_requestAt rfl rfl rfl (by decide +kernel) ⟨Nat.le_of_ble_eq_true rfl, Nat.le_of_ble_eq_true rfl⟩) hK hX rfl hl.1 rfl (Nat.le_of_ble_eq_true rfl) dX8_refuse_2 ⟨Nat.zero_le _, Nat.zero_le _⟩ (fun H locs hX => ?_)
  refine W.eq (g2 := F0 m 5 ls [.ref (ad 7 v1)]) rfl ?_
  refine lv_astore_n (lv' := [(2, .ref (ad 7 v1)), (0, .ref (ad 0 0)), (1, .int x1)]) hx hb dX8_refuse_5 rfl hl (by decide) rfl (fun ls hl => ?_)
  refine lv_aload_n hx hb dX8_refuse_6 rfl (lv_at hl 1 rfl) ?_
  refine lv_aload_n hx hb dX8_refuse_7 rfl (lv_at hl 0 rfl) ?_
  obtain ⟨_, hv3, h⟩ := mbind h
  replace hv3 := ck_spec hv3
  refine cg_get hx hb hts iC_Court_refuse_X4 hown hK hX 7 v1 hv3 rfl rfl 5 (by decide) (hts (.fieldLink RX8 248 "PassageCourt$Request" "state" "I") (by decide +kernel)) (fun _ h9 => h9) rfl dX8_refuse_8 ?_
  refine lv_if_ne (tgt := 18) hx hb dX8_refuse_11 (by decide) (fun c4 => ?_) (fun c4 => ?_)
  · replace h := mneg c4 h
    refine lv_iconst (v := 0) hx hb dX8_refuse_18 (by decide) ?_
    exact w_X_Court_refuse_19 C hlf ht hxs hA h hX (lv_sub hl [1, 0] rfl)
  · replace h := mpos c4 h
    refine lv_iconst (v := 1) hx hb dX8_refuse_14 (by decide) ?_
    refine lv_goto (tgt := 19) hx hb dX8_refuse_15 (by decide) ?_
    exact w_X_Court_refuse_19 C hlf ht hxs hA h hX (lv_sub hl [1, 0] rfl)
set_option maxRecDepth 20000 in
theorem cC_Court_refuse (l : Launch) (D : va_G) (yI yO : ClassId) (z0 : Nat) (ad : Nat → Nat → Nat) {g : CS} {gz : CS} {rz : Int32} {x1 : Int32} (h : fC_Court_refuse g x1 = some (.inr (rz, gz))) : Met l yX8_refuse wsX8_refuse (mR 4 85) (va_Pc [.ref (ad 0 0), .int x1] (cPre D yI yO z0 ad g)) (cQ D yI yO z0 ad rz gz (cF ad g)) 0 0 (cF ad g) := by
  refine Met.ofW (cc := cX8_refuse) (maxL := 3) (ret := (some .int)) (by decide) rfl ?_
  intro p e s m args below meth c s₁ B hml hv
  obtain ⟨hv0, hw, hK⟩ := hv
  have hv1 : args = [.ref (ad 0 0), .int x1].toArray := hv0
  subst hv1
  have C : cC p s m _ meth c cX8_refuse RX8 (some .int) wsX8_refuse 3 D yI yO := ⟨B.exec, B.bytes, B.returns, atoms_spec (ws := wsX8_refuse) B.pre, findClass_of_methodNamed B.named, B.notSynchronized, hml, hK⟩
  have hl := lv_entry ([.ref (ad 0 0), .int x1]) (n := 3) (Nat.le_of_ble_eq_true rfl)
  rw [lg_entry_eq]
  generalize (lg_sl ([.ref (ad 0 0), .int x1]) ++ List.replicate (3 - (lg_sl ([.ref (ad 0 0), .int x1])).length) Slot.unset).toArray = ls at hl ⊢
  have hl : lv_has ls 3 [(0, .ref (ad 0 0)), (1, .int x1)] := hl
  exact w_C_Court_refuse_0 C h ⟨hw, fun k i hi => ⟨k, i, hi, rfl⟩, va_S.rf⟩ hl
set_option maxRecDepth 20000 in
theorem cX_Court_refuse (l : Launch) (hlf : l.stackTraces = false) (D : va_G) (yI yO : ClassId) (z0 : Nat) (ad : Nat → Nat → Nat) {g : CS} {ez : Nat} {x1 : Int32} (sz : Nat) (h : fC_Court_refuse g x1 = some (.inl ez)) : vx_Met l yX8_refuse wsX8_refuse (xR 7 111) (va_Pc [.ref (ad 0 0), .int x1] (xPre D yI yO z0 ad g sz)) (xQ (cA ad g sz)) (xXC D yI yO z0 ad g ez (cA ad g sz)) 1 6 (cA ad g sz) := by
  refine vx_ofW (cc := cX8_refuse) (maxL := 3) (ret := (some .int)) (by decide) rfl ?_
  intro p e s m args below meth c s₁ B hml ht hv
  obtain ⟨hv0, ⟨hw, hK⟩, hsz, hxs⟩ := hv
  subst hsz
  have hv1 : args = [.ref (ad 0 0), .int x1].toArray := hv0
  subst hv1
  have C : cC p s m _ meth c cX8_refuse RX8 (some .int) wsX8_refuse 3 D yI yO := ⟨B.exec, B.bytes, B.returns, atoms_spec (ws := wsX8_refuse) B.pre, findClass_of_methodNamed B.named, B.notSynchronized, hml, hK⟩
  have hl := lv_entry ([.ref (ad 0 0), .int x1]) (n := 3) (Nat.le_of_ble_eq_true rfl)
  rw [lg_entry_eq]
  generalize (lg_sl ([.ref (ad 0 0), .int x1]) ++ List.replicate (3 - (lg_sl ([.ref (ad 0 0), .int x1])).length) Slot.unset).toArray = ls at hl ⊢
  have hl : lv_has ls 3 [(0, .ref (ad 0 0)), (1, .int x1)] := hl
  exact w_X_Court_refuse_0 C hlf ht hxs (fun q h => Or.inr h) h ⟨hw, fun k i hi => Or.inl ⟨k, i, hi, rfl⟩, va_S.rf⟩ hl
theorem iC_Court_appeal_X4 : ∀ w ∈ wsX40, w ∈ wsX8_appeal := by decide +kernel
theorem iC_Court_appeal_X8 : ∀ w ∈ wsX80, w ∈ wsX8_appeal := by decide +kernel
def fC_Court_appeal_20 (g : CS) (i2 : Nat) (xs0 : Int32) : Option (Nat ⊕ (Int32 × CS)) :=
  xb (fC_Court_refuseUnless g xs0) fun _ =>
  (ck g 7 i2).bind fun _ =>
  (some (uI g 7 i2 5 3)).bind fun g3 =>
  (some (uI g3 7 i2 6 ((sI g3 0 0 6) + 60))).bind fun g5 =>
  some (.inr (sI g5 7 i2 6, g5))
set_option maxRecDepth 20000 in
theorem w_C_Court_appeal_20 (C : cC p s m args meth c cX8_appeal RX8 (some .int) wsX8_appeal 3 D yI yO) {gz : CS} {rz : Int32} {g : CS} {i2 : Nat} {xs0 : Int32} (h : fC_Court_appeal_20 g i2 xs0 = some (.inr (rz, gz))) {H : Heap} {locs : List Loc} {ls : Array Slot} (hX : cX D yI yO z0 ad g A s H locs) (hl : lv_has ls 3 [(0, .ref (ad 0 0)), (2, .ref (ad 7 i2))]) : W p l e (mR 4 85) s m args below meth c H locs 0 0 (MQ below (cQ D yI yO z0 ad rz gz A) args s 0 0 A) (F0 m 20 ls [.int xs0, .ref (ad 0 0)]) := by
  obtain ⟨hx, hb, hr, hts, hown, hlocks, hml, hK⟩ := id C
  unfold fC_Court_appeal_20 at h
  obtain ⟨_, et1, h⟩ := xb_ret h
  refine cg_callVv (As := [.int xs0]) (rest := []) ⟨hx, hb, hml, hown, hts⟩ 0 0 rfl (ci := 9) rfl rfl (cC_Court_refuseUnless l D yI yO z0 ad et1) (cwV 1 hts gX8_appeal_X8_refuseUnless rfl rfl rfl (by decide +kernel) ⟨Nat.le_of_ble_eq_true rfl, Nat.le_of_ble_eq_true rfl⟩) hK hX rfl hl.1 rfl (Nat.le_of_ble_eq_true rfl) dX8_appeal_20 ⟨Nat.zero_le _, Nat.zero_le _⟩ (fun H locs hX => ?_)
  refine lv_aload_n hx hb dX8_appeal_23 rfl (lv_at hl 1 rfl) ?_
  refine lv_iconst (v := 3) hx hb dX8_appeal_24 (by decide) ?_
  obtain ⟨_, hv2, h⟩ := mbind h
  replace hv2 := ck_spec hv2
  obtain ⟨g3, eg3, h⟩ := mbind h
  refine cg_put hx hb hts iC_Court_appeal_X4 tyX4 tyX4_ok nmX4 hown hK hX 7 i2 hv2 rfl rfl 5 (by decide) (hts (.fieldLink RX8 248 "PassageCourt$Request" "state" "I") (by decide +kernel)) (fun _ h9 => h9) rfl (by decide +kernel) rfl rfl (ty := .int) (g1 := (uI g 7 i2 5 3)) (Nat.le_of_ble_eq_true rfl) (by unfold cent; rw [sI_up]; rfl) (fun _ _ => rfl) rfl (fun _ _ hab => cent_uI yI yO ad _ _ _ hab) dX8_appeal_25 (fun H locs hX => ?_)
  have eg3 := Option.some.inj eg3
  rw [eg3] at hX
  have hv4 : clvb g3 7 i2 = true := by rw [← eg3]; exact hv2
  refine lv_aload_n hx hb dX8_appeal_28 rfl (lv_at hl 1 rfl) ?_
  refine lv_aload_n hx hb dX8_appeal_29 rfl (lv_at hl 0 rfl) ?_
  refine cg_get hx hb hts iC_Court_appeal_X8 hown hK hX 0 0 rfl rfl rfl 6 (by decide) (hts (.fieldLink RX8 37 "PassageCourt" "today" "I") (by decide +kernel)) (fun _ h9 => h9) rfl dX8_appeal_30 ?_
  refine lv_bipush (v := 60) hx hb dX8_appeal_33 (by decide) ?_
  refine lv_iadd hx hb dX8_appeal_35 ?_
  obtain ⟨g5, eg5, h⟩ := mbind h
  refine cg_put hx hb hts iC_Court_appeal_X4 tyX4 tyX4_ok nmX4 hown hK hX 7 i2 hv4 rfl rfl 6 (by decide) (hts (.fieldLink RX8 273 "PassageCourt$Request" "lastDay" "I") (by decide +kernel)) (fun _ h9 => h9) rfl (by decide +kernel) rfl rfl (ty := .int) (g1 := (uI g3 7 i2 6 ((sI g3 0 0 6) + 60))) (Nat.le_of_ble_eq_true rfl) (by unfold cent; rw [sI_up]; rfl) (fun _ _ => rfl) rfl (fun _ _ hab => cent_uI yI yO ad _ _ _ hab) dX8_appeal_36 (fun H locs hX => ?_)
  have eg5 := Option.some.inj eg5
  rw [eg5] at hX
  have hv6 : clvb g5 7 i2 = true := by rw [← eg5]; exact hv4
  refine lv_aload_n hx hb dX8_appeal_39 rfl (lv_at hl 1 rfl) ?_
  refine cg_get hx hb hts iC_Court_appeal_X4 hown hK hX 7 i2 hv6 rfl rfl 6 (by decide) (hts (.fieldLink RX8 273 "PassageCourt$Request" "lastDay" "I") (by decide +kernel)) (fun _ h9 => h9) rfl dX8_appeal_40 ?_
  cases h
  exact cg_reti hx hb hr hlocks hK hX dX8_appeal_43
set_option maxRecDepth 20000 in
theorem w_X_Court_appeal_20 (C : cC p s m args meth c cX8_appeal RX8 (some .int) wsX8_appeal 3 D yI yO) {Qc : Array Value → State → Outcome → State → Prop} (hlf : l.stackTraces = false) (ht : ∀ x ∈ c.exceptionTable.toList, False) (hxs : xS A s s.heap) (hA : ∀ q, s.heap.size ≤ q → A q) {ez : Nat} {g : CS} {i2 : Nat} {xs0 : Int32} (h : fC_Court_appeal_20 g i2 xs0 = some (.inl ez)) {H : Heap} {locs : List Loc} {ls : Array Slot} (hX : cX D yI yO z0 ad g A s H locs) (hl : lv_has ls 3 [(0, .ref (ad 0 0)), (2, .ref (ad 7 i2))]) : W p l e (xR 7 111) s m args below meth c H locs 0 0 (vx_MQ below Qc (xXC D yI yO z0 ad g ez A) args s 1 6 A) (F0 m 20 ls [.int xs0, .ref (ad 0 0)]) := by
  obtain ⟨hx, hb, hr, hts, hown, hlocks, hml, hK⟩ := id C
  unfold fC_Court_appeal_20 at h
  rcases xb_thr h with et1 | ⟨_, et1, h⟩
  · exact xg_callV (As := [.int xs0]) (rest := []) ⟨hx, hb, hml, hown, hts⟩ 0 0 rfl (ci := 9) rfl rfl (cX_Court_refuseUnless l hlf D yI yO z0 ad H.size et1) (cwV 1 hts gX8_appeal_X8_refuseUnless rfl rfl rfl (by decide +kernel) ⟨Nat.le_of_ble_eq_true rfl, Nat.le_of_ble_eq_true rfl⟩) hK hX hA hxs ht hlocks rfl hl.1 rfl (Nat.le_of_ble_eq_true rfl) dX8_appeal_20 ⟨Nat.le_refl _, Nat.le_refl _⟩
  refine cg_callVv (As := [.int xs0]) (rest := []) ⟨hx, hb, hml, hown, hts⟩ 0 0 rfl (ci := 9) rfl rfl (cC_Court_refuseUnless l D yI yO z0 ad et1) (cwV 1 hts gX8_appeal_X8_refuseUnless rfl rfl rfl (by decide +kernel) ⟨Nat.le_of_ble_eq_true rfl, Nat.le_of_ble_eq_true rfl⟩) hK hX rfl hl.1 rfl (Nat.le_of_ble_eq_true rfl) dX8_appeal_20 ⟨Nat.zero_le _, Nat.zero_le _⟩ (fun H locs hX => ?_)
  refine lv_aload_n hx hb dX8_appeal_23 rfl (lv_at hl 1 rfl) ?_
  refine lv_iconst (v := 3) hx hb dX8_appeal_24 (by decide) ?_
  obtain ⟨_, hv2, h⟩ := mbind h
  replace hv2 := ck_spec hv2
  obtain ⟨g3, eg3, h⟩ := mbind h
  refine cg_put hx hb hts iC_Court_appeal_X4 tyX4 tyX4_ok nmX4 hown hK hX 7 i2 hv2 rfl rfl 5 (by decide) (hts (.fieldLink RX8 248 "PassageCourt$Request" "state" "I") (by decide +kernel)) (fun _ h9 => h9) rfl (by decide +kernel) rfl rfl (ty := .int) (g1 := (uI g 7 i2 5 3)) (Nat.le_of_ble_eq_true rfl) (by unfold cent; rw [sI_up]; rfl) (fun _ _ => rfl) rfl (fun _ _ hab => cent_uI yI yO ad _ _ _ hab) dX8_appeal_25 (fun H locs hX => ?_)
  have eg3 := Option.some.inj eg3
  rw [eg3] at hX
  have hv4 : clvb g3 7 i2 = true := by rw [← eg3]; exact hv2
  refine lv_aload_n hx hb dX8_appeal_28 rfl (lv_at hl 1 rfl) ?_
  refine lv_aload_n hx hb dX8_appeal_29 rfl (lv_at hl 0 rfl) ?_
  refine cg_get hx hb hts iC_Court_appeal_X8 hown hK hX 0 0 rfl rfl rfl 6 (by decide) (hts (.fieldLink RX8 37 "PassageCourt" "today" "I") (by decide +kernel)) (fun _ h9 => h9) rfl dX8_appeal_30 ?_
  refine lv_bipush (v := 60) hx hb dX8_appeal_33 (by decide) ?_
  refine lv_iadd hx hb dX8_appeal_35 ?_
  obtain ⟨g5, eg5, h⟩ := mbind h
  refine cg_put hx hb hts iC_Court_appeal_X4 tyX4 tyX4_ok nmX4 hown hK hX 7 i2 hv4 rfl rfl 6 (by decide) (hts (.fieldLink RX8 273 "PassageCourt$Request" "lastDay" "I") (by decide +kernel)) (fun _ h9 => h9) rfl (by decide +kernel) rfl rfl (ty := .int) (g1 := (uI g3 7 i2 6 ((sI g3 0 0 6) + 60))) (Nat.le_of_ble_eq_true rfl) (by unfold cent; rw [sI_up]; rfl) (fun _ _ => rfl) rfl (fun _ _ hab => cent_uI yI yO ad _ _ _ hab) dX8_appeal_36 (fun H locs hX => ?_)
  have eg5 := Option.some.inj eg5
  rw [eg5] at hX
  have hv6 : clvb g5 7 i2 = true := by rw [← eg5]; exact hv4
  refine lv_aload_n hx hb dX8_appeal_39 rfl (lv_at hl 1 rfl) ?_
  refine cg_get hx hb hts iC_Court_appeal_X4 hown hK hX 7 i2 hv6 rfl rfl 6 (by decide) (hts (.fieldLink RX8 273 "PassageCourt$Request" "lastDay" "I") (by decide +kernel)) (fun _ h9 => h9) rfl dX8_appeal_40 ?_
  cases h
def fC_Court_appeal (g : CS) (x1 : Int32) : Option (Nat ⊕ (Int32 × CS)) :=
  xb (fC_Court_requestAt g x1) fun v1 =>
  (ck g 7 v1).bind fun _ =>
  if (sI g 7 v1 5) = 2 then
    fC_Court_appeal_20 g v1 1
  else
    fC_Court_appeal_20 g v1 0
set_option maxRecDepth 20000 in
theorem w_C_Court_appeal_0 (C : cC p s m args meth c cX8_appeal RX8 (some .int) wsX8_appeal 3 D yI yO) {gz : CS} {rz : Int32} {g : CS} {x1 : Int32} (h : fC_Court_appeal g x1 = some (.inr (rz, gz))) {H : Heap} {locs : List Loc} {ls : Array Slot} (hX : cX D yI yO z0 ad g A s H locs) (hl : lv_has ls 3 [(0, .ref (ad 0 0)), (1, .int x1)]) : W p l e (mR 4 85) s m args below meth c H locs 0 0 (MQ below (cQ D yI yO z0 ad rz gz A) args s 0 0 A) (F0 m 0 ls []) := by
  obtain ⟨hx, hb, hr, hts, hown, hlocks, hml, hK⟩ := id C
  unfold fC_Court_appeal at h
  refine lv_aload_n hx hb dX8_appeal_0 rfl (lv_at hl 0 rfl) ?_
  refine lv_iload_n hx hb dX8_appeal_1 rfl (lv_at hl 1 rfl) ?_
  obtain ⟨v1, et2, h⟩ := xb_ret h
  refine cg_callVq (As := [.int x1]) (rest := []) ⟨hx, hb, hml, hown, hts⟩ 0 0 rfl (ci := 9) rfl rfl (cC_Court_requestAt l D yI yO z0 ad et2) (cwV 1 hts gX8_appeal_X8_requestAt rfl rfl rfl (by decide +kernel) ⟨Nat.le_of_ble_eq_true rfl, Nat.le_of_ble_eq_true rfl⟩) hK hX rfl hl.1 rfl (Nat.le_of_ble_eq_true rfl) dX8_appeal_2 ⟨Nat.zero_le _, Nat.zero_le _⟩ (fun H locs hX => ?_)
  refine W.eq (g2 := F0 m 5 ls [.ref (ad 7 v1)]) rfl ?_
  refine lv_astore_n (lv' := [(2, .ref (ad 7 v1)), (0, .ref (ad 0 0)), (1, .int x1)]) hx hb dX8_appeal_5 rfl hl (by decide) rfl (fun ls hl => ?_)
  refine lv_aload_n hx hb dX8_appeal_6 rfl (lv_at hl 1 rfl) ?_
  refine lv_aload_n hx hb dX8_appeal_7 rfl (lv_at hl 0 rfl) ?_
  obtain ⟨_, hv3, h⟩ := mbind h
  replace hv3 := ck_spec hv3
  refine cg_get hx hb hts iC_Court_appeal_X4 hown hK hX 7 v1 hv3 rfl rfl 5 (by decide) (hts (.fieldLink RX8 248 "PassageCourt$Request" "state" "I") (by decide +kernel)) (fun _ h9 => h9) rfl dX8_appeal_8 ?_
  refine lv_iconst (v := 2) hx hb dX8_appeal_11 (by decide) ?_
  refine lv_icmp_ne (tgt := 19) hx hb dX8_appeal_12 (by decide) (fun c4 => ?_) (fun c4 => ?_)
  · replace h := mneg c4 h
    refine lv_iconst (v := 0) hx hb dX8_appeal_19 (by decide) ?_
    exact w_C_Court_appeal_20 C h hX (lv_sub hl [1, 0] rfl)
  · replace h := mpos c4 h
    refine lv_iconst (v := 1) hx hb dX8_appeal_15 (by decide) ?_
    refine lv_goto (tgt := 20) hx hb dX8_appeal_16 (by decide) ?_
    exact w_C_Court_appeal_20 C h hX (lv_sub hl [1, 0] rfl)
set_option maxRecDepth 20000 in
theorem w_X_Court_appeal_0 (C : cC p s m args meth c cX8_appeal RX8 (some .int) wsX8_appeal 3 D yI yO) {Qc : Array Value → State → Outcome → State → Prop} (hlf : l.stackTraces = false) (ht : ∀ x ∈ c.exceptionTable.toList, False) (hxs : xS A s s.heap) (hA : ∀ q, s.heap.size ≤ q → A q) {ez : Nat} {g : CS} {x1 : Int32} (h : fC_Court_appeal g x1 = some (.inl ez)) {H : Heap} {locs : List Loc} {ls : Array Slot} (hX : cX D yI yO z0 ad g A s H locs) (hl : lv_has ls 3 [(0, .ref (ad 0 0)), (1, .int x1)]) : W p l e (xR 7 111) s m args below meth c H locs 0 0 (vx_MQ below Qc (xXC D yI yO z0 ad g ez A) args s 1 6 A) (F0 m 0 ls []) := by
  obtain ⟨hx, hb, hr, hts, hown, hlocks, hml, hK⟩ := id C
  unfold fC_Court_appeal at h
  refine lv_aload_n hx hb dX8_appeal_0 rfl (lv_at hl 0 rfl) ?_
  refine lv_iload_n hx hb dX8_appeal_1 rfl (lv_at hl 1 rfl) ?_
  rcases xb_thr h with et2 | ⟨v1, et2, h⟩
  · exact xg_callV (As := [.int x1]) (rest := []) ⟨hx, hb, hml, hown, hts⟩ 0 0 rfl (ci := 9) rfl rfl (cX_Court_requestAt l hlf D yI yO z0 ad H.size et2) (cwV 1 hts gX8_appeal_X8_requestAt rfl rfl rfl (by decide +kernel) ⟨Nat.le_of_ble_eq_true rfl, Nat.le_of_ble_eq_true rfl⟩) hK hX hA hxs ht hlocks rfl hl.1 rfl (Nat.le_of_ble_eq_true rfl) dX8_appeal_2 ⟨Nat.le_refl _, Nat.le_refl _⟩
  refine cg_callVq (As := [.int x1]) (rest := []) ⟨hx, hb, hml, hown, hts⟩ 0 0 rfl (ci := 9) rfl rfl (cC_Court_requestAt l D yI yO z0 ad et2) (cwV 1 hts gX8_appeal_X8_requestAt rfl rfl rfl (by decide +kernel) ⟨Nat.le_of_ble_eq_true rfl, Nat.le_of_ble_eq_true rfl⟩) hK hX rfl hl.1 rfl (Nat.le_of_ble_eq_true rfl) dX8_appeal_2 ⟨Nat.zero_le _, Nat.zero_le _⟩ (fun H locs hX => ?_)
  refine W.eq (g2 := F0 m 5 ls [.ref (ad 7 v1)]) rfl ?_
  refine lv_astore_n (lv' := [(2, .ref (ad 7 v1)), (0, .ref (ad 0 0)), (1, .int x1)]) hx hb dX8_appeal_5 rfl hl (by decide) rfl (fun ls hl => ?_)
  refine lv_aload_n hx hb dX8_appeal_6 rfl (lv_at hl 1 rfl) ?_
  refine lv_aload_n hx hb dX8_appeal_7 rfl (lv_at hl 0 rfl) ?_
  obtain ⟨_, hv3, h⟩ := mbind h
  replace hv3 := ck_spec hv3
  refine cg_get hx hb hts iC_Court_appeal_X4 hown hK hX 7 v1 hv3 rfl rfl 5 (by decide) (hts (.fieldLink RX8 248 "PassageCourt$Request" "state" "I") (by decide +kernel)) (fun _ h9 => h9) rfl dX8_appeal_8 ?_
  refine lv_iconst (v := 2) hx hb dX8_appeal_11 (by decide) ?_
  refine lv_icmp_ne (tgt := 19) hx hb dX8_appeal_12 (by decide) (fun c4 => ?_) (fun c4 => ?_)
  · replace h := mneg c4 h
    refine lv_iconst (v := 0) hx hb dX8_appeal_19 (by decide) ?_
    exact w_X_Court_appeal_20 C hlf ht hxs hA h hX (lv_sub hl [1, 0] rfl)
  · replace h := mpos c4 h
    refine lv_iconst (v := 1) hx hb dX8_appeal_15 (by decide) ?_
    refine lv_goto (tgt := 20) hx hb dX8_appeal_16 (by decide) ?_
    exact w_X_Court_appeal_20 C hlf ht hxs hA h hX (lv_sub hl [1, 0] rfl)
set_option maxRecDepth 20000 in
theorem cC_Court_appeal (l : Launch) (D : va_G) (yI yO : ClassId) (z0 : Nat) (ad : Nat → Nat → Nat) {g : CS} {gz : CS} {rz : Int32} {x1 : Int32} (h : fC_Court_appeal g x1 = some (.inr (rz, gz))) : Met l yX8_appeal wsX8_appeal (mR 4 85) (va_Pc [.ref (ad 0 0), .int x1] (cPre D yI yO z0 ad g)) (cQ D yI yO z0 ad rz gz (cF ad g)) 0 0 (cF ad g) := by
  refine Met.ofW (cc := cX8_appeal) (maxL := 3) (ret := (some .int)) (by decide) rfl ?_
  intro p e s m args below meth c s₁ B hml hv
  obtain ⟨hv0, hw, hK⟩ := hv
  have hv1 : args = [.ref (ad 0 0), .int x1].toArray := hv0
  subst hv1
  have C : cC p s m _ meth c cX8_appeal RX8 (some .int) wsX8_appeal 3 D yI yO := ⟨B.exec, B.bytes, B.returns, atoms_spec (ws := wsX8_appeal) B.pre, findClass_of_methodNamed B.named, B.notSynchronized, hml, hK⟩
  have hl := lv_entry ([.ref (ad 0 0), .int x1]) (n := 3) (Nat.le_of_ble_eq_true rfl)
  rw [lg_entry_eq]
  generalize (lg_sl ([.ref (ad 0 0), .int x1]) ++ List.replicate (3 - (lg_sl ([.ref (ad 0 0), .int x1])).length) Slot.unset).toArray = ls at hl ⊢
  have hl : lv_has ls 3 [(0, .ref (ad 0 0)), (1, .int x1)] := hl
  exact w_C_Court_appeal_0 C h ⟨hw, fun k i hi => ⟨k, i, hi, rfl⟩, va_S.rf⟩ hl
set_option maxRecDepth 20000 in
theorem cX_Court_appeal (l : Launch) (hlf : l.stackTraces = false) (D : va_G) (yI yO : ClassId) (z0 : Nat) (ad : Nat → Nat → Nat) {g : CS} {ez : Nat} {x1 : Int32} (sz : Nat) (h : fC_Court_appeal g x1 = some (.inl ez)) : vx_Met l yX8_appeal wsX8_appeal (xR 7 111) (va_Pc [.ref (ad 0 0), .int x1] (xPre D yI yO z0 ad g sz)) (xQ (cA ad g sz)) (xXC D yI yO z0 ad g ez (cA ad g sz)) 1 6 (cA ad g sz) := by
  refine vx_ofW (cc := cX8_appeal) (maxL := 3) (ret := (some .int)) (by decide) rfl ?_
  intro p e s m args below meth c s₁ B hml ht hv
  obtain ⟨hv0, ⟨hw, hK⟩, hsz, hxs⟩ := hv
  subst hsz
  have hv1 : args = [.ref (ad 0 0), .int x1].toArray := hv0
  subst hv1
  have C : cC p s m _ meth c cX8_appeal RX8 (some .int) wsX8_appeal 3 D yI yO := ⟨B.exec, B.bytes, B.returns, atoms_spec (ws := wsX8_appeal) B.pre, findClass_of_methodNamed B.named, B.notSynchronized, hml, hK⟩
  have hl := lv_entry ([.ref (ad 0 0), .int x1]) (n := 3) (Nat.le_of_ble_eq_true rfl)
  rw [lg_entry_eq]
  generalize (lg_sl ([.ref (ad 0 0), .int x1]) ++ List.replicate (3 - (lg_sl ([.ref (ad 0 0), .int x1])).length) Slot.unset).toArray = ls at hl ⊢
  have hl : lv_has ls 3 [(0, .ref (ad 0 0)), (1, .int x1)] := hl
  exact w_X_Court_appeal_0 C hlf ht hxs (fun q h => Or.inr h) h ⟨hw, fun k i hi => Or.inl ⟨k, i, hi, rfl⟩, va_S.rf⟩ hl
theorem iC_Court_judge_X4 : ∀ w ∈ wsX40, w ∈ wsX8_judge := by decide +kernel
def fC_Court_judge_33 (g : CS) (i3 : Nat) (xs0 : Int32) (is1 : Nat) : Option (Nat ⊕ (Int32 × CS)) :=
  (ck g 7 is1).bind fun _ =>
  (some (uI g 7 is1 5 xs0)).bind fun g2 =>
  (ck g2 7 i3).bind fun _ =>
  some (.inr (sI g2 7 i3 5, g2))
set_option maxRecDepth 20000 in
theorem w_C_Court_judge_33 (C : cC p s m args meth c cX8_judge RX8 (some .int) wsX8_judge 4 D yI yO) {gz : CS} {rz : Int32} {g : CS} {i3 : Nat} {xs0 : Int32} {is1 : Nat} (h : fC_Court_judge_33 g i3 xs0 is1 = some (.inr (rz, gz))) {H : Heap} {locs : List Loc} {ls : Array Slot} (hX : cX D yI yO z0 ad g A s H locs) (hl : lv_has ls 4 [(0, .ref (ad 0 0)), (3, .ref (ad 7 i3))]) : W p l e (mR 4 85) s m args below meth c H locs 0 0 (MQ below (cQ D yI yO z0 ad rz gz A) args s 0 0 A) (F0 m 33 ls [.int xs0, .ref (ad 7 is1)]) := by
  obtain ⟨hx, hb, hr, hts, hown, hlocks, hml, hK⟩ := id C
  unfold fC_Court_judge_33 at h
  obtain ⟨_, hv1, h⟩ := mbind h
  replace hv1 := ck_spec hv1
  obtain ⟨g2, eg2, h⟩ := mbind h
  refine cg_put hx hb hts iC_Court_judge_X4 tyX4 tyX4_ok nmX4 hown hK hX 7 is1 hv1 rfl rfl 5 (by decide) (hts (.fieldLink RX8 248 "PassageCourt$Request" "state" "I") (by decide +kernel)) (fun _ h9 => h9) rfl (by decide +kernel) rfl rfl (ty := .int) (g1 := (uI g 7 is1 5 xs0)) (Nat.le_of_ble_eq_true rfl) (by unfold cent; rw [sI_up]; rfl) (fun _ _ => rfl) rfl (fun _ _ hab => cent_uI yI yO ad _ _ _ hab) dX8_judge_33 (fun H locs hX => ?_)
  have eg2 := Option.some.inj eg2
  rw [eg2] at hX
  have hv3 : clvb g2 7 is1 = true := by rw [← eg2]; exact hv1
  refine lv_aload_n hx hb dX8_judge_36 rfl (lv_at hl 1 rfl) ?_
  obtain ⟨_, hv4, h⟩ := mbind h
  replace hv4 := ck_spec hv4
  refine cg_get hx hb hts iC_Court_judge_X4 hown hK hX 7 i3 hv4 rfl rfl 5 (by decide) (hts (.fieldLink RX8 248 "PassageCourt$Request" "state" "I") (by decide +kernel)) (fun _ h9 => h9) rfl dX8_judge_37 ?_
  cases h
  exact cg_reti hx hb hr hlocks hK hX dX8_judge_40
theorem nt_C_Court_judge_33 {g : CS} {i3 : Nat} {xs0 : Int32} {is1 : Nat} : ntp (fC_Court_judge_33 g i3 xs0 is1) := by
  unfold fC_Court_judge_33
  repeat' first | exact ntp_inr _ | exact ntp_none | refine ntp_bind (fun _ => ?_) | refine ntp_cb2 (fun _ _ => ?_) | refine ntp_om ?_ (fun _ => ?_) | refine ntp_ite ?_ ?_
def fC_Court_judge_20 (g : CS) (x2 : Int32) (i3 : Nat) (xs0 : Int32) : Option (Nat ⊕ (Int32 × CS)) :=
  xb (fC_Court_refuseUnless g xs0) fun _ =>
  if x2 = 0 then
    fC_Court_judge_33 g i3 4 i3
  else
    fC_Court_judge_33 g i3 0 i3
set_option maxRecDepth 20000 in
theorem w_C_Court_judge_20 (C : cC p s m args meth c cX8_judge RX8 (some .int) wsX8_judge 4 D yI yO) {gz : CS} {rz : Int32} {g : CS} {x2 : Int32} {i3 : Nat} {xs0 : Int32} (h : fC_Court_judge_20 g x2 i3 xs0 = some (.inr (rz, gz))) {H : Heap} {locs : List Loc} {ls : Array Slot} (hX : cX D yI yO z0 ad g A s H locs) (hl : lv_has ls 4 [(0, .ref (ad 0 0)), (2, .int x2), (3, .ref (ad 7 i3))]) : W p l e (mR 4 85) s m args below meth c H locs 0 0 (MQ below (cQ D yI yO z0 ad rz gz A) args s 0 0 A) (F0 m 20 ls [.int xs0, .ref (ad 0 0)]) := by
  obtain ⟨hx, hb, hr, hts, hown, hlocks, hml, hK⟩ := id C
  unfold fC_Court_judge_20 at h
  obtain ⟨_, et1, h⟩ := xb_ret h
  refine cg_callVv (As := [.int xs0]) (rest := []) ⟨hx, hb, hml, hown, hts⟩ 0 0 rfl (ci := 9) rfl rfl (cC_Court_refuseUnless l D yI yO z0 ad et1) (cwV 1 hts gX8_judge_X8_refuseUnless rfl rfl rfl (by decide +kernel) ⟨Nat.le_of_ble_eq_true rfl, Nat.le_of_ble_eq_true rfl⟩) hK hX rfl hl.1 rfl (Nat.le_of_ble_eq_true rfl) dX8_judge_20 ⟨Nat.zero_le _, Nat.zero_le _⟩ (fun H locs hX => ?_)
  refine lv_aload_n hx hb dX8_judge_23 rfl (lv_at hl 2 rfl) ?_
  refine lv_iload_n hx hb dX8_judge_24 rfl (lv_at hl 1 rfl) ?_
  refine lv_if_eq (tgt := 32) hx hb dX8_judge_25 (by decide) (fun c2 => ?_) (fun c2 => ?_)
  · replace h := mpos c2 h
    refine lv_iconst (v := 4) hx hb dX8_judge_32 (by decide) ?_
    exact w_C_Court_judge_33 C h hX (lv_sub hl [0, 2] rfl)
  · replace h := mneg c2 h
    refine lv_iconst (v := 0) hx hb dX8_judge_28 (by decide) ?_
    refine lv_goto (tgt := 33) hx hb dX8_judge_29 (by decide) ?_
    exact w_C_Court_judge_33 C h hX (lv_sub hl [0, 2] rfl)
set_option maxRecDepth 20000 in
theorem w_X_Court_judge_20 (C : cC p s m args meth c cX8_judge RX8 (some .int) wsX8_judge 4 D yI yO) {Qc : Array Value → State → Outcome → State → Prop} (hlf : l.stackTraces = false) (ht : ∀ x ∈ c.exceptionTable.toList, False) (hxs : xS A s s.heap) (hA : ∀ q, s.heap.size ≤ q → A q) {ez : Nat} {g : CS} {x2 : Int32} {i3 : Nat} {xs0 : Int32} (h : fC_Court_judge_20 g x2 i3 xs0 = some (.inl ez)) {H : Heap} {locs : List Loc} {ls : Array Slot} (hX : cX D yI yO z0 ad g A s H locs) (hl : lv_has ls 4 [(0, .ref (ad 0 0)), (2, .int x2), (3, .ref (ad 7 i3))]) : W p l e (xR 7 111) s m args below meth c H locs 0 0 (vx_MQ below Qc (xXC D yI yO z0 ad g ez A) args s 1 6 A) (F0 m 20 ls [.int xs0, .ref (ad 0 0)]) := by
  obtain ⟨hx, hb, hr, hts, hown, hlocks, hml, hK⟩ := id C
  unfold fC_Court_judge_20 at h
  rcases xb_thr h with et1 | ⟨_, et1, h⟩
  · exact xg_callV (As := [.int xs0]) (rest := []) ⟨hx, hb, hml, hown, hts⟩ 0 0 rfl (ci := 9) rfl rfl (cX_Court_refuseUnless l hlf D yI yO z0 ad H.size et1) (cwV 1 hts gX8_judge_X8_refuseUnless rfl rfl rfl (by decide +kernel) ⟨Nat.le_of_ble_eq_true rfl, Nat.le_of_ble_eq_true rfl⟩) hK hX hA hxs ht hlocks rfl hl.1 rfl (Nat.le_of_ble_eq_true rfl) dX8_judge_20 ⟨Nat.le_refl _, Nat.le_refl _⟩
  refine cg_callVv (As := [.int xs0]) (rest := []) ⟨hx, hb, hml, hown, hts⟩ 0 0 rfl (ci := 9) rfl rfl (cC_Court_refuseUnless l D yI yO z0 ad et1) (cwV 1 hts gX8_judge_X8_refuseUnless rfl rfl rfl (by decide +kernel) ⟨Nat.le_of_ble_eq_true rfl, Nat.le_of_ble_eq_true rfl⟩) hK hX rfl hl.1 rfl (Nat.le_of_ble_eq_true rfl) dX8_judge_20 ⟨Nat.zero_le _, Nat.zero_le _⟩ (fun H locs hX => ?_)
  refine lv_aload_n hx hb dX8_judge_23 rfl (lv_at hl 2 rfl) ?_
  refine lv_iload_n hx hb dX8_judge_24 rfl (lv_at hl 1 rfl) ?_
  refine lv_if_eq (tgt := 32) hx hb dX8_judge_25 (by decide) (fun c2 => ?_) (fun c2 => ?_)
  · replace h := mpos c2 h
    refine lv_iconst (v := 4) hx hb dX8_judge_32 (by decide) ?_
    exact (nt_C_Court_judge_33 _ h).elim
  · replace h := mneg c2 h
    refine lv_iconst (v := 0) hx hb dX8_judge_28 (by decide) ?_
    refine lv_goto (tgt := 33) hx hb dX8_judge_29 (by decide) ?_
    exact (nt_C_Court_judge_33 _ h).elim
def fC_Court_judge (g : CS) (x1 : Int32) (x2 : Int32) : Option (Nat ⊕ (Int32 × CS)) :=
  xb (fC_Court_requestAt g x1) fun v1 =>
  (ck g 7 v1).bind fun _ =>
  if (sI g 7 v1 5) = 3 then
    fC_Court_judge_20 g x2 v1 1
  else
    fC_Court_judge_20 g x2 v1 0
set_option maxRecDepth 20000 in
theorem w_C_Court_judge_0 (C : cC p s m args meth c cX8_judge RX8 (some .int) wsX8_judge 4 D yI yO) {gz : CS} {rz : Int32} {g : CS} {x1 : Int32} {x2 : Int32} (h : fC_Court_judge g x1 x2 = some (.inr (rz, gz))) {H : Heap} {locs : List Loc} {ls : Array Slot} (hX : cX D yI yO z0 ad g A s H locs) (hl : lv_has ls 4 [(0, .ref (ad 0 0)), (1, .int x1), (2, .int x2)]) : W p l e (mR 4 85) s m args below meth c H locs 0 0 (MQ below (cQ D yI yO z0 ad rz gz A) args s 0 0 A) (F0 m 0 ls []) := by
  obtain ⟨hx, hb, hr, hts, hown, hlocks, hml, hK⟩ := id C
  unfold fC_Court_judge at h
  refine lv_aload_n hx hb dX8_judge_0 rfl (lv_at hl 0 rfl) ?_
  refine lv_iload_n hx hb dX8_judge_1 rfl (lv_at hl 1 rfl) ?_
  obtain ⟨v1, et2, h⟩ := xb_ret h
  refine cg_callVq (As := [.int x1]) (rest := []) ⟨hx, hb, hml, hown, hts⟩ 0 0 rfl (ci := 9) rfl rfl (cC_Court_requestAt l D yI yO z0 ad et2) (cwV 1 hts gX8_judge_X8_requestAt rfl rfl rfl (by decide +kernel) ⟨Nat.le_of_ble_eq_true rfl, Nat.le_of_ble_eq_true rfl⟩) hK hX rfl hl.1 rfl (Nat.le_of_ble_eq_true rfl) dX8_judge_2 ⟨Nat.zero_le _, Nat.zero_le _⟩ (fun H locs hX => ?_)
  refine W.eq (g2 := F0 m 5 ls [.ref (ad 7 v1)]) rfl ?_
  refine lv_astore_n (lv' := [(3, .ref (ad 7 v1)), (0, .ref (ad 0 0)), (1, .int x1), (2, .int x2)]) hx hb dX8_judge_5 rfl hl (by decide) rfl (fun ls hl => ?_)
  refine lv_aload_n hx hb dX8_judge_6 rfl (lv_at hl 1 rfl) ?_
  refine lv_aload_n hx hb dX8_judge_7 rfl (lv_at hl 0 rfl) ?_
  obtain ⟨_, hv3, h⟩ := mbind h
  replace hv3 := ck_spec hv3
  refine cg_get hx hb hts iC_Court_judge_X4 hown hK hX 7 v1 hv3 rfl rfl 5 (by decide) (hts (.fieldLink RX8 248 "PassageCourt$Request" "state" "I") (by decide +kernel)) (fun _ h9 => h9) rfl dX8_judge_8 ?_
  refine lv_iconst (v := 3) hx hb dX8_judge_11 (by decide) ?_
  refine lv_icmp_ne (tgt := 19) hx hb dX8_judge_12 (by decide) (fun c4 => ?_) (fun c4 => ?_)
  · replace h := mneg c4 h
    refine lv_iconst (v := 0) hx hb dX8_judge_19 (by decide) ?_
    exact w_C_Court_judge_20 C h hX (lv_sub hl [1, 3, 0] rfl)
  · replace h := mpos c4 h
    refine lv_iconst (v := 1) hx hb dX8_judge_15 (by decide) ?_
    refine lv_goto (tgt := 20) hx hb dX8_judge_16 (by decide) ?_
    exact w_C_Court_judge_20 C h hX (lv_sub hl [1, 3, 0] rfl)
set_option maxRecDepth 20000 in
theorem w_X_Court_judge_0 (C : cC p s m args meth c cX8_judge RX8 (some .int) wsX8_judge 4 D yI yO) {Qc : Array Value → State → Outcome → State → Prop} (hlf : l.stackTraces = false) (ht : ∀ x ∈ c.exceptionTable.toList, False) (hxs : xS A s s.heap) (hA : ∀ q, s.heap.size ≤ q → A q) {ez : Nat} {g : CS} {x1 : Int32} {x2 : Int32} (h : fC_Court_judge g x1 x2 = some (.inl ez)) {H : Heap} {locs : List Loc} {ls : Array Slot} (hX : cX D yI yO z0 ad g A s H locs) (hl : lv_has ls 4 [(0, .ref (ad 0 0)), (1, .int x1), (2, .int x2)]) : W p l e (xR 7 111) s m args below meth c H locs 0 0 (vx_MQ below Qc (xXC D yI yO z0 ad g ez A) args s 1 6 A) (F0 m 0 ls []) := by
  obtain ⟨hx, hb, hr, hts, hown, hlocks, hml, hK⟩ := id C
  unfold fC_Court_judge at h
  refine lv_aload_n hx hb dX8_judge_0 rfl (lv_at hl 0 rfl) ?_
  refine lv_iload_n hx hb dX8_judge_1 rfl (lv_at hl 1 rfl) ?_
  rcases xb_thr h with et2 | ⟨v1, et2, h⟩
  · exact xg_callV (As := [.int x1]) (rest := []) ⟨hx, hb, hml, hown, hts⟩ 0 0 rfl (ci := 9) rfl rfl (cX_Court_requestAt l hlf D yI yO z0 ad H.size et2) (cwV 1 hts gX8_judge_X8_requestAt rfl rfl rfl (by decide +kernel) ⟨Nat.le_of_ble_eq_true rfl, Nat.le_of_ble_eq_true rfl⟩) hK hX hA hxs ht hlocks rfl hl.1 rfl (Nat.le_of_ble_eq_true rfl) dX8_judge_2 ⟨Nat.le_refl _, Nat.le_refl _⟩
  refine cg_callVq (As := [.int x1]) (rest := []) ⟨hx, hb, hml, hown, hts⟩ 0 0 rfl (ci := 9) rfl rfl (cC_Court_requestAt l D yI yO z0 ad et2) (cwV 1 hts gX8_judge_X8_requestAt rfl rfl rfl (by decide +kernel) ⟨Nat.le_of_ble_eq_true rfl, Nat.le_of_ble_eq_true rfl⟩) hK hX rfl hl.1 rfl (Nat.le_of_ble_eq_true rfl) dX8_judge_2 ⟨Nat.zero_le _, Nat.zero_le _⟩ (fun H locs hX => ?_)
  refine W.eq (g2 := F0 m 5 ls [.ref (ad 7 v1)]) rfl ?_
  refine lv_astore_n (lv' := [(3, .ref (ad 7 v1)), (0, .ref (ad 0 0)), (1, .int x1), (2, .int x2)]) hx hb dX8_judge_5 rfl hl (by decide) rfl (fun ls hl => ?_)
  refine lv_aload_n hx hb dX8_judge_6 rfl (lv_at hl 1 rfl) ?_
  refine lv_aload_n hx hb dX8_judge_7 rfl (lv_at hl 0 rfl) ?_
  obtain ⟨_, hv3, h⟩ := mbind h
  replace hv3 := ck_spec hv3
  refine cg_get hx hb hts iC_Court_judge_X4 hown hK hX 7 v1 hv3 rfl rfl 5 (by decide) (hts (.fieldLink RX8 248 "PassageCourt$Request" "state" "I") (by decide +kernel)) (fun _ h9 => h9) rfl dX8_judge_8 ?_
  refine lv_iconst (v := 3) hx hb dX8_judge_11 (by decide) ?_
  refine lv_icmp_ne (tgt := 19) hx hb dX8_judge_12 (by decide) (fun c4 => ?_) (fun c4 => ?_)
  · replace h := mneg c4 h
    refine lv_iconst (v := 0) hx hb dX8_judge_19 (by decide) ?_
    exact w_X_Court_judge_20 C hlf ht hxs hA h hX (lv_sub hl [1, 3, 0] rfl)
  · replace h := mpos c4 h
    refine lv_iconst (v := 1) hx hb dX8_judge_15 (by decide) ?_
    refine lv_goto (tgt := 20) hx hb dX8_judge_16 (by decide) ?_
    exact w_X_Court_judge_20 C hlf ht hxs hA h hX (lv_sub hl [1, 3, 0] rfl)
set_option maxRecDepth 20000 in
theorem cC_Court_judge (l : Launch) (D : va_G) (yI yO : ClassId) (z0 : Nat) (ad : Nat → Nat → Nat) {g : CS} {gz : CS} {rz : Int32} {x1 : Int32} {x2 : Int32} (h : fC_Court_judge g x1 x2 = some (.inr (rz, gz))) : Met l yX8_judge wsX8_judge (mR 4 85) (va_Pc [.ref (ad 0 0), .int x1, .int x2] (cPre D yI yO z0 ad g)) (cQ D yI yO z0 ad rz gz (cF ad g)) 0 0 (cF ad g) := by
  refine Met.ofW (cc := cX8_judge) (maxL := 4) (ret := (some .int)) (by decide) rfl ?_
  intro p e s m args below meth c s₁ B hml hv
  obtain ⟨hv0, hw, hK⟩ := hv
  have hv1 : args = [.ref (ad 0 0), .int x1, .int x2].toArray := hv0
  subst hv1
  have C : cC p s m _ meth c cX8_judge RX8 (some .int) wsX8_judge 4 D yI yO := ⟨B.exec, B.bytes, B.returns, atoms_spec (ws := wsX8_judge) B.pre, findClass_of_methodNamed B.named, B.notSynchronized, hml, hK⟩
  have hl := lv_entry ([.ref (ad 0 0), .int x1, .int x2]) (n := 4) (Nat.le_of_ble_eq_true rfl)
  rw [lg_entry_eq]
  generalize (lg_sl ([.ref (ad 0 0), .int x1, .int x2]) ++ List.replicate (4 - (lg_sl ([.ref (ad 0 0), .int x1, .int x2])).length) Slot.unset).toArray = ls at hl ⊢
  have hl : lv_has ls 4 [(0, .ref (ad 0 0)), (1, .int x1), (2, .int x2)] := hl
  exact w_C_Court_judge_0 C h ⟨hw, fun k i hi => ⟨k, i, hi, rfl⟩, va_S.rf⟩ hl
set_option maxRecDepth 20000 in
theorem cX_Court_judge (l : Launch) (hlf : l.stackTraces = false) (D : va_G) (yI yO : ClassId) (z0 : Nat) (ad : Nat → Nat → Nat) {g : CS} {ez : Nat} {x1 : Int32} {x2 : Int32} (sz : Nat) (h : fC_Court_judge g x1 x2 = some (.inl ez)) : vx_Met l yX8_judge wsX8_judge (xR 7 111) (va_Pc [.ref (ad 0 0), .int x1, .int x2] (xPre D yI yO z0 ad g sz)) (xQ (cA ad g sz)) (xXC D yI yO z0 ad g ez (cA ad g sz)) 1 6 (cA ad g sz) := by
  refine vx_ofW (cc := cX8_judge) (maxL := 4) (ret := (some .int)) (by decide) rfl ?_
  intro p e s m args below meth c s₁ B hml ht hv
  obtain ⟨hv0, ⟨hw, hK⟩, hsz, hxs⟩ := hv
  subst hsz
  have hv1 : args = [.ref (ad 0 0), .int x1, .int x2].toArray := hv0
  subst hv1
  have C : cC p s m _ meth c cX8_judge RX8 (some .int) wsX8_judge 4 D yI yO := ⟨B.exec, B.bytes, B.returns, atoms_spec (ws := wsX8_judge) B.pre, findClass_of_methodNamed B.named, B.notSynchronized, hml, hK⟩
  have hl := lv_entry ([.ref (ad 0 0), .int x1, .int x2]) (n := 4) (Nat.le_of_ble_eq_true rfl)
  rw [lg_entry_eq]
  generalize (lg_sl ([.ref (ad 0 0), .int x1, .int x2]) ++ List.replicate (4 - (lg_sl ([.ref (ad 0 0), .int x1, .int x2])).length) Slot.unset).toArray = ls at hl ⊢
  have hl : lv_has ls 4 [(0, .ref (ad 0 0)), (1, .int x1), (2, .int x2)] := hl
  exact w_X_Court_judge_0 C hlf ht hxs (fun q h => Or.inr h) h ⟨hw, fun k i hi => Or.inl ⟨k, i, hi, rfl⟩, va_S.rf⟩ hl
theorem iC_Court_withdraw_X4 : ∀ w ∈ wsX40, w ∈ wsX8_withdraw := by decide +kernel
theorem iC_Court_withdraw_X8 : ∀ w ∈ wsX80, w ∈ wsX8_withdraw := by decide +kernel
def fC_Court_withdraw_19 (g : CS) (i2 : Nat) (xs0 : Int32) : Option (Nat ⊕ (Int32 × CS)) :=
  xb (fC_Court_refuseUnless g xs0) fun _ =>
  (ck g 7 i2).bind fun _ =>
  (some (uI g 7 i2 5 4)).bind fun g3 =>
  some (.inr ((sI g3 0 0 6) - (sI g3 7 i2 4), g3))
set_option maxRecDepth 20000 in
theorem w_C_Court_withdraw_19 (C : cC p s m args meth c cX8_withdraw RX8 (some .int) wsX8_withdraw 3 D yI yO) {gz : CS} {rz : Int32} {g : CS} {i2 : Nat} {xs0 : Int32} (h : fC_Court_withdraw_19 g i2 xs0 = some (.inr (rz, gz))) {H : Heap} {locs : List Loc} {ls : Array Slot} (hX : cX D yI yO z0 ad g A s H locs) (hl : lv_has ls 3 [(0, .ref (ad 0 0)), (2, .ref (ad 7 i2))]) : W p l e (mR 4 85) s m args below meth c H locs 0 0 (MQ below (cQ D yI yO z0 ad rz gz A) args s 0 0 A) (F0 m 19 ls [.int xs0, .ref (ad 0 0)]) := by
  obtain ⟨hx, hb, hr, hts, hown, hlocks, hml, hK⟩ := id C
  unfold fC_Court_withdraw_19 at h
  obtain ⟨_, et1, h⟩ := xb_ret h
  refine cg_callVv (As := [.int xs0]) (rest := []) ⟨hx, hb, hml, hown, hts⟩ 0 0 rfl (ci := 9) rfl rfl (cC_Court_refuseUnless l D yI yO z0 ad et1) (cwV 1 hts gX8_withdraw_X8_refuseUnless rfl rfl rfl (by decide +kernel) ⟨Nat.le_of_ble_eq_true rfl, Nat.le_of_ble_eq_true rfl⟩) hK hX rfl hl.1 rfl (Nat.le_of_ble_eq_true rfl) dX8_withdraw_19 ⟨Nat.zero_le _, Nat.zero_le _⟩ (fun H locs hX => ?_)
  refine lv_aload_n hx hb dX8_withdraw_22 rfl (lv_at hl 1 rfl) ?_
  refine lv_iconst (v := 4) hx hb dX8_withdraw_23 (by decide) ?_
  obtain ⟨_, hv2, h⟩ := mbind h
  replace hv2 := ck_spec hv2
  obtain ⟨g3, eg3, h⟩ := mbind h
  refine cg_put hx hb hts iC_Court_withdraw_X4 tyX4 tyX4_ok nmX4 hown hK hX 7 i2 hv2 rfl rfl 5 (by decide) (hts (.fieldLink RX8 248 "PassageCourt$Request" "state" "I") (by decide +kernel)) (fun _ h9 => h9) rfl (by decide +kernel) rfl rfl (ty := .int) (g1 := (uI g 7 i2 5 4)) (Nat.le_of_ble_eq_true rfl) (by unfold cent; rw [sI_up]; rfl) (fun _ _ => rfl) rfl (fun _ _ hab => cent_uI yI yO ad _ _ _ hab) dX8_withdraw_24 (fun H locs hX => ?_)
  have eg3 := Option.some.inj eg3
  rw [eg3] at hX
  have hv4 : clvb g3 7 i2 = true := by rw [← eg3]; exact hv2
  refine lv_aload_n hx hb dX8_withdraw_27 rfl (lv_at hl 0 rfl) ?_
  refine cg_get hx hb hts iC_Court_withdraw_X8 hown hK hX 0 0 rfl rfl rfl 6 (by decide) (hts (.fieldLink RX8 37 "PassageCourt" "today" "I") (by decide +kernel)) (fun _ h9 => h9) rfl dX8_withdraw_28 ?_
  refine lv_aload_n hx hb dX8_withdraw_31 rfl (lv_at hl 1 rfl) ?_
  refine cg_get hx hb hts iC_Court_withdraw_X4 hown hK hX 7 i2 hv4 rfl rfl 4 (by decide) (hts (.fieldLink RX8 276 "PassageCourt$Request" "date" "I") (by decide +kernel)) (fun _ h9 => h9) rfl dX8_withdraw_32 ?_
  refine lv_isub hx hb dX8_withdraw_35 ?_
  cases h
  exact cg_reti hx hb hr hlocks hK hX dX8_withdraw_36
set_option maxRecDepth 20000 in
theorem w_X_Court_withdraw_19 (C : cC p s m args meth c cX8_withdraw RX8 (some .int) wsX8_withdraw 3 D yI yO) {Qc : Array Value → State → Outcome → State → Prop} (hlf : l.stackTraces = false) (ht : ∀ x ∈ c.exceptionTable.toList, False) (hxs : xS A s s.heap) (hA : ∀ q, s.heap.size ≤ q → A q) {ez : Nat} {g : CS} {i2 : Nat} {xs0 : Int32} (h : fC_Court_withdraw_19 g i2 xs0 = some (.inl ez)) {H : Heap} {locs : List Loc} {ls : Array Slot} (hX : cX D yI yO z0 ad g A s H locs) (hl : lv_has ls 3 [(0, .ref (ad 0 0)), (2, .ref (ad 7 i2))]) : W p l e (xR 7 111) s m args below meth c H locs 0 0 (vx_MQ below Qc (xXC D yI yO z0 ad g ez A) args s 1 6 A) (F0 m 19 ls [.int xs0, .ref (ad 0 0)]) := by
  obtain ⟨hx, hb, hr, hts, hown, hlocks, hml, hK⟩ := id C
  unfold fC_Court_withdraw_19 at h
  rcases xb_thr h with et1 | ⟨_, et1, h⟩
  · exact xg_callV (As := [.int xs0]) (rest := []) ⟨hx, hb, hml, hown, hts⟩ 0 0 rfl (ci := 9) rfl rfl (cX_Court_refuseUnless l hlf D yI yO z0 ad H.size et1) (cwV 1 hts gX8_withdraw_X8_refuseUnless rfl rfl rfl (by decide +kernel) ⟨Nat.le_of_ble_eq_true rfl, Nat.le_of_ble_eq_true rfl⟩) hK hX hA hxs ht hlocks rfl hl.1 rfl (Nat.le_of_ble_eq_true rfl) dX8_withdraw_19 ⟨Nat.le_refl _, Nat.le_refl _⟩
  refine cg_callVv (As := [.int xs0]) (rest := []) ⟨hx, hb, hml, hown, hts⟩ 0 0 rfl (ci := 9) rfl rfl (cC_Court_refuseUnless l D yI yO z0 ad et1) (cwV 1 hts gX8_withdraw_X8_refuseUnless rfl rfl rfl (by decide +kernel) ⟨Nat.le_of_ble_eq_true rfl, Nat.le_of_ble_eq_true rfl⟩) hK hX rfl hl.1 rfl (Nat.le_of_ble_eq_true rfl) dX8_withdraw_19 ⟨Nat.zero_le _, Nat.zero_le _⟩ (fun H locs hX => ?_)
  refine lv_aload_n hx hb dX8_withdraw_22 rfl (lv_at hl 1 rfl) ?_
  refine lv_iconst (v := 4) hx hb dX8_withdraw_23 (by decide) ?_
  obtain ⟨_, hv2, h⟩ := mbind h
  replace hv2 := ck_spec hv2
  obtain ⟨g3, eg3, h⟩ := mbind h
  refine cg_put hx hb hts iC_Court_withdraw_X4 tyX4 tyX4_ok nmX4 hown hK hX 7 i2 hv2 rfl rfl 5 (by decide) (hts (.fieldLink RX8 248 "PassageCourt$Request" "state" "I") (by decide +kernel)) (fun _ h9 => h9) rfl (by decide +kernel) rfl rfl (ty := .int) (g1 := (uI g 7 i2 5 4)) (Nat.le_of_ble_eq_true rfl) (by unfold cent; rw [sI_up]; rfl) (fun _ _ => rfl) rfl (fun _ _ hab => cent_uI yI yO ad _ _ _ hab) dX8_withdraw_24 (fun H locs hX => ?_)
  have eg3 := Option.some.inj eg3
  rw [eg3] at hX
  have hv4 : clvb g3 7 i2 = true := by rw [← eg3]; exact hv2
  refine lv_aload_n hx hb dX8_withdraw_27 rfl (lv_at hl 0 rfl) ?_
  refine cg_get hx hb hts iC_Court_withdraw_X8 hown hK hX 0 0 rfl rfl rfl 6 (by decide) (hts (.fieldLink RX8 37 "PassageCourt" "today" "I") (by decide +kernel)) (fun _ h9 => h9) rfl dX8_withdraw_28 ?_
  refine lv_aload_n hx hb dX8_withdraw_31 rfl (lv_at hl 1 rfl) ?_
  refine cg_get hx hb hts iC_Court_withdraw_X4 hown hK hX 7 i2 hv4 rfl rfl 4 (by decide) (hts (.fieldLink RX8 276 "PassageCourt$Request" "date" "I") (by decide +kernel)) (fun _ h9 => h9) rfl dX8_withdraw_32 ?_
  refine lv_isub hx hb dX8_withdraw_35 ?_
  cases h
def fC_Court_withdraw (g : CS) (x1 : Int32) : Option (Nat ⊕ (Int32 × CS)) :=
  xb (fC_Court_requestAt g x1) fun v1 =>
  (ck g 7 v1).bind fun _ =>
  if (sI g 7 v1 5) = 0 then
    fC_Court_withdraw_19 g v1 1
  else
    fC_Court_withdraw_19 g v1 0
set_option maxRecDepth 20000 in
theorem w_C_Court_withdraw_0 (C : cC p s m args meth c cX8_withdraw RX8 (some .int) wsX8_withdraw 3 D yI yO) {gz : CS} {rz : Int32} {g : CS} {x1 : Int32} (h : fC_Court_withdraw g x1 = some (.inr (rz, gz))) {H : Heap} {locs : List Loc} {ls : Array Slot} (hX : cX D yI yO z0 ad g A s H locs) (hl : lv_has ls 3 [(0, .ref (ad 0 0)), (1, .int x1)]) : W p l e (mR 4 85) s m args below meth c H locs 0 0 (MQ below (cQ D yI yO z0 ad rz gz A) args s 0 0 A) (F0 m 0 ls []) := by
  obtain ⟨hx, hb, hr, hts, hown, hlocks, hml, hK⟩ := id C
  unfold fC_Court_withdraw at h
  refine lv_aload_n hx hb dX8_withdraw_0 rfl (lv_at hl 0 rfl) ?_
  refine lv_iload_n hx hb dX8_withdraw_1 rfl (lv_at hl 1 rfl) ?_
  obtain ⟨v1, et2, h⟩ := xb_ret h
  refine cg_callVq (As := [.int x1]) (rest := []) ⟨hx, hb, hml, hown, hts⟩ 0 0 rfl (ci := 9) rfl rfl (cC_Court_requestAt l D yI yO z0 ad et2) (cwV 1 hts gX8_withdraw_X8_requestAt rfl rfl rfl (by decide +kernel) ⟨Nat.le_of_ble_eq_true rfl, Nat.le_of_ble_eq_true rfl⟩) hK hX rfl hl.1 rfl (Nat.le_of_ble_eq_true rfl) dX8_withdraw_2 ⟨Nat.zero_le _, Nat.zero_le _⟩ (fun H locs hX => ?_)
  refine W.eq (g2 := F0 m 5 ls [.ref (ad 7 v1)]) rfl ?_
  refine lv_astore_n (lv' := [(2, .ref (ad 7 v1)), (0, .ref (ad 0 0)), (1, .int x1)]) hx hb dX8_withdraw_5 rfl hl (by decide) rfl (fun ls hl => ?_)
  refine lv_aload_n hx hb dX8_withdraw_6 rfl (lv_at hl 1 rfl) ?_
  refine lv_aload_n hx hb dX8_withdraw_7 rfl (lv_at hl 0 rfl) ?_
  obtain ⟨_, hv3, h⟩ := mbind h
  replace hv3 := ck_spec hv3
  refine cg_get hx hb hts iC_Court_withdraw_X4 hown hK hX 7 v1 hv3 rfl rfl 5 (by decide) (hts (.fieldLink RX8 248 "PassageCourt$Request" "state" "I") (by decide +kernel)) (fun _ h9 => h9) rfl dX8_withdraw_8 ?_
  refine lv_if_ne (tgt := 18) hx hb dX8_withdraw_11 (by decide) (fun c4 => ?_) (fun c4 => ?_)
  · replace h := mneg c4 h
    refine lv_iconst (v := 0) hx hb dX8_withdraw_18 (by decide) ?_
    exact w_C_Court_withdraw_19 C h hX (lv_sub hl [1, 0] rfl)
  · replace h := mpos c4 h
    refine lv_iconst (v := 1) hx hb dX8_withdraw_14 (by decide) ?_
    refine lv_goto (tgt := 19) hx hb dX8_withdraw_15 (by decide) ?_
    exact w_C_Court_withdraw_19 C h hX (lv_sub hl [1, 0] rfl)
set_option maxRecDepth 20000 in
theorem w_X_Court_withdraw_0 (C : cC p s m args meth c cX8_withdraw RX8 (some .int) wsX8_withdraw 3 D yI yO) {Qc : Array Value → State → Outcome → State → Prop} (hlf : l.stackTraces = false) (ht : ∀ x ∈ c.exceptionTable.toList, False) (hxs : xS A s s.heap) (hA : ∀ q, s.heap.size ≤ q → A q) {ez : Nat} {g : CS} {x1 : Int32} (h : fC_Court_withdraw g x1 = some (.inl ez)) {H : Heap} {locs : List Loc} {ls : Array Slot} (hX : cX D yI yO z0 ad g A s H locs) (hl : lv_has ls 3 [(0, .ref (ad 0 0)), (1, .int x1)]) : W p l e (xR 7 111) s m args below meth c H locs 0 0 (vx_MQ below Qc (xXC D yI yO z0 ad g ez A) args s 1 6 A) (F0 m 0 ls []) := by
  obtain ⟨hx, hb, hr, hts, hown, hlocks, hml, hK⟩ := id C
  unfold fC_Court_withdraw at h
  refine lv_aload_n hx hb dX8_withdraw_0 rfl (lv_at hl 0 rfl) ?_
  refine lv_iload_n hx hb dX8_withdraw_1 rfl (lv_at hl 1 rfl) ?_
  rcases xb_thr h with et2 | ⟨v1, et2, h⟩
  · exact xg_callV (As := [.int x1]) (rest := []) ⟨hx, hb, hml, hown, hts⟩ 0 0 rfl (ci := 9) rfl rfl (cX_Court_requestAt l hlf D yI yO z0 ad H.size et2) (cwV 1 hts gX8_withdraw_X8_requestAt rfl rfl rfl (by decide +kernel) ⟨Nat.le_of_ble_eq_true rfl, Nat.le_of_ble_eq_true rfl⟩) hK hX hA hxs ht hlocks rfl hl.1 rfl (Nat.le_of_ble_eq_true rfl) dX8_withdraw_2 ⟨Nat.le_refl _, Nat.le_refl _⟩
  refine cg_callVq (As := [.int x1]) (rest := []) ⟨hx, hb, hml, hown, hts⟩ 0 0 rfl (ci := 9) rfl rfl (cC_Court_requestAt l D yI yO z0 ad et2) (cwV 1 hts gX8_withdraw_X8_requestAt rfl rfl rfl (by decide +kernel) ⟨Nat.le_of_ble_eq_true rfl, Nat.le_of_ble_eq_true rfl⟩) hK hX rfl hl.1 rfl (Nat.le_of_ble_eq_true rfl) dX8_withdraw_2 ⟨Nat.zero_le _, Nat.zero_le _⟩ (fun H locs hX => ?_)
  refine W.eq (g2 := F0 m 5 ls [.ref (ad 7 v1)]) rfl ?_
  refine lv_astore_n (lv' := [(2, .ref (ad 7 v1)), (0, .ref (ad 0 0)), (1, .int x1)]) hx hb dX8_withdraw_5 rfl hl (by decide) rfl (fun ls hl => ?_)
  refine lv_aload_n hx hb dX8_withdraw_6 rfl (lv_at hl 1 rfl) ?_
  refine lv_aload_n hx hb dX8_withdraw_7 rfl (lv_at hl 0 rfl) ?_
  obtain ⟨_, hv3, h⟩ := mbind h
  replace hv3 := ck_spec hv3
  refine cg_get hx hb hts iC_Court_withdraw_X4 hown hK hX 7 v1 hv3 rfl rfl 5 (by decide) (hts (.fieldLink RX8 248 "PassageCourt$Request" "state" "I") (by decide +kernel)) (fun _ h9 => h9) rfl dX8_withdraw_8 ?_
  refine lv_if_ne (tgt := 18) hx hb dX8_withdraw_11 (by decide) (fun c4 => ?_) (fun c4 => ?_)
  · replace h := mneg c4 h
    refine lv_iconst (v := 0) hx hb dX8_withdraw_18 (by decide) ?_
    exact w_X_Court_withdraw_19 C hlf ht hxs hA h hX (lv_sub hl [1, 0] rfl)
  · replace h := mpos c4 h
    refine lv_iconst (v := 1) hx hb dX8_withdraw_14 (by decide) ?_
    refine lv_goto (tgt := 19) hx hb dX8_withdraw_15 (by decide) ?_
    exact w_X_Court_withdraw_19 C hlf ht hxs hA h hX (lv_sub hl [1, 0] rfl)
set_option maxRecDepth 20000 in
theorem cC_Court_withdraw (l : Launch) (D : va_G) (yI yO : ClassId) (z0 : Nat) (ad : Nat → Nat → Nat) {g : CS} {gz : CS} {rz : Int32} {x1 : Int32} (h : fC_Court_withdraw g x1 = some (.inr (rz, gz))) : Met l yX8_withdraw wsX8_withdraw (mR 4 85) (va_Pc [.ref (ad 0 0), .int x1] (cPre D yI yO z0 ad g)) (cQ D yI yO z0 ad rz gz (cF ad g)) 0 0 (cF ad g) := by
  refine Met.ofW (cc := cX8_withdraw) (maxL := 3) (ret := (some .int)) (by decide) rfl ?_
  intro p e s m args below meth c s₁ B hml hv
  obtain ⟨hv0, hw, hK⟩ := hv
  have hv1 : args = [.ref (ad 0 0), .int x1].toArray := hv0
  subst hv1
  have C : cC p s m _ meth c cX8_withdraw RX8 (some .int) wsX8_withdraw 3 D yI yO := ⟨B.exec, B.bytes, B.returns, atoms_spec (ws := wsX8_withdraw) B.pre, findClass_of_methodNamed B.named, B.notSynchronized, hml, hK⟩
  have hl := lv_entry ([.ref (ad 0 0), .int x1]) (n := 3) (Nat.le_of_ble_eq_true rfl)
  rw [lg_entry_eq]
  generalize (lg_sl ([.ref (ad 0 0), .int x1]) ++ List.replicate (3 - (lg_sl ([.ref (ad 0 0), .int x1])).length) Slot.unset).toArray = ls at hl ⊢
  have hl : lv_has ls 3 [(0, .ref (ad 0 0)), (1, .int x1)] := hl
  exact w_C_Court_withdraw_0 C h ⟨hw, fun k i hi => ⟨k, i, hi, rfl⟩, va_S.rf⟩ hl
set_option maxRecDepth 20000 in
theorem cX_Court_withdraw (l : Launch) (hlf : l.stackTraces = false) (D : va_G) (yI yO : ClassId) (z0 : Nat) (ad : Nat → Nat → Nat) {g : CS} {ez : Nat} {x1 : Int32} (sz : Nat) (h : fC_Court_withdraw g x1 = some (.inl ez)) : vx_Met l yX8_withdraw wsX8_withdraw (xR 7 111) (va_Pc [.ref (ad 0 0), .int x1] (xPre D yI yO z0 ad g sz)) (xQ (cA ad g sz)) (xXC D yI yO z0 ad g ez (cA ad g sz)) 1 6 (cA ad g sz) := by
  refine vx_ofW (cc := cX8_withdraw) (maxL := 3) (ret := (some .int)) (by decide) rfl ?_
  intro p e s m args below meth c s₁ B hml ht hv
  obtain ⟨hv0, ⟨hw, hK⟩, hsz, hxs⟩ := hv
  subst hsz
  have hv1 : args = [.ref (ad 0 0), .int x1].toArray := hv0
  subst hv1
  have C : cC p s m _ meth c cX8_withdraw RX8 (some .int) wsX8_withdraw 3 D yI yO := ⟨B.exec, B.bytes, B.returns, atoms_spec (ws := wsX8_withdraw) B.pre, findClass_of_methodNamed B.named, B.notSynchronized, hml, hK⟩
  have hl := lv_entry ([.ref (ad 0 0), .int x1]) (n := 3) (Nat.le_of_ble_eq_true rfl)
  rw [lg_entry_eq]
  generalize (lg_sl ([.ref (ad 0 0), .int x1]) ++ List.replicate (3 - (lg_sl ([.ref (ad 0 0), .int x1])).length) Slot.unset).toArray = ls at hl ⊢
  have hl : lv_has ls 3 [(0, .ref (ad 0 0)), (1, .int x1)] := hl
  exact w_X_Court_withdraw_0 C hlf ht hxs (fun q h => Or.inr h) h ⟨hw, fun k i hi => Or.inl ⟨k, i, hi, rfl⟩, va_S.rf⟩ hl
end GX2
