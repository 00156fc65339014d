section GX4
variable {p : Program} {l : Launch} {e : Env} {s : State} {m : MethodId} {args : Array Value} {below : List Frame} {meth : Method} {c : Code} {D : va_G} {yI yO : ClassId} {z0 : Nat} {ad : Nat → Nat → Nat} {A : Nat → Prop}
def fC_Court_reason (g : CS) (x1 : Int32) (x2 : Int32) : Option (Nat ⊕ Int32) :=
  xb (fC_Court_personAt g x1) fun v1 =>
  xb (fC_Court_landAt g x2) fun v3 =>
  (fC_Court_whyNot g v1 v3).bind fun r5 =>
  some (.inr r5)
set_option maxRecDepth 20000 in
theorem w_C_Court_reason_0 (C : cC p s m args meth c cX8_reason RX8 (some .int) wsX8_reason 3 D yI yO) {rz : Int32} {g : CS} {x1 : Int32} {x2 : Int32} (h : fC_Court_reason g x1 x2 = some (.inr rz)) {H : Heap} {locs : List Loc} {ls : Array Slot} (hX : cX D yI yO z0 ad g A s H locs) (hl : lv_has ls 3 [(0, .ref (ad 0 0)), (1, .int x1), (2, .int x2)]) : W p l e (mR 6 133) s m args below meth c H locs 0 0 (MQ below (cQ D yI yO z0 ad rz g A) args s 0 0 A) (F0 m 0 ls []) := by
  obtain ⟨hx, hb, hr, hts, hown, hlocks, hml, hK⟩ := id C
  unfold fC_Court_reason at h
  refine lv_aload_n hx hb dX8_reason_0 rfl (lv_at hl 0 rfl) ?_
  refine lv_aload_n hx hb dX8_reason_1 rfl (lv_at hl 0 rfl) ?_
  refine lv_iload_n hx hb dX8_reason_2 rfl (lv_at hl 1 rfl) ?_
  obtain ⟨v1, et2, h⟩ := xb_ret h
  refine cg_callVq (As := [.int x1]) (rest := [.ref (ad 0 0)]) ⟨hx, hb, hml, hown, hts⟩ 0 0 rfl (ci := 9) rfl rfl (cC_Court_personAt l D yI yO z0 ad et2) (cwV 1 hts gX8_reason_X8_personAt rfl rfl rfl (by decide +kernel) ⟨Nat.le_of_ble_eq_true rfl, Nat.le_of_ble_eq_true rfl⟩) hK hX rfl hl.1 rfl (Nat.le_of_ble_eq_true rfl) dX8_reason_3 ⟨Nat.zero_le _, Nat.zero_le _⟩ (fun H locs hX => ?_)
  refine W.eq (g2 := F0 m 6 ls [.ref (ad 5 v1), .ref (ad 0 0)]) rfl ?_
  refine lv_aload_n hx hb dX8_reason_6 rfl (lv_at hl 0 rfl) ?_
  refine lv_iload_n hx hb dX8_reason_7 rfl (lv_at hl 2 rfl) ?_
  obtain ⟨v3, et4, h⟩ := xb_ret h
  refine cg_callVq (As := [.int x2]) (rest := [.ref (ad 5 v1), .ref (ad 0 0)]) ⟨hx, hb, hml, hown, hts⟩ 0 0 rfl (ci := 9) rfl rfl (cC_Court_landAt l D yI yO z0 ad et4) (cwV 1 hts gX8_reason_X8_landAt rfl rfl rfl (by decide +kernel) ⟨Nat.le_of_ble_eq_true rfl, Nat.le_of_ble_eq_true rfl⟩) hK hX rfl hl.1 rfl (Nat.le_of_ble_eq_true rfl) dX8_reason_8 ⟨Nat.zero_le _, Nat.zero_le _⟩ (fun H locs hX => ?_)
  refine W.eq (g2 := F0 m 11 ls [.ref (ad 4 v3), .ref (ad 5 v1), .ref (ad 0 0)]) rfl ?_
  obtain ⟨r5, er5, h⟩ := mbind h
  refine cg_callV (As := [.ref (ad 5 v1), .ref (ad 4 v3)]) (rest := []) ⟨hx, hb, hml, hown, hts⟩ 0 0 rfl (ci := 9) rfl rfl (cC_Court_whyNot l D yI yO z0 ad er5) (cwV 2 hts gX8_reason_X8_whyNot rfl rfl rfl (by decide +kernel) ⟨Nat.le_of_ble_eq_true rfl, Nat.le_of_ble_eq_true rfl⟩) hK hX rfl hl.1 rfl (Nat.le_of_ble_eq_true rfl) dX8_reason_11 ⟨Nat.zero_le _, Nat.zero_le _⟩ (fun H locs hX => ?_)
  cases h
  exact cg_reti hx hb hr hlocks hK hX dX8_reason_14
set_option maxRecDepth 20000 in
theorem w_X_Court_reason_0 (C : cC p s m args meth c cX8_reason RX8 (some .int) wsX8_reason 3 D yI yO) {Qc : Array Value → State → Outcome → State → Prop} (hlf : l.stackTraces = false) (ht : ∀ x ∈ c.exceptionTable.toList, False) (hxs : xS A s s.heap) (hA : ∀ q, s.heap.size ≤ q → A q) {ez : Nat} {g : CS} {x1 : Int32} {x2 : Int32} (h : fC_Court_reason g x1 x2 = some (.inl ez)) {H : Heap} {locs : List Loc} {ls : Array Slot} (hX : cX D yI yO z0 ad g A s H locs) (hl : lv_has ls 3 [(0, .ref (ad 0 0)), (1, .int x1), (2, .int x2)]) : W p l e (xR 7 133) s m args below meth c H locs 0 0 (vx_MQ below Qc (xXC D yI yO z0 ad g ez A) args s 1 6 A) (F0 m 0 ls []) := by
  obtain ⟨hx, hb, hr, hts, hown, hlocks, hml, hK⟩ := id C
  unfold fC_Court_reason at h
  refine lv_aload_n hx hb dX8_reason_0 rfl (lv_at hl 0 rfl) ?_
  refine lv_aload_n hx hb dX8_reason_1 rfl (lv_at hl 0 rfl) ?_
  refine lv_iload_n hx hb dX8_reason_2 rfl (lv_at hl 1 rfl) ?_
  rcases xb_thr h with et2 | ⟨v1, et2, h⟩
  · exact xg_callV (As := [.int x1]) (rest := [.ref (ad 0 0)]) ⟨hx, hb, hml, hown, hts⟩ 0 0 rfl (ci := 9) rfl rfl (cX_Court_personAt l hlf D yI yO z0 ad H.size et2) (cwV 1 hts gX8_reason_X8_personAt rfl rfl rfl (by decide +kernel) ⟨Nat.le_of_ble_eq_true rfl, Nat.le_of_ble_eq_true rfl⟩) hK hX hA hxs ht hlocks rfl hl.1 rfl (Nat.le_of_ble_eq_true rfl) dX8_reason_3 ⟨Nat.le_refl _, Nat.le_refl _⟩
  refine cg_callVq (As := [.int x1]) (rest := [.ref (ad 0 0)]) ⟨hx, hb, hml, hown, hts⟩ 0 0 rfl (ci := 9) rfl rfl (cC_Court_personAt l D yI yO z0 ad et2) (cwV 1 hts gX8_reason_X8_personAt rfl rfl rfl (by decide +kernel) ⟨Nat.le_of_ble_eq_true rfl, Nat.le_of_ble_eq_true rfl⟩) hK hX rfl hl.1 rfl (Nat.le_of_ble_eq_true rfl) dX8_reason_3 ⟨Nat.zero_le _, Nat.zero_le _⟩ (fun H locs hX => ?_)
  refine W.eq (g2 := F0 m 6 ls [.ref (ad 5 v1), .ref (ad 0 0)]) rfl ?_
  refine lv_aload_n hx hb dX8_reason_6 rfl (lv_at hl 0 rfl) ?_
  refine lv_iload_n hx hb dX8_reason_7 rfl (lv_at hl 2 rfl) ?_
  rcases xb_thr h with et4 | ⟨v3, et4, h⟩
  · exact xg_callV (As := [.int x2]) (rest := [.ref (ad 5 v1), .ref (ad 0 0)]) ⟨hx, hb, hml, hown, hts⟩ 0 0 rfl (ci := 9) rfl rfl (cX_Court_landAt l hlf D yI yO z0 ad H.size et4) (cwV 1 hts gX8_reason_X8_landAt rfl rfl rfl (by decide +kernel) ⟨Nat.le_of_ble_eq_true rfl, Nat.le_of_ble_eq_true rfl⟩) hK hX hA hxs ht hlocks rfl hl.1 rfl (Nat.le_of_ble_eq_true rfl) dX8_reason_8 ⟨Nat.le_refl _, Nat.le_refl _⟩
  refine cg_callVq (As := [.int x2]) (rest := [.ref (ad 5 v1), .ref (ad 0 0)]) ⟨hx, hb, hml, hown, hts⟩ 0 0 rfl (ci := 9) rfl rfl (cC_Court_landAt l D yI yO z0 ad et4) (cwV 1 hts gX8_reason_X8_landAt rfl rfl rfl (by decide +kernel) ⟨Nat.le_of_ble_eq_true rfl, Nat.le_of_ble_eq_true rfl⟩) hK hX rfl hl.1 rfl (Nat.le_of_ble_eq_true rfl) dX8_reason_8 ⟨Nat.zero_le _, Nat.zero_le _⟩ (fun H locs hX => ?_)
  refine W.eq (g2 := F0 m 11 ls [.ref (ad 4 v3), .ref (ad 5 v1), .ref (ad 0 0)]) rfl ?_
  obtain ⟨r5, er5, h⟩ := mbind h
  refine cg_callV (As := [.ref (ad 5 v1), .ref (ad 4 v3)]) (rest := []) ⟨hx, hb, hml, hown, hts⟩ 0 0 rfl (ci := 9) rfl rfl (cC_Court_whyNot l D yI yO z0 ad er5) (cwV 2 hts gX8_reason_X8_whyNot rfl rfl rfl (by decide +kernel) ⟨Nat.le_of_ble_eq_true rfl, Nat.le_of_ble_eq_true rfl⟩) hK hX rfl hl.1 rfl (Nat.le_of_ble_eq_true rfl) dX8_reason_11 ⟨Nat.zero_le _, Nat.zero_le _⟩ (fun H locs hX => ?_)
  cases h
set_option maxRecDepth 20000 in
theorem cC_Court_reason (l : Launch) (D : va_G) (yI yO : ClassId) (z0 : Nat) (ad : Nat → Nat → Nat) {g : CS} {rz : Int32} {x1 : Int32} {x2 : Int32} (h : fC_Court_reason g x1 x2 = some (.inr rz)) : Met l yX8_reason wsX8_reason (mR 6 133) (va_Pc [.ref (ad 0 0), .int x1, .int x2] (cPre D yI yO z0 ad g)) (cQ D yI yO z0 ad rz g (cF ad g)) 0 0 (cF ad g) := by
  refine Met.ofW (cc := cX8_reason) (maxL := 3) (ret := (some .int)) (by decide) rfl ?_
  intro p e s m args below meth c s₁ B hml hv
  obtain ⟨hv0, hw, hK⟩ := hv
  have hv1 : args = [.ref (ad 0 0), .int x1, .int x2].toArray := hv0
  subst hv1
  have C : cC p s m _ meth c cX8_reason RX8 (some .int) wsX8_reason 3 D yI yO := ⟨B.exec, B.bytes, B.returns, atoms_spec (ws := wsX8_reason) B.pre, findClass_of_methodNamed B.named, B.notSynchronized, hml, hK⟩
  have hl := lv_entry ([.ref (ad 0 0), .int x1, .int x2]) (n := 3) (Nat.le_of_ble_eq_true rfl)
  rw [lg_entry_eq]
  generalize (lg_sl ([.ref (ad 0 0), .int x1, .int x2]) ++ List.replicate (3 - (lg_sl ([.ref (ad 0 0), .int x1, .int x2])).length) Slot.unset).toArray = ls at hl ⊢
  have hl : lv_has ls 3 [(0, .ref (ad 0 0)), (1, .int x1), (2, .int x2)] := hl
  exact w_C_Court_reason_0 C h ⟨hw, fun k i hi => ⟨k, i, hi, rfl⟩, va_S.rf⟩ hl
set_option maxRecDepth 20000 in
theorem cX_Court_reason (l : Launch) (hlf : l.stackTraces = false) (D : va_G) (yI yO : ClassId) (z0 : Nat) (ad : Nat → Nat → Nat) {g : CS} {ez : Nat} {x1 : Int32} {x2 : Int32} (sz : Nat) (h : fC_Court_reason g x1 x2 = some (.inl ez)) : vx_Met l yX8_reason wsX8_reason (xR 7 133) (va_Pc [.ref (ad 0 0), .int x1, .int x2] (xPre D yI yO z0 ad g sz)) (xQ (cA ad g sz)) (xXC D yI yO z0 ad g ez (cA ad g sz)) 1 6 (cA ad g sz) := by
  refine vx_ofW (cc := cX8_reason) (maxL := 3) (ret := (some .int)) (by decide) rfl ?_
  intro p e s m args below meth c s₁ B hml ht hv
  obtain ⟨hv0, ⟨hw, hK⟩, hsz, hxs⟩ := hv
  subst hsz
  have hv1 : args = [.ref (ad 0 0), .int x1, .int x2].toArray := hv0
  subst hv1
  have C : cC p s m _ meth c cX8_reason RX8 (some .int) wsX8_reason 3 D yI yO := ⟨B.exec, B.bytes, B.returns, atoms_spec (ws := wsX8_reason) B.pre, findClass_of_methodNamed B.named, B.notSynchronized, hml, hK⟩
  have hl := lv_entry ([.ref (ad 0 0), .int x1, .int x2]) (n := 3) (Nat.le_of_ble_eq_true rfl)
  rw [lg_entry_eq]
  generalize (lg_sl ([.ref (ad 0 0), .int x1, .int x2]) ++ List.replicate (3 - (lg_sl ([.ref (ad 0 0), .int x1, .int x2])).length) Slot.unset).toArray = ls at hl ⊢
  have hl : lv_has ls 3 [(0, .ref (ad 0 0)), (1, .int x1), (2, .int x2)] := hl
  exact w_X_Court_reason_0 C hlf ht hxs (fun q h => Or.inr h) h ⟨hw, fun k i hi => Or.inl ⟨k, i, hi, rfl⟩, va_S.rf⟩ hl
theorem iC_Court_banned_X0 : ∀ w ∈ wsX00, w ∈ wsX8_banned := by decide +kernel
theorem iC_Court_banned_X1 : ∀ w ∈ wsX10, w ∈ wsX8_banned := by decide +kernel
theorem iC_Court_banned_X3 : ∀ w ∈ wsX30, w ∈ wsX8_banned := by decide +kernel
theorem iC_Court_banned_X8 : ∀ w ∈ wsX80, w ∈ wsX8_banned := by decide +kernel
def fC_Court_banned_54 (g : CS) : Option (Nat ⊕ Int32) :=
  some (.inr ((-1)))
set_option maxRecDepth 20000 in
theorem w_C_Court_banned_54 (C : cC p s m args meth c cX8_banned RX8 (some .int) wsX8_banned 7 D yI yO) {rz : Int32} {g : CS} (h : fC_Court_banned_54 g = some (.inr rz)) {H : Heap} {locs : List Loc} {ls : Array Slot} (hX : cX D yI yO z0 ad g A s H locs) (hl : lv_has ls 7 [(0, .ref (ad 0 0))]) : W p l e (mR 4 85) s m args below meth c H locs 0 0 (MQ below (cQ D yI yO z0 ad rz g A) args s 0 0 A) (F0 m 54 ls []) := by
  obtain ⟨hx, hb, hr, hts, hown, hlocks, hml, hK⟩ := id C
  unfold fC_Court_banned_54 at h
  refine lv_iconst (v := -1) hx hb dX8_banned_54 (by decide) ?_
  cases h
  exact cg_reti hx hb hr hlocks hK hX dX8_banned_55
theorem nt_C_Court_banned_54 {g : CS} : ntp (fC_Court_banned_54 g) := by
  unfold fC_Court_banned_54
  repeat' first | exact ntp_inr _ | exact ntp_none | refine ntp_bind (fun _ => ?_) | refine ntp_cb2 (fun _ _ => ?_) | refine ntp_om ?_ (fun _ => ?_) | refine ntp_ite ?_ ?_
def fC_Court_banned (g : CS) (x1 : Int32) (x2 : Int32) (x3 : Int32) : Option (Nat ⊕ Int32) :=
  xb (fC_Court_landAt g x1) fun v1 =>
  xb (fC_Court_personAt g x2) fun v3 =>
  xb (fC_Court_landAt g x3) fun v5 =>
  (ck g 5 v3).bind fun _ =>
  (ck g 4 v1).bind fun _ =>
  (fC_Bans_stands v3 g (sI g 4 v1 0) (sI g 0 0 6)).bind fun r9 =>
  if r9 = 0 then
    fC_Court_banned_54 g
  else
    (fC_Court_isKnown g v3 v1 v5).bind fun r11 =>
    if r11 = 0 then
      fC_Court_banned_54 g
    else
      (fC_Row_at 12 v3 g (sI g 4 v1 0)).bind fun r13 =>
      some (.inr r13)
set_option maxRecDepth 20000 in
theorem w_C_Court_banned_0 (C : cC p s m args meth c cX8_banned RX8 (some .int) wsX8_banned 7 D yI yO) {rz : Int32} {g : CS} {x1 : Int32} {x2 : Int32} {x3 : Int32} (h : fC_Court_banned g x1 x2 x3 = some (.inr rz)) {H : Heap} {locs : List Loc} {ls : Array Slot} (hX : cX D yI yO z0 ad g A s H locs) (hl : lv_has ls 7 [(0, .ref (ad 0 0)), (1, .int x1), (2, .int x2), (3, .int x3)]) : W p l e (mR 4 85) s m args below meth c H locs 0 0 (MQ below (cQ D yI yO z0 ad rz g A) args s 0 0 A) (F0 m 0 ls []) := by
  obtain ⟨hx, hb, hr, hts, hown, hlocks, hml, hK⟩ := id C
  unfold fC_Court_banned at h
  refine lv_aload_n hx hb dX8_banned_0 rfl (lv_at hl 0 rfl) ?_
  refine lv_iload_n hx hb dX8_banned_1 rfl (lv_at hl 1 rfl) ?_
  obtain ⟨v1, et2, h⟩ := xb_ret h
  refine cg_callVq (As := [.int x1]) (rest := []) ⟨hx, hb, hml, hown, hts⟩ 0 0 rfl (ci := 9) rfl rfl (cC_Court_landAt l D yI yO z0 ad et2) (cwV 1 hts gX8_banned_X8_landAt rfl rfl rfl (by decide +kernel) ⟨Nat.le_of_ble_eq_true rfl, Nat.le_of_ble_eq_true rfl⟩) hK hX rfl hl.1 rfl (Nat.le_of_ble_eq_true rfl) dX8_banned_2 ⟨Nat.zero_le _, Nat.zero_le _⟩ (fun H locs hX => ?_)
  refine W.eq (g2 := F0 m 5 ls [.ref (ad 4 v1)]) rfl ?_
  refine lv_astore (lv' := [(4, .ref (ad 4 v1)), (0, .ref (ad 0 0)), (1, .int x1), (2, .int x2), (3, .int x3)]) hx hb dX8_banned_5 hl (by decide) rfl (fun ls hl => ?_)
  refine lv_aload_n hx hb dX8_banned_7 rfl (lv_at hl 1 rfl) ?_
  refine lv_iload_n hx hb dX8_banned_8 rfl (lv_at hl 3 rfl) ?_
  obtain ⟨v3, et4, h⟩ := xb_ret h
  refine cg_callVq (As := [.int x2]) (rest := []) ⟨hx, hb, hml, hown, hts⟩ 0 0 rfl (ci := 9) rfl rfl (cC_Court_personAt l D yI yO z0 ad et4) (cwV 1 hts gX8_banned_X8_personAt rfl rfl rfl (by decide +kernel) ⟨Nat.le_of_ble_eq_true rfl, Nat.le_of_ble_eq_true rfl⟩) hK hX rfl hl.1 rfl (Nat.le_of_ble_eq_true rfl) dX8_banned_9 ⟨Nat.zero_le _, Nat.zero_le _⟩ (fun H locs hX => ?_)
  refine W.eq (g2 := F0 m 12 ls [.ref (ad 5 v3)]) rfl ?_
  refine lv_astore (lv' := [(5, .ref (ad 5 v3)), (4, .ref (ad 4 v1)), (0, .ref (ad 0 0)), (1, .int x1), (2, .int x2), (3, .int x3)]) hx hb dX8_banned_12 hl (by decide) rfl (fun ls hl => ?_)
  refine lv_aload_n hx hb dX8_banned_14 rfl (lv_at hl 2 rfl) ?_
  refine lv_iload_n hx hb dX8_banned_15 rfl (lv_at hl 5 rfl) ?_
  obtain ⟨v5, et6, h⟩ := xb_ret h
  refine cg_callVq (As := [.int x3]) (rest := []) ⟨hx, hb, hml, hown, hts⟩ 0 0 rfl (ci := 9) rfl rfl (cC_Court_landAt l D yI yO z0 ad et6) (cwV 1 hts gX8_banned_X8_landAt rfl rfl rfl (by decide +kernel) ⟨Nat.le_of_ble_eq_true rfl, Nat.le_of_ble_eq_true rfl⟩) hK hX rfl hl.1 rfl (Nat.le_of_ble_eq_true rfl) dX8_banned_16 ⟨Nat.zero_le _, Nat.zero_le _⟩ (fun H locs hX => ?_)
  refine W.eq (g2 := F0 m 19 ls [.ref (ad 4 v5)]) rfl ?_
  refine lv_astore (lv' := [(6, .ref (ad 4 v5)), (5, .ref (ad 5 v3)), (4, .ref (ad 4 v1)), (0, .ref (ad 0 0)), (1, .int x1), (2, .int x2), (3, .int x3)]) hx hb dX8_banned_19 hl (by decide) rfl (fun ls hl => ?_)
  refine lv_aload hx hb dX8_banned_21 (lv_at hl 1 rfl) ?_
  obtain ⟨_, hv7, h⟩ := mbind h
  replace hv7 := ck_spec hv7
  refine cg_get hx hb hts iC_Court_banned_X3 hown hK hX 5 v3 hv7 rfl rfl 6 (by decide) (hts (.fieldLink RX8 189 "PassageCourt$Person" "bans" "LPassageCourt$Bans;") (by decide +kernel)) (fun _ h9 => h9) rfl dX8_banned_23 ?_
  refine lv_aload hx hb dX8_banned_26 (lv_at hl 2 rfl) ?_
  obtain ⟨_, hv8, h⟩ := mbind h
  replace hv8 := ck_spec hv8
  refine cg_get hx hb hts iC_Court_banned_X1 hown hK hX 4 v1 hv8 rfl rfl 0 (by decide) (hts (.fieldLink RX8 66 "PassageCourt$Land" "number" "I") (by decide +kernel)) (fun _ h9 => h9) rfl dX8_banned_28 ?_
  refine lv_aload_n hx hb dX8_banned_31 rfl (lv_at hl 3 rfl) ?_
  refine cg_get hx hb hts iC_Court_banned_X8 hown hK hX 0 0 rfl rfl rfl 6 (by decide) (hts (.fieldLink RX8 37 "PassageCourt" "today" "I") (by decide +kernel)) (fun _ h9 => h9) rfl dX8_banned_32 ?_
  obtain ⟨r9, er9, h⟩ := mbind h
  refine cg_callV (As := [.int (sI g 4 v1 0), .int (sI g 0 0 6)]) (rest := []) ⟨hx, hb, hml, hown, hts⟩ 24 v3 hv7 (ci := 1) rfl rfl (cC_Bans_stands l D yI yO z0 ad er9) (cwV 2 hts gX8_banned_X0_stands rfl rfl rfl (by decide +kernel) ⟨Nat.le_of_ble_eq_true rfl, Nat.le_of_ble_eq_true rfl⟩) hK hX rfl hl.1 rfl (Nat.le_of_ble_eq_true rfl) dX8_banned_35 ⟨Nat.zero_le _, Nat.zero_le _⟩ (fun H locs hX => ?_)
  refine lv_if_eq (tgt := 54) hx hb dX8_banned_38 (by decide) (fun c10 => ?_) (fun c10 => ?_)
  · replace h := mpos c10 h
    exact w_C_Court_banned_54 C h hX (lv_sub hl [3] rfl)
  · replace h := mneg c10 h
    refine lv_aload_n hx hb dX8_banned_41 rfl (lv_at hl 3 rfl) ?_
    refine lv_aload hx hb dX8_banned_42 (lv_at hl 1 rfl) ?_
    refine lv_aload hx hb dX8_banned_44 (lv_at hl 2 rfl) ?_
    refine lv_aload hx hb dX8_banned_46 (lv_at hl 0 rfl) ?_
    obtain ⟨r11, er11, h⟩ := mbind h
    refine cg_callV (As := [.ref (ad 5 v3), .ref (ad 4 v1), .ref (ad 4 v5)]) (rest := []) ⟨hx, hb, hml, hown, hts⟩ 0 0 rfl (ci := 9) rfl rfl (cC_Court_isKnown l D yI yO z0 ad er11) (cwV 3 hts gX8_banned_X8_isKnown rfl rfl rfl (by decide +kernel) ⟨Nat.le_of_ble_eq_true rfl, Nat.le_of_ble_eq_true rfl⟩) hK hX rfl hl.1 rfl (Nat.le_of_ble_eq_true rfl) dX8_banned_48 ⟨Nat.zero_le _, Nat.zero_le _⟩ (fun H locs hX => ?_)
    refine lv_if_ne (tgt := 56) hx hb dX8_banned_51 (by decide) (fun c12 => ?_) (fun c12 => ?_)
    · replace h := mneg c12 h
      refine lv_aload hx hb dX8_banned_56 (lv_at hl 1 rfl) ?_
      refine cg_get hx hb hts iC_Court_banned_X3 hown hK hX 5 v3 hv7 rfl rfl 6 (by decide) (hts (.fieldLink RX8 189 "PassageCourt$Person" "bans" "LPassageCourt$Bans;") (by decide +kernel)) (fun _ h9 => h9) rfl dX8_banned_58 ?_
      refine cg_get hx hb hts iC_Court_banned_X0 hown hK hX 24 v3 hv7 rfl rfl 1 (by decide) (hts (.fieldLink RX8 198 "PassageCourt$Bans" "last" "LPassageCourt$Row;") (by decide +kernel)) (fun _ h9 => h9) rfl dX8_banned_61 ?_
      refine lv_aload hx hb dX8_banned_64 (lv_at hl 2 rfl) ?_
      refine cg_get hx hb hts iC_Court_banned_X1 hown hK hX 4 v1 hv8 rfl rfl 0 (by decide) (hts (.fieldLink RX8 66 "PassageCourt$Land" "number" "I") (by decide +kernel)) (fun _ h9 => h9) rfl dX8_banned_66 ?_
      obtain ⟨r13, er13, h⟩ := mbind h
      refine cg_callV (As := [.int (sI g 4 v1 0)]) (rest := []) ⟨hx, hb, hml, hown, hts⟩ 12 v3 hv7 (ci := 6) rfl rfl (cC_Row_at l D yI yO z0 ad ⟨by decide, by decide⟩ er13) (cwV 1 hts gX8_banned_X5_at rfl rfl rfl (by decide +kernel) ⟨Nat.le_of_ble_eq_true rfl, Nat.le_of_ble_eq_true rfl⟩) hK hX rfl hl.1 rfl (Nat.le_of_ble_eq_true rfl) dX8_banned_69 ⟨Nat.zero_le _, Nat.zero_le _⟩ (fun H locs hX => ?_)
      cases h
      exact cg_reti hx hb hr hlocks hK hX dX8_banned_72
    · replace h := mpos c12 h
      exact w_C_Court_banned_54 C h hX (lv_sub hl [3] rfl)
set_option maxRecDepth 20000 in
theorem w_X_Court_banned_0 (C : cC p s m args meth c cX8_banned RX8 (some .int) wsX8_banned 7 D yI yO) {Qc : Array Value → State → Outcome → State → Prop} (hlf : l.stackTraces = false) (ht : ∀ x ∈ c.exceptionTable.toList, False) (hxs : xS A s s.heap) (hA : ∀ q, s.heap.size ≤ q → A q) {ez : Nat} {g : CS} {x1 : Int32} {x2 : Int32} {x3 : Int32} (h : fC_Court_banned g x1 x2 x3 = some (.inl ez)) {H : Heap} {locs : List Loc} {ls : Array Slot} (hX : cX D yI yO z0 ad g A s H locs) (hl : lv_has ls 7 [(0, .ref (ad 0 0)), (1, .int x1), (2, .int x2), (3, .int x3)]) : W p l e (xR 7 111) s m args below meth c H locs 0 0 (vx_MQ below Qc (xXC D yI yO z0 ad g ez A) args s 1 6 A) (F0 m 0 ls []) := by
  obtain ⟨hx, hb, hr, hts, hown, hlocks, hml, hK⟩ := id C
  unfold fC_Court_banned at h
  refine lv_aload_n hx hb dX8_banned_0 rfl (lv_at hl 0 rfl) ?_
  refine lv_iload_n hx hb dX8_banned_1 rfl (lv_at hl 1 rfl) ?_
  rcases xb_thr h with et2 | ⟨v1, et2, h⟩
  · exact xg_callV (As := [.int x1]) (rest := []) ⟨hx, hb, hml, hown, hts⟩ 0 0 rfl (ci := 9) rfl rfl (cX_Court_landAt l hlf D yI yO z0 ad H.size et2) (cwV 1 hts gX8_banned_X8_landAt rfl rfl rfl (by decide +kernel) ⟨Nat.le_of_ble_eq_true rfl, Nat.le_of_ble_eq_true rfl⟩) hK hX hA hxs ht hlocks rfl hl.1 rfl (Nat.le_of_ble_eq_true rfl) dX8_banned_2 ⟨Nat.le_refl _, Nat.le_refl _⟩
  refine cg_callVq (As := [.int x1]) (rest := []) ⟨hx, hb, hml, hown, hts⟩ 0 0 rfl (ci := 9) rfl rfl (cC_Court_landAt l D yI yO z0 ad et2) (cwV 1 hts gX8_banned_X8_landAt rfl rfl rfl (by decide +kernel) ⟨Nat.le_of_ble_eq_true rfl, Nat.le_of_ble_eq_true rfl⟩) hK hX rfl hl.1 rfl (Nat.le_of_ble_eq_true rfl) dX8_banned_2 ⟨Nat.zero_le _, Nat.zero_le _⟩ (fun H locs hX => ?_)
  refine W.eq (g2 := F0 m 5 ls [.ref (ad 4 v1)]) rfl ?_
  refine lv_astore (lv' := [(4, .ref (ad 4 v1)), (0, .ref (ad 0 0)), (1, .int x1), (2, .int x2), (3, .int x3)]) hx hb dX8_banned_5 hl (by decide) rfl (fun ls hl => ?_)
  refine lv_aload_n hx hb dX8_banned_7 rfl (lv_at hl 1 rfl) ?_
  refine lv_iload_n hx hb dX8_banned_8 rfl (lv_at hl 3 rfl) ?_
  rcases xb_thr h with et4 | ⟨v3, et4, h⟩
  · exact xg_callV (As := [.int x2]) (rest := []) ⟨hx, hb, hml, hown, hts⟩ 0 0 rfl (ci := 9) rfl rfl (cX_Court_personAt l hlf D yI yO z0 ad H.size et4) (cwV 1 hts gX8_banned_X8_personAt rfl rfl rfl (by decide +kernel) ⟨Nat.le_of_ble_eq_true rfl, Nat.le_of_ble_eq_true rfl⟩) hK hX hA hxs ht hlocks rfl hl.1 rfl (Nat.le_of_ble_eq_true rfl) dX8_banned_9 ⟨Nat.le_refl _, Nat.le_refl _⟩
  refine cg_callVq (As := [.int x2]) (rest := []) ⟨hx, hb, hml, hown, hts⟩ 0 0 rfl (ci := 9) rfl rfl (cC_Court_personAt l D yI yO z0 ad et4) (cwV 1 hts gX8_banned_X8_personAt rfl rfl rfl (by decide +kernel) ⟨Nat.le_of_ble_eq_true rfl, Nat.le_of_ble_eq_true rfl⟩) hK hX rfl hl.1 rfl (Nat.le_of_ble_eq_true rfl) dX8_banned_9 ⟨Nat.zero_le _, Nat.zero_le _⟩ (fun H locs hX => ?_)
  refine W.eq (g2 := F0 m 12 ls [.ref (ad 5 v3)]) rfl ?_
  refine lv_astore (lv' := [(5, .ref (ad 5 v3)), (4, .ref (ad 4 v1)), (0, .ref (ad 0 0)), (1, .int x1), (2, .int x2), (3, .int x3)]) hx hb dX8_banned_12 hl (by decide) rfl (fun ls hl => ?_)
  refine lv_aload_n hx hb dX8_banned_14 rfl (lv_at hl 2 rfl) ?_
  refine lv_iload_n hx hb dX8_banned_15 rfl (lv_at hl 5 rfl) ?_
  rcases xb_thr h with et6 | ⟨v5, et6, h⟩
  · exact xg_callV (As := [.int x3]) (rest := []) ⟨hx, hb, hml, hown, hts⟩ 0 0 rfl (ci := 9) rfl rfl (cX_Court_landAt l hlf D yI yO z0 ad H.size et6) (cwV 1 hts gX8_banned_X8_landAt rfl rfl rfl (by decide +kernel) ⟨Nat.le_of_ble_eq_true rfl, Nat.le_of_ble_eq_true rfl⟩) hK hX hA hxs ht hlocks rfl hl.1 rfl (Nat.le_of_ble_eq_true rfl) dX8_banned_16 ⟨Nat.le_refl _, Nat.le_refl _⟩
  refine cg_callVq (As := [.int x3]) (rest := []) ⟨hx, hb, hml, hown, hts⟩ 0 0 rfl (ci := 9) rfl rfl (cC_Court_landAt l D yI yO z0 ad et6) (cwV 1 hts gX8_banned_X8_landAt rfl rfl rfl (by decide +kernel) ⟨Nat.le_of_ble_eq_true rfl, Nat.le_of_ble_eq_true rfl⟩) hK hX rfl hl.1 rfl (Nat.le_of_ble_eq_true rfl) dX8_banned_16 ⟨Nat.zero_le _, Nat.zero_le _⟩ (fun H locs hX => ?_)
  refine W.eq (g2 := F0 m 19 ls [.ref (ad 4 v5)]) rfl ?_
  refine lv_astore (lv' := [(6, .ref (ad 4 v5)), (5, .ref (ad 5 v3)), (4, .ref (ad 4 v1)), (0, .ref (ad 0 0)), (1, .int x1), (2, .int x2), (3, .int x3)]) hx hb dX8_banned_19 hl (by decide) rfl (fun ls hl => ?_)
  refine lv_aload hx hb dX8_banned_21 (lv_at hl 1 rfl) ?_
  obtain ⟨_, hv7, h⟩ := mbind h
  replace hv7 := ck_spec hv7
  refine cg_get hx hb hts iC_Court_banned_X3 hown hK hX 5 v3 hv7 rfl rfl 6 (by decide) (hts (.fieldLink RX8 189 "PassageCourt$Person" "bans" "LPassageCourt$Bans;") (by decide +kernel)) (fun _ h9 => h9) rfl dX8_banned_23 ?_
  refine lv_aload hx hb dX8_banned_26 (lv_at hl 2 rfl) ?_
  obtain ⟨_, hv8, h⟩ := mbind h
  replace hv8 := ck_spec hv8
  refine cg_get hx hb hts iC_Court_banned_X1 hown hK hX 4 v1 hv8 rfl rfl 0 (by decide) (hts (.fieldLink RX8 66 "PassageCourt$Land" "number" "I") (by decide +kernel)) (fun _ h9 => h9) rfl dX8_banned_28 ?_
  refine lv_aload_n hx hb dX8_banned_31 rfl (lv_at hl 3 rfl) ?_
  refine cg_get hx hb hts iC_Court_banned_X8 hown hK hX 0 0 rfl rfl rfl 6 (by decide) (hts (.fieldLink RX8 37 "PassageCourt" "today" "I") (by decide +kernel)) (fun _ h9 => h9) rfl dX8_banned_32 ?_
  obtain ⟨r9, er9, h⟩ := mbind h
  refine cg_callV (As := [.int (sI g 4 v1 0), .int (sI g 0 0 6)]) (rest := []) ⟨hx, hb, hml, hown, hts⟩ 24 v3 hv7 (ci := 1) rfl rfl (cC_Bans_stands l D yI yO z0 ad er9) (cwV 2 hts gX8_banned_X0_stands rfl rfl rfl (by decide +kernel) ⟨Nat.le_of_ble_eq_true rfl, Nat.le_of_ble_eq_true rfl⟩) hK hX rfl hl.1 rfl (Nat.le_of_ble_eq_true rfl) dX8_banned_35 ⟨Nat.zero_le _, Nat.zero_le _⟩ (fun H locs hX => ?_)
  refine lv_if_eq (tgt := 54) hx hb dX8_banned_38 (by decide) (fun c10 => ?_) (fun c10 => ?_)
  · replace h := mpos c10 h
    exact (nt_C_Court_banned_54 _ h).elim
  · replace h := mneg c10 h
    refine lv_aload_n hx hb dX8_banned_41 rfl (lv_at hl 3 rfl) ?_
    refine lv_aload hx hb dX8_banned_42 (lv_at hl 1 rfl) ?_
    refine lv_aload hx hb dX8_banned_44 (lv_at hl 2 rfl) ?_
    refine lv_aload hx hb dX8_banned_46 (lv_at hl 0 rfl) ?_
    obtain ⟨r11, er11, h⟩ := mbind h
    refine cg_callV (As := [.ref (ad 5 v3), .ref (ad 4 v1), .ref (ad 4 v5)]) (rest := []) ⟨hx, hb, hml, hown, hts⟩ 0 0 rfl (ci := 9) rfl rfl (cC_Court_isKnown l D yI yO z0 ad er11) (cwV 3 hts gX8_banned_X8_isKnown rfl rfl rfl (by decide +kernel) ⟨Nat.le_of_ble_eq_true rfl, Nat.le_of_ble_eq_true rfl⟩) hK hX rfl hl.1 rfl (Nat.le_of_ble_eq_true rfl) dX8_banned_48 ⟨Nat.zero_le _, Nat.zero_le _⟩ (fun H locs hX => ?_)
    refine lv_if_ne (tgt := 56) hx hb dX8_banned_51 (by decide) (fun c12 => ?_) (fun c12 => ?_)
    · replace h := mneg c12 h
      refine lv_aload hx hb dX8_banned_56 (lv_at hl 1 rfl) ?_
      refine cg_get hx hb hts iC_Court_banned_X3 hown hK hX 5 v3 hv7 rfl rfl 6 (by decide) (hts (.fieldLink RX8 189 "PassageCourt$Person" "bans" "LPassageCourt$Bans;") (by decide +kernel)) (fun _ h9 => h9) rfl dX8_banned_58 ?_
      refine cg_get hx hb hts iC_Court_banned_X0 hown hK hX 24 v3 hv7 rfl rfl 1 (by decide) (hts (.fieldLink RX8 198 "PassageCourt$Bans" "last" "LPassageCourt$Row;") (by decide +kernel)) (fun _ h9 => h9) rfl dX8_banned_61 ?_
      refine lv_aload hx hb dX8_banned_64 (lv_at hl 2 rfl) ?_
      refine cg_get hx hb hts iC_Court_banned_X1 hown hK hX 4 v1 hv8 rfl rfl 0 (by decide) (hts (.fieldLink RX8 66 "PassageCourt$Land" "number" "I") (by decide +kernel)) (fun _ h9 => h9) rfl dX8_banned_66 ?_
      obtain ⟨r13, er13, h⟩ := mbind h
      refine cg_callV (As := [.int (sI g 4 v1 0)]) (rest := []) ⟨hx, hb, hml, hown, hts⟩ 12 v3 hv7 (ci := 6) rfl rfl (cC_Row_at l D yI yO z0 ad ⟨by decide, by decide⟩ er13) (cwV 1 hts gX8_banned_X5_at rfl rfl rfl (by decide +kernel) ⟨Nat.le_of_ble_eq_true rfl, Nat.le_of_ble_eq_true rfl⟩) hK hX rfl hl.1 rfl (Nat.le_of_ble_eq_true rfl) dX8_banned_69 ⟨Nat.zero_le _, Nat.zero_le _⟩ (fun H locs hX => ?_)
      cases h
    · replace h := mpos c12 h
      exact (nt_C_Court_banned_54 _ h).elim
set_option maxRecDepth 20000 in
theorem cC_Court_banned (l : Launch) (D : va_G) (yI yO : ClassId) (z0 : Nat) (ad : Nat → Nat → Nat) {g : CS} {rz : Int32} {x1 : Int32} {x2 : Int32} {x3 : Int32} (h : fC_Court_banned g x1 x2 x3 = some (.inr rz)) : Met l yX8_banned wsX8_banned (mR 4 85) (va_Pc [.ref (ad 0 0), .int x1, .int x2, .int x3] (cPre D yI yO z0 ad g)) (cQ D yI yO z0 ad rz g (cF ad g)) 0 0 (cF ad g) := by
  refine Met.ofW (cc := cX8_banned) (maxL := 7) (ret := (some .int)) (by decide) rfl ?_
  intro p e s m args below meth c s₁ B hml hv
  obtain ⟨hv0, hw, hK⟩ := hv
  have hv1 : args = [.ref (ad 0 0), .int x1, .int x2, .int x3].toArray := hv0
  subst hv1
  have C : cC p s m _ meth c cX8_banned RX8 (some .int) wsX8_banned 7 D yI yO := ⟨B.exec, B.bytes, B.returns, atoms_spec (ws := wsX8_banned) B.pre, findClass_of_methodNamed B.named, B.notSynchronized, hml, hK⟩
  have hl := lv_entry ([.ref (ad 0 0), .int x1, .int x2, .int x3]) (n := 7) (Nat.le_of_ble_eq_true rfl)
  rw [lg_entry_eq]
  generalize (lg_sl ([.ref (ad 0 0), .int x1, .int x2, .int x3]) ++ List.replicate (7 - (lg_sl ([.ref (ad 0 0), .int x1, .int x2, .int x3])).length) Slot.unset).toArray = ls at hl ⊢
  have hl : lv_has ls 7 [(0, .ref (ad 0 0)), (1, .int x1), (2, .int x2), (3, .int x3)] := hl
  exact w_C_Court_banned_0 C h ⟨hw, fun k i hi => ⟨k, i, hi, rfl⟩, va_S.rf⟩ hl
set_option maxRecDepth 20000 in
theorem cX_Court_banned (l : Launch) (hlf : l.stackTraces = false) (D : va_G) (yI yO : ClassId) (z0 : Nat) (ad : Nat → Nat → Nat) {g : CS} {ez : Nat} {x1 : Int32} {x2 : Int32} {x3 : Int32} (sz : Nat) (h : fC_Court_banned g x1 x2 x3 = some (.inl ez)) : vx_Met l yX8_banned wsX8_banned (xR 7 111) (va_Pc [.ref (ad 0 0), .int x1, .int x2, .int x3] (xPre D yI yO z0 ad g sz)) (xQ (cA ad g sz)) (xXC D yI yO z0 ad g ez (cA ad g sz)) 1 6 (cA ad g sz) := by
  refine vx_ofW (cc := cX8_banned) (maxL := 7) (ret := (some .int)) (by decide) rfl ?_
  intro p e s m args below meth c s₁ B hml ht hv
  obtain ⟨hv0, ⟨hw, hK⟩, hsz, hxs⟩ := hv
  subst hsz
  have hv1 : args = [.ref (ad 0 0), .int x1, .int x2, .int x3].toArray := hv0
  subst hv1
  have C : cC p s m _ meth c cX8_banned RX8 (some .int) wsX8_banned 7 D yI yO := ⟨B.exec, B.bytes, B.returns, atoms_spec (ws := wsX8_banned) B.pre, findClass_of_methodNamed B.named, B.notSynchronized, hml, hK⟩
  have hl := lv_entry ([.ref (ad 0 0), .int x1, .int x2, .int x3]) (n := 7) (Nat.le_of_ble_eq_true rfl)
  rw [lg_entry_eq]
  generalize (lg_sl ([.ref (ad 0 0), .int x1, .int x2, .int x3]) ++ List.replicate (7 - (lg_sl ([.ref (ad 0 0), .int x1, .int x2, .int x3])).length) Slot.unset).toArray = ls at hl ⊢
  have hl : lv_has ls 7 [(0, .ref (ad 0 0)), (1, .int x1), (2, .int x2), (3, .int x3)] := hl
  exact w_X_Court_banned_0 C hlf ht hxs (fun q h => Or.inr h) h ⟨hw, fun k i hi => Or.inl ⟨k, i, hi, rfl⟩, va_S.rf⟩ hl
theorem iC_Court_ofVisa_X7 : ∀ w ∈ wsX70, w ∈ wsX8_ofVisa := by decide +kernel
theorem eC_Court_ofVisa_45 : ∀ w ∈ (vx_atS RX8 45 "java/lang/IllegalArgumentException" ["java/lang/RuntimeException", "java/lang/Exception"]).filter goodWord, w ∈ wsX8_ofVisa := by decide +kernel
def fC_Court_ofVisa (g : CS) (x1 : Int32) (x2 : Int32) : Option (Nat ⊕ Int32) :=
  xb (fC_Court_visaAt g x1) fun v1 =>
  if x2 = 0 then
    (ck g 6 v1).bind fun _ =>
    some (.inr (sI g 6 v1 5))
  else
  if x2 = 1 then
    (ck g 6 v1).bind fun _ =>
    some (.inr (sI g 6 v1 6))
  else
  if x2 = 2 then
    (ck g 6 v1).bind fun _ =>
    some (.inr (sI g 6 v1 1))
  else
    some (.inl 1)
set_option maxRecDepth 20000 in
theorem w_C_Court_ofVisa_0 (C : cC p s m args meth c cX8_ofVisa RX8 (some .int) wsX8_ofVisa 4 D yI yO) {rz : Int32} {g : CS} {x1 : Int32} {x2 : Int32} (h : fC_Court_ofVisa g x1 x2 = some (.inr rz)) {H : Heap} {locs : List Loc} {ls : Array Slot} (hX : cX D yI yO z0 ad g A s H locs) (hl : lv_has ls 4 [(0, .ref (ad 0 0)), (1, .int x1), (2, .int x2)]) : W p l e (mR 4 85) s m args below meth c H locs 0 0 (MQ below (cQ D yI yO z0 ad rz g A) args s 0 0 A) (F0 m 0 ls []) := by
  obtain ⟨hx, hb, hr, hts, hown, hlocks, hml, hK⟩ := id C
  unfold fC_Court_ofVisa at h
  refine lv_aload_n hx hb dX8_ofVisa_0 rfl (lv_at hl 0 rfl) ?_
  refine lv_iload_n hx hb dX8_ofVisa_1 rfl (lv_at hl 1 rfl) ?_
  obtain ⟨v1, et2, h⟩ := xb_ret h
  refine cg_callVq (As := [.int x1]) (rest := []) ⟨hx, hb, hml, hown, hts⟩ 0 0 rfl (ci := 9) rfl rfl (cC_Court_visaAt l D yI yO z0 ad et2) (cwV 1 hts gX8_ofVisa_X8_visaAt rfl rfl rfl (by decide +kernel) ⟨Nat.le_of_ble_eq_true rfl, Nat.le_of_ble_eq_true rfl⟩) hK hX rfl hl.1 rfl (Nat.le_of_ble_eq_true rfl) dX8_ofVisa_2 ⟨Nat.zero_le _, Nat.zero_le _⟩ (fun H locs hX => ?_)
  refine W.eq (g2 := F0 m 5 ls [.ref (ad 6 v1)]) rfl ?_
  refine lv_astore_n (lv' := [(3, .ref (ad 6 v1)), (0, .ref (ad 0 0)), (1, .int x1), (2, .int x2)]) hx hb dX8_ofVisa_5 rfl hl (by decide) rfl (fun ls hl => ?_)
  refine lv_iload_n hx hb dX8_ofVisa_6 rfl (lv_at hl 3 rfl) ?_
  by_cases c3 : x2 = 0
  · replace h := mpos c3 h
    refine lv_tableIn (tgt := 32) hx hb dX8_ofVisa_7 (by rw [c3]; decide) (by rw [c3]; decide) (by rw [c3]; rfl) (by decide) ?_
    refine lv_aload_n hx hb dX8_ofVisa_32 rfl (lv_at hl 0 rfl) ?_
    obtain ⟨_, hv4, h⟩ := mbind h
    replace hv4 := ck_spec hv4
    refine cg_get hx hb hts iC_Court_ofVisa_X7 hown hK hX 6 v1 hv4 rfl rfl 5 (by decide) (hts (.fieldLink RX8 138 "PassageCourt$Visa" "entries" "I") (by decide +kernel)) (fun _ h9 => h9) rfl dX8_ofVisa_33 ?_
    cases h
    exact cg_reti hx hb hr hlocks hK hX dX8_ofVisa_36
  replace h := mneg c3 h
  by_cases c5 : x2 = 1
  · replace h := mpos c5 h
    refine lv_tableIn (tgt := 37) hx hb dX8_ofVisa_7 (by rw [c5]; decide) (by rw [c5]; decide) (by rw [c5]; rfl) (by decide) ?_
    refine lv_aload_n hx hb dX8_ofVisa_37 rfl (lv_at hl 0 rfl) ?_
    obtain ⟨_, hv6, h⟩ := mbind h
    replace hv6 := ck_spec hv6
    refine cg_get hx hb hts iC_Court_ofVisa_X7 hown hK hX 6 v1 hv6 rfl rfl 6 (by decide) (hts (.fieldLink RX8 141 "PassageCourt$Visa" "days" "I") (by decide +kernel)) (fun _ h9 => h9) rfl dX8_ofVisa_38 ?_
    cases h
    exact cg_reti hx hb hr hlocks hK hX dX8_ofVisa_41
  replace h := mneg c5 h
  by_cases c7 : x2 = 2
  · replace h := mpos c7 h
    refine lv_tableIn (tgt := 42) hx hb dX8_ofVisa_7 (by rw [c7]; decide) (by rw [c7]; decide) (by rw [c7]; rfl) (by decide) ?_
    refine lv_aload_n hx hb dX8_ofVisa_42 rfl (lv_at hl 0 rfl) ?_
    obtain ⟨_, hv8, h⟩ := mbind h
    replace hv8 := ck_spec hv8
    refine cg_get hx hb hts iC_Court_ofVisa_X7 hown hK hX 6 v1 hv8 rfl rfl 1 (by decide) (hts (.fieldLink RX8 337 "PassageCourt$Visa" "person" "I") (by decide +kernel)) (fun _ h9 => h9) rfl dX8_ofVisa_43 ?_
    cases h
    exact cg_reti hx hb hr hlocks hK hX dX8_ofVisa_46
  replace h := mneg c7 h
  have nc3 := lv_neT c3 (show (0 : Int32).toInt = 0 from rfl)
  have nc5 := lv_neT c5 (show (1 : Int32).toInt = 1 from rfl)
  have nc7 := lv_neT c7 (show (2 : Int32).toInt = 2 from rfl)
  refine lv_tableOut (tgt := 47) hx hb dX8_ofVisa_7 (by omega) (by decide) ?_
  cases h
set_option maxRecDepth 20000 in
theorem w_X_Court_ofVisa_0 (C : cC p s m args meth c cX8_ofVisa RX8 (some .int) wsX8_ofVisa 4 D yI yO) {Qc : Array Value → State → Outcome → State → Prop} (hlf : l.stackTraces = false) (ht : ∀ x ∈ c.exceptionTable.toList, False) (hxs : xS A s s.heap) (hA : ∀ q, s.heap.size ≤ q → A q) {ez : Nat} {g : CS} {x1 : Int32} {x2 : Int32} (h : fC_Court_ofVisa g x1 x2 = some (.inl ez)) {H : Heap} {locs : List Loc} {ls : Array Slot} (hX : cX D yI yO z0 ad g A s H locs) (hl : lv_has ls 4 [(0, .ref (ad 0 0)), (1, .int x1), (2, .int x2)]) : W p l e (xR 7 111) s m args below meth c H locs 0 0 (vx_MQ below Qc (xXC D yI yO z0 ad g ez A) args s 1 6 A) (F0 m 0 ls []) := by
  obtain ⟨hx, hb, hr, hts, hown, hlocks, hml, hK⟩ := id C
  unfold fC_Court_ofVisa at h
  refine lv_aload_n hx hb dX8_ofVisa_0 rfl (lv_at hl 0 rfl) ?_
  refine lv_iload_n hx hb dX8_ofVisa_1 rfl (lv_at hl 1 rfl) ?_
  rcases xb_thr h with et2 | ⟨v1, et2, h⟩
  · exact xg_callV (As := [.int x1]) (rest := []) ⟨hx, hb, hml, hown, hts⟩ 0 0 rfl (ci := 9) rfl rfl (cX_Court_visaAt l hlf D yI yO z0 ad H.size et2) (cwV 1 hts gX8_ofVisa_X8_visaAt rfl rfl rfl (by decide +kernel) ⟨Nat.le_of_ble_eq_true rfl, Nat.le_of_ble_eq_true rfl⟩) hK hX hA hxs ht hlocks rfl hl.1 rfl (Nat.le_of_ble_eq_true rfl) dX8_ofVisa_2 ⟨Nat.le_refl _, Nat.le_refl _⟩
  refine cg_callVq (As := [.int x1]) (rest := []) ⟨hx, hb, hml, hown, hts⟩ 0 0 rfl (ci := 9) rfl rfl (cC_Court_visaAt l D yI yO z0 ad et2) (cwV 1 hts gX8_ofVisa_X8_visaAt rfl rfl rfl (by decide +kernel) ⟨Nat.le_of_ble_eq_true rfl, Nat.le_of_ble_eq_true rfl⟩) hK hX rfl hl.1 rfl (Nat.le_of_ble_eq_true rfl) dX8_ofVisa_2 ⟨Nat.zero_le _, Nat.zero_le _⟩ (fun H locs hX => ?_)
  refine W.eq (g2 := F0 m 5 ls [.ref (ad 6 v1)]) rfl ?_
  refine lv_astore_n (lv' := [(3, .ref (ad 6 v1)), (0, .ref (ad 0 0)), (1, .int x1), (2, .int x2)]) hx hb dX8_ofVisa_5 rfl hl (by decide) rfl (fun ls hl => ?_)
  refine lv_iload_n hx hb dX8_ofVisa_6 rfl (lv_at hl 3 rfl) ?_
  by_cases c3 : x2 = 0
  · replace h := mpos c3 h
    refine lv_tableIn (tgt := 32) hx hb dX8_ofVisa_7 (by rw [c3]; decide) (by rw [c3]; decide) (by rw [c3]; rfl) (by decide) ?_
    refine lv_aload_n hx hb dX8_ofVisa_32 rfl (lv_at hl 0 rfl) ?_
    obtain ⟨_, hv4, h⟩ := mbind h
    replace hv4 := ck_spec hv4
    refine cg_get hx hb hts iC_Court_ofVisa_X7 hown hK hX 6 v1 hv4 rfl rfl 5 (by decide) (hts (.fieldLink RX8 138 "PassageCourt$Visa" "entries" "I") (by decide +kernel)) (fun _ h9 => h9) rfl dX8_ofVisa_33 ?_
    cases h
  replace h := mneg c3 h
  by_cases c5 : x2 = 1
  · replace h := mpos c5 h
    refine lv_tableIn (tgt := 37) hx hb dX8_ofVisa_7 (by rw [c5]; decide) (by rw [c5]; decide) (by rw [c5]; rfl) (by decide) ?_
    refine lv_aload_n hx hb dX8_ofVisa_37 rfl (lv_at hl 0 rfl) ?_
    obtain ⟨_, hv6, h⟩ := mbind h
    replace hv6 := ck_spec hv6
    refine cg_get hx hb hts iC_Court_ofVisa_X7 hown hK hX 6 v1 hv6 rfl rfl 6 (by decide) (hts (.fieldLink RX8 141 "PassageCourt$Visa" "days" "I") (by decide +kernel)) (fun _ h9 => h9) rfl dX8_ofVisa_38 ?_
    cases h
  replace h := mneg c5 h
  by_cases c7 : x2 = 2
  · replace h := mpos c7 h
    refine lv_tableIn (tgt := 42) hx hb dX8_ofVisa_7 (by rw [c7]; decide) (by rw [c7]; decide) (by rw [c7]; rfl) (by decide) ?_
    refine lv_aload_n hx hb dX8_ofVisa_42 rfl (lv_at hl 0 rfl) ?_
    obtain ⟨_, hv8, h⟩ := mbind h
    replace hv8 := ck_spec hv8
    refine cg_get hx hb hts iC_Court_ofVisa_X7 hown hK hX 6 v1 hv8 rfl rfl 1 (by decide) (hts (.fieldLink RX8 337 "PassageCourt$Visa" "person" "I") (by decide +kernel)) (fun _ h9 => h9) rfl dX8_ofVisa_43 ?_
    cases h
  replace h := mneg c7 h
  have nc3 := lv_neT c3 (show (0 : Int32).toInt = 0 from rfl)
  have nc5 := lv_neT c5 (show (1 : Int32).toInt = 1 from rfl)
  have nc7 := lv_neT c7 (show (2 : Int32).toInt = 2 from rfl)
  refine lv_tableOut (tgt := 47) hx hb dX8_ofVisa_7 (by omega) (by decide) ?_
  cases h
  obtain ⟨sa, hsa⟩ := hxs.2.2.1 (317, "what is out of range") (by decide +kernel)
  exact vx_throwSW hx hb hlf (own := RX8) (cls := "java/lang/IllegalArgumentException") (text := "what is out of range") (names := ["java/lang/RuntimeException", "java/lang/Exception"]) (A := A) hown (by decide +kernel) (by decide +kernel) (hts (.classLink RX8 41 "java/lang/IllegalArgumentException") (by decide +kernel)) (hts (.initialized "java/lang/IllegalArgumentException") (by decide +kernel)) hsa (vx_hat (fun w hw => hts w (eC_Court_ofVisa_45 w hw)) (B := xB) (by decide +kernel) (fun w hw => va_Nw.use (xB_on w hw) (hxs.2.2.2 w hw))) (by decide +kernel) hxs.1 hxs.2.1 hX.2.2 (hl.1.trans hml.symm) dX8_ofVisa_47 dX8_ofVisa_50 dX8_ofVisa_51 dX8_ofVisa_54 dX8_ofVisa_57 (fun x hx => (ht x hx).elim) (Nat.le_of_ble_eq_true rfl) (Nat.le_of_ble_eq_true rfl) (Nat.le_of_ble_eq_true rfl) (Nat.le_of_ble_eq_true rfl) hlocks (fun t a1 a2 a3 => xX_post rfl hK hX t a1 a2 a3) hX.2.2.2.2 (Nat.le_refl _) (Nat.le_refl _)
set_option maxRecDepth 20000 in
theorem cC_Court_ofVisa (l : Launch) (D : va_G) (yI yO : ClassId) (z0 : Nat) (ad : Nat → Nat → Nat) {g : CS} {rz : Int32} {x1 : Int32} {x2 : Int32} (h : fC_Court_ofVisa g x1 x2 = some (.inr rz)) : Met l yX8_ofVisa wsX8_ofVisa (mR 4 85) (va_Pc [.ref (ad 0 0), .int x1, .int x2] (cPre D yI yO z0 ad g)) (cQ D yI yO z0 ad rz g (cF ad g)) 0 0 (cF ad g) := by
  refine Met.ofW (cc := cX8_ofVisa) (maxL := 4) (ret := (some .int)) (by decide) rfl ?_
  intro p e s m args below meth c s₁ B hml hv
  obtain ⟨hv0, hw, hK⟩ := hv
  have hv1 : args = [.ref (ad 0 0), .int x1, .int x2].toArray := hv0
  subst hv1
  have C : cC p s m _ meth c cX8_ofVisa RX8 (some .int) wsX8_ofVisa 4 D yI yO := ⟨B.exec, B.bytes, B.returns, atoms_spec (ws := wsX8_ofVisa) B.pre, findClass_of_methodNamed B.named, B.notSynchronized, hml, hK⟩
  have hl := lv_entry ([.ref (ad 0 0), .int x1, .int x2]) (n := 4) (Nat.le_of_ble_eq_true rfl)
  rw [lg_entry_eq]
  generalize (lg_sl ([.ref (ad 0 0), .int x1, .int x2]) ++ List.replicate (4 - (lg_sl ([.ref (ad 0 0), .int x1, .int x2])).length) Slot.unset).toArray = ls at hl ⊢
  have hl : lv_has ls 4 [(0, .ref (ad 0 0)), (1, .int x1), (2, .int x2)] := hl
  exact w_C_Court_ofVisa_0 C h ⟨hw, fun k i hi => ⟨k, i, hi, rfl⟩, va_S.rf⟩ hl
set_option maxRecDepth 20000 in
theorem cX_Court_ofVisa (l : Launch) (hlf : l.stackTraces = false) (D : va_G) (yI yO : ClassId) (z0 : Nat) (ad : Nat → Nat → Nat) {g : CS} {ez : Nat} {x1 : Int32} {x2 : Int32} (sz : Nat) (h : fC_Court_ofVisa g x1 x2 = some (.inl ez)) : vx_Met l yX8_ofVisa wsX8_ofVisa (xR 7 111) (va_Pc [.ref (ad 0 0), .int x1, .int x2] (xPre D yI yO z0 ad g sz)) (xQ (cA ad g sz)) (xXC D yI yO z0 ad g ez (cA ad g sz)) 1 6 (cA ad g sz) := by
  refine vx_ofW (cc := cX8_ofVisa) (maxL := 4) (ret := (some .int)) (by decide) rfl ?_
  intro p e s m args below meth c s₁ B hml ht hv
  obtain ⟨hv0, ⟨hw, hK⟩, hsz, hxs⟩ := hv
  subst hsz
  have hv1 : args = [.ref (ad 0 0), .int x1, .int x2].toArray := hv0
  subst hv1
  have C : cC p s m _ meth c cX8_ofVisa RX8 (some .int) wsX8_ofVisa 4 D yI yO := ⟨B.exec, B.bytes, B.returns, atoms_spec (ws := wsX8_ofVisa) B.pre, findClass_of_methodNamed B.named, B.notSynchronized, hml, hK⟩
  have hl := lv_entry ([.ref (ad 0 0), .int x1, .int x2]) (n := 4) (Nat.le_of_ble_eq_true rfl)
  rw [lg_entry_eq]
  generalize (lg_sl ([.ref (ad 0 0), .int x1, .int x2]) ++ List.replicate (4 - (lg_sl ([.ref (ad 0 0), .int x1, .int x2])).length) Slot.unset).toArray = ls at hl ⊢
  have hl : lv_has ls 4 [(0, .ref (ad 0 0)), (1, .int x1), (2, .int x2)] := hl
  exact w_X_Court_ofVisa_0 C hlf ht hxs (fun q h => Or.inr h) h ⟨hw, fun k i hi => Or.inl ⟨k, i, hi, rfl⟩, va_S.rf⟩ hl
theorem iC_Court_ofRequest_X4 : ∀ w ∈ wsX40, w ∈ wsX8_ofRequest := by decide +kernel
theorem eC_Court_ofRequest_45 : ∀ w ∈ (vx_atS RX8 45 "java/lang/IllegalArgumentException" ["java/lang/RuntimeException", "java/lang/Exception"]).filter goodWord, w ∈ wsX8_ofRequest := by decide +kernel
def fC_Court_ofRequest (g : CS) (x1 : Int32) (x2 : Int32) : Option (Nat ⊕ Int32) :=
  xb (fC_Court_requestAt g x1) fun v1 =>
  if x2 = 0 then
    (ck g 7 v1).bind fun _ =>
    some (.inr (sI g 7 v1 5))
  else
  if x2 = 1 then
    (ck g 7 v1).bind fun _ =>
    some (.inr (sI g 7 v1 4))
  else
  if x2 = 2 then
    (ck g 7 v1).bind fun _ =>
    (fC_Request_countFollowers v1 g).bind fun r9 =>
    some (.inr r9)
  else
  if x2 = 3 then
    (fC_Court_placeOf g v1).bind fun r11 =>
    some (.inr r11)
  else
    some (.inl 1)
set_option maxRecDepth 20000 in
theorem w_C_Court_ofRequest_0 (C : cC p s m args meth c cX8_ofRequest RX8 (some .int) wsX8_ofRequest 4 D yI yO) {rz : Int32} {g : CS} {x1 : Int32} {x2 : Int32} (h : fC_Court_ofRequest g x1 x2 = some (.inr rz)) {H : Heap} {locs : List Loc} {ls : Array Slot} (hX : cX D yI yO z0 ad g A s H locs) (hl : lv_has ls 4 [(0, .ref (ad 0 0)), (1, .int x1), (2, .int x2)]) : W p l e (mR 4 87) s m args below meth c H locs 0 0 (MQ below (cQ D yI yO z0 ad rz g A) args s 0 0 A) (F0 m 0 ls []) := by
  obtain ⟨hx, hb, hr, hts, hown, hlocks, hml, hK⟩ := id C
  unfold fC_Court_ofRequest at h
  refine lv_aload_n hx hb dX8_ofRequest_0 rfl (lv_at hl 0 rfl) ?_
  refine lv_iload_n hx hb dX8_ofRequest_1 rfl (lv_at hl 1 rfl) ?_
  obtain ⟨v1, et2, h⟩ := xb_ret h
  refine cg_callVq (As := [.int x1]) (rest := []) ⟨hx, hb, hml, hown, hts⟩ 0 0 rfl (ci := 9) rfl rfl (cC_Court_requestAt l D yI yO z0 ad et2) (cwV 1 hts gX8_ofRequest_X8_requestAt rfl rfl rfl (by decide +kernel) ⟨Nat.le_of_ble_eq_true rfl, Nat.le_of_ble_eq_true rfl⟩) hK hX rfl hl.1 rfl (Nat.le_of_ble_eq_true rfl) dX8_ofRequest_2 ⟨Nat.zero_le _, Nat.zero_le _⟩ (fun H locs hX => ?_)
  refine W.eq (g2 := F0 m 5 ls [.ref (ad 7 v1)]) rfl ?_
  refine lv_astore_n (lv' := [(3, .ref (ad 7 v1)), (0, .ref (ad 0 0)), (1, .int x1), (2, .int x2)]) hx hb dX8_ofRequest_5 rfl hl (by decide) rfl (fun ls hl => ?_)
  refine lv_iload_n hx hb dX8_ofRequest_6 rfl (lv_at hl 3 rfl) ?_
  by_cases c3 : x2 = 0
  · replace h := mpos c3 h
    refine lv_tableIn (tgt := 36) hx hb dX8_ofRequest_7 (by rw [c3]; decide) (by rw [c3]; decide) (by rw [c3]; rfl) (by decide) ?_
    refine lv_aload_n hx hb dX8_ofRequest_36 rfl (lv_at hl 0 rfl) ?_
    obtain ⟨_, hv4, h⟩ := mbind h
    replace hv4 := ck_spec hv4
    refine cg_get hx hb hts iC_Court_ofRequest_X4 hown hK hX 7 v1 hv4 rfl rfl 5 (by decide) (hts (.fieldLink RX8 248 "PassageCourt$Request" "state" "I") (by decide +kernel)) (fun _ h9 => h9) rfl dX8_ofRequest_37 ?_
    cases h
    exact cg_reti hx hb hr hlocks hK hX dX8_ofRequest_40
  replace h := mneg c3 h
  by_cases c5 : x2 = 1
  · replace h := mpos c5 h
    refine lv_tableIn (tgt := 41) hx hb dX8_ofRequest_7 (by rw [c5]; decide) (by rw [c5]; decide) (by rw [c5]; rfl) (by decide) ?_
    refine lv_aload_n hx hb dX8_ofRequest_41 rfl (lv_at hl 0 rfl) ?_
    obtain ⟨_, hv6, h⟩ := mbind h
    replace hv6 := ck_spec hv6
    refine cg_get hx hb hts iC_Court_ofRequest_X4 hown hK hX 7 v1 hv6 rfl rfl 4 (by decide) (hts (.fieldLink RX8 276 "PassageCourt$Request" "date" "I") (by decide +kernel)) (fun _ h9 => h9) rfl dX8_ofRequest_42 ?_
    cases h
    exact cg_reti hx hb hr hlocks hK hX dX8_ofRequest_45
  replace h := mneg c5 h
  by_cases c7 : x2 = 2
  · replace h := mpos c7 h
    refine lv_tableIn (tgt := 46) hx hb dX8_ofRequest_7 (by rw [c7]; decide) (by rw [c7]; decide) (by rw [c7]; rfl) (by decide) ?_
    refine lv_aload_n hx hb dX8_ofRequest_46 rfl (lv_at hl 0 rfl) ?_
    obtain ⟨_, hv8, h⟩ := mbind h
    replace hv8 := ck_spec hv8
    obtain ⟨r9, er9, h⟩ := mbind h
    refine cg_callV (As := []) (rest := []) ⟨hx, hb, hml, hown, hts⟩ 7 v1 hv8 (ci := 5) rfl rfl (cC_Request_countFollowers l D yI yO z0 ad er9) (cwV 0 hts gX8_ofRequest_X4_countFollowers rfl rfl rfl (by decide +kernel) ⟨Nat.le_of_ble_eq_true rfl, Nat.le_of_ble_eq_true rfl⟩) hK hX rfl hl.1 rfl (Nat.le_of_ble_eq_true rfl) dX8_ofRequest_47 ⟨Nat.zero_le _, Nat.zero_le _⟩ (fun H locs hX => ?_)
    cases h
    exact cg_reti hx hb hr hlocks hK hX dX8_ofRequest_50
  replace h := mneg c7 h
  by_cases c10 : x2 = 3
  · replace h := mpos c10 h
    refine lv_tableIn (tgt := 51) hx hb dX8_ofRequest_7 (by rw [c10]; decide) (by rw [c10]; decide) (by rw [c10]; rfl) (by decide) ?_
    refine lv_aload_n hx hb dX8_ofRequest_51 rfl (lv_at hl 1 rfl) ?_
    refine lv_aload_n hx hb dX8_ofRequest_52 rfl (lv_at hl 0 rfl) ?_
    obtain ⟨r11, er11, h⟩ := mbind h
    refine cg_callV (As := [.ref (ad 7 v1)]) (rest := []) ⟨hx, hb, hml, hown, hts⟩ 0 0 rfl (ci := 9) rfl rfl (cC_Court_placeOf l D yI yO z0 ad er11) (cwV 1 hts gX8_ofRequest_X8_placeOf rfl rfl rfl (by decide +kernel) ⟨Nat.le_of_ble_eq_true rfl, Nat.le_of_ble_eq_true rfl⟩) hK hX rfl hl.1 rfl (Nat.le_of_ble_eq_true rfl) dX8_ofRequest_53 ⟨Nat.zero_le _, Nat.zero_le _⟩ (fun H locs hX => ?_)
    cases h
    exact cg_reti hx hb hr hlocks hK hX dX8_ofRequest_56
  replace h := mneg c10 h
  have nc3 := lv_neT c3 (show (0 : Int32).toInt = 0 from rfl)
  have nc5 := lv_neT c5 (show (1 : Int32).toInt = 1 from rfl)
  have nc7 := lv_neT c7 (show (2 : Int32).toInt = 2 from rfl)
  have nc10 := lv_neT c10 (show (3 : Int32).toInt = 3 from rfl)
  refine lv_tableOut (tgt := 57) hx hb dX8_ofRequest_7 (by omega) (by decide) ?_
  cases h
set_option maxRecDepth 20000 in
theorem w_X_Court_ofRequest_0 (C : cC p s m args meth c cX8_ofRequest RX8 (some .int) wsX8_ofRequest 4 D yI yO) {Qc : Array Value → State → Outcome → State → Prop} (hlf : l.stackTraces = false) (ht : ∀ x ∈ c.exceptionTable.toList, False) (hxs : xS A s s.heap) (hA : ∀ q, s.heap.size ≤ q → A q) {ez : Nat} {g : CS} {x1 : Int32} {x2 : Int32} (h : fC_Court_ofRequest g x1 x2 = some (.inl ez)) {H : Heap} {locs : List Loc} {ls : Array Slot} (hX : cX D yI yO z0 ad g A s H locs) (hl : lv_has ls 4 [(0, .ref (ad 0 0)), (1, .int x1), (2, .int x2)]) : W p l e (xR 7 111) s m args below meth c H locs 0 0 (vx_MQ below Qc (xXC D yI yO z0 ad g ez A) args s 1 6 A) (F0 m 0 ls []) := by
  obtain ⟨hx, hb, hr, hts, hown, hlocks, hml, hK⟩ := id C
  unfold fC_Court_ofRequest at h
  refine lv_aload_n hx hb dX8_ofRequest_0 rfl (lv_at hl 0 rfl) ?_
  refine lv_iload_n hx hb dX8_ofRequest_1 rfl (lv_at hl 1 rfl) ?_
  rcases xb_thr h with et2 | ⟨v1, et2, h⟩
  · exact xg_callV (As := [.int x1]) (rest := []) ⟨hx, hb, hml, hown, hts⟩ 0 0 rfl (ci := 9) rfl rfl (cX_Court_requestAt l hlf D yI yO z0 ad H.size et2) (cwV 1 hts gX8_ofRequest_X8_requestAt rfl rfl rfl (by decide +kernel) ⟨Nat.le_of_ble_eq_true rfl, Nat.le_of_ble_eq_true rfl⟩) hK hX hA hxs ht hlocks rfl hl.1 rfl (Nat.le_of_ble_eq_true rfl) dX8_ofRequest_2 ⟨Nat.le_refl _, Nat.le_refl _⟩
  refine cg_callVq (As := [.int x1]) (rest := []) ⟨hx, hb, hml, hown, hts⟩ 0 0 rfl (ci := 9) rfl rfl (cC_Court_requestAt l D yI yO z0 ad et2) (cwV 1 hts gX8_ofRequest_X8_requestAt rfl rfl rfl (by decide +kernel) ⟨Nat.le_of_ble_eq_true rfl, Nat.le_of_ble_eq_true rfl⟩) hK hX rfl hl.1 rfl (Nat.le_of_ble_eq_true rfl) dX8_ofRequest_2 ⟨Nat.zero_le _, Nat.zero_le _⟩ (fun H locs hX => ?_)
  refine W.eq (g2 := F0 m 5 ls [.ref (ad 7 v1)]) rfl ?_
  refine lv_astore_n (lv' := [(3, .ref (ad 7 v1)), (0, .ref (ad 0 0)), (1, .int x1), (2, .int x2)]) hx hb dX8_ofRequest_5 rfl hl (by decide) rfl (fun ls hl => ?_)
  refine lv_iload_n hx hb dX8_ofRequest_6 rfl (lv_at hl 3 rfl) ?_
  by_cases c3 : x2 = 0
  · replace h := mpos c3 h
    refine lv_tableIn (tgt := 36) hx hb dX8_ofRequest_7 (by rw [c3]; decide) (by rw [c3]; decide) (by rw [c3]; rfl) (by decide) ?_
    refine lv_aload_n hx hb dX8_ofRequest_36 rfl (lv_at hl 0 rfl) ?_
    obtain ⟨_, hv4, h⟩ := mbind h
    replace hv4 := ck_spec hv4
    refine cg_get hx hb hts iC_Court_ofRequest_X4 hown hK hX 7 v1 hv4 rfl rfl 5 (by decide) (hts (.fieldLink RX8 248 "PassageCourt$Request" "state" "I") (by decide +kernel)) (fun _ h9 => h9) rfl dX8_ofRequest_37 ?_
    cases h
  replace h := mneg c3 h
  by_cases c5 : x2 = 1
  · replace h := mpos c5 h
    refine lv_tableIn (tgt := 41) hx hb dX8_ofRequest_7 (by rw [c5]; decide) (by rw [c5]; decide) (by rw [c5]; rfl) (by decide) ?_
    refine lv_aload_n hx hb dX8_ofRequest_41 rfl (lv_at hl 0 rfl) ?_
    obtain ⟨_, hv6, h⟩ := mbind h
    replace hv6 := ck_spec hv6
    refine cg_get hx hb hts iC_Court_ofRequest_X4 hown hK hX 7 v1 hv6 rfl rfl 4 (by decide) (hts (.fieldLink RX8 276 "PassageCourt$Request" "date" "I") (by decide +kernel)) (fun _ h9 => h9) rfl dX8_ofRequest_42 ?_
    cases h
  replace h := mneg c5 h
  by_cases c7 : x2 = 2
  · replace h := mpos c7 h
    refine lv_tableIn (tgt := 46) hx hb dX8_ofRequest_7 (by rw [c7]; decide) (by rw [c7]; decide) (by rw [c7]; rfl) (by decide) ?_
    refine lv_aload_n hx hb dX8_ofRequest_46 rfl (lv_at hl 0 rfl) ?_
    obtain ⟨_, hv8, h⟩ := mbind h
    replace hv8 := ck_spec hv8
    obtain ⟨r9, er9, h⟩ := mbind h
    refine cg_callV (As := []) (rest := []) ⟨hx, hb, hml, hown, hts⟩ 7 v1 hv8 (ci := 5) rfl rfl (cC_Request_countFollowers l D yI yO z0 ad er9) (cwV 0 hts gX8_ofRequest_X4_countFollowers rfl rfl rfl (by decide +kernel) ⟨Nat.le_of_ble_eq_true rfl, Nat.le_of_ble_eq_true rfl⟩) hK hX rfl hl.1 rfl (Nat.le_of_ble_eq_true rfl) dX8_ofRequest_47 ⟨Nat.zero_le _, Nat.zero_le _⟩ (fun H locs hX => ?_)
    cases h
  replace h := mneg c7 h
  by_cases c10 : x2 = 3
  · replace h := mpos c10 h
    refine lv_tableIn (tgt := 51) hx hb dX8_ofRequest_7 (by rw [c10]; decide) (by rw [c10]; decide) (by rw [c10]; rfl) (by decide) ?_
    refine lv_aload_n hx hb dX8_ofRequest_51 rfl (lv_at hl 1 rfl) ?_
    refine lv_aload_n hx hb dX8_ofRequest_52 rfl (lv_at hl 0 rfl) ?_
    obtain ⟨r11, er11, h⟩ := mbind h
    refine cg_callV (As := [.ref (ad 7 v1)]) (rest := []) ⟨hx, hb, hml, hown, hts⟩ 0 0 rfl (ci := 9) rfl rfl (cC_Court_placeOf l D yI yO z0 ad er11) (cwV 1 hts gX8_ofRequest_X8_placeOf rfl rfl rfl (by decide +kernel) ⟨Nat.le_of_ble_eq_true rfl, Nat.le_of_ble_eq_true rfl⟩) hK hX rfl hl.1 rfl (Nat.le_of_ble_eq_true rfl) dX8_ofRequest_53 ⟨Nat.zero_le _, Nat.zero_le _⟩ (fun H locs hX => ?_)
    cases h
  replace h := mneg c10 h
  have nc3 := lv_neT c3 (show (0 : Int32).toInt = 0 from rfl)
  have nc5 := lv_neT c5 (show (1 : Int32).toInt = 1 from rfl)
  have nc7 := lv_neT c7 (show (2 : Int32).toInt = 2 from rfl)
  have nc10 := lv_neT c10 (show (3 : Int32).toInt = 3 from rfl)
  refine lv_tableOut (tgt := 57) hx hb dX8_ofRequest_7 (by omega) (by decide) ?_
  cases h
  obtain ⟨sa, hsa⟩ := hxs.2.2.1 (317, "what is out of range") (by decide +kernel)
  exact vx_throwSW hx hb hlf (own := RX8) (cls := "java/lang/IllegalArgumentException") (text := "what is out of range") (names := ["java/lang/RuntimeException", "java/lang/Exception"]) (A := A) hown (by decide +kernel) (by decide +kernel) (hts (.classLink RX8 41 "java/lang/IllegalArgumentException") (by decide +kernel)) (hts (.initialized "java/lang/IllegalArgumentException") (by decide +kernel)) hsa (vx_hat (fun w hw => hts w (eC_Court_ofRequest_45 w hw)) (B := xB) (by decide +kernel) (fun w hw => va_Nw.use (xB_on w hw) (hxs.2.2.2 w hw))) (by decide +kernel) hxs.1 hxs.2.1 hX.2.2 (hl.1.trans hml.symm) dX8_ofRequest_57 dX8_ofRequest_60 dX8_ofRequest_61 dX8_ofRequest_64 dX8_ofRequest_67 (fun x hx => (ht x hx).elim) (Nat.le_of_ble_eq_true rfl) (Nat.le_of_ble_eq_true rfl) (Nat.le_of_ble_eq_true rfl) (Nat.le_of_ble_eq_true rfl) hlocks (fun t a1 a2 a3 => xX_post rfl hK hX t a1 a2 a3) hX.2.2.2.2 (Nat.le_refl _) (Nat.le_refl _)
set_option maxRecDepth 20000 in
theorem cC_Court_ofRequest (l : Launch) (D : va_G) (yI yO : ClassId) (z0 : Nat) (ad : Nat → Nat → Nat) {g : CS} {rz : Int32} {x1 : Int32} {x2 : Int32} (h : fC_Court_ofRequest g x1 x2 = some (.inr rz)) : Met l yX8_ofRequest wsX8_ofRequest (mR 4 87) (va_Pc [.ref (ad 0 0), .int x1, .int x2] (cPre D yI yO z0 ad g)) (cQ D yI yO z0 ad rz g (cF ad g)) 0 0 (cF ad g) := by
  refine Met.ofW (cc := cX8_ofRequest) (maxL := 4) (ret := (some .int)) (by decide) rfl ?_
  intro p e s m args below meth c s₁ B hml hv
  obtain ⟨hv0, hw, hK⟩ := hv
  have hv1 : args = [.ref (ad 0 0), .int x1, .int x2].toArray := hv0
  subst hv1
  have C : cC p s m _ meth c cX8_ofRequest RX8 (some .int) wsX8_ofRequest 4 D yI yO := ⟨B.exec, B.bytes, B.returns, atoms_spec (ws := wsX8_ofRequest) B.pre, findClass_of_methodNamed B.named, B.notSynchronized, hml, hK⟩
  have hl := lv_entry ([.ref (ad 0 0), .int x1, .int x2]) (n := 4) (Nat.le_of_ble_eq_true rfl)
  rw [lg_entry_eq]
  generalize (lg_sl ([.ref (ad 0 0), .int x1, .int x2]) ++ List.replicate (4 - (lg_sl ([.ref (ad 0 0), .int x1, .int x2])).length) Slot.unset).toArray = ls at hl ⊢
  have hl : lv_has ls 4 [(0, .ref (ad 0 0)), (1, .int x1), (2, .int x2)] := hl
  exact w_C_Court_ofRequest_0 C h ⟨hw, fun k i hi => ⟨k, i, hi, rfl⟩, va_S.rf⟩ hl
set_option maxRecDepth 20000 in
theorem cX_Court_ofRequest (l : Launch) (hlf : l.stackTraces = false) (D : va_G) (yI yO : ClassId) (z0 : Nat) (ad : Nat → Nat → Nat) {g : CS} {ez : Nat} {x1 : Int32} {x2 : Int32} (sz : Nat) (h : fC_Court_ofRequest g x1 x2 = some (.inl ez)) : vx_Met l yX8_ofRequest wsX8_ofRequest (xR 7 111) (va_Pc [.ref (ad 0 0), .int x1, .int x2] (xPre D yI yO z0 ad g sz)) (xQ (cA ad g sz)) (xXC D yI yO z0 ad g ez (cA ad g sz)) 1 6 (cA ad g sz) := by
  refine vx_ofW (cc := cX8_ofRequest) (maxL := 4) (ret := (some .int)) (by decide) rfl ?_
  intro p e s m args below meth c s₁ B hml ht hv
  obtain ⟨hv0, ⟨hw, hK⟩, hsz, hxs⟩ := hv
  subst hsz
  have hv1 : args = [.ref (ad 0 0), .int x1, .int x2].toArray := hv0
  subst hv1
  have C : cC p s m _ meth c cX8_ofRequest RX8 (some .int) wsX8_ofRequest 4 D yI yO := ⟨B.exec, B.bytes, B.returns, atoms_spec (ws := wsX8_ofRequest) B.pre, findClass_of_methodNamed B.named, B.notSynchronized, hml, hK⟩
  have hl := lv_entry ([.ref (ad 0 0), .int x1, .int x2]) (n := 4) (Nat.le_of_ble_eq_true rfl)
  rw [lg_entry_eq]
  generalize (lg_sl ([.ref (ad 0 0), .int x1, .int x2]) ++ List.replicate (4 - (lg_sl ([.ref (ad 0 0), .int x1, .int x2])).length) Slot.unset).toArray = ls at hl ⊢
  have hl : lv_has ls 4 [(0, .ref (ad 0 0)), (1, .int x1), (2, .int x2)] := hl
  exact w_X_Court_ofRequest_0 C hlf ht hxs (fun q h => Or.inr h) h ⟨hw, fun k i hi => Or.inl ⟨k, i, hi, rfl⟩, va_S.rf⟩ hl
theorem iC_Court_permit_X1 : ∀ w ∈ wsX10, w ∈ wsX8_permit := by decide +kernel
theorem iC_Court_permit_X2 : ∀ w ∈ wsX20, w ∈ wsX8_permit := by decide +kernel
theorem iC_Court_permit_X3 : ∀ w ∈ wsX30, w ∈ wsX8_permit := by decide +kernel
theorem iC_Court_permit_X8 : ∀ w ∈ wsX80, w ∈ wsX8_permit := by decide +kernel
def fC_Court_permit_51 (g : CS) (xs0 : Int32) : Option (Nat ⊕ Int32) :=
  some (.inr xs0)
set_option maxRecDepth 20000 in
theorem w_C_Court_permit_51 (C : cC p s m args meth c cX8_permit RX8 (some .int) wsX8_permit 5 D yI yO) {rz : Int32} {g : CS} {xs0 : Int32} (h : fC_Court_permit_51 g xs0 = some (.inr rz)) {H : Heap} {locs : List Loc} {ls : Array Slot} (hX : cX D yI yO z0 ad g A s H locs) (hl : lv_has ls 5 [(0, .ref (ad 0 0))]) : W p l e (mR 4 85) s m args below meth c H locs 0 0 (MQ below (cQ D yI yO z0 ad rz g A) args s 0 0 A) (F0 m 51 ls [.int xs0]) := by
  obtain ⟨hx, hb, hr, hts, hown, hlocks, hml, hK⟩ := id C
  unfold fC_Court_permit_51 at h
  cases h
  exact cg_reti hx hb hr hlocks hK hX dX8_permit_51
theorem nt_C_Court_permit_51 {g : CS} {xs0 : Int32} : ntp (fC_Court_permit_51 g xs0) := by
  unfold fC_Court_permit_51
  repeat' first | exact ntp_inr _ | exact ntp_none | refine ntp_bind (fun _ => ?_) | refine ntp_cb2 (fun _ _ => ?_) | refine ntp_om ?_ (fun _ => ?_) | refine ntp_ite ?_ ?_
def fC_Court_permit (g : CS) (x1 : Int32) (x2 : Int32) : Option (Nat ⊕ Int32) :=
  xb (fC_Court_personAt g x1) fun v1 =>
  xb (fC_Court_landAt g x2) fun v3 =>
  (ck g 5 v1).bind fun _ =>
  (ck g 4 v3).bind fun _ =>
  (fC_Permits_isValid v1 g (sI g 4 v3 0) (sI g 0 0 6)).bind fun r7 =>
  if r7 = 0 then
    fC_Court_permit_51 g ((-1))
  else
    (fC_Row_at 15 v1 g (sI g 4 v3 0)).bind fun r9 =>
    fC_Court_permit_51 g r9
set_option maxRecDepth 20000 in
theorem w_C_Court_permit_0 (C : cC p s m args meth c cX8_permit RX8 (some .int) wsX8_permit 5 D yI yO) {rz : Int32} {g : CS} {x1 : Int32} {x2 : Int32} (h : fC_Court_permit g x1 x2 = some (.inr rz)) {H : Heap} {locs : List Loc} {ls : Array Slot} (hX : cX D yI yO z0 ad g A s H locs) (hl : lv_has ls 5 [(0, .ref (ad 0 0)), (1, .int x1), (2, .int x2)]) : W p l e (mR 4 85) s m args below meth c H locs 0 0 (MQ below (cQ D yI yO z0 ad rz g A) args s 0 0 A) (F0 m 0 ls []) := by
  obtain ⟨hx, hb, hr, hts, hown, hlocks, hml, hK⟩ := id C
  unfold fC_Court_permit at h
  refine lv_aload_n hx hb dX8_permit_0 rfl (lv_at hl 0 rfl) ?_
  refine lv_iload_n hx hb dX8_permit_1 rfl (lv_at hl 1 rfl) ?_
  obtain ⟨v1, et2, h⟩ := xb_ret h
  refine cg_callVq (As := [.int x1]) (rest := []) ⟨hx, hb, hml, hown, hts⟩ 0 0 rfl (ci := 9) rfl rfl (cC_Court_personAt l D yI yO z0 ad et2) (cwV 1 hts gX8_permit_X8_personAt rfl rfl rfl (by decide +kernel) ⟨Nat.le_of_ble_eq_true rfl, Nat.le_of_ble_eq_true rfl⟩) hK hX rfl hl.1 rfl (Nat.le_of_ble_eq_true rfl) dX8_permit_2 ⟨Nat.zero_le _, Nat.zero_le _⟩ (fun H locs hX => ?_)
  refine W.eq (g2 := F0 m 5 ls [.ref (ad 5 v1)]) rfl ?_
  refine lv_astore_n (lv' := [(3, .ref (ad 5 v1)), (0, .ref (ad 0 0)), (1, .int x1), (2, .int x2)]) hx hb dX8_permit_5 rfl hl (by decide) rfl (fun ls hl => ?_)
  refine lv_aload_n hx hb dX8_permit_6 rfl (lv_at hl 1 rfl) ?_
  refine lv_iload_n hx hb dX8_permit_7 rfl (lv_at hl 3 rfl) ?_
  obtain ⟨v3, et4, h⟩ := xb_ret h
  refine cg_callVq (As := [.int x2]) (rest := []) ⟨hx, hb, hml, hown, hts⟩ 0 0 rfl (ci := 9) rfl rfl (cC_Court_landAt l D yI yO z0 ad et4) (cwV 1 hts gX8_permit_X8_landAt rfl rfl rfl (by decide +kernel) ⟨Nat.le_of_ble_eq_true rfl, Nat.le_of_ble_eq_true rfl⟩) hK hX rfl hl.1 rfl (Nat.le_of_ble_eq_true rfl) dX8_permit_8 ⟨Nat.zero_le _, Nat.zero_le _⟩ (fun H locs hX => ?_)
  refine W.eq (g2 := F0 m 11 ls [.ref (ad 4 v3)]) rfl ?_
  refine lv_astore (lv' := [(4, .ref (ad 4 v3)), (3, .ref (ad 5 v1)), (0, .ref (ad 0 0)), (1, .int x1), (2, .int x2)]) hx hb dX8_permit_11 hl (by decide) rfl (fun ls hl => ?_)
  refine lv_aload_n hx hb dX8_permit_13 rfl (lv_at hl 1 rfl) ?_
  obtain ⟨_, hv5, h⟩ := mbind h
  replace hv5 := ck_spec hv5
  refine cg_get hx hb hts iC_Court_permit_X3 hown hK hX 5 v1 hv5 rfl rfl 7 (by decide) (hts (.fieldLink RX8 279 "PassageCourt$Person" "permits" "LPassageCourt$Permits;") (by decide +kernel)) (fun _ h9 => h9) rfl dX8_permit_14 ?_
  refine lv_aload hx hb dX8_permit_17 (lv_at hl 0 rfl) ?_
  obtain ⟨_, hv6, h⟩ := mbind h
  replace hv6 := ck_spec hv6
  refine cg_get hx hb hts iC_Court_permit_X1 hown hK hX 4 v3 hv6 rfl rfl 0 (by decide) (hts (.fieldLink RX8 66 "PassageCourt$Land" "number" "I") (by decide +kernel)) (fun _ h9 => h9) rfl dX8_permit_19 ?_
  refine lv_aload_n hx hb dX8_permit_22 rfl (lv_at hl 2 rfl) ?_
  refine cg_get hx hb hts iC_Court_permit_X8 hown hK hX 0 0 rfl rfl rfl 6 (by decide) (hts (.fieldLink RX8 37 "PassageCourt" "today" "I") (by decide +kernel)) (fun _ h9 => h9) rfl dX8_permit_23 ?_
  obtain ⟨r7, er7, h⟩ := mbind h
  refine cg_callV (As := [.int (sI g 4 v3 0), .int (sI g 0 0 6)]) (rest := []) ⟨hx, hb, hml, hown, hts⟩ 25 v1 hv5 (ci := 3) rfl rfl (cC_Permits_isValid l D yI yO z0 ad er7) (cwV 2 hts gX8_permit_X2_isValid rfl rfl rfl (by decide +kernel) ⟨Nat.le_of_ble_eq_true rfl, Nat.le_of_ble_eq_true rfl⟩) hK hX rfl hl.1 rfl (Nat.le_of_ble_eq_true rfl) dX8_permit_26 ⟨Nat.zero_le _, Nat.zero_le _⟩ (fun H locs hX => ?_)
  refine lv_if_eq (tgt := 50) hx hb dX8_permit_29 (by decide) (fun c8 => ?_) (fun c8 => ?_)
  · replace h := mpos c8 h
    refine lv_iconst (v := -1) hx hb dX8_permit_50 (by decide) ?_
    exact w_C_Court_permit_51 C h hX (lv_sub hl [2] rfl)
  · replace h := mneg c8 h
    refine lv_aload_n hx hb dX8_permit_32 rfl (lv_at hl 1 rfl) ?_
    refine cg_get hx hb hts iC_Court_permit_X3 hown hK hX 5 v1 hv5 rfl rfl 7 (by decide) (hts (.fieldLink RX8 279 "PassageCourt$Person" "permits" "LPassageCourt$Permits;") (by decide +kernel)) (fun _ h9 => h9) rfl dX8_permit_33 ?_
    refine cg_get hx hb hts iC_Court_permit_X2 hown hK hX 25 v1 hv5 rfl rfl 1 (by decide) (hts (.fieldLink RX8 296 "PassageCourt$Permits" "last" "LPassageCourt$Row;") (by decide +kernel)) (fun _ h9 => h9) rfl dX8_permit_36 ?_
    refine lv_aload hx hb dX8_permit_39 (lv_at hl 0 rfl) ?_
    refine cg_get hx hb hts iC_Court_permit_X1 hown hK hX 4 v3 hv6 rfl rfl 0 (by decide) (hts (.fieldLink RX8 66 "PassageCourt$Land" "number" "I") (by decide +kernel)) (fun _ h9 => h9) rfl dX8_permit_41 ?_
    obtain ⟨r9, er9, h⟩ := mbind h
    refine cg_callV (As := [.int (sI g 4 v3 0)]) (rest := []) ⟨hx, hb, hml, hown, hts⟩ 15 v1 hv5 (ci := 6) rfl rfl (cC_Row_at l D yI yO z0 ad ⟨by decide, by decide⟩ er9) (cwV 1 hts gX8_permit_X5_at rfl rfl rfl (by decide +kernel) ⟨Nat.le_of_ble_eq_true rfl, Nat.le_of_ble_eq_true rfl⟩) hK hX rfl hl.1 rfl (Nat.le_of_ble_eq_true rfl) dX8_permit_44 ⟨Nat.zero_le _, Nat.zero_le _⟩ (fun H locs hX => ?_)
    refine lv_goto (tgt := 51) hx hb dX8_permit_47 (by decide) ?_
    exact w_C_Court_permit_51 C h hX (lv_sub hl [2] rfl)
set_option maxRecDepth 20000 in
theorem w_X_Court_permit_0 (C : cC p s m args meth c cX8_permit RX8 (some .int) wsX8_permit 5 D yI yO) {Qc : Array Value → State → Outcome → State → Prop} (hlf : l.stackTraces = false) (ht : ∀ x ∈ c.exceptionTable.toList, False) (hxs : xS A s s.heap) (hA : ∀ q, s.heap.size ≤ q → A q) {ez : Nat} {g : CS} {x1 : Int32} {x2 : Int32} (h : fC_Court_permit g x1 x2 = some (.inl ez)) {H : Heap} {locs : List Loc} {ls : Array Slot} (hX : cX D yI yO z0 ad g A s H locs) (hl : lv_has ls 5 [(0, .ref (ad 0 0)), (1, .int x1), (2, .int x2)]) : W p l e (xR 7 111) s m args below meth c H locs 0 0 (vx_MQ below Qc (xXC D yI yO z0 ad g ez A) args s 1 6 A) (F0 m 0 ls []) := by
  obtain ⟨hx, hb, hr, hts, hown, hlocks, hml, hK⟩ := id C
  unfold fC_Court_permit at h
  refine lv_aload_n hx hb dX8_permit_0 rfl (lv_at hl 0 rfl) ?_
  refine lv_iload_n hx hb dX8_permit_1 rfl (lv_at hl 1 rfl) ?_
  rcases xb_thr h with et2 | ⟨v1, et2, h⟩
  · exact xg_callV (As := [.int x1]) (rest := []) ⟨hx, hb, hml, hown, hts⟩ 0 0 rfl (ci := 9) rfl rfl (cX_Court_personAt l hlf D yI yO z0 ad H.size et2) (cwV 1 hts gX8_permit_X8_personAt rfl rfl rfl (by decide +kernel) ⟨Nat.le_of_ble_eq_true rfl, Nat.le_of_ble_eq_true rfl⟩) hK hX hA hxs ht hlocks rfl hl.1 rfl (Nat.le_of_ble_eq_true rfl) dX8_permit_2 ⟨Nat.le_refl _, Nat.le_refl _⟩
  refine cg_callVq (As := [.int x1]) (rest := []) ⟨hx, hb, hml, hown, hts⟩ 0 0 rfl (ci := 9) rfl rfl (cC_Court_personAt l D yI yO z0 ad et2) (cwV 1 hts gX8_permit_X8_personAt rfl rfl rfl (by decide +kernel) ⟨Nat.le_of_ble_eq_true rfl, Nat.le_of_ble_eq_true rfl⟩) hK hX rfl hl.1 rfl (Nat.le_of_ble_eq_true rfl) dX8_permit_2 ⟨Nat.zero_le _, Nat.zero_le _⟩ (fun H locs hX => ?_)
  refine W.eq (g2 := F0 m 5 ls [.ref (ad 5 v1)]) rfl ?_
  refine lv_astore_n (lv' := [(3, .ref (ad 5 v1)), (0, .ref (ad 0 0)), (1, .int x1), (2, .int x2)]) hx hb dX8_permit_5 rfl hl (by decide) rfl (fun ls hl => ?_)
  refine lv_aload_n hx hb dX8_permit_6 rfl (lv_at hl 1 rfl) ?_
  refine lv_iload_n hx hb dX8_permit_7 rfl (lv_at hl 3 rfl) ?_
  rcases xb_thr h with et4 | ⟨v3, et4, h⟩
  · exact xg_callV (As := [.int x2]) (rest := []) ⟨hx, hb, hml, hown, hts⟩ 0 0 rfl (ci := 9) rfl rfl (cX_Court_landAt l hlf D yI yO z0 ad H.size et4) (cwV 1 hts gX8_permit_X8_landAt rfl rfl rfl (by decide +kernel) ⟨Nat.le_of_ble_eq_true rfl, Nat.le_of_ble_eq_true rfl⟩) hK hX hA hxs ht hlocks rfl hl.1 rfl (Nat.le_of_ble_eq_true rfl) dX8_permit_8 ⟨Nat.le_refl _, Nat.le_refl _⟩
  refine cg_callVq (As := [.int x2]) (rest := []) ⟨hx, hb, hml, hown, hts⟩ 0 0 rfl (ci := 9) rfl rfl (cC_Court_landAt l D yI yO z0 ad et4) (cwV 1 hts gX8_permit_X8_landAt rfl rfl rfl (by decide +kernel) ⟨Nat.le_of_ble_eq_true rfl, Nat.le_of_ble_eq_true rfl⟩) hK hX rfl hl.1 rfl (Nat.le_of_ble_eq_true rfl) dX8_permit_8 ⟨Nat.zero_le _, Nat.zero_le _⟩ (fun H locs hX => ?_)
  refine W.eq (g2 := F0 m 11 ls [.ref (ad 4 v3)]) rfl ?_
  refine lv_astore (lv' := [(4, .ref (ad 4 v3)), (3, .ref (ad 5 v1)), (0, .ref (ad 0 0)), (1, .int x1), (2, .int x2)]) hx hb dX8_permit_11 hl (by decide) rfl (fun ls hl => ?_)
  refine lv_aload_n hx hb dX8_permit_13 rfl (lv_at hl 1 rfl) ?_
  obtain ⟨_, hv5, h⟩ := mbind h
  replace hv5 := ck_spec hv5
  refine cg_get hx hb hts iC_Court_permit_X3 hown hK hX 5 v1 hv5 rfl rfl 7 (by decide) (hts (.fieldLink RX8 279 "PassageCourt$Person" "permits" "LPassageCourt$Permits;") (by decide +kernel)) (fun _ h9 => h9) rfl dX8_permit_14 ?_
  refine lv_aload hx hb dX8_permit_17 (lv_at hl 0 rfl) ?_
  obtain ⟨_, hv6, h⟩ := mbind h
  replace hv6 := ck_spec hv6
  refine cg_get hx hb hts iC_Court_permit_X1 hown hK hX 4 v3 hv6 rfl rfl 0 (by decide) (hts (.fieldLink RX8 66 "PassageCourt$Land" "number" "I") (by decide +kernel)) (fun _ h9 => h9) rfl dX8_permit_19 ?_
  refine lv_aload_n hx hb dX8_permit_22 rfl (lv_at hl 2 rfl) ?_
  refine cg_get hx hb hts iC_Court_permit_X8 hown hK hX 0 0 rfl rfl rfl 6 (by decide) (hts (.fieldLink RX8 37 "PassageCourt" "today" "I") (by decide +kernel)) (fun _ h9 => h9) rfl dX8_permit_23 ?_
  obtain ⟨r7, er7, h⟩ := mbind h
  refine cg_callV (As := [.int (sI g 4 v3 0), .int (sI g 0 0 6)]) (rest := []) ⟨hx, hb, hml, hown, hts⟩ 25 v1 hv5 (ci := 3) rfl rfl (cC_Permits_isValid l D yI yO z0 ad er7) (cwV 2 hts gX8_permit_X2_isValid rfl rfl rfl (by decide +kernel) ⟨Nat.le_of_ble_eq_true rfl, Nat.le_of_ble_eq_true rfl⟩) hK hX rfl hl.1 rfl (Nat.le_of_ble_eq_true rfl) dX8_permit_26 ⟨Nat.zero_le _, Nat.zero_le _⟩ (fun H locs hX => ?_)
  refine lv_if_eq (tgt := 50) hx hb dX8_permit_29 (by decide) (fun c8 => ?_) (fun c8 => ?_)
  · replace h := mpos c8 h
    refine lv_iconst (v := -1) hx hb dX8_permit_50 (by decide) ?_
    exact (nt_C_Court_permit_51 _ h).elim
  · replace h := mneg c8 h
    refine lv_aload_n hx hb dX8_permit_32 rfl (lv_at hl 1 rfl) ?_
    refine cg_get hx hb hts iC_Court_permit_X3 hown hK hX 5 v1 hv5 rfl rfl 7 (by decide) (hts (.fieldLink RX8 279 "PassageCourt$Person" "permits" "LPassageCourt$Permits;") (by decide +kernel)) (fun _ h9 => h9) rfl dX8_permit_33 ?_
    refine cg_get hx hb hts iC_Court_permit_X2 hown hK hX 25 v1 hv5 rfl rfl 1 (by decide) (hts (.fieldLink RX8 296 "PassageCourt$Permits" "last" "LPassageCourt$Row;") (by decide +kernel)) (fun _ h9 => h9) rfl dX8_permit_36 ?_
    refine lv_aload hx hb dX8_permit_39 (lv_at hl 0 rfl) ?_
    refine cg_get hx hb hts iC_Court_permit_X1 hown hK hX 4 v3 hv6 rfl rfl 0 (by decide) (hts (.fieldLink RX8 66 "PassageCourt$Land" "number" "I") (by decide +kernel)) (fun _ h9 => h9) rfl dX8_permit_41 ?_
    obtain ⟨r9, er9, h⟩ := mbind h
    refine cg_callV (As := [.int (sI g 4 v3 0)]) (rest := []) ⟨hx, hb, hml, hown, hts⟩ 15 v1 hv5 (ci := 6) rfl rfl (cC_Row_at l D yI yO z0 ad ⟨by decide, by decide⟩ er9) (cwV 1 hts gX8_permit_X5_at rfl rfl rfl (by decide +kernel) ⟨Nat.le_of_ble_eq_true rfl, Nat.le_of_ble_eq_true rfl⟩) hK hX rfl hl.1 rfl (Nat.le_of_ble_eq_true rfl) dX8_permit_44 ⟨Nat.zero_le _, Nat.zero_le _⟩ (fun H locs hX => ?_)
    refine lv_goto (tgt := 51) hx hb dX8_permit_47 (by decide) ?_
    exact (nt_C_Court_permit_51 _ h).elim
set_option maxRecDepth 20000 in
theorem cC_Court_permit (l : Launch) (D : va_G) (yI yO : ClassId) (z0 : Nat) (ad : Nat → Nat → Nat) {g : CS} {rz : Int32} {x1 : Int32} {x2 : Int32} (h : fC_Court_permit g x1 x2 = some (.inr rz)) : Met l yX8_permit wsX8_permit (mR 4 85) (va_Pc [.ref (ad 0 0), .int x1, .int x2] (cPre D yI yO z0 ad g)) (cQ D yI yO z0 ad rz g (cF ad g)) 0 0 (cF ad g) := by
  refine Met.ofW (cc := cX8_permit) (maxL := 5) (ret := (some .int)) (by decide) rfl ?_
  intro p e s m args below meth c s₁ B hml hv
  obtain ⟨hv0, hw, hK⟩ := hv
  have hv1 : args = [.ref (ad 0 0), .int x1, .int x2].toArray := hv0
  subst hv1
  have C : cC p s m _ meth c cX8_permit RX8 (some .int) wsX8_permit 5 D yI yO := ⟨B.exec, B.bytes, B.returns, atoms_spec (ws := wsX8_permit) B.pre, findClass_of_methodNamed B.named, B.notSynchronized, hml, hK⟩
  have hl := lv_entry ([.ref (ad 0 0), .int x1, .int x2]) (n := 5) (Nat.le_of_ble_eq_true rfl)
  rw [lg_entry_eq]
  generalize (lg_sl ([.ref (ad 0 0), .int x1, .int x2]) ++ List.replicate (5 - (lg_sl ([.ref (ad 0 0), .int x1, .int x2])).length) Slot.unset).toArray = ls at hl ⊢
  have hl : lv_has ls 5 [(0, .ref (ad 0 0)), (1, .int x1), (2, .int x2)] := hl
  exact w_C_Court_permit_0 C h ⟨hw, fun k i hi => ⟨k, i, hi, rfl⟩, va_S.rf⟩ hl
set_option maxRecDepth 20000 in
theorem cX_Court_permit (l : Launch) (hlf : l.stackTraces = false) (D : va_G) (yI yO : ClassId) (z0 : Nat) (ad : Nat → Nat → Nat) {g : CS} {ez : Nat} {x1 : Int32} {x2 : Int32} (sz : Nat) (h : fC_Court_permit g x1 x2 = some (.inl ez)) : vx_Met l yX8_permit wsX8_permit (xR 7 111) (va_Pc [.ref (ad 0 0), .int x1, .int x2] (xPre D yI yO z0 ad g sz)) (xQ (cA ad g sz)) (xXC D yI yO z0 ad g ez (cA ad g sz)) 1 6 (cA ad g sz) := by
  refine vx_ofW (cc := cX8_permit) (maxL := 5) (ret := (some .int)) (by decide) rfl ?_
  intro p e s m args below meth c s₁ B hml ht hv
  obtain ⟨hv0, ⟨hw, hK⟩, hsz, hxs⟩ := hv
  subst hsz
  have hv1 : args = [.ref (ad 0 0), .int x1, .int x2].toArray := hv0
  subst hv1
  have C : cC p s m _ meth c cX8_permit RX8 (some .int) wsX8_permit 5 D yI yO := ⟨B.exec, B.bytes, B.returns, atoms_spec (ws := wsX8_permit) B.pre, findClass_of_methodNamed B.named, B.notSynchronized, hml, hK⟩
  have hl := lv_entry ([.ref (ad 0 0), .int x1, .int x2]) (n := 5) (Nat.le_of_ble_eq_true rfl)
  rw [lg_entry_eq]
  generalize (lg_sl ([.ref (ad 0 0), .int x1, .int x2]) ++ List.replicate (5 - (lg_sl ([.ref (ad 0 0), .int x1, .int x2])).length) Slot.unset).toArray = ls at hl ⊢
  have hl : lv_has ls 5 [(0, .ref (ad 0 0)), (1, .int x1), (2, .int x2)] := hl
  exact w_X_Court_permit_0 C hlf ht hxs (fun q h => Or.inr h) h ⟨hw, fun k i hi => Or.inl ⟨k, i, hi, rfl⟩, va_S.rf⟩ hl
end GX4
