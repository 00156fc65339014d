section GX1
variable {p : Program} {l : Launch} {e : Env} {s : State} {m : MethodId} {args : Array Value} {below : List Frame} {meth : Method} {c : Code} {D : va_G} {yI yO : ClassId} {z0 : Nat} {ad : Nat → Nat → Nat} {A : Nat → Prop}
theorem iC_Court_waive_X1 : ∀ w ∈ wsX10, w ∈ wsX8_waive := by decide +kernel
theorem eC_Court_waive_45 : ∀ w ∈ (vx_atS RX8 45 "java/lang/IllegalArgumentException" ["java/lang/RuntimeException", "java/lang/Exception"]).filter goodWord, w ∈ wsX8_waive := by decide +kernel
def fC_Court_waive_74 (g : CS) (x6 : Int32) (xs0 : Int32) (is1 : Nat) : Option (Nat ⊕ (Int32 × CS)) :=
  (ck g 4 is1).bind fun _ =>
  (some (uI g 4 is1 6 xs0)).bind fun g2 =>
  (mbo x6).bind fun b4 => some (.inr (b4, g2))
set_option maxRecDepth 20000 in
theorem w_C_Court_waive_74 (C : cC p s m args meth c cX8_waive RX8 (some .boolean) wsX8_waive 7 D yI yO) {gz : CS} {rz : Int32} {g : CS} {x6 : Int32} {xs0 : Int32} {is1 : Nat} (h : fC_Court_waive_74 g x6 xs0 is1 = some (.inr (rz, gz))) {H : Heap} {locs : List Loc} {ls : Array Slot} (hX : cX D yI yO z0 ad g A s H locs) (hl : lv_has ls 7 [(0, .ref (ad 0 0)), (6, .int x6)]) : W p l e (mR 4 85) s m args below meth c H locs 0 0 (MQ below (cQ D yI yO z0 ad rz gz A) args s 0 0 A) (F0 m 74 ls [.int xs0, .ref (ad 4 is1)]) := by
  obtain ⟨hx, hb, hr, hts, hown, hlocks, hml, hK⟩ := id C
  unfold fC_Court_waive_74 at h
  obtain ⟨_, hv1, h⟩ := mbind h
  replace hv1 := ck_spec hv1
  obtain ⟨g2, eg2, h⟩ := mbind h
  refine cg_put hx hb hts iC_Court_waive_X1 tyX1 tyX1_ok nmX1 hown hK hX 4 is1 hv1 rfl rfl 6 (by decide) (hts (.fieldLink RX8 82 "PassageCourt$Land" "waived" "I") (by decide +kernel)) (fun _ h9 => h9) rfl (by decide +kernel) rfl rfl (ty := .int) (g1 := (uI g 4 is1 6 xs0)) (Nat.le_of_ble_eq_true rfl) (by unfold cent; rw [sI_up]; rfl) (fun _ _ => rfl) rfl (fun _ _ hab => cent_uI yI yO ad _ _ _ hab) dX8_waive_74 (fun H locs hX => ?_)
  have eg2 := Option.some.inj eg2
  rw [eg2] at hX
  have hv3 : clvb g2 4 is1 = true := by rw [← eg2]; exact hv1
  refine lv_iload hx hb dX8_waive_77 (lv_at hl 1 rfl) ?_
  obtain ⟨b4, eb4, h⟩ := mbind h
  cases h
  exact cg_retz hx hb hr hlocks hK hX dX8_waive_79 eb4
theorem nt_C_Court_waive_74 {g : CS} {x6 : Int32} {xs0 : Int32} {is1 : Nat} : ntp (fC_Court_waive_74 g x6 xs0 is1) := by
  unfold fC_Court_waive_74
  repeat' first | exact ntp_inr _ | exact ntp_none | refine ntp_bind (fun _ => ?_) | refine ntp_cb2 (fun _ _ => ?_) | refine ntp_om ?_ (fun _ => ?_) | refine ntp_ite ?_ ?_
def fC_Court_waive (g : CS) (x1 : Int32) (x2 : Int32) (x3 : Int32) : Option (Nat ⊕ (Int32 × CS)) :=
  xb (fC_Court_landAt g x1) fun v1 =>
  xb (fC_Court_landAt g x2) fun v3 =>
  if x1 = x2 then
    some (.inl 1)
  else
    (ck g 4 v3).bind fun _ =>
    (fC_Land_bit v3 g).bind fun r7 =>
    (ck g 4 v1).bind fun _ =>
    (fC_Land_waivesFor v1 g r7).bind fun r9 =>
    if x3 = 0 then
      (fC_Land_bit v3 g).bind fun r11 =>
      fC_Court_waive_74 g r9 ((sI g 4 v1 6) &&& (r11 ^^^ ((-1)))) v1
    else
      (fC_Land_bit v3 g).bind fun r12 =>
      fC_Court_waive_74 g r9 ((sI g 4 v1 6) ||| r12) v1
set_option maxRecDepth 20000 in
theorem w_C_Court_waive_0 (C : cC p s m args meth c cX8_waive RX8 (some .boolean) wsX8_waive 7 D yI yO) {gz : CS} {rz : Int32} {g : CS} {x1 : Int32} {x2 : Int32} {x3 : Int32} (h : fC_Court_waive g x1 x2 x3 = some (.inr (rz, gz))) {H : Heap} {locs : List Loc} {ls : Array Slot} (hX : cX D yI yO z0 ad g A s H locs) (hl : lv_has ls 7 [(0, .ref (ad 0 0)), (1, .int x1), (2, .int x2), (3, .int x3)]) : W p l e (mR 4 85) s m args below meth c H locs 0 0 (MQ below (cQ D yI yO z0 ad rz gz A) args s 0 0 A) (F0 m 0 ls []) := by
  obtain ⟨hx, hb, hr, hts, hown, hlocks, hml, hK⟩ := id C
  unfold fC_Court_waive at h
  refine lv_aload_n hx hb dX8_waive_0 rfl (lv_at hl 0 rfl) ?_
  refine lv_iload_n hx hb dX8_waive_1 rfl (lv_at hl 1 rfl) ?_
  obtain ⟨v1, et2, h⟩ := xb_ret h
  refine cg_callVq (As := [.int x1]) (rest := []) ⟨hx, hb, hml, hown, hts⟩ 0 0 rfl (ci := 9) rfl rfl (cC_Court_landAt l D yI yO z0 ad et2) (cwV 1 hts gX8_waive_X8_landAt rfl rfl rfl (by decide +kernel) ⟨Nat.le_of_ble_eq_true rfl, Nat.le_of_ble_eq_true rfl⟩) hK hX rfl hl.1 rfl (Nat.le_of_ble_eq_true rfl) dX8_waive_2 ⟨Nat.zero_le _, Nat.zero_le _⟩ (fun H locs hX => ?_)
  refine W.eq (g2 := F0 m 5 ls [.ref (ad 4 v1)]) rfl ?_
  refine lv_astore (lv' := [(4, .ref (ad 4 v1)), (0, .ref (ad 0 0)), (1, .int x1), (2, .int x2), (3, .int x3)]) hx hb dX8_waive_5 hl (by decide) rfl (fun ls hl => ?_)
  refine lv_aload_n hx hb dX8_waive_7 rfl (lv_at hl 1 rfl) ?_
  refine lv_iload_n hx hb dX8_waive_8 rfl (lv_at hl 3 rfl) ?_
  obtain ⟨v3, et4, h⟩ := xb_ret h
  refine cg_callVq (As := [.int x2]) (rest := []) ⟨hx, hb, hml, hown, hts⟩ 0 0 rfl (ci := 9) rfl rfl (cC_Court_landAt l D yI yO z0 ad et4) (cwV 1 hts gX8_waive_X8_landAt rfl rfl rfl (by decide +kernel) ⟨Nat.le_of_ble_eq_true rfl, Nat.le_of_ble_eq_true rfl⟩) hK hX rfl hl.1 rfl (Nat.le_of_ble_eq_true rfl) dX8_waive_9 ⟨Nat.zero_le _, Nat.zero_le _⟩ (fun H locs hX => ?_)
  refine W.eq (g2 := F0 m 12 ls [.ref (ad 4 v3)]) rfl ?_
  refine lv_astore (lv' := [(5, .ref (ad 4 v3)), (4, .ref (ad 4 v1)), (0, .ref (ad 0 0)), (1, .int x1), (2, .int x2), (3, .int x3)]) hx hb dX8_waive_12 hl (by decide) rfl (fun ls hl => ?_)
  refine lv_iload_n hx hb dX8_waive_14 rfl (lv_at hl 3 rfl) ?_
  refine lv_iload_n hx hb dX8_waive_15 rfl (lv_at hl 4 rfl) ?_
  refine lv_icmp_ne (tgt := 29) hx hb dX8_waive_16 (by decide) (fun c5 => ?_) (fun c5 => ?_)
  · replace h := mneg c5 h
    refine lv_aload hx hb dX8_waive_29 (lv_at hl 1 rfl) ?_
    refine lv_aload hx hb dX8_waive_31 (lv_at hl 0 rfl) ?_
    obtain ⟨_, hv6, h⟩ := mbind h
    replace hv6 := ck_spec hv6
    obtain ⟨r7, er7, h⟩ := mbind h
    refine cg_callV (As := []) (rest := [.ref (ad 4 v1)]) ⟨hx, hb, hml, hown, hts⟩ 4 v3 hv6 (ci := 2) rfl rfl (cC_Land_bit l D yI yO z0 ad er7) (cwV 0 hts gX8_waive_X1_bit rfl rfl rfl (by decide +kernel) ⟨Nat.le_of_ble_eq_true rfl, Nat.le_of_ble_eq_true rfl⟩) hK hX rfl hl.1 rfl (Nat.le_of_ble_eq_true rfl) dX8_waive_33 ⟨Nat.zero_le _, Nat.zero_le _⟩ (fun H locs hX => ?_)
    obtain ⟨_, hv8, h⟩ := mbind h
    replace hv8 := ck_spec hv8
    obtain ⟨r9, er9, h⟩ := mbind h
    refine cg_callV (As := [.int r7]) (rest := []) ⟨hx, hb, hml, hown, hts⟩ 4 v1 hv8 (ci := 2) rfl rfl (cC_Land_waivesFor l D yI yO z0 ad er9) (cwV 1 hts gX8_waive_X1_waivesFor rfl rfl rfl (by decide +kernel) ⟨Nat.le_of_ble_eq_true rfl, Nat.le_of_ble_eq_true rfl⟩) hK hX rfl hl.1 rfl (Nat.le_of_ble_eq_true rfl) dX8_waive_36 ⟨Nat.zero_le _, Nat.zero_le _⟩ (fun H locs hX => ?_)
    refine lv_istore (lv' := [(6, .int r9), (5, .ref (ad 4 v3)), (4, .ref (ad 4 v1)), (0, .ref (ad 0 0)), (1, .int x1), (2, .int x2), (3, .int x3)]) hx hb dX8_waive_39 hl (by decide) rfl (fun ls hl => ?_)
    refine lv_aload hx hb dX8_waive_41 (lv_at hl 2 rfl) ?_
    refine lv_iload_n hx hb dX8_waive_43 rfl (lv_at hl 6 rfl) ?_
    refine lv_if_eq (tgt := 61) hx hb dX8_waive_44 (by decide) (fun c10 => ?_) (fun c10 => ?_)
    · replace h := mpos c10 h
      refine lv_aload hx hb dX8_waive_61 (lv_at hl 2 rfl) ?_
      refine cg_get hx hb hts iC_Court_waive_X1 hown hK hX 4 v1 hv8 rfl rfl 6 (by decide) (hts (.fieldLink RX8 82 "PassageCourt$Land" "waived" "I") (by decide +kernel)) (fun _ h9 => h9) rfl dX8_waive_63 ?_
      refine lv_aload hx hb dX8_waive_66 (lv_at hl 1 rfl) ?_
      obtain ⟨r11, er11, h⟩ := mbind h
      refine cg_callV (As := []) (rest := [.int (sI g 4 v1 6), .ref (ad 4 v1)]) ⟨hx, hb, hml, hown, hts⟩ 4 v3 hv6 (ci := 2) rfl rfl (cC_Land_bit l D yI yO z0 ad er11) (cwV 0 hts gX8_waive_X1_bit rfl rfl rfl (by decide +kernel) ⟨Nat.le_of_ble_eq_true rfl, Nat.le_of_ble_eq_true rfl⟩) hK hX rfl hl.1 rfl (Nat.le_of_ble_eq_true rfl) dX8_waive_68 ⟨Nat.zero_le _, Nat.zero_le _⟩ (fun H locs hX => ?_)
      refine lv_iconst (v := -1) hx hb dX8_waive_71 (by decide) ?_
      refine lv_ixor hx hb dX8_waive_72 ?_
      refine lv_iand hx hb dX8_waive_73 ?_
      exact w_C_Court_waive_74 C h hX (lv_sub hl [3, 0] rfl)
    · replace h := mneg c10 h
      refine lv_aload hx hb dX8_waive_47 (lv_at hl 2 rfl) ?_
      refine cg_get hx hb hts iC_Court_waive_X1 hown hK hX 4 v1 hv8 rfl rfl 6 (by decide) (hts (.fieldLink RX8 82 "PassageCourt$Land" "waived" "I") (by decide +kernel)) (fun _ h9 => h9) rfl dX8_waive_49 ?_
      refine lv_aload hx hb dX8_waive_52 (lv_at hl 1 rfl) ?_
      obtain ⟨r12, er12, h⟩ := mbind h
      refine cg_callV (As := []) (rest := [.int (sI g 4 v1 6), .ref (ad 4 v1)]) ⟨hx, hb, hml, hown, hts⟩ 4 v3 hv6 (ci := 2) rfl rfl (cC_Land_bit l D yI yO z0 ad er12) (cwV 0 hts gX8_waive_X1_bit rfl rfl rfl (by decide +kernel) ⟨Nat.le_of_ble_eq_true rfl, Nat.le_of_ble_eq_true rfl⟩) hK hX rfl hl.1 rfl (Nat.le_of_ble_eq_true rfl) dX8_waive_54 ⟨Nat.zero_le _, Nat.zero_le _⟩ (fun H locs hX => ?_)
      refine lv_ior hx hb dX8_waive_57 ?_
      refine lv_goto (tgt := 74) hx hb dX8_waive_58 (by decide) ?_
      exact w_C_Court_waive_74 C h hX (lv_sub hl [3, 0] rfl)
  · replace h := mpos c5 h
    cases h
set_option maxRecDepth 20000 in
theorem w_X_Court_waive_0 (C : cC p s m args meth c cX8_waive RX8 (some .boolean) wsX8_waive 7 D yI yO) {Qc : Array Value → State → Outcome → State → Prop} (hlf : l.stackTraces = false) (ht : ∀ x ∈ c.exceptionTable.toList, False) (hxs : xS A s s.heap) (hA : ∀ q, s.heap.size ≤ q → A q) {ez : Nat} {g : CS} {x1 : Int32} {x2 : Int32} {x3 : Int32} (h : fC_Court_waive g x1 x2 x3 = some (.inl ez)) {H : Heap} {locs : List Loc} {ls : Array Slot} (hX : cX D yI yO z0 ad g A s H locs) (hl : lv_has ls 7 [(0, .ref (ad 0 0)), (1, .int x1), (2, .int x2), (3, .int x3)]) : W p l e (xR 7 111) s m args below meth c H locs 0 0 (vx_MQ below Qc (xXC D yI yO z0 ad g ez A) args s 1 6 A) (F0 m 0 ls []) := by
  obtain ⟨hx, hb, hr, hts, hown, hlocks, hml, hK⟩ := id C
  unfold fC_Court_waive at h
  refine lv_aload_n hx hb dX8_waive_0 rfl (lv_at hl 0 rfl) ?_
  refine lv_iload_n hx hb dX8_waive_1 rfl (lv_at hl 1 rfl) ?_
  rcases xb_thr h with et2 | ⟨v1, et2, h⟩
  · exact xg_callV (As := [.int x1]) (rest := []) ⟨hx, hb, hml, hown, hts⟩ 0 0 rfl (ci := 9) rfl rfl (cX_Court_landAt l hlf D yI yO z0 ad H.size et2) (cwV 1 hts gX8_waive_X8_landAt rfl rfl rfl (by decide +kernel) ⟨Nat.le_of_ble_eq_true rfl, Nat.le_of_ble_eq_true rfl⟩) hK hX hA hxs ht hlocks rfl hl.1 rfl (Nat.le_of_ble_eq_true rfl) dX8_waive_2 ⟨Nat.le_refl _, Nat.le_refl _⟩
  refine cg_callVq (As := [.int x1]) (rest := []) ⟨hx, hb, hml, hown, hts⟩ 0 0 rfl (ci := 9) rfl rfl (cC_Court_landAt l D yI yO z0 ad et2) (cwV 1 hts gX8_waive_X8_landAt rfl rfl rfl (by decide +kernel) ⟨Nat.le_of_ble_eq_true rfl, Nat.le_of_ble_eq_true rfl⟩) hK hX rfl hl.1 rfl (Nat.le_of_ble_eq_true rfl) dX8_waive_2 ⟨Nat.zero_le _, Nat.zero_le _⟩ (fun H locs hX => ?_)
  refine W.eq (g2 := F0 m 5 ls [.ref (ad 4 v1)]) rfl ?_
  refine lv_astore (lv' := [(4, .ref (ad 4 v1)), (0, .ref (ad 0 0)), (1, .int x1), (2, .int x2), (3, .int x3)]) hx hb dX8_waive_5 hl (by decide) rfl (fun ls hl => ?_)
  refine lv_aload_n hx hb dX8_waive_7 rfl (lv_at hl 1 rfl) ?_
  refine lv_iload_n hx hb dX8_waive_8 rfl (lv_at hl 3 rfl) ?_
  rcases xb_thr h with et4 | ⟨v3, et4, h⟩
  · exact xg_callV (As := [.int x2]) (rest := []) ⟨hx, hb, hml, hown, hts⟩ 0 0 rfl (ci := 9) rfl rfl (cX_Court_landAt l hlf D yI yO z0 ad H.size et4) (cwV 1 hts gX8_waive_X8_landAt rfl rfl rfl (by decide +kernel) ⟨Nat.le_of_ble_eq_true rfl, Nat.le_of_ble_eq_true rfl⟩) hK hX hA hxs ht hlocks rfl hl.1 rfl (Nat.le_of_ble_eq_true rfl) dX8_waive_9 ⟨Nat.le_refl _, Nat.le_refl _⟩
  refine cg_callVq (As := [.int x2]) (rest := []) ⟨hx, hb, hml, hown, hts⟩ 0 0 rfl (ci := 9) rfl rfl (cC_Court_landAt l D yI yO z0 ad et4) (cwV 1 hts gX8_waive_X8_landAt rfl rfl rfl (by decide +kernel) ⟨Nat.le_of_ble_eq_true rfl, Nat.le_of_ble_eq_true rfl⟩) hK hX rfl hl.1 rfl (Nat.le_of_ble_eq_true rfl) dX8_waive_9 ⟨Nat.zero_le _, Nat.zero_le _⟩ (fun H locs hX => ?_)
  refine W.eq (g2 := F0 m 12 ls [.ref (ad 4 v3)]) rfl ?_
  refine lv_astore (lv' := [(5, .ref (ad 4 v3)), (4, .ref (ad 4 v1)), (0, .ref (ad 0 0)), (1, .int x1), (2, .int x2), (3, .int x3)]) hx hb dX8_waive_12 hl (by decide) rfl (fun ls hl => ?_)
  refine lv_iload_n hx hb dX8_waive_14 rfl (lv_at hl 3 rfl) ?_
  refine lv_iload_n hx hb dX8_waive_15 rfl (lv_at hl 4 rfl) ?_
  refine lv_icmp_ne (tgt := 29) hx hb dX8_waive_16 (by decide) (fun c5 => ?_) (fun c5 => ?_)
  · replace h := mneg c5 h
    refine lv_aload hx hb dX8_waive_29 (lv_at hl 1 rfl) ?_
    refine lv_aload hx hb dX8_waive_31 (lv_at hl 0 rfl) ?_
    obtain ⟨_, hv6, h⟩ := mbind h
    replace hv6 := ck_spec hv6
    obtain ⟨r7, er7, h⟩ := mbind h
    refine cg_callV (As := []) (rest := [.ref (ad 4 v1)]) ⟨hx, hb, hml, hown, hts⟩ 4 v3 hv6 (ci := 2) rfl rfl (cC_Land_bit l D yI yO z0 ad er7) (cwV 0 hts gX8_waive_X1_bit rfl rfl rfl (by decide +kernel) ⟨Nat.le_of_ble_eq_true rfl, Nat.le_of_ble_eq_true rfl⟩) hK hX rfl hl.1 rfl (Nat.le_of_ble_eq_true rfl) dX8_waive_33 ⟨Nat.zero_le _, Nat.zero_le _⟩ (fun H locs hX => ?_)
    obtain ⟨_, hv8, h⟩ := mbind h
    replace hv8 := ck_spec hv8
    obtain ⟨r9, er9, h⟩ := mbind h
    refine cg_callV (As := [.int r7]) (rest := []) ⟨hx, hb, hml, hown, hts⟩ 4 v1 hv8 (ci := 2) rfl rfl (cC_Land_waivesFor l D yI yO z0 ad er9) (cwV 1 hts gX8_waive_X1_waivesFor rfl rfl rfl (by decide +kernel) ⟨Nat.le_of_ble_eq_true rfl, Nat.le_of_ble_eq_true rfl⟩) hK hX rfl hl.1 rfl (Nat.le_of_ble_eq_true rfl) dX8_waive_36 ⟨Nat.zero_le _, Nat.zero_le _⟩ (fun H locs hX => ?_)
    refine lv_istore (lv' := [(6, .int r9), (5, .ref (ad 4 v3)), (4, .ref (ad 4 v1)), (0, .ref (ad 0 0)), (1, .int x1), (2, .int x2), (3, .int x3)]) hx hb dX8_waive_39 hl (by decide) rfl (fun ls hl => ?_)
    refine lv_aload hx hb dX8_waive_41 (lv_at hl 2 rfl) ?_
    refine lv_iload_n hx hb dX8_waive_43 rfl (lv_at hl 6 rfl) ?_
    refine lv_if_eq (tgt := 61) hx hb dX8_waive_44 (by decide) (fun c10 => ?_) (fun c10 => ?_)
    · replace h := mpos c10 h
      refine lv_aload hx hb dX8_waive_61 (lv_at hl 2 rfl) ?_
      refine cg_get hx hb hts iC_Court_waive_X1 hown hK hX 4 v1 hv8 rfl rfl 6 (by decide) (hts (.fieldLink RX8 82 "PassageCourt$Land" "waived" "I") (by decide +kernel)) (fun _ h9 => h9) rfl dX8_waive_63 ?_
      refine lv_aload hx hb dX8_waive_66 (lv_at hl 1 rfl) ?_
      obtain ⟨r11, er11, h⟩ := mbind h
      refine cg_callV (As := []) (rest := [.int (sI g 4 v1 6), .ref (ad 4 v1)]) ⟨hx, hb, hml, hown, hts⟩ 4 v3 hv6 (ci := 2) rfl rfl (cC_Land_bit l D yI yO z0 ad er11) (cwV 0 hts gX8_waive_X1_bit rfl rfl rfl (by decide +kernel) ⟨Nat.le_of_ble_eq_true rfl, Nat.le_of_ble_eq_true rfl⟩) hK hX rfl hl.1 rfl (Nat.le_of_ble_eq_true rfl) dX8_waive_68 ⟨Nat.zero_le _, Nat.zero_le _⟩ (fun H locs hX => ?_)
      refine lv_iconst (v := -1) hx hb dX8_waive_71 (by decide) ?_
      refine lv_ixor hx hb dX8_waive_72 ?_
      refine lv_iand hx hb dX8_waive_73 ?_
      exact (nt_C_Court_waive_74 _ h).elim
    · replace h := mneg c10 h
      refine lv_aload hx hb dX8_waive_47 (lv_at hl 2 rfl) ?_
      refine cg_get hx hb hts iC_Court_waive_X1 hown hK hX 4 v1 hv8 rfl rfl 6 (by decide) (hts (.fieldLink RX8 82 "PassageCourt$Land" "waived" "I") (by decide +kernel)) (fun _ h9 => h9) rfl dX8_waive_49 ?_
      refine lv_aload hx hb dX8_waive_52 (lv_at hl 1 rfl) ?_
      obtain ⟨r12, er12, h⟩ := mbind h
      refine cg_callV (As := []) (rest := [.int (sI g 4 v1 6), .ref (ad 4 v1)]) ⟨hx, hb, hml, hown, hts⟩ 4 v3 hv6 (ci := 2) rfl rfl (cC_Land_bit l D yI yO z0 ad er12) (cwV 0 hts gX8_waive_X1_bit rfl rfl rfl (by decide +kernel) ⟨Nat.le_of_ble_eq_true rfl, Nat.le_of_ble_eq_true rfl⟩) hK hX rfl hl.1 rfl (Nat.le_of_ble_eq_true rfl) dX8_waive_54 ⟨Nat.zero_le _, Nat.zero_le _⟩ (fun H locs hX => ?_)
      refine lv_ior hx hb dX8_waive_57 ?_
      refine lv_goto (tgt := 74) hx hb dX8_waive_58 (by decide) ?_
      exact (nt_C_Court_waive_74 _ h).elim
  · replace h := mpos c5 h
    cases h
    obtain ⟨sa, hsa⟩ := hxs.2.2.1 (73, "a land waives nothing for its own nation") (by decide +kernel)
    exact vx_throwS hx hb hlf (own := RX8) (cls := "java/lang/IllegalArgumentException") (text := "a land waives nothing for its own nation") (names := ["java/lang/RuntimeException", "java/lang/Exception"]) (A := A) hown (by decide +kernel) (by decide +kernel) (hts (.classLink RX8 41 "java/lang/IllegalArgumentException") (by decide +kernel)) (hts (.initialized "java/lang/IllegalArgumentException") (by decide +kernel)) hsa (vx_hat (fun w hw => hts w (eC_Court_waive_45 w hw)) (B := xB) (by decide +kernel) (fun w hw => va_Nw.use (xB_on w hw) (hxs.2.2.2 w hw))) (by decide +kernel) hxs.1 hxs.2.1 hX.2.2 (hl.1.trans hml.symm) dX8_waive_19 dX8_waive_22 dX8_waive_23 dX8_waive_25 dX8_waive_28 (fun x hx => (ht x hx).elim) (Nat.le_of_ble_eq_true rfl) (Nat.le_of_ble_eq_true rfl) (Nat.le_of_ble_eq_true rfl) (Nat.le_of_ble_eq_true rfl) hlocks (fun t a1 a2 a3 => xX_post rfl hK hX t a1 a2 a3) hX.2.2.2.2 (Nat.le_refl _) (Nat.le_refl _)
set_option maxRecDepth 20000 in
theorem cC_Court_waive (l : Launch) (D : va_G) (yI yO : ClassId) (z0 : Nat) (ad : Nat → Nat → Nat) {g : CS} {gz : CS} {rz : Int32} {x1 : Int32} {x2 : Int32} {x3 : Int32} (h : fC_Court_waive g x1 x2 x3 = some (.inr (rz, gz))) : Met l yX8_waive wsX8_waive (mR 4 85) (va_Pc [.ref (ad 0 0), .int x1, .int x2, .int x3] (cPre D yI yO z0 ad g)) (cQ D yI yO z0 ad rz gz (cF ad g)) 0 0 (cF ad g) := by
  refine Met.ofW (cc := cX8_waive) (maxL := 7) (ret := (some .boolean)) (by decide) rfl ?_
  intro p e s m args below meth c s₁ B hml hv
  obtain ⟨hv0, hw, hK⟩ := hv
  have hv1 : args = [.ref (ad 0 0), .int x1, .int x2, .int x3].toArray := hv0
  subst hv1
  have C : cC p s m _ meth c cX8_waive RX8 (some .boolean) wsX8_waive 7 D yI yO := ⟨B.exec, B.bytes, B.returns, atoms_spec (ws := wsX8_waive) B.pre, findClass_of_methodNamed B.named, B.notSynchronized, hml, hK⟩
  have hl := lv_entry ([.ref (ad 0 0), .int x1, .int x2, .int x3]) (n := 7) (Nat.le_of_ble_eq_true rfl)
  rw [lg_entry_eq]
  generalize (lg_sl ([.ref (ad 0 0), .int x1, .int x2, .int x3]) ++ List.replicate (7 - (lg_sl ([.ref (ad 0 0), .int x1, .int x2, .int x3])).length) Slot.unset).toArray = ls at hl ⊢
  have hl : lv_has ls 7 [(0, .ref (ad 0 0)), (1, .int x1), (2, .int x2), (3, .int x3)] := hl
  exact w_C_Court_waive_0 C h ⟨hw, fun k i hi => ⟨k, i, hi, rfl⟩, va_S.rf⟩ hl
set_option maxRecDepth 20000 in
theorem cX_Court_waive (l : Launch) (hlf : l.stackTraces = false) (D : va_G) (yI yO : ClassId) (z0 : Nat) (ad : Nat → Nat → Nat) {g : CS} {ez : Nat} {x1 : Int32} {x2 : Int32} {x3 : Int32} (sz : Nat) (h : fC_Court_waive g x1 x2 x3 = some (.inl ez)) : vx_Met l yX8_waive wsX8_waive (xR 7 111) (va_Pc [.ref (ad 0 0), .int x1, .int x2, .int x3] (xPre D yI yO z0 ad g sz)) (xQ (cA ad g sz)) (xXC D yI yO z0 ad g ez (cA ad g sz)) 1 6 (cA ad g sz) := by
  refine vx_ofW (cc := cX8_waive) (maxL := 7) (ret := (some .boolean)) (by decide) rfl ?_
  intro p e s m args below meth c s₁ B hml ht hv
  obtain ⟨hv0, ⟨hw, hK⟩, hsz, hxs⟩ := hv
  subst hsz
  have hv1 : args = [.ref (ad 0 0), .int x1, .int x2, .int x3].toArray := hv0
  subst hv1
  have C : cC p s m _ meth c cX8_waive RX8 (some .boolean) wsX8_waive 7 D yI yO := ⟨B.exec, B.bytes, B.returns, atoms_spec (ws := wsX8_waive) B.pre, findClass_of_methodNamed B.named, B.notSynchronized, hml, hK⟩
  have hl := lv_entry ([.ref (ad 0 0), .int x1, .int x2, .int x3]) (n := 7) (Nat.le_of_ble_eq_true rfl)
  rw [lg_entry_eq]
  generalize (lg_sl ([.ref (ad 0 0), .int x1, .int x2, .int x3]) ++ List.replicate (7 - (lg_sl ([.ref (ad 0 0), .int x1, .int x2, .int x3])).length) Slot.unset).toArray = ls at hl ⊢
  have hl : lv_has ls 7 [(0, .ref (ad 0 0)), (1, .int x1), (2, .int x2), (3, .int x3)] := hl
  exact w_X_Court_waive_0 C hlf ht hxs (fun q h => Or.inr h) h ⟨hw, fun k i hi => Or.inl ⟨k, i, hi, rfl⟩, va_S.rf⟩ hl
theorem iC_Court_nation_X3 : ∀ w ∈ wsX30, w ∈ wsX8_nation := by decide +kernel
def fC_Court_nation_44 (g : CS) (i4 : Nat) (xs0 : Int32) (is1 : Nat) : Option (Nat ⊕ (Int32 × CS)) :=
  (ck g 5 is1).bind fun _ =>
  (some (uI g 5 is1 8 xs0)).bind fun g2 =>
  (ck g2 5 i4).bind fun _ =>
  some (.inr (sI g2 5 i4 8, g2))
set_option maxRecDepth 20000 in
theorem w_C_Court_nation_44 (C : cC p s m args meth c cX8_nation RX8 (some .int) wsX8_nation 6 D yI yO) {gz : CS} {rz : Int32} {g : CS} {i4 : Nat} {xs0 : Int32} {is1 : Nat} (h : fC_Court_nation_44 g i4 xs0 is1 = some (.inr (rz, gz))) {H : Heap} {locs : List Loc} {ls : Array Slot} (hX : cX D yI yO z0 ad g A s H locs) (hl : lv_has ls 6 [(0, .ref (ad 0 0)), (4, .ref (ad 5 i4))]) : W p l e (mR 4 85) s m args below meth c H locs 0 0 (MQ below (cQ D yI yO z0 ad rz gz A) args s 0 0 A) (F0 m 44 ls [.int xs0, .ref (ad 5 is1)]) := by
  obtain ⟨hx, hb, hr, hts, hown, hlocks, hml, hK⟩ := id C
  unfold fC_Court_nation_44 at h
  obtain ⟨_, hv1, h⟩ := mbind h
  replace hv1 := ck_spec hv1
  obtain ⟨g2, eg2, h⟩ := mbind h
  refine cg_put hx hb hts iC_Court_nation_X3 tyX3 tyX3_ok nmX3 hown hK hX 5 is1 hv1 rfl rfl 8 (by decide) (hts (.fieldLink RX8 124 "PassageCourt$Person" "nations" "I") (by decide +kernel)) (fun _ h9 => h9) rfl (by decide +kernel) rfl rfl (ty := .int) (g1 := (uI g 5 is1 8 xs0)) (Nat.le_of_ble_eq_true rfl) (by unfold cent; rw [sI_up]; rfl) (fun _ _ => rfl) rfl (fun _ _ hab => cent_uI yI yO ad _ _ _ hab) dX8_nation_44 (fun H locs hX => ?_)
  have eg2 := Option.some.inj eg2
  rw [eg2] at hX
  have hv3 : clvb g2 5 is1 = true := by rw [← eg2]; exact hv1
  refine lv_aload hx hb dX8_nation_47 (lv_at hl 1 rfl) ?_
  obtain ⟨_, hv4, h⟩ := mbind h
  replace hv4 := ck_spec hv4
  refine cg_get hx hb hts iC_Court_nation_X3 hown hK hX 5 i4 hv4 rfl rfl 8 (by decide) (hts (.fieldLink RX8 124 "PassageCourt$Person" "nations" "I") (by decide +kernel)) (fun _ h9 => h9) rfl dX8_nation_49 ?_
  cases h
  exact cg_reti hx hb hr hlocks hK hX dX8_nation_52
theorem nt_C_Court_nation_44 {g : CS} {i4 : Nat} {xs0 : Int32} {is1 : Nat} : ntp (fC_Court_nation_44 g i4 xs0 is1) := by
  unfold fC_Court_nation_44
  repeat' first | exact ntp_inr _ | exact ntp_none | refine ntp_bind (fun _ => ?_) | refine ntp_cb2 (fun _ _ => ?_) | refine ntp_om ?_ (fun _ => ?_) | refine ntp_ite ?_ ?_
def fC_Court_nation (g : CS) (x1 : Int32) (x2 : Int32) (x3 : Int32) : Option (Nat ⊕ (Int32 × CS)) :=
  xb (fC_Court_personAt g x1) fun v1 =>
  xb (fC_Court_landAt g x2) fun v3 =>
  (ck g 4 v3).bind fun _ =>
  (fC_Land_bit v3 g).bind fun r6 =>
  if x3 = 0 then
    (ck g 5 v1).bind fun _ =>
    fC_Court_nation_44 g v1 ((sI g 5 v1 8) &&& (r6 ^^^ ((-1)))) v1
  else
    (ck g 5 v1).bind fun _ =>
    fC_Court_nation_44 g v1 ((sI g 5 v1 8) ||| r6) v1
set_option maxRecDepth 20000 in
theorem w_C_Court_nation_0 (C : cC p s m args meth c cX8_nation RX8 (some .int) wsX8_nation 6 D yI yO) {gz : CS} {rz : Int32} {g : CS} {x1 : Int32} {x2 : Int32} {x3 : Int32} (h : fC_Court_nation g x1 x2 x3 = some (.inr (rz, gz))) {H : Heap} {locs : List Loc} {ls : Array Slot} (hX : cX D yI yO z0 ad g A s H locs) (hl : lv_has ls 6 [(0, .ref (ad 0 0)), (1, .int x1), (2, .int x2), (3, .int x3)]) : W p l e (mR 4 85) s m args below meth c H locs 0 0 (MQ below (cQ D yI yO z0 ad rz gz A) args s 0 0 A) (F0 m 0 ls []) := by
  obtain ⟨hx, hb, hr, hts, hown, hlocks, hml, hK⟩ := id C
  unfold fC_Court_nation at h
  refine lv_aload_n hx hb dX8_nation_0 rfl (lv_at hl 0 rfl) ?_
  refine lv_iload_n hx hb dX8_nation_1 rfl (lv_at hl 1 rfl) ?_
  obtain ⟨v1, et2, h⟩ := xb_ret h
  refine cg_callVq (As := [.int x1]) (rest := []) ⟨hx, hb, hml, hown, hts⟩ 0 0 rfl (ci := 9) rfl rfl (cC_Court_personAt l D yI yO z0 ad et2) (cwV 1 hts gX8_nation_X8_personAt rfl rfl rfl (by decide +kernel) ⟨Nat.le_of_ble_eq_true rfl, Nat.le_of_ble_eq_true rfl⟩) hK hX rfl hl.1 rfl (Nat.le_of_ble_eq_true rfl) dX8_nation_2 ⟨Nat.zero_le _, Nat.zero_le _⟩ (fun H locs hX => ?_)
  refine W.eq (g2 := F0 m 5 ls [.ref (ad 5 v1)]) rfl ?_
  refine lv_astore (lv' := [(4, .ref (ad 5 v1)), (0, .ref (ad 0 0)), (1, .int x1), (2, .int x2), (3, .int x3)]) hx hb dX8_nation_5 hl (by decide) rfl (fun ls hl => ?_)
  refine lv_aload_n hx hb dX8_nation_7 rfl (lv_at hl 1 rfl) ?_
  refine lv_iload_n hx hb dX8_nation_8 rfl (lv_at hl 3 rfl) ?_
  obtain ⟨v3, et4, h⟩ := xb_ret h
  refine cg_callVq (As := [.int x2]) (rest := []) ⟨hx, hb, hml, hown, hts⟩ 0 0 rfl (ci := 9) rfl rfl (cC_Court_landAt l D yI yO z0 ad et4) (cwV 1 hts gX8_nation_X8_landAt rfl rfl rfl (by decide +kernel) ⟨Nat.le_of_ble_eq_true rfl, Nat.le_of_ble_eq_true rfl⟩) hK hX rfl hl.1 rfl (Nat.le_of_ble_eq_true rfl) dX8_nation_9 ⟨Nat.zero_le _, Nat.zero_le _⟩ (fun H locs hX => ?_)
  refine W.eq (g2 := F0 m 12 ls [.ref (ad 4 v3)]) rfl ?_
  obtain ⟨_, hv5, h⟩ := mbind h
  replace hv5 := ck_spec hv5
  obtain ⟨r6, er6, h⟩ := mbind h
  refine cg_callV (As := []) (rest := []) ⟨hx, hb, hml, hown, hts⟩ 4 v3 hv5 (ci := 2) rfl rfl (cC_Land_bit l D yI yO z0 ad er6) (cwV 0 hts gX8_nation_X1_bit rfl rfl rfl (by decide +kernel) ⟨Nat.le_of_ble_eq_true rfl, Nat.le_of_ble_eq_true rfl⟩) hK hX rfl hl.1 rfl (Nat.le_of_ble_eq_true rfl) dX8_nation_12 ⟨Nat.zero_le _, Nat.zero_le _⟩ (fun H locs hX => ?_)
  refine lv_istore (lv' := [(5, .int r6), (4, .ref (ad 5 v1)), (0, .ref (ad 0 0)), (1, .int x1), (2, .int x2), (3, .int x3)]) hx hb dX8_nation_15 hl (by decide) rfl (fun ls hl => ?_)
  refine lv_aload hx hb dX8_nation_17 (lv_at hl 1 rfl) ?_
  refine lv_iload_n hx hb dX8_nation_19 rfl (lv_at hl 5 rfl) ?_
  refine lv_if_eq (tgt := 34) hx hb dX8_nation_20 (by decide) (fun c7 => ?_) (fun c7 => ?_)
  · replace h := mpos c7 h
    refine lv_aload hx hb dX8_nation_34 (lv_at hl 1 rfl) ?_
    obtain ⟨_, hv8, h⟩ := mbind h
    replace hv8 := ck_spec hv8
    refine cg_get hx hb hts iC_Court_nation_X3 hown hK hX 5 v1 hv8 rfl rfl 8 (by decide) (hts (.fieldLink RX8 124 "PassageCourt$Person" "nations" "I") (by decide +kernel)) (fun _ h9 => h9) rfl dX8_nation_36 ?_
    refine lv_iload hx hb dX8_nation_39 (lv_at hl 0 rfl) ?_
    refine lv_iconst (v := -1) hx hb dX8_nation_41 (by decide) ?_
    refine lv_ixor hx hb dX8_nation_42 ?_
    refine lv_iand hx hb dX8_nation_43 ?_
    exact w_C_Court_nation_44 C h hX (lv_sub hl [2, 1] rfl)
  · replace h := mneg c7 h
    refine lv_aload hx hb dX8_nation_23 (lv_at hl 1 rfl) ?_
    obtain ⟨_, hv9, h⟩ := mbind h
    replace hv9 := ck_spec hv9
    refine cg_get hx hb hts iC_Court_nation_X3 hown hK hX 5 v1 hv9 rfl rfl 8 (by decide) (hts (.fieldLink RX8 124 "PassageCourt$Person" "nations" "I") (by decide +kernel)) (fun _ h9 => h9) rfl dX8_nation_25 ?_
    refine lv_iload hx hb dX8_nation_28 (lv_at hl 0 rfl) ?_
    refine lv_ior hx hb dX8_nation_30 ?_
    refine lv_goto (tgt := 44) hx hb dX8_nation_31 (by decide) ?_
    exact w_C_Court_nation_44 C h hX (lv_sub hl [2, 1] rfl)
set_option maxRecDepth 20000 in
theorem w_X_Court_nation_0 (C : cC p s m args meth c cX8_nation RX8 (some .int) wsX8_nation 6 D yI yO) {Qc : Array Value → State → Outcome → State → Prop} (hlf : l.stackTraces = false) (ht : ∀ x ∈ c.exceptionTable.toList, False) (hxs : xS A s s.heap) (hA : ∀ q, s.heap.size ≤ q → A q) {ez : Nat} {g : CS} {x1 : Int32} {x2 : Int32} {x3 : Int32} (h : fC_Court_nation g x1 x2 x3 = some (.inl ez)) {H : Heap} {locs : List Loc} {ls : Array Slot} (hX : cX D yI yO z0 ad g A s H locs) (hl : lv_has ls 6 [(0, .ref (ad 0 0)), (1, .int x1), (2, .int x2), (3, .int x3)]) : W p l e (xR 7 111) s m args below meth c H locs 0 0 (vx_MQ below Qc (xXC D yI yO z0 ad g ez A) args s 1 6 A) (F0 m 0 ls []) := by
  obtain ⟨hx, hb, hr, hts, hown, hlocks, hml, hK⟩ := id C
  unfold fC_Court_nation at h
  refine lv_aload_n hx hb dX8_nation_0 rfl (lv_at hl 0 rfl) ?_
  refine lv_iload_n hx hb dX8_nation_1 rfl (lv_at hl 1 rfl) ?_
  rcases xb_thr h with et2 | ⟨v1, et2, h⟩
  · exact xg_callV (As := [.int x1]) (rest := []) ⟨hx, hb, hml, hown, hts⟩ 0 0 rfl (ci := 9) rfl rfl (cX_Court_personAt l hlf D yI yO z0 ad H.size et2) (cwV 1 hts gX8_nation_X8_personAt rfl rfl rfl (by decide +kernel) ⟨Nat.le_of_ble_eq_true rfl, Nat.le_of_ble_eq_true rfl⟩) hK hX hA hxs ht hlocks rfl hl.1 rfl (Nat.le_of_ble_eq_true rfl) dX8_nation_2 ⟨Nat.le_refl _, Nat.le_refl _⟩
  refine cg_callVq (As := [.int x1]) (rest := []) ⟨hx, hb, hml, hown, hts⟩ 0 0 rfl (ci := 9) rfl rfl (cC_Court_personAt l D yI yO z0 ad et2) (cwV 1 hts gX8_nation_X8_personAt rfl rfl rfl (by decide +kernel) ⟨Nat.le_of_ble_eq_true rfl, Nat.le_of_ble_eq_true rfl⟩) hK hX rfl hl.1 rfl (Nat.le_of_ble_eq_true rfl) dX8_nation_2 ⟨Nat.zero_le _, Nat.zero_le _⟩ (fun H locs hX => ?_)
  refine W.eq (g2 := F0 m 5 ls [.ref (ad 5 v1)]) rfl ?_
  refine lv_astore (lv' := [(4, .ref (ad 5 v1)), (0, .ref (ad 0 0)), (1, .int x1), (2, .int x2), (3, .int x3)]) hx hb dX8_nation_5 hl (by decide) rfl (fun ls hl => ?_)
  refine lv_aload_n hx hb dX8_nation_7 rfl (lv_at hl 1 rfl) ?_
  refine lv_iload_n hx hb dX8_nation_8 rfl (lv_at hl 3 rfl) ?_
  rcases xb_thr h with et4 | ⟨v3, et4, h⟩
  · exact xg_callV (As := [.int x2]) (rest := []) ⟨hx, hb, hml, hown, hts⟩ 0 0 rfl (ci := 9) rfl rfl (cX_Court_landAt l hlf D yI yO z0 ad H.size et4) (cwV 1 hts gX8_nation_X8_landAt rfl rfl rfl (by decide +kernel) ⟨Nat.le_of_ble_eq_true rfl, Nat.le_of_ble_eq_true rfl⟩) hK hX hA hxs ht hlocks rfl hl.1 rfl (Nat.le_of_ble_eq_true rfl) dX8_nation_9 ⟨Nat.le_refl _, Nat.le_refl _⟩
  refine cg_callVq (As := [.int x2]) (rest := []) ⟨hx, hb, hml, hown, hts⟩ 0 0 rfl (ci := 9) rfl rfl (cC_Court_landAt l D yI yO z0 ad et4) (cwV 1 hts gX8_nation_X8_landAt rfl rfl rfl (by decide +kernel) ⟨Nat.le_of_ble_eq_true rfl, Nat.le_of_ble_eq_true rfl⟩) hK hX rfl hl.1 rfl (Nat.le_of_ble_eq_true rfl) dX8_nation_9 ⟨Nat.zero_le _, Nat.zero_le _⟩ (fun H locs hX => ?_)
  refine W.eq (g2 := F0 m 12 ls [.ref (ad 4 v3)]) rfl ?_
  obtain ⟨_, hv5, h⟩ := mbind h
  replace hv5 := ck_spec hv5
  obtain ⟨r6, er6, h⟩ := mbind h
  refine cg_callV (As := []) (rest := []) ⟨hx, hb, hml, hown, hts⟩ 4 v3 hv5 (ci := 2) rfl rfl (cC_Land_bit l D yI yO z0 ad er6) (cwV 0 hts gX8_nation_X1_bit rfl rfl rfl (by decide +kernel) ⟨Nat.le_of_ble_eq_true rfl, Nat.le_of_ble_eq_true rfl⟩) hK hX rfl hl.1 rfl (Nat.le_of_ble_eq_true rfl) dX8_nation_12 ⟨Nat.zero_le _, Nat.zero_le _⟩ (fun H locs hX => ?_)
  refine lv_istore (lv' := [(5, .int r6), (4, .ref (ad 5 v1)), (0, .ref (ad 0 0)), (1, .int x1), (2, .int x2), (3, .int x3)]) hx hb dX8_nation_15 hl (by decide) rfl (fun ls hl => ?_)
  refine lv_aload hx hb dX8_nation_17 (lv_at hl 1 rfl) ?_
  refine lv_iload_n hx hb dX8_nation_19 rfl (lv_at hl 5 rfl) ?_
  refine lv_if_eq (tgt := 34) hx hb dX8_nation_20 (by decide) (fun c7 => ?_) (fun c7 => ?_)
  · replace h := mpos c7 h
    refine lv_aload hx hb dX8_nation_34 (lv_at hl 1 rfl) ?_
    obtain ⟨_, hv8, h⟩ := mbind h
    replace hv8 := ck_spec hv8
    refine cg_get hx hb hts iC_Court_nation_X3 hown hK hX 5 v1 hv8 rfl rfl 8 (by decide) (hts (.fieldLink RX8 124 "PassageCourt$Person" "nations" "I") (by decide +kernel)) (fun _ h9 => h9) rfl dX8_nation_36 ?_
    refine lv_iload hx hb dX8_nation_39 (lv_at hl 0 rfl) ?_
    refine lv_iconst (v := -1) hx hb dX8_nation_41 (by decide) ?_
    refine lv_ixor hx hb dX8_nation_42 ?_
    refine lv_iand hx hb dX8_nation_43 ?_
    exact (nt_C_Court_nation_44 _ h).elim
  · replace h := mneg c7 h
    refine lv_aload hx hb dX8_nation_23 (lv_at hl 1 rfl) ?_
    obtain ⟨_, hv9, h⟩ := mbind h
    replace hv9 := ck_spec hv9
    refine cg_get hx hb hts iC_Court_nation_X3 hown hK hX 5 v1 hv9 rfl rfl 8 (by decide) (hts (.fieldLink RX8 124 "PassageCourt$Person" "nations" "I") (by decide +kernel)) (fun _ h9 => h9) rfl dX8_nation_25 ?_
    refine lv_iload hx hb dX8_nation_28 (lv_at hl 0 rfl) ?_
    refine lv_ior hx hb dX8_nation_30 ?_
    refine lv_goto (tgt := 44) hx hb dX8_nation_31 (by decide) ?_
    exact (nt_C_Court_nation_44 _ h).elim
set_option maxRecDepth 20000 in
theorem cC_Court_nation (l : Launch) (D : va_G) (yI yO : ClassId) (z0 : Nat) (ad : Nat → Nat → Nat) {g : CS} {gz : CS} {rz : Int32} {x1 : Int32} {x2 : Int32} {x3 : Int32} (h : fC_Court_nation g x1 x2 x3 = some (.inr (rz, gz))) : Met l yX8_nation wsX8_nation (mR 4 85) (va_Pc [.ref (ad 0 0), .int x1, .int x2, .int x3] (cPre D yI yO z0 ad g)) (cQ D yI yO z0 ad rz gz (cF ad g)) 0 0 (cF ad g) := by
  refine Met.ofW (cc := cX8_nation) (maxL := 6) (ret := (some .int)) (by decide) rfl ?_
  intro p e s m args below meth c s₁ B hml hv
  obtain ⟨hv0, hw, hK⟩ := hv
  have hv1 : args = [.ref (ad 0 0), .int x1, .int x2, .int x3].toArray := hv0
  subst hv1
  have C : cC p s m _ meth c cX8_nation RX8 (some .int) wsX8_nation 6 D yI yO := ⟨B.exec, B.bytes, B.returns, atoms_spec (ws := wsX8_nation) B.pre, findClass_of_methodNamed B.named, B.notSynchronized, hml, hK⟩
  have hl := lv_entry ([.ref (ad 0 0), .int x1, .int x2, .int x3]) (n := 6) (Nat.le_of_ble_eq_true rfl)
  rw [lg_entry_eq]
  generalize (lg_sl ([.ref (ad 0 0), .int x1, .int x2, .int x3]) ++ List.replicate (6 - (lg_sl ([.ref (ad 0 0), .int x1, .int x2, .int x3])).length) Slot.unset).toArray = ls at hl ⊢
  have hl : lv_has ls 6 [(0, .ref (ad 0 0)), (1, .int x1), (2, .int x2), (3, .int x3)] := hl
  exact w_C_Court_nation_0 C h ⟨hw, fun k i hi => ⟨k, i, hi, rfl⟩, va_S.rf⟩ hl
set_option maxRecDepth 20000 in
theorem cX_Court_nation (l : Launch) (hlf : l.stackTraces = false) (D : va_G) (yI yO : ClassId) (z0 : Nat) (ad : Nat → Nat → Nat) {g : CS} {ez : Nat} {x1 : Int32} {x2 : Int32} {x3 : Int32} (sz : Nat) (h : fC_Court_nation g x1 x2 x3 = some (.inl ez)) : vx_Met l yX8_nation wsX8_nation (xR 7 111) (va_Pc [.ref (ad 0 0), .int x1, .int x2, .int x3] (xPre D yI yO z0 ad g sz)) (xQ (cA ad g sz)) (xXC D yI yO z0 ad g ez (cA ad g sz)) 1 6 (cA ad g sz) := by
  refine vx_ofW (cc := cX8_nation) (maxL := 6) (ret := (some .int)) (by decide) rfl ?_
  intro p e s m args below meth c s₁ B hml ht hv
  obtain ⟨hv0, ⟨hw, hK⟩, hsz, hxs⟩ := hv
  subst hsz
  have hv1 : args = [.ref (ad 0 0), .int x1, .int x2, .int x3].toArray := hv0
  subst hv1
  have C : cC p s m _ meth c cX8_nation RX8 (some .int) wsX8_nation 6 D yI yO := ⟨B.exec, B.bytes, B.returns, atoms_spec (ws := wsX8_nation) B.pre, findClass_of_methodNamed B.named, B.notSynchronized, hml, hK⟩
  have hl := lv_entry ([.ref (ad 0 0), .int x1, .int x2, .int x3]) (n := 6) (Nat.le_of_ble_eq_true rfl)
  rw [lg_entry_eq]
  generalize (lg_sl ([.ref (ad 0 0), .int x1, .int x2, .int x3]) ++ List.replicate (6 - (lg_sl ([.ref (ad 0 0), .int x1, .int x2, .int x3])).length) Slot.unset).toArray = ls at hl ⊢
  have hl : lv_has ls 6 [(0, .ref (ad 0 0)), (1, .int x1), (2, .int x2), (3, .int x3)] := hl
  exact w_X_Court_nation_0 C hlf ht hxs (fun q h => Or.inr h) h ⟨hw, fun k i hi => Or.inl ⟨k, i, hi, rfl⟩, va_S.rf⟩ hl
theorem iC_Court_enter_X7 : ∀ w ∈ wsX70, w ∈ wsX8_enter := by decide +kernel
def fC_Court_enter_81 (g : CS) (x5 : Int32) : Option (Nat ⊕ (Int32 × CS)) :=
  some (.inr (x5, g))
set_option maxRecDepth 20000 in
theorem w_C_Court_enter_81 (C : cC p s m args meth c cX8_enter RX8 (some .int) wsX8_enter 7 D yI yO) {gz : CS} {rz : Int32} {g : CS} {x5 : Int32} (h : fC_Court_enter_81 g x5 = some (.inr (rz, gz))) {H : Heap} {locs : List Loc} {ls : Array Slot} (hX : cX D yI yO z0 ad g A s H locs) (hl : lv_has ls 7 [(0, .ref (ad 0 0)), (5, .int x5)]) : W p l e (mR 8 181) s m args below meth c H locs 0 0 (MQ below (cQ D yI yO z0 ad rz gz A) args s 0 0 A) (F0 m 81 ls []) := by
  obtain ⟨hx, hb, hr, hts, hown, hlocks, hml, hK⟩ := id C
  unfold fC_Court_enter_81 at h
  refine lv_iload hx hb dX8_enter_81 (lv_at hl 1 rfl) ?_
  cases h
  exact cg_reti hx hb hr hlocks hK hX dX8_enter_83
theorem nt_C_Court_enter_81 {g : CS} {x5 : Int32} : ntp (fC_Court_enter_81 g x5) := by
  unfold fC_Court_enter_81
  repeat' first | exact ntp_inr _ | exact ntp_none | refine ntp_bind (fun _ => ?_) | refine ntp_cb2 (fun _ _ => ?_) | refine ntp_om ?_ (fun _ => ?_) | refine ntp_ite ?_ ?_
def fC_Court_enter_71 (g : CS) (i3 : Nat) (i4 : Nat) (x5 : Int32) (o6 : Option Nat) : Option (Nat ⊕ (Int32 × CS)) :=
  om o6 (
    (fC_Court_arrive g i3 i4 none 0).bind fun g2 =>
    fC_Court_enter_81 g2 x5)
    fun v1 =>
    (fC_Court_arrive g i3 i4 (some v1) 0).bind fun g3 =>
    fC_Court_enter_81 g3 x5
set_option maxRecDepth 20000 in
theorem w_C_Court_enter_71 (C : cC p s m args meth c cX8_enter RX8 (some .int) wsX8_enter 7 D yI yO) {gz : CS} {rz : Int32} {g : CS} {i3 : Nat} {i4 : Nat} {x5 : Int32} {o6 : Option Nat} (h : fC_Court_enter_71 g i3 i4 x5 o6 = some (.inr (rz, gz))) {H : Heap} {locs : List Loc} {ls : Array Slot} (hX : cX D yI yO z0 ad g A s H locs) (hl : lv_has ls 7 [(0, .ref (ad 0 0)), (3, .ref (ad 5 i3)), (4, .ref (ad 4 i4)), (5, .int x5), (6, va_rf (o6.map (ad 6)))]) : W p l e (mR 8 181) s m args below meth c H locs 0 0 (MQ below (cQ D yI yO z0 ad rz gz A) args s 0 0 A) (F0 m 71 ls []) := by
  obtain ⟨hx, hb, hr, hts, hown, hlocks, hml, hK⟩ := id C
  unfold fC_Court_enter_71 at h
  refine lv_aload_n hx hb dX8_enter_71 rfl (lv_at hl 0 rfl) ?_
  refine lv_aload_n hx hb dX8_enter_72 rfl (lv_at hl 1 rfl) ?_
  refine lv_aload hx hb dX8_enter_73 (lv_at hl 2 rfl) ?_
  rcases o6 with _ | v1
  · replace h := om_n rfl h
    refine lv_aloadN hx hb dX8_enter_75 (lv_at hl 4 rfl) ?_
    refine lv_iconst (v := 0) hx hb dX8_enter_77 (by decide) ?_
    obtain ⟨g2, eg2, h⟩ := mbind h
    refine cg_callVv (As := [.ref (ad 5 i3), .ref (ad 4 i4), .null, .int 0]) (rest := []) ⟨hx, hb, hml, hown, hts⟩ 0 0 rfl (ci := 9) rfl rfl (cC_Court_arrive l D yI yO z0 ad eg2) (cwV 4 hts gX8_enter_X8_arrive rfl rfl rfl (by decide +kernel) ⟨Nat.le_of_ble_eq_true rfl, Nat.le_of_ble_eq_true rfl⟩) hK hX rfl hl.1 rfl (Nat.le_of_ble_eq_true rfl) dX8_enter_78 ⟨Nat.zero_le _, Nat.zero_le _⟩ (fun H locs hX => ?_)
    exact w_C_Court_enter_81 C h hX (lv_sub hl [0, 3] rfl)
  · replace h := om_s rfl h
    refine lv_aload hx hb dX8_enter_75 (lv_at hl 4 rfl) ?_
    refine lv_iconst (v := 0) hx hb dX8_enter_77 (by decide) ?_
    obtain ⟨g3, eg3, h⟩ := mbind h
    refine cg_callVv (As := [.ref (ad 5 i3), .ref (ad 4 i4), .ref (ad 6 v1), .int 0]) (rest := []) ⟨hx, hb, hml, hown, hts⟩ 0 0 rfl (ci := 9) rfl rfl (cC_Court_arrive l D yI yO z0 ad eg3) (cwV 4 hts gX8_enter_X8_arrive rfl rfl rfl (by decide +kernel) ⟨Nat.le_of_ble_eq_true rfl, Nat.le_of_ble_eq_true rfl⟩) hK hX rfl hl.1 rfl (Nat.le_of_ble_eq_true rfl) dX8_enter_78 ⟨Nat.zero_le _, Nat.zero_le _⟩ (fun H locs hX => ?_)
    exact w_C_Court_enter_81 C h hX (lv_sub hl [0, 3] rfl)
theorem nt_C_Court_enter_71 {g : CS} {i3 : Nat} {i4 : Nat} {x5 : Int32} {o6 : Option Nat} : ntp (fC_Court_enter_71 g i3 i4 x5 o6) := by
  unfold fC_Court_enter_71
  repeat' first | exact ntp_inr _ | exact ntp_none | exact nt_C_Court_enter_81 | refine ntp_bind (fun _ => ?_) | refine ntp_cb2 (fun _ _ => ?_) | refine ntp_om ?_ (fun _ => ?_) | refine ntp_ite ?_ ?_
def fC_Court_enter_53 (g : CS) (i3 : Nat) (i4 : Nat) (x5 : Int32) (os0 : Option Nat) : Option (Nat ⊕ (Int32 × CS)) :=
  om os0 (
    fC_Court_enter_71 g i3 i4 x5 none)
    fun v1 =>
    (ck g 6 v1).bind fun _ =>
    (some (uI g 6 v1 5 ((sI g 6 v1 5) - 1))).bind fun g3 =>
    fC_Court_enter_71 g3 i3 i4 x5 (some v1)
set_option maxRecDepth 20000 in
theorem w_C_Court_enter_53 (C : cC p s m args meth c cX8_enter RX8 (some .int) wsX8_enter 7 D yI yO) {gz : CS} {rz : Int32} {g : CS} {i3 : Nat} {i4 : Nat} {x5 : Int32} {os0 : Option Nat} (h : fC_Court_enter_53 g i3 i4 x5 os0 = some (.inr (rz, gz))) {H : Heap} {locs : List Loc} {ls : Array Slot} (hX : cX D yI yO z0 ad g A s H locs) (hl : lv_has ls 7 [(0, .ref (ad 0 0)), (3, .ref (ad 5 i3)), (4, .ref (ad 4 i4)), (5, .int x5)]) : W p l e (mR 8 181) s m args below meth c H locs 0 0 (MQ below (cQ D yI yO z0 ad rz gz A) args s 0 0 A) (F0 m 53 ls [va_rf (os0.map (ad 6))]) := by
  obtain ⟨hx, hb, hr, hts, hown, hlocks, hml, hK⟩ := id C
  unfold fC_Court_enter_53 at h
  rcases os0 with _ | v1
  · replace h := om_n rfl h
    refine lv_astoreN (lv' := [(6, .null), (0, .ref (ad 0 0)), (3, .ref (ad 5 i3)), (4, .ref (ad 4 i4)), (5, .int x5)]) hx hb dX8_enter_53 hl (by decide) rfl (fun ls hl => ?_)
    refine lv_aloadN hx hb dX8_enter_55 (lv_at hl 0 rfl) ?_
    refine lv_ifnullN (tgt := 71) hx hb dX8_enter_57 (by decide) ?_
    exact w_C_Court_enter_71 C h hX (lv_sub hl [1, 2, 3, 4, 0] rfl)
  · replace h := om_s rfl h
    refine lv_astore (lv' := [(6, .ref (ad 6 v1)), (0, .ref (ad 0 0)), (3, .ref (ad 5 i3)), (4, .ref (ad 4 i4)), (5, .int x5)]) hx hb dX8_enter_53 hl (by decide) rfl (fun ls hl => ?_)
    refine lv_aload hx hb dX8_enter_55 (lv_at hl 0 rfl) ?_
    refine lv_ifnull hx hb dX8_enter_57 ?_
    refine lv_aload hx hb dX8_enter_60 (lv_at hl 0 rfl) ?_
    refine lv_dup hx hb dX8_enter_62 rfl ?_
    obtain ⟨_, hv2, h⟩ := mbind h
    replace hv2 := ck_spec hv2
    refine cg_get hx hb hts iC_Court_enter_X7 hown hK hX 6 v1 hv2 rfl rfl 5 (by decide) (hts (.fieldLink RX8 138 "PassageCourt$Visa" "entries" "I") (by decide +kernel)) (fun _ h9 => h9) rfl dX8_enter_63 ?_
    refine lv_iconst (v := 1) hx hb dX8_enter_66 (by decide) ?_
    refine lv_isub hx hb dX8_enter_67 ?_
    obtain ⟨g3, eg3, h⟩ := mbind h
    refine cg_put hx hb hts iC_Court_enter_X7 tyX7 tyX7_ok nmX7 hown hK hX 6 v1 hv2 rfl rfl 5 (by decide) (hts (.fieldLink RX8 138 "PassageCourt$Visa" "entries" "I") (by decide +kernel)) (fun _ h9 => h9) rfl (by decide +kernel) rfl rfl (ty := .int) (g1 := (uI g 6 v1 5 ((sI g 6 v1 5) - 1))) (Nat.le_of_ble_eq_true rfl) (by unfold cent; rw [sI_up]; rfl) (fun _ _ => rfl) rfl (fun _ _ hab => cent_uI yI yO ad _ _ _ hab) dX8_enter_68 (fun H locs hX => ?_)
    have eg3 := Option.some.inj eg3
    rw [eg3] at hX
    have hv4 : clvb g3 6 v1 = true := by rw [← eg3]; exact hv2
    exact w_C_Court_enter_71 C h hX (lv_sub hl [1, 2, 3, 4, 0] rfl)
theorem nt_C_Court_enter_53 {g : CS} {i3 : Nat} {i4 : Nat} {x5 : Int32} {os0 : Option Nat} : ntp (fC_Court_enter_53 g i3 i4 x5 os0) := by
  unfold fC_Court_enter_53
  repeat' first | exact ntp_inr _ | exact ntp_none | exact nt_C_Court_enter_81 | exact nt_C_Court_enter_71 | refine ntp_bind (fun _ => ?_) | refine ntp_cb2 (fun _ _ => ?_) | refine ntp_om ?_ (fun _ => ?_) | refine ntp_ite ?_ ?_
def fC_Court_enter (g : CS) (x1 : Int32) (x2 : Int32) : Option (Nat ⊕ (Int32 × CS)) :=
  xb (fC_Court_personAt g x1) fun v1 =>
  xb (fC_Court_landAt g x2) fun v3 =>
  xb (fC_Court_refuseOneInALand g v1) fun _ =>
  (fC_Court_whyNot g v1 v3).bind fun r6 =>
  if r6 = 0 then
    (fC_Court_needsVisa g v1 v3).bind fun r8 =>
    if r8 = 0 then
      fC_Court_enter_53 g v1 v3 r6 none
    else
      (fC_Court_lowestVisa g v1 v3).bind fun v10 =>
      om v10 (
        fC_Court_enter_53 g v1 v3 r6 none)
        fun v11 =>
        fC_Court_enter_53 g v1 v3 r6 (some v11)
  else
    fC_Court_enter_81 g r6
set_option maxRecDepth 20000 in
theorem w_C_Court_enter_0 (C : cC p s m args meth c cX8_enter RX8 (some .int) wsX8_enter 7 D yI yO) {gz : CS} {rz : Int32} {g : CS} {x1 : Int32} {x2 : Int32} (h : fC_Court_enter g x1 x2 = some (.inr (rz, gz))) {H : Heap} {locs : List Loc} {ls : Array Slot} (hX : cX D yI yO z0 ad g A s H locs) (hl : lv_has ls 7 [(0, .ref (ad 0 0)), (1, .int x1), (2, .int x2)]) : W p l e (mR 8 181) s m args below meth c H locs 0 0 (MQ below (cQ D yI yO z0 ad rz gz A) args s 0 0 A) (F0 m 0 ls []) := by
  obtain ⟨hx, hb, hr, hts, hown, hlocks, hml, hK⟩ := id C
  unfold fC_Court_enter at h
  refine lv_aload_n hx hb dX8_enter_0 rfl (lv_at hl 0 rfl) ?_
  refine lv_iload_n hx hb dX8_enter_1 rfl (lv_at hl 1 rfl) ?_
  obtain ⟨v1, et2, h⟩ := xb_ret h
  refine cg_callVq (As := [.int x1]) (rest := []) ⟨hx, hb, hml, hown, hts⟩ 0 0 rfl (ci := 9) rfl rfl (cC_Court_personAt l D yI yO z0 ad et2) (cwV 1 hts gX8_enter_X8_personAt rfl rfl rfl (by decide +kernel) ⟨Nat.le_of_ble_eq_true rfl, Nat.le_of_ble_eq_true rfl⟩) hK hX rfl hl.1 rfl (Nat.le_of_ble_eq_true rfl) dX8_enter_2 ⟨Nat.zero_le _, Nat.zero_le _⟩ (fun H locs hX => ?_)
  refine W.eq (g2 := F0 m 5 ls [.ref (ad 5 v1)]) rfl ?_
  refine lv_astore_n (lv' := [(3, .ref (ad 5 v1)), (0, .ref (ad 0 0)), (1, .int x1), (2, .int x2)]) hx hb dX8_enter_5 rfl hl (by decide) rfl (fun ls hl => ?_)
  refine lv_aload_n hx hb dX8_enter_6 rfl (lv_at hl 1 rfl) ?_
  refine lv_iload_n hx hb dX8_enter_7 rfl (lv_at hl 3 rfl) ?_
  obtain ⟨v3, et4, h⟩ := xb_ret h
  refine cg_callVq (As := [.int x2]) (rest := []) ⟨hx, hb, hml, hown, hts⟩ 0 0 rfl (ci := 9) rfl rfl (cC_Court_landAt l D yI yO z0 ad et4) (cwV 1 hts gX8_enter_X8_landAt rfl rfl rfl (by decide +kernel) ⟨Nat.le_of_ble_eq_true rfl, Nat.le_of_ble_eq_true rfl⟩) hK hX rfl hl.1 rfl (Nat.le_of_ble_eq_true rfl) dX8_enter_8 ⟨Nat.zero_le _, Nat.zero_le _⟩ (fun H locs hX => ?_)
  refine W.eq (g2 := F0 m 11 ls [.ref (ad 4 v3)]) rfl ?_
  refine lv_astore (lv' := [(4, .ref (ad 4 v3)), (3, .ref (ad 5 v1)), (0, .ref (ad 0 0)), (1, .int x1), (2, .int x2)]) hx hb dX8_enter_11 hl (by decide) rfl (fun ls hl => ?_)
  refine lv_aload_n hx hb dX8_enter_13 rfl (lv_at hl 2 rfl) ?_
  refine lv_aload_n hx hb dX8_enter_14 rfl (lv_at hl 1 rfl) ?_
  obtain ⟨_, et5, h⟩ := xb_ret h
  refine cg_callVv (As := [.ref (ad 5 v1)]) (rest := []) ⟨hx, hb, hml, hown, hts⟩ 0 0 rfl (ci := 9) rfl rfl (cC_Court_refuseOneInALand l D yI yO z0 ad et5) (cwV 1 hts gX8_enter_X8_refuseOneInALand rfl rfl rfl (by decide +kernel) ⟨Nat.le_of_ble_eq_true rfl, Nat.le_of_ble_eq_true rfl⟩) hK hX rfl hl.1 rfl (Nat.le_of_ble_eq_true rfl) dX8_enter_15 ⟨Nat.zero_le _, Nat.zero_le _⟩ (fun H locs hX => ?_)
  refine lv_aload_n hx hb dX8_enter_18 rfl (lv_at hl 2 rfl) ?_
  refine lv_aload_n hx hb dX8_enter_19 rfl (lv_at hl 1 rfl) ?_
  refine lv_aload hx hb dX8_enter_20 (lv_at hl 0 rfl) ?_
  obtain ⟨r6, er6, h⟩ := mbind h
  refine cg_callV (As := [.ref (ad 5 v1), .ref (ad 4 v3)]) (rest := []) ⟨hx, hb, hml, hown, hts⟩ 0 0 rfl (ci := 9) rfl rfl (cC_Court_whyNot l D yI yO z0 ad er6) (cwV 2 hts gX8_enter_X8_whyNot rfl rfl rfl (by decide +kernel) ⟨Nat.le_of_ble_eq_true rfl, Nat.le_of_ble_eq_true rfl⟩) hK hX rfl hl.1 rfl (Nat.le_of_ble_eq_true rfl) dX8_enter_22 ⟨Nat.zero_le _, Nat.zero_le _⟩ (fun H locs hX => ?_)
  refine lv_istore (lv' := [(5, .int r6), (4, .ref (ad 4 v3)), (3, .ref (ad 5 v1)), (0, .ref (ad 0 0)), (1, .int x1), (2, .int x2)]) hx hb dX8_enter_25 hl (by decide) rfl (fun ls hl => ?_)
  refine lv_iload hx hb dX8_enter_27 (lv_at hl 0 rfl) ?_
  refine lv_if_ne (tgt := 81) hx hb dX8_enter_29 (by decide) (fun c7 => ?_) (fun c7 => ?_)
  · replace h := mneg c7 h
    exact w_C_Court_enter_81 C h hX (lv_sub hl [3, 0] rfl)
  · replace h := mpos c7 h
    refine lv_aload_n hx hb dX8_enter_32 rfl (lv_at hl 3 rfl) ?_
    refine lv_aload_n hx hb dX8_enter_33 rfl (lv_at hl 2 rfl) ?_
    refine lv_aload hx hb dX8_enter_34 (lv_at hl 1 rfl) ?_
    obtain ⟨r8, er8, h⟩ := mbind h
    refine cg_callV (As := [.ref (ad 5 v1), .ref (ad 4 v3)]) (rest := []) ⟨hx, hb, hml, hown, hts⟩ 0 0 rfl (ci := 9) rfl rfl (cC_Court_needsVisa l D yI yO z0 ad er8) (cwV 2 hts gX8_enter_X8_needsVisa rfl rfl rfl (by decide +kernel) ⟨Nat.le_of_ble_eq_true rfl, Nat.le_of_ble_eq_true rfl⟩) hK hX rfl hl.1 rfl (Nat.le_of_ble_eq_true rfl) dX8_enter_36 ⟨Nat.zero_le _, Nat.zero_le _⟩ (fun H locs hX => ?_)
    refine lv_if_eq (tgt := 52) hx hb dX8_enter_39 (by decide) (fun c9 => ?_) (fun c9 => ?_)
    · replace h := mpos c9 h
      refine lv_null hx hb dX8_enter_52 ?_
      exact w_C_Court_enter_53 C h hX (lv_sub hl [3, 2, 1, 0] rfl)
    · replace h := mneg c9 h
      refine lv_aload_n hx hb dX8_enter_42 rfl (lv_at hl 3 rfl) ?_
      refine lv_aload_n hx hb dX8_enter_43 rfl (lv_at hl 2 rfl) ?_
      refine lv_aload hx hb dX8_enter_44 (lv_at hl 1 rfl) ?_
      obtain ⟨v10, ev10, h⟩ := mbind h
      refine cg_callVq (As := [.ref (ad 5 v1), .ref (ad 4 v3)]) (rest := []) ⟨hx, hb, hml, hown, hts⟩ 0 0 rfl (ci := 9) rfl rfl (cC_Court_lowestVisa l D yI yO z0 ad ev10) (cwV 2 hts gX8_enter_X8_lowestVisa rfl rfl rfl (by decide +kernel) ⟨Nat.le_of_ble_eq_true rfl, Nat.le_of_ble_eq_true rfl⟩) hK hX rfl hl.1 rfl (Nat.le_of_ble_eq_true rfl) dX8_enter_46 ⟨Nat.zero_le _, Nat.zero_le _⟩ (fun H locs hX => ?_)
      rcases v10 with _ | v11
      · replace h := om_n rfl h
        refine W.eq (g2 := F0 m 49 ls [.null]) rfl ?_
        refine lv_goto (tgt := 53) hx hb dX8_enter_49 (by decide) ?_
        exact w_C_Court_enter_53 C h hX (lv_sub hl [3, 2, 1, 0] rfl)
      · replace h := om_s rfl h
        refine W.eq (g2 := F0 m 49 ls [.ref (ad 6 v11)]) rfl ?_
        refine lv_goto (tgt := 53) hx hb dX8_enter_49 (by decide) ?_
        exact w_C_Court_enter_53 C h hX (lv_sub hl [3, 2, 1, 0] rfl)
set_option maxRecDepth 20000 in
theorem w_X_Court_enter_0 (C : cC p s m args meth c cX8_enter RX8 (some .int) wsX8_enter 7 D yI yO) {Qc : Array Value → State → Outcome → State → Prop} (hlf : l.stackTraces = false) (ht : ∀ x ∈ c.exceptionTable.toList, False) (hxs : xS A s s.heap) (hA : ∀ q, s.heap.size ≤ q → A q) {ez : Nat} {g : CS} {x1 : Int32} {x2 : Int32} (h : fC_Court_enter g x1 x2 = some (.inl ez)) {H : Heap} {locs : List Loc} {ls : Array Slot} (hX : cX D yI yO z0 ad g A s H locs) (hl : lv_has ls 7 [(0, .ref (ad 0 0)), (1, .int x1), (2, .int x2)]) : W p l e (xR 8 181) s m args below meth c H locs 0 0 (vx_MQ below Qc (xXC D yI yO z0 ad g ez A) args s 1 6 A) (F0 m 0 ls []) := by
  obtain ⟨hx, hb, hr, hts, hown, hlocks, hml, hK⟩ := id C
  unfold fC_Court_enter at h
  refine lv_aload_n hx hb dX8_enter_0 rfl (lv_at hl 0 rfl) ?_
  refine lv_iload_n hx hb dX8_enter_1 rfl (lv_at hl 1 rfl) ?_
  rcases xb_thr h with et2 | ⟨v1, et2, h⟩
  · exact xg_callV (As := [.int x1]) (rest := []) ⟨hx, hb, hml, hown, hts⟩ 0 0 rfl (ci := 9) rfl rfl (cX_Court_personAt l hlf D yI yO z0 ad H.size et2) (cwV 1 hts gX8_enter_X8_personAt rfl rfl rfl (by decide +kernel) ⟨Nat.le_of_ble_eq_true rfl, Nat.le_of_ble_eq_true rfl⟩) hK hX hA hxs ht hlocks rfl hl.1 rfl (Nat.le_of_ble_eq_true rfl) dX8_enter_2 ⟨Nat.le_refl _, Nat.le_refl _⟩
  refine cg_callVq (As := [.int x1]) (rest := []) ⟨hx, hb, hml, hown, hts⟩ 0 0 rfl (ci := 9) rfl rfl (cC_Court_personAt l D yI yO z0 ad et2) (cwV 1 hts gX8_enter_X8_personAt rfl rfl rfl (by decide +kernel) ⟨Nat.le_of_ble_eq_true rfl, Nat.le_of_ble_eq_true rfl⟩) hK hX rfl hl.1 rfl (Nat.le_of_ble_eq_true rfl) dX8_enter_2 ⟨Nat.zero_le _, Nat.zero_le _⟩ (fun H locs hX => ?_)
  refine W.eq (g2 := F0 m 5 ls [.ref (ad 5 v1)]) rfl ?_
  refine lv_astore_n (lv' := [(3, .ref (ad 5 v1)), (0, .ref (ad 0 0)), (1, .int x1), (2, .int x2)]) hx hb dX8_enter_5 rfl hl (by decide) rfl (fun ls hl => ?_)
  refine lv_aload_n hx hb dX8_enter_6 rfl (lv_at hl 1 rfl) ?_
  refine lv_iload_n hx hb dX8_enter_7 rfl (lv_at hl 3 rfl) ?_
  rcases xb_thr h with et4 | ⟨v3, et4, h⟩
  · exact xg_callV (As := [.int x2]) (rest := []) ⟨hx, hb, hml, hown, hts⟩ 0 0 rfl (ci := 9) rfl rfl (cX_Court_landAt l hlf D yI yO z0 ad H.size et4) (cwV 1 hts gX8_enter_X8_landAt rfl rfl rfl (by decide +kernel) ⟨Nat.le_of_ble_eq_true rfl, Nat.le_of_ble_eq_true rfl⟩) hK hX hA hxs ht hlocks rfl hl.1 rfl (Nat.le_of_ble_eq_true rfl) dX8_enter_8 ⟨Nat.le_refl _, Nat.le_refl _⟩
  refine cg_callVq (As := [.int x2]) (rest := []) ⟨hx, hb, hml, hown, hts⟩ 0 0 rfl (ci := 9) rfl rfl (cC_Court_landAt l D yI yO z0 ad et4) (cwV 1 hts gX8_enter_X8_landAt rfl rfl rfl (by decide +kernel) ⟨Nat.le_of_ble_eq_true rfl, Nat.le_of_ble_eq_true rfl⟩) hK hX rfl hl.1 rfl (Nat.le_of_ble_eq_true rfl) dX8_enter_8 ⟨Nat.zero_le _, Nat.zero_le _⟩ (fun H locs hX => ?_)
  refine W.eq (g2 := F0 m 11 ls [.ref (ad 4 v3)]) rfl ?_
  refine lv_astore (lv' := [(4, .ref (ad 4 v3)), (3, .ref (ad 5 v1)), (0, .ref (ad 0 0)), (1, .int x1), (2, .int x2)]) hx hb dX8_enter_11 hl (by decide) rfl (fun ls hl => ?_)
  refine lv_aload_n hx hb dX8_enter_13 rfl (lv_at hl 2 rfl) ?_
  refine lv_aload_n hx hb dX8_enter_14 rfl (lv_at hl 1 rfl) ?_
  rcases xb_thr h with et5 | ⟨_, et5, h⟩
  · exact xg_callV (As := [.ref (ad 5 v1)]) (rest := []) ⟨hx, hb, hml, hown, hts⟩ 0 0 rfl (ci := 9) rfl rfl (cX_Court_refuseOneInALand l hlf D yI yO z0 ad H.size et5) (cwV 1 hts gX8_enter_X8_refuseOneInALand rfl rfl rfl (by decide +kernel) ⟨Nat.le_of_ble_eq_true rfl, Nat.le_of_ble_eq_true rfl⟩) hK hX hA hxs ht hlocks rfl hl.1 rfl (Nat.le_of_ble_eq_true rfl) dX8_enter_15 ⟨Nat.le_refl _, Nat.le_refl _⟩
  refine cg_callVv (As := [.ref (ad 5 v1)]) (rest := []) ⟨hx, hb, hml, hown, hts⟩ 0 0 rfl (ci := 9) rfl rfl (cC_Court_refuseOneInALand l D yI yO z0 ad et5) (cwV 1 hts gX8_enter_X8_refuseOneInALand rfl rfl rfl (by decide +kernel) ⟨Nat.le_of_ble_eq_true rfl, Nat.le_of_ble_eq_true rfl⟩) hK hX rfl hl.1 rfl (Nat.le_of_ble_eq_true rfl) dX8_enter_15 ⟨Nat.zero_le _, Nat.zero_le _⟩ (fun H locs hX => ?_)
  refine lv_aload_n hx hb dX8_enter_18 rfl (lv_at hl 2 rfl) ?_
  refine lv_aload_n hx hb dX8_enter_19 rfl (lv_at hl 1 rfl) ?_
  refine lv_aload hx hb dX8_enter_20 (lv_at hl 0 rfl) ?_
  obtain ⟨r6, er6, h⟩ := mbind h
  refine cg_callV (As := [.ref (ad 5 v1), .ref (ad 4 v3)]) (rest := []) ⟨hx, hb, hml, hown, hts⟩ 0 0 rfl (ci := 9) rfl rfl (cC_Court_whyNot l D yI yO z0 ad er6) (cwV 2 hts gX8_enter_X8_whyNot rfl rfl rfl (by decide +kernel) ⟨Nat.le_of_ble_eq_true rfl, Nat.le_of_ble_eq_true rfl⟩) hK hX rfl hl.1 rfl (Nat.le_of_ble_eq_true rfl) dX8_enter_22 ⟨Nat.zero_le _, Nat.zero_le _⟩ (fun H locs hX => ?_)
  refine lv_istore (lv' := [(5, .int r6), (4, .ref (ad 4 v3)), (3, .ref (ad 5 v1)), (0, .ref (ad 0 0)), (1, .int x1), (2, .int x2)]) hx hb dX8_enter_25 hl (by decide) rfl (fun ls hl => ?_)
  refine lv_iload hx hb dX8_enter_27 (lv_at hl 0 rfl) ?_
  refine lv_if_ne (tgt := 81) hx hb dX8_enter_29 (by decide) (fun c7 => ?_) (fun c7 => ?_)
  · replace h := mneg c7 h
    exact (nt_C_Court_enter_81 _ h).elim
  · replace h := mpos c7 h
    refine lv_aload_n hx hb dX8_enter_32 rfl (lv_at hl 3 rfl) ?_
    refine lv_aload_n hx hb dX8_enter_33 rfl (lv_at hl 2 rfl) ?_
    refine lv_aload hx hb dX8_enter_34 (lv_at hl 1 rfl) ?_
    obtain ⟨r8, er8, h⟩ := mbind h
    refine cg_callV (As := [.ref (ad 5 v1), .ref (ad 4 v3)]) (rest := []) ⟨hx, hb, hml, hown, hts⟩ 0 0 rfl (ci := 9) rfl rfl (cC_Court_needsVisa l D yI yO z0 ad er8) (cwV 2 hts gX8_enter_X8_needsVisa rfl rfl rfl (by decide +kernel) ⟨Nat.le_of_ble_eq_true rfl, Nat.le_of_ble_eq_true rfl⟩) hK hX rfl hl.1 rfl (Nat.le_of_ble_eq_true rfl) dX8_enter_36 ⟨Nat.zero_le _, Nat.zero_le _⟩ (fun H locs hX => ?_)
    refine lv_if_eq (tgt := 52) hx hb dX8_enter_39 (by decide) (fun c9 => ?_) (fun c9 => ?_)
    · replace h := mpos c9 h
      refine lv_null hx hb dX8_enter_52 ?_
      exact (nt_C_Court_enter_53 _ h).elim
    · replace h := mneg c9 h
      refine lv_aload_n hx hb dX8_enter_42 rfl (lv_at hl 3 rfl) ?_
      refine lv_aload_n hx hb dX8_enter_43 rfl (lv_at hl 2 rfl) ?_
      refine lv_aload hx hb dX8_enter_44 (lv_at hl 1 rfl) ?_
      obtain ⟨v10, ev10, h⟩ := mbind h
      refine cg_callVq (As := [.ref (ad 5 v1), .ref (ad 4 v3)]) (rest := []) ⟨hx, hb, hml, hown, hts⟩ 0 0 rfl (ci := 9) rfl rfl (cC_Court_lowestVisa l D yI yO z0 ad ev10) (cwV 2 hts gX8_enter_X8_lowestVisa rfl rfl rfl (by decide +kernel) ⟨Nat.le_of_ble_eq_true rfl, Nat.le_of_ble_eq_true rfl⟩) hK hX rfl hl.1 rfl (Nat.le_of_ble_eq_true rfl) dX8_enter_46 ⟨Nat.zero_le _, Nat.zero_le _⟩ (fun H locs hX => ?_)
      rcases v10 with _ | v11
      · replace h := om_n rfl h
        refine W.eq (g2 := F0 m 49 ls [.null]) rfl ?_
        refine lv_goto (tgt := 53) hx hb dX8_enter_49 (by decide) ?_
        exact (nt_C_Court_enter_53 _ h).elim
      · replace h := om_s rfl h
        refine W.eq (g2 := F0 m 49 ls [.ref (ad 6 v11)]) rfl ?_
        refine lv_goto (tgt := 53) hx hb dX8_enter_49 (by decide) ?_
        exact (nt_C_Court_enter_53 _ h).elim
set_option maxRecDepth 20000 in
theorem cC_Court_enter (l : Launch) (D : va_G) (yI yO : ClassId) (z0 : Nat) (ad : Nat → Nat → Nat) {g : CS} {gz : CS} {rz : Int32} {x1 : Int32} {x2 : Int32} (h : fC_Court_enter g x1 x2 = some (.inr (rz, gz))) : Met l yX8_enter wsX8_enter (mR 8 181) (va_Pc [.ref (ad 0 0), .int x1, .int x2] (cPre D yI yO z0 ad g)) (cQ D yI yO z0 ad rz gz (cF ad g)) 0 0 (cF ad g) := by
  refine Met.ofW (cc := cX8_enter) (maxL := 7) (ret := (some .int)) (by decide) rfl ?_
  intro p e s m args below meth c s₁ B hml hv
  obtain ⟨hv0, hw, hK⟩ := hv
  have hv1 : args = [.ref (ad 0 0), .int x1, .int x2].toArray := hv0
  subst hv1
  have C : cC p s m _ meth c cX8_enter RX8 (some .int) wsX8_enter 7 D yI yO := ⟨B.exec, B.bytes, B.returns, atoms_spec (ws := wsX8_enter) B.pre, findClass_of_methodNamed B.named, B.notSynchronized, hml, hK⟩
  have hl := lv_entry ([.ref (ad 0 0), .int x1, .int x2]) (n := 7) (Nat.le_of_ble_eq_true rfl)
  rw [lg_entry_eq]
  generalize (lg_sl ([.ref (ad 0 0), .int x1, .int x2]) ++ List.replicate (7 - (lg_sl ([.ref (ad 0 0), .int x1, .int x2])).length) Slot.unset).toArray = ls at hl ⊢
  have hl : lv_has ls 7 [(0, .ref (ad 0 0)), (1, .int x1), (2, .int x2)] := hl
  exact w_C_Court_enter_0 C h ⟨hw, fun k i hi => ⟨k, i, hi, rfl⟩, va_S.rf⟩ hl
set_option maxRecDepth 20000 in
theorem cX_Court_enter (l : Launch) (hlf : l.stackTraces = false) (D : va_G) (yI yO : ClassId) (z0 : Nat) (ad : Nat → Nat → Nat) {g : CS} {ez : Nat} {x1 : Int32} {x2 : Int32} (sz : Nat) (h : fC_Court_enter g x1 x2 = some (.inl ez)) : vx_Met l yX8_enter wsX8_enter (xR 8 181) (va_Pc [.ref (ad 0 0), .int x1, .int x2] (xPre D yI yO z0 ad g sz)) (xQ (cA ad g sz)) (xXC D yI yO z0 ad g ez (cA ad g sz)) 1 6 (cA ad g sz) := by
  refine vx_ofW (cc := cX8_enter) (maxL := 7) (ret := (some .int)) (by decide) rfl ?_
  intro p e s m args below meth c s₁ B hml ht hv
  obtain ⟨hv0, ⟨hw, hK⟩, hsz, hxs⟩ := hv
  subst hsz
  have hv1 : args = [.ref (ad 0 0), .int x1, .int x2].toArray := hv0
  subst hv1
  have C : cC p s m _ meth c cX8_enter RX8 (some .int) wsX8_enter 7 D yI yO := ⟨B.exec, B.bytes, B.returns, atoms_spec (ws := wsX8_enter) B.pre, findClass_of_methodNamed B.named, B.notSynchronized, hml, hK⟩
  have hl := lv_entry ([.ref (ad 0 0), .int x1, .int x2]) (n := 7) (Nat.le_of_ble_eq_true rfl)
  rw [lg_entry_eq]
  generalize (lg_sl ([.ref (ad 0 0), .int x1, .int x2]) ++ List.replicate (7 - (lg_sl ([.ref (ad 0 0), .int x1, .int x2])).length) Slot.unset).toArray = ls at hl ⊢
  have hl : lv_has ls 7 [(0, .ref (ad 0 0)), (1, .int x1), (2, .int x2)] := hl
  exact w_X_Court_enter_0 C hlf ht hxs (fun q h => Or.inr h) h ⟨hw, fun k i hi => Or.inl ⟨k, i, hi, rfl⟩, va_S.rf⟩ hl
def fC_Court_slip (g : CS) (x1 : Int32) (x2 : Int32) : Option (Nat ⊕ (Int32 × CS)) :=
  xb (fC_Court_personAt g x1) fun v1 =>
  xb (fC_Court_landAt g x2) fun v3 =>
  xb (fC_Court_refuseOneInALand g v1) fun _ =>
  (fC_Court_arrive g v1 v3 none 1).bind fun g6 =>
  (fC_Court_statusToday g6 v1).bind fun r7 =>
  some (.inr (r7, g6))
set_option maxRecDepth 20000 in
theorem w_C_Court_slip_0 (C : cC p s m args meth c cX8_slip RX8 (some .int) wsX8_slip 5 D yI yO) {gz : CS} {rz : Int32} {g : CS} {x1 : Int32} {x2 : Int32} (h : fC_Court_slip g x1 x2 = some (.inr (rz, gz))) {H : Heap} {locs : List Loc} {ls : Array Slot} (hX : cX D yI yO z0 ad g A s H locs) (hl : lv_has ls 5 [(0, .ref (ad 0 0)), (1, .int x1), (2, .int x2)]) : W p l e (mR 8 181) s m args below meth c H locs 0 0 (MQ below (cQ D yI yO z0 ad rz gz A) args s 0 0 A) (F0 m 0 ls []) := by
  obtain ⟨hx, hb, hr, hts, hown, hlocks, hml, hK⟩ := id C
  unfold fC_Court_slip at h
  refine lv_aload_n hx hb dX8_slip_0 rfl (lv_at hl 0 rfl) ?_
  refine lv_iload_n hx hb dX8_slip_1 rfl (lv_at hl 1 rfl) ?_
  obtain ⟨v1, et2, h⟩ := xb_ret h
  refine cg_callVq (As := [.int x1]) (rest := []) ⟨hx, hb, hml, hown, hts⟩ 0 0 rfl (ci := 9) rfl rfl (cC_Court_personAt l D yI yO z0 ad et2) (cwV 1 hts gX8_slip_X8_personAt rfl rfl rfl (by decide +kernel) ⟨Nat.le_of_ble_eq_true rfl, Nat.le_of_ble_eq_true rfl⟩) hK hX rfl hl.1 rfl (Nat.le_of_ble_eq_true rfl) dX8_slip_2 ⟨Nat.zero_le _, Nat.zero_le _⟩ (fun H locs hX => ?_)
  refine W.eq (g2 := F0 m 5 ls [.ref (ad 5 v1)]) rfl ?_
  refine lv_astore_n (lv' := [(3, .ref (ad 5 v1)), (0, .ref (ad 0 0)), (1, .int x1), (2, .int x2)]) hx hb dX8_slip_5 rfl hl (by decide) rfl (fun ls hl => ?_)
  refine lv_aload_n hx hb dX8_slip_6 rfl (lv_at hl 1 rfl) ?_
  refine lv_iload_n hx hb dX8_slip_7 rfl (lv_at hl 3 rfl) ?_
  obtain ⟨v3, et4, h⟩ := xb_ret h
  refine cg_callVq (As := [.int x2]) (rest := []) ⟨hx, hb, hml, hown, hts⟩ 0 0 rfl (ci := 9) rfl rfl (cC_Court_landAt l D yI yO z0 ad et4) (cwV 1 hts gX8_slip_X8_landAt rfl rfl rfl (by decide +kernel) ⟨Nat.le_of_ble_eq_true rfl, Nat.le_of_ble_eq_true rfl⟩) hK hX rfl hl.1 rfl (Nat.le_of_ble_eq_true rfl) dX8_slip_8 ⟨Nat.zero_le _, Nat.zero_le _⟩ (fun H locs hX => ?_)
  refine W.eq (g2 := F0 m 11 ls [.ref (ad 4 v3)]) rfl ?_
  refine lv_astore (lv' := [(4, .ref (ad 4 v3)), (3, .ref (ad 5 v1)), (0, .ref (ad 0 0)), (1, .int x1), (2, .int x2)]) hx hb dX8_slip_11 hl (by decide) rfl (fun ls hl => ?_)
  refine lv_aload_n hx hb dX8_slip_13 rfl (lv_at hl 2 rfl) ?_
  refine lv_aload_n hx hb dX8_slip_14 rfl (lv_at hl 1 rfl) ?_
  obtain ⟨_, et5, h⟩ := xb_ret h
  refine cg_callVv (As := [.ref (ad 5 v1)]) (rest := []) ⟨hx, hb, hml, hown, hts⟩ 0 0 rfl (ci := 9) rfl rfl (cC_Court_refuseOneInALand l D yI yO z0 ad et5) (cwV 1 hts gX8_slip_X8_refuseOneInALand rfl rfl rfl (by decide +kernel) ⟨Nat.le_of_ble_eq_true rfl, Nat.le_of_ble_eq_true rfl⟩) hK hX rfl hl.1 rfl (Nat.le_of_ble_eq_true rfl) dX8_slip_15 ⟨Nat.zero_le _, Nat.zero_le _⟩ (fun H locs hX => ?_)
  refine lv_aload_n hx hb dX8_slip_18 rfl (lv_at hl 2 rfl) ?_
  refine lv_aload_n hx hb dX8_slip_19 rfl (lv_at hl 1 rfl) ?_
  refine lv_aload hx hb dX8_slip_20 (lv_at hl 0 rfl) ?_
  refine lv_null hx hb dX8_slip_22 ?_
  refine lv_iconst (v := 1) hx hb dX8_slip_23 (by decide) ?_
  obtain ⟨g6, eg6, h⟩ := mbind h
  refine cg_callVv (As := [.ref (ad 5 v1), .ref (ad 4 v3), .null, .int 1]) (rest := []) ⟨hx, hb, hml, hown, hts⟩ 0 0 rfl (ci := 9) rfl rfl (cC_Court_arrive l D yI yO z0 ad eg6) (cwV 4 hts gX8_slip_X8_arrive rfl rfl rfl (by decide +kernel) ⟨Nat.le_of_ble_eq_true rfl, Nat.le_of_ble_eq_true rfl⟩) hK hX rfl hl.1 rfl (Nat.le_of_ble_eq_true rfl) dX8_slip_24 ⟨Nat.zero_le _, Nat.zero_le _⟩ (fun H locs hX => ?_)
  refine lv_aload_n hx hb dX8_slip_27 rfl (lv_at hl 2 rfl) ?_
  refine lv_aload_n hx hb dX8_slip_28 rfl (lv_at hl 1 rfl) ?_
  obtain ⟨r7, er7, h⟩ := mbind h
  refine cg_callV (As := [.ref (ad 5 v1)]) (rest := []) ⟨hx, hb, hml, hown, hts⟩ 0 0 rfl (ci := 9) rfl rfl (cC_Court_statusToday l D yI yO z0 ad er7) (cwV 1 hts gX8_slip_X8_statusToday rfl rfl rfl (by decide +kernel) ⟨Nat.le_of_ble_eq_true rfl, Nat.le_of_ble_eq_true rfl⟩) hK hX rfl hl.1 rfl (Nat.le_of_ble_eq_true rfl) dX8_slip_29 ⟨Nat.zero_le _, Nat.zero_le _⟩ (fun H locs hX => ?_)
  cases h
  exact cg_reti hx hb hr hlocks hK hX dX8_slip_32
set_option maxRecDepth 20000 in
theorem w_X_Court_slip_0 (C : cC p s m args meth c cX8_slip RX8 (some .int) wsX8_slip 5 D yI yO) {Qc : Array Value → State → Outcome → State → Prop} (hlf : l.stackTraces = false) (ht : ∀ x ∈ c.exceptionTable.toList, False) (hxs : xS A s s.heap) (hA : ∀ q, s.heap.size ≤ q → A q) {ez : Nat} {g : CS} {x1 : Int32} {x2 : Int32} (h : fC_Court_slip g x1 x2 = some (.inl ez)) {H : Heap} {locs : List Loc} {ls : Array Slot} (hX : cX D yI yO z0 ad g A s H locs) (hl : lv_has ls 5 [(0, .ref (ad 0 0)), (1, .int x1), (2, .int x2)]) : W p l e (xR 8 181) s m args below meth c H locs 0 0 (vx_MQ below Qc (xXC D yI yO z0 ad g ez A) args s 1 6 A) (F0 m 0 ls []) := by
  obtain ⟨hx, hb, hr, hts, hown, hlocks, hml, hK⟩ := id C
  unfold fC_Court_slip at h
  refine lv_aload_n hx hb dX8_slip_0 rfl (lv_at hl 0 rfl) ?_
  refine lv_iload_n hx hb dX8_slip_1 rfl (lv_at hl 1 rfl) ?_
  rcases xb_thr h with et2 | ⟨v1, et2, h⟩
  · exact xg_callV (As := [.int x1]) (rest := []) ⟨hx, hb, hml, hown, hts⟩ 0 0 rfl (ci := 9) rfl rfl (cX_Court_personAt l hlf D yI yO z0 ad H.size et2) (cwV 1 hts gX8_slip_X8_personAt rfl rfl rfl (by decide +kernel) ⟨Nat.le_of_ble_eq_true rfl, Nat.le_of_ble_eq_true rfl⟩) hK hX hA hxs ht hlocks rfl hl.1 rfl (Nat.le_of_ble_eq_true rfl) dX8_slip_2 ⟨Nat.le_refl _, Nat.le_refl _⟩
  refine cg_callVq (As := [.int x1]) (rest := []) ⟨hx, hb, hml, hown, hts⟩ 0 0 rfl (ci := 9) rfl rfl (cC_Court_personAt l D yI yO z0 ad et2) (cwV 1 hts gX8_slip_X8_personAt rfl rfl rfl (by decide +kernel) ⟨Nat.le_of_ble_eq_true rfl, Nat.le_of_ble_eq_true rfl⟩) hK hX rfl hl.1 rfl (Nat.le_of_ble_eq_true rfl) dX8_slip_2 ⟨Nat.zero_le _, Nat.zero_le _⟩ (fun H locs hX => ?_)
  refine W.eq (g2 := F0 m 5 ls [.ref (ad 5 v1)]) rfl ?_
  refine lv_astore_n (lv' := [(3, .ref (ad 5 v1)), (0, .ref (ad 0 0)), (1, .int x1), (2, .int x2)]) hx hb dX8_slip_5 rfl hl (by decide) rfl (fun ls hl => ?_)
  refine lv_aload_n hx hb dX8_slip_6 rfl (lv_at hl 1 rfl) ?_
  refine lv_iload_n hx hb dX8_slip_7 rfl (lv_at hl 3 rfl) ?_
  rcases xb_thr h with et4 | ⟨v3, et4, h⟩
  · exact xg_callV (As := [.int x2]) (rest := []) ⟨hx, hb, hml, hown, hts⟩ 0 0 rfl (ci := 9) rfl rfl (cX_Court_landAt l hlf D yI yO z0 ad H.size et4) (cwV 1 hts gX8_slip_X8_landAt rfl rfl rfl (by decide +kernel) ⟨Nat.le_of_ble_eq_true rfl, Nat.le_of_ble_eq_true rfl⟩) hK hX hA hxs ht hlocks rfl hl.1 rfl (Nat.le_of_ble_eq_true rfl) dX8_slip_8 ⟨Nat.le_refl _, Nat.le_refl _⟩
  refine cg_callVq (As := [.int x2]) (rest := []) ⟨hx, hb, hml, hown, hts⟩ 0 0 rfl (ci := 9) rfl rfl (cC_Court_landAt l D yI yO z0 ad et4) (cwV 1 hts gX8_slip_X8_landAt rfl rfl rfl (by decide +kernel) ⟨Nat.le_of_ble_eq_true rfl, Nat.le_of_ble_eq_true rfl⟩) hK hX rfl hl.1 rfl (Nat.le_of_ble_eq_true rfl) dX8_slip_8 ⟨Nat.zero_le _, Nat.zero_le _⟩ (fun H locs hX => ?_)
  refine W.eq (g2 := F0 m 11 ls [.ref (ad 4 v3)]) rfl ?_
  refine lv_astore (lv' := [(4, .ref (ad 4 v3)), (3, .ref (ad 5 v1)), (0, .ref (ad 0 0)), (1, .int x1), (2, .int x2)]) hx hb dX8_slip_11 hl (by decide) rfl (fun ls hl => ?_)
  refine lv_aload_n hx hb dX8_slip_13 rfl (lv_at hl 2 rfl) ?_
  refine lv_aload_n hx hb dX8_slip_14 rfl (lv_at hl 1 rfl) ?_
  rcases xb_thr h with et5 | ⟨_, et5, h⟩
  · exact xg_callV (As := [.ref (ad 5 v1)]) (rest := []) ⟨hx, hb, hml, hown, hts⟩ 0 0 rfl (ci := 9) rfl rfl (cX_Court_refuseOneInALand l hlf D yI yO z0 ad H.size et5) (cwV 1 hts gX8_slip_X8_refuseOneInALand rfl rfl rfl (by decide +kernel) ⟨Nat.le_of_ble_eq_true rfl, Nat.le_of_ble_eq_true rfl⟩) hK hX hA hxs ht hlocks rfl hl.1 rfl (Nat.le_of_ble_eq_true rfl) dX8_slip_15 ⟨Nat.le_refl _, Nat.le_refl _⟩
  refine cg_callVv (As := [.ref (ad 5 v1)]) (rest := []) ⟨hx, hb, hml, hown, hts⟩ 0 0 rfl (ci := 9) rfl rfl (cC_Court_refuseOneInALand l D yI yO z0 ad et5) (cwV 1 hts gX8_slip_X8_refuseOneInALand rfl rfl rfl (by decide +kernel) ⟨Nat.le_of_ble_eq_true rfl, Nat.le_of_ble_eq_true rfl⟩) hK hX rfl hl.1 rfl (Nat.le_of_ble_eq_true rfl) dX8_slip_15 ⟨Nat.zero_le _, Nat.zero_le _⟩ (fun H locs hX => ?_)
  refine lv_aload_n hx hb dX8_slip_18 rfl (lv_at hl 2 rfl) ?_
  refine lv_aload_n hx hb dX8_slip_19 rfl (lv_at hl 1 rfl) ?_
  refine lv_aload hx hb dX8_slip_20 (lv_at hl 0 rfl) ?_
  refine lv_null hx hb dX8_slip_22 ?_
  refine lv_iconst (v := 1) hx hb dX8_slip_23 (by decide) ?_
  obtain ⟨g6, eg6, h⟩ := mbind h
  refine cg_callVv (As := [.ref (ad 5 v1), .ref (ad 4 v3), .null, .int 1]) (rest := []) ⟨hx, hb, hml, hown, hts⟩ 0 0 rfl (ci := 9) rfl rfl (cC_Court_arrive l D yI yO z0 ad eg6) (cwV 4 hts gX8_slip_X8_arrive rfl rfl rfl (by decide +kernel) ⟨Nat.le_of_ble_eq_true rfl, Nat.le_of_ble_eq_true rfl⟩) hK hX rfl hl.1 rfl (Nat.le_of_ble_eq_true rfl) dX8_slip_24 ⟨Nat.zero_le _, Nat.zero_le _⟩ (fun H locs hX => ?_)
  refine lv_aload_n hx hb dX8_slip_27 rfl (lv_at hl 2 rfl) ?_
  refine lv_aload_n hx hb dX8_slip_28 rfl (lv_at hl 1 rfl) ?_
  obtain ⟨r7, er7, h⟩ := mbind h
  refine cg_callV (As := [.ref (ad 5 v1)]) (rest := []) ⟨hx, hb, hml, hown, hts⟩ 0 0 rfl (ci := 9) rfl rfl (cC_Court_statusToday l D yI yO z0 ad er7) (cwV 1 hts gX8_slip_X8_statusToday rfl rfl rfl (by decide +kernel) ⟨Nat.le_of_ble_eq_true rfl, Nat.le_of_ble_eq_true rfl⟩) hK hX rfl hl.1 rfl (Nat.le_of_ble_eq_true rfl) dX8_slip_29 ⟨Nat.zero_le _, Nat.zero_le _⟩ (fun H locs hX => ?_)
  cases h
set_option maxRecDepth 20000 in
theorem cC_Court_slip (l : Launch) (D : va_G) (yI yO : ClassId) (z0 : Nat) (ad : Nat → Nat → Nat) {g : CS} {gz : CS} {rz : Int32} {x1 : Int32} {x2 : Int32} (h : fC_Court_slip g x1 x2 = some (.inr (rz, gz))) : Met l yX8_slip wsX8_slip (mR 8 181) (va_Pc [.ref (ad 0 0), .int x1, .int x2] (cPre D yI yO z0 ad g)) (cQ D yI yO z0 ad rz gz (cF ad g)) 0 0 (cF ad g) := by
  refine Met.ofW (cc := cX8_slip) (maxL := 5) (ret := (some .int)) (by decide) rfl ?_
  intro p e s m args below meth c s₁ B hml hv
  obtain ⟨hv0, hw, hK⟩ := hv
  have hv1 : args = [.ref (ad 0 0), .int x1, .int x2].toArray := hv0
  subst hv1
  have C : cC p s m _ meth c cX8_slip RX8 (some .int) wsX8_slip 5 D yI yO := ⟨B.exec, B.bytes, B.returns, atoms_spec (ws := wsX8_slip) B.pre, findClass_of_methodNamed B.named, B.notSynchronized, hml, hK⟩
  have hl := lv_entry ([.ref (ad 0 0), .int x1, .int x2]) (n := 5) (Nat.le_of_ble_eq_true rfl)
  rw [lg_entry_eq]
  generalize (lg_sl ([.ref (ad 0 0), .int x1, .int x2]) ++ List.replicate (5 - (lg_sl ([.ref (ad 0 0), .int x1, .int x2])).length) Slot.unset).toArray = ls at hl ⊢
  have hl : lv_has ls 5 [(0, .ref (ad 0 0)), (1, .int x1), (2, .int x2)] := hl
  exact w_C_Court_slip_0 C h ⟨hw, fun k i hi => ⟨k, i, hi, rfl⟩, va_S.rf⟩ hl
set_option maxRecDepth 20000 in
theorem cX_Court_slip (l : Launch) (hlf : l.stackTraces = false) (D : va_G) (yI yO : ClassId) (z0 : Nat) (ad : Nat → Nat → Nat) {g : CS} {ez : Nat} {x1 : Int32} {x2 : Int32} (sz : Nat) (h : fC_Court_slip g x1 x2 = some (.inl ez)) : vx_Met l yX8_slip wsX8_slip (xR 8 181) (va_Pc [.ref (ad 0 0), .int x1, .int x2] (xPre D yI yO z0 ad g sz)) (xQ (cA ad g sz)) (xXC D yI yO z0 ad g ez (cA ad g sz)) 1 6 (cA ad g sz) := by
  refine vx_ofW (cc := cX8_slip) (maxL := 5) (ret := (some .int)) (by decide) rfl ?_
  intro p e s m args below meth c s₁ B hml ht hv
  obtain ⟨hv0, ⟨hw, hK⟩, hsz, hxs⟩ := hv
  subst hsz
  have hv1 : args = [.ref (ad 0 0), .int x1, .int x2].toArray := hv0
  subst hv1
  have C : cC p s m _ meth c cX8_slip RX8 (some .int) wsX8_slip 5 D yI yO := ⟨B.exec, B.bytes, B.returns, atoms_spec (ws := wsX8_slip) B.pre, findClass_of_methodNamed B.named, B.notSynchronized, hml, hK⟩
  have hl := lv_entry ([.ref (ad 0 0), .int x1, .int x2]) (n := 5) (Nat.le_of_ble_eq_true rfl)
  rw [lg_entry_eq]
  generalize (lg_sl ([.ref (ad 0 0), .int x1, .int x2]) ++ List.replicate (5 - (lg_sl ([.ref (ad 0 0), .int x1, .int x2])).length) Slot.unset).toArray = ls at hl ⊢
  have hl : lv_has ls 5 [(0, .ref (ad 0 0)), (1, .int x1), (2, .int x2)] := hl
  exact w_X_Court_slip_0 C hlf ht hxs (fun q h => Or.inr h) h ⟨hw, fun k i hi => Or.inl ⟨k, i, hi, rfl⟩, va_S.rf⟩ hl
theorem iC_Court_move_X1 : ∀ w ∈ wsX10, w ∈ wsX8_move := by decide +kernel
theorem iC_Court_move_X3 : ∀ w ∈ wsX30, w ∈ wsX8_move := by decide +kernel
theorem eC_Court_move_56 : ∀ w ∈ (vx_atS RX8 56 "java/lang/IllegalStateException" ["java/lang/RuntimeException", "java/lang/Exception"]).filter goodWord, w ∈ wsX8_move := by decide +kernel
def fC_Court_move_47 (g : CS) : Option (Nat ⊕ (Int32 × CS)) :=
  some (.inl 2)
set_option maxRecDepth 20000 in
theorem w_C_Court_move_47 (C : cC p s m args meth c cX8_move RX8 (some .int) wsX8_move 6 D yI yO) {gz : CS} {rz : Int32} {g : CS} (h : fC_Court_move_47 g = some (.inr (rz, gz))) {H : Heap} {locs : List Loc} {ls : Array Slot} (hX : cX D yI yO z0 ad g A s H locs) (hl : lv_has ls 6 [(0, .ref (ad 0 0))]) : W p l e (mR 7 157) s m args below meth c H locs 0 0 (MQ below (cQ D yI yO z0 ad rz gz A) args s 0 0 A) (F0 m 47 ls []) := by
  obtain ⟨hx, hb, hr, hts, hown, hlocks, hml, hK⟩ := id C
  unfold fC_Court_move_47 at h
  cases h
set_option maxRecDepth 20000 in
theorem w_X_Court_move_47 (C : cC p s m args meth c cX8_move RX8 (some .int) wsX8_move 6 D yI yO) {Qc : Array Value → State → Outcome → State → Prop} (hlf : l.stackTraces = false) (ht : ∀ x ∈ c.exceptionTable.toList, False) (hxs : xS A s s.heap) (hA : ∀ q, s.heap.size ≤ q → A q) {ez : Nat} {g : CS} (h : fC_Court_move_47 g = some (.inl ez)) {H : Heap} {locs : List Loc} {ls : Array Slot} (hX : cX D yI yO z0 ad g A s H locs) (hl : lv_has ls 6 [(0, .ref (ad 0 0))]) : W p l e (xR 7 157) s m args below meth c H locs 0 0 (vx_MQ below Qc (xXC D yI yO z0 ad g ez A) args s 1 6 A) (F0 m 47 ls []) := by
  obtain ⟨hx, hb, hr, hts, hown, hlocks, hml, hK⟩ := id C
  unfold fC_Court_move_47 at h
  cases h
  obtain ⟨sa, hsa⟩ := hxs.2.2.1 (169, "one moves from a land of the region to another one") (by decide +kernel)
  exact vx_throwS hx hb hlf (own := RX8) (cls := "java/lang/IllegalStateException") (text := "one moves from a land of the region to another one") (names := ["java/lang/RuntimeException", "java/lang/Exception"]) (A := A) hown (by decide +kernel) (by decide +kernel) (hts (.classLink RX8 52 "java/lang/IllegalStateException") (by decide +kernel)) (hts (.initialized "java/lang/IllegalStateException") (by decide +kernel)) hsa (vx_hat (fun w hw => hts w (eC_Court_move_56 w hw)) (B := xB) (by decide +kernel) (fun w hw => va_Nw.use (xB_on w hw) (hxs.2.2.2 w hw))) (by decide +kernel) hxs.1 hxs.2.1 hX.2.2 (hl.1.trans hml.symm) dX8_move_47 dX8_move_50 dX8_move_51 dX8_move_53 dX8_move_56 (fun x hx => (ht x hx).elim) (Nat.le_of_ble_eq_true rfl) (Nat.le_of_ble_eq_true rfl) (Nat.le_of_ble_eq_true rfl) (Nat.le_of_ble_eq_true rfl) hlocks (fun t a1 a2 a3 => xX_post rfl hK hX t a1 a2 a3) hX.2.2.2.2 (Nat.le_refl _) (Nat.le_refl _)
def fC_Court_move (g : CS) (x1 : Int32) (x2 : Int32) : Option (Nat ⊕ (Int32 × CS)) :=
  xb (fC_Court_personAt g x1) fun v1 =>
  xb (fC_Court_landAt g x2) fun v3 =>
  (ck g 5 v1).bind fun _ =>
  om (sJ g 5 v1 9) (
    fC_Court_move_47 g)
    fun v7 =>
    (ck g 4 v7).bind fun _ =>
    (ck g 4 v3).bind fun _ =>
    if v7 = v3 then
      fC_Court_move_47 g
    else
      if (sI g 4 v7 1) = 0 then
        fC_Court_move_47 g
      else
        if (sI g 4 v3 1) = 0 then
          fC_Court_move_47 g
        else
          (some (uJ g 5 v1 9 (some v3))).bind fun g13 =>
          (fC_Court_lookAt g13 v1).bind fun g17 =>
          (fC_Court_statusToday g17 v1).bind fun r18 =>
          some (.inr (r18, g17))
set_option maxRecDepth 20000 in
theorem w_C_Court_move_0 (C : cC p s m args meth c cX8_move RX8 (some .int) wsX8_move 6 D yI yO) {gz : CS} {rz : Int32} {g : CS} {x1 : Int32} {x2 : Int32} (h : fC_Court_move g x1 x2 = some (.inr (rz, gz))) {H : Heap} {locs : List Loc} {ls : Array Slot} (hX : cX D yI yO z0 ad g A s H locs) (hl : lv_has ls 6 [(0, .ref (ad 0 0)), (1, .int x1), (2, .int x2)]) : W p l e (mR 7 157) s m args below meth c H locs 0 0 (MQ below (cQ D yI yO z0 ad rz gz A) args s 0 0 A) (F0 m 0 ls []) := by
  obtain ⟨hx, hb, hr, hts, hown, hlocks, hml, hK⟩ := id C
  unfold fC_Court_move at h
  refine lv_aload_n hx hb dX8_move_0 rfl (lv_at hl 0 rfl) ?_
  refine lv_iload_n hx hb dX8_move_1 rfl (lv_at hl 1 rfl) ?_
  obtain ⟨v1, et2, h⟩ := xb_ret h
  refine cg_callVq (As := [.int x1]) (rest := []) ⟨hx, hb, hml, hown, hts⟩ 0 0 rfl (ci := 9) rfl rfl (cC_Court_personAt l D yI yO z0 ad et2) (cwV 1 hts gX8_move_X8_personAt rfl rfl rfl (by decide +kernel) ⟨Nat.le_of_ble_eq_true rfl, Nat.le_of_ble_eq_true rfl⟩) hK hX rfl hl.1 rfl (Nat.le_of_ble_eq_true rfl) dX8_move_2 ⟨Nat.zero_le _, Nat.zero_le _⟩ (fun H locs hX => ?_)
  refine W.eq (g2 := F0 m 5 ls [.ref (ad 5 v1)]) rfl ?_
  refine lv_astore_n (lv' := [(3, .ref (ad 5 v1)), (0, .ref (ad 0 0)), (1, .int x1), (2, .int x2)]) hx hb dX8_move_5 rfl hl (by decide) rfl (fun ls hl => ?_)
  refine lv_aload_n hx hb dX8_move_6 rfl (lv_at hl 1 rfl) ?_
  refine lv_iload_n hx hb dX8_move_7 rfl (lv_at hl 3 rfl) ?_
  obtain ⟨v3, et4, h⟩ := xb_ret h
  refine cg_callVq (As := [.int x2]) (rest := []) ⟨hx, hb, hml, hown, hts⟩ 0 0 rfl (ci := 9) rfl rfl (cC_Court_landAt l D yI yO z0 ad et4) (cwV 1 hts gX8_move_X8_landAt rfl rfl rfl (by decide +kernel) ⟨Nat.le_of_ble_eq_true rfl, Nat.le_of_ble_eq_true rfl⟩) hK hX rfl hl.1 rfl (Nat.le_of_ble_eq_true rfl) dX8_move_8 ⟨Nat.zero_le _, Nat.zero_le _⟩ (fun H locs hX => ?_)
  refine W.eq (g2 := F0 m 11 ls [.ref (ad 4 v3)]) rfl ?_
  refine lv_astore (lv' := [(4, .ref (ad 4 v3)), (3, .ref (ad 5 v1)), (0, .ref (ad 0 0)), (1, .int x1), (2, .int x2)]) hx hb dX8_move_11 hl (by decide) rfl (fun ls hl => ?_)
  refine lv_aload_n hx hb dX8_move_13 rfl (lv_at hl 1 rfl) ?_
  obtain ⟨_, hv5, h⟩ := mbind h
  replace hv5 := ck_spec hv5
  rcases ho6 : sJ g 5 v1 9 with _ | v7
  · replace h := om_n ho6 h
    refine cg_get hx hb hts iC_Court_move_X3 hown hK hX 5 v1 hv5 rfl rfl 9 (by decide) (hts (.fieldLink RX8 110 "PassageCourt$Person" "there" "LPassageCourt$Land;") (by decide +kernel)) (fun _ h9 => h9) (v := .null) (by rw [ho6]; rfl) dX8_move_14 ?_
    refine lv_astoreN (lv' := [(5, .null), (4, .ref (ad 4 v3)), (3, .ref (ad 5 v1)), (0, .ref (ad 0 0)), (1, .int x1), (2, .int x2)]) hx hb dX8_move_17 hl (by decide) rfl (fun ls hl => ?_)
    refine lv_aloadN hx hb dX8_move_19 (lv_at hl 0 rfl) ?_
    refine lv_ifnullN (tgt := 47) hx hb dX8_move_21 (by decide) ?_
    exact w_C_Court_move_47 C h hX (lv_sub hl [3] rfl)
  · replace h := om_s ho6 h
    refine cg_get hx hb hts iC_Court_move_X3 hown hK hX 5 v1 hv5 rfl rfl 9 (by decide) (hts (.fieldLink RX8 110 "PassageCourt$Person" "there" "LPassageCourt$Land;") (by decide +kernel)) (fun _ h9 => h9) (v := .ref (ad 4 v7)) (by rw [ho6]; rfl) dX8_move_14 ?_
    refine lv_astore (lv' := [(5, .ref (ad 4 v7)), (4, .ref (ad 4 v3)), (3, .ref (ad 5 v1)), (0, .ref (ad 0 0)), (1, .int x1), (2, .int x2)]) hx hb dX8_move_17 hl (by decide) rfl (fun ls hl => ?_)
    refine lv_aload hx hb dX8_move_19 (lv_at hl 0 rfl) ?_
    refine lv_ifnull hx hb dX8_move_21 ?_
    refine lv_aload hx hb dX8_move_24 (lv_at hl 0 rfl) ?_
    refine lv_aload hx hb dX8_move_26 (lv_at hl 1 rfl) ?_
    obtain ⟨_, hv9, h⟩ := mbind h
    replace hv9 := ck_spec hv9
    obtain ⟨_, hv10, h⟩ := mbind h
    replace hv10 := ck_spec hv10
    refine lv_acmp_eq (rx := some (ad 4 v7)) (ry := some (ad 4 v3)) (tgt := 47) hx hb dX8_move_28 (by decide) (fun c8 => ?_) (fun c8 => ?_)
    · replace h := mpos ((cX_inj (k := 4) hX hv9 hv10).mp c8) h
      exact w_C_Court_move_47 C h hX (lv_sub hl [3] rfl)
    · replace h := mneg (fun z => c8 ((cX_inj (k := 4) hX hv9 hv10).mpr z)) h
      refine lv_aload hx hb dX8_move_31 (lv_at hl 0 rfl) ?_
      refine cg_get hx hb hts iC_Court_move_X1 hown hK hX 4 v7 hv9 rfl rfl 1 (by decide) (hts (.fieldLink RX8 165 "PassageCourt$Land" "isInRegion" "Z") (by decide +kernel)) (fun _ h9 => h9) rfl dX8_move_33 ?_
      refine lv_if_eq (tgt := 47) hx hb dX8_move_36 (by decide) (fun c11 => ?_) (fun c11 => ?_)
      · replace h := mpos c11 h
        exact w_C_Court_move_47 C h hX (lv_sub hl [3] rfl)
      · replace h := mneg c11 h
        refine lv_aload hx hb dX8_move_39 (lv_at hl 1 rfl) ?_
        refine cg_get hx hb hts iC_Court_move_X1 hown hK hX 4 v3 hv10 rfl rfl 1 (by decide) (hts (.fieldLink RX8 165 "PassageCourt$Land" "isInRegion" "Z") (by decide +kernel)) (fun _ h9 => h9) rfl dX8_move_41 ?_
        refine lv_if_ne (tgt := 57) hx hb dX8_move_44 (by decide) (fun c12 => ?_) (fun c12 => ?_)
        · replace h := mneg c12 h
          refine lv_aload_n hx hb dX8_move_57 rfl (lv_at hl 2 rfl) ?_
          refine lv_aload hx hb dX8_move_58 (lv_at hl 1 rfl) ?_
          obtain ⟨g13, eg13, h⟩ := mbind h
          refine cg_put hx hb hts iC_Court_move_X3 tyX3 tyX3_ok nmX3 hown hK hX 5 v1 hv5 rfl rfl 9 (by decide) (hts (.fieldLink RX8 110 "PassageCourt$Person" "there" "LPassageCourt$Land;") (by decide +kernel)) (fun _ h9 => h9) rfl (by decide +kernel) rfl rfl (ty := .object "PassageCourt$Land") (g1 := (uJ g 5 v1 9 (some v3))) (Nat.le_of_ble_eq_true rfl) (by unfold cent; rw [sJ_up]; rfl) (fun _ _ => rfl) rfl (fun _ _ hab => cent_uJ yI yO ad _ _ _ hab) dX8_move_60 (fun H locs hX => ?_)
          have eg13 := Option.some.inj eg13
          rw [eg13] at hX
          have hv14 : clvb g13 5 v1 = true := by rw [← eg13]; exact hv5
          have hv15 : clvb g13 4 v7 = true := by rw [← eg13]; exact hv9
          have hv16 : clvb g13 4 v3 = true := by rw [← eg13]; exact hv10
          refine lv_aload_n hx hb dX8_move_63 rfl (lv_at hl 3 rfl) ?_
          refine lv_aload_n hx hb dX8_move_64 rfl (lv_at hl 2 rfl) ?_
          obtain ⟨g17, eg17, h⟩ := mbind h
          refine cg_callVv (As := [.ref (ad 5 v1)]) (rest := []) ⟨hx, hb, hml, hown, hts⟩ 0 0 rfl (ci := 9) rfl rfl (cC_Court_lookAt l D yI yO z0 ad eg17) (cwV 1 hts gX8_move_X8_lookAt rfl rfl rfl (by decide +kernel) ⟨Nat.le_of_ble_eq_true rfl, Nat.le_of_ble_eq_true rfl⟩) hK hX rfl hl.1 rfl (Nat.le_of_ble_eq_true rfl) dX8_move_65 ⟨Nat.zero_le _, Nat.zero_le _⟩ (fun H locs hX => ?_)
          refine lv_aload_n hx hb dX8_move_68 rfl (lv_at hl 3 rfl) ?_
          refine lv_aload_n hx hb dX8_move_69 rfl (lv_at hl 2 rfl) ?_
          obtain ⟨r18, er18, h⟩ := mbind h
          refine cg_callV (As := [.ref (ad 5 v1)]) (rest := []) ⟨hx, hb, hml, hown, hts⟩ 0 0 rfl (ci := 9) rfl rfl (cC_Court_statusToday l D yI yO z0 ad er18) (cwV 1 hts gX8_move_X8_statusToday rfl rfl rfl (by decide +kernel) ⟨Nat.le_of_ble_eq_true rfl, Nat.le_of_ble_eq_true rfl⟩) hK hX rfl hl.1 rfl (Nat.le_of_ble_eq_true rfl) dX8_move_70 ⟨Nat.zero_le _, Nat.zero_le _⟩ (fun H locs hX => ?_)
          cases h
          exact cg_reti hx hb hr hlocks hK hX dX8_move_73
        · replace h := mpos c12 h
          exact w_C_Court_move_47 C h hX (lv_sub hl [3] rfl)
set_option maxRecDepth 20000 in
theorem w_X_Court_move_0 (C : cC p s m args meth c cX8_move RX8 (some .int) wsX8_move 6 D yI yO) {Qc : Array Value → State → Outcome → State → Prop} (hlf : l.stackTraces = false) (ht : ∀ x ∈ c.exceptionTable.toList, False) (hxs : xS A s s.heap) (hA : ∀ q, s.heap.size ≤ q → A q) {ez : Nat} {g : CS} {x1 : Int32} {x2 : Int32} (h : fC_Court_move g x1 x2 = some (.inl ez)) {H : Heap} {locs : List Loc} {ls : Array Slot} (hX : cX D yI yO z0 ad g A s H locs) (hl : lv_has ls 6 [(0, .ref (ad 0 0)), (1, .int x1), (2, .int x2)]) : W p l e (xR 7 157) s m args below meth c H locs 0 0 (vx_MQ below Qc (xXC D yI yO z0 ad g ez A) args s 1 6 A) (F0 m 0 ls []) := by
  obtain ⟨hx, hb, hr, hts, hown, hlocks, hml, hK⟩ := id C
  unfold fC_Court_move at h
  refine lv_aload_n hx hb dX8_move_0 rfl (lv_at hl 0 rfl) ?_
  refine lv_iload_n hx hb dX8_move_1 rfl (lv_at hl 1 rfl) ?_
  rcases xb_thr h with et2 | ⟨v1, et2, h⟩
  · exact xg_callV (As := [.int x1]) (rest := []) ⟨hx, hb, hml, hown, hts⟩ 0 0 rfl (ci := 9) rfl rfl (cX_Court_personAt l hlf D yI yO z0 ad H.size et2) (cwV 1 hts gX8_move_X8_personAt rfl rfl rfl (by decide +kernel) ⟨Nat.le_of_ble_eq_true rfl, Nat.le_of_ble_eq_true rfl⟩) hK hX hA hxs ht hlocks rfl hl.1 rfl (Nat.le_of_ble_eq_true rfl) dX8_move_2 ⟨Nat.le_refl _, Nat.le_refl _⟩
  refine cg_callVq (As := [.int x1]) (rest := []) ⟨hx, hb, hml, hown, hts⟩ 0 0 rfl (ci := 9) rfl rfl (cC_Court_personAt l D yI yO z0 ad et2) (cwV 1 hts gX8_move_X8_personAt rfl rfl rfl (by decide +kernel) ⟨Nat.le_of_ble_eq_true rfl, Nat.le_of_ble_eq_true rfl⟩) hK hX rfl hl.1 rfl (Nat.le_of_ble_eq_true rfl) dX8_move_2 ⟨Nat.zero_le _, Nat.zero_le _⟩ (fun H locs hX => ?_)
  refine W.eq (g2 := F0 m 5 ls [.ref (ad 5 v1)]) rfl ?_
  refine lv_astore_n (lv' := [(3, .ref (ad 5 v1)), (0, .ref (ad 0 0)), (1, .int x1), (2, .int x2)]) hx hb dX8_move_5 rfl hl (by decide) rfl (fun ls hl => ?_)
  refine lv_aload_n hx hb dX8_move_6 rfl (lv_at hl 1 rfl) ?_
  refine lv_iload_n hx hb dX8_move_7 rfl (lv_at hl 3 rfl) ?_
  rcases xb_thr h with et4 | ⟨v3, et4, h⟩
  · exact xg_callV (As := [.int x2]) (rest := []) ⟨hx, hb, hml, hown, hts⟩ 0 0 rfl (ci := 9) rfl rfl (cX_Court_landAt l hlf D yI yO z0 ad H.size et4) (cwV 1 hts gX8_move_X8_landAt rfl rfl rfl (by decide +kernel) ⟨Nat.le_of_ble_eq_true rfl, Nat.le_of_ble_eq_true rfl⟩) hK hX hA hxs ht hlocks rfl hl.1 rfl (Nat.le_of_ble_eq_true rfl) dX8_move_8 ⟨Nat.le_refl _, Nat.le_refl _⟩
  refine cg_callVq (As := [.int x2]) (rest := []) ⟨hx, hb, hml, hown, hts⟩ 0 0 rfl (ci := 9) rfl rfl (cC_Court_landAt l D yI yO z0 ad et4) (cwV 1 hts gX8_move_X8_landAt rfl rfl rfl (by decide +kernel) ⟨Nat.le_of_ble_eq_true rfl, Nat.le_of_ble_eq_true rfl⟩) hK hX rfl hl.1 rfl (Nat.le_of_ble_eq_true rfl) dX8_move_8 ⟨Nat.zero_le _, Nat.zero_le _⟩ (fun H locs hX => ?_)
  refine W.eq (g2 := F0 m 11 ls [.ref (ad 4 v3)]) rfl ?_
  refine lv_astore (lv' := [(4, .ref (ad 4 v3)), (3, .ref (ad 5 v1)), (0, .ref (ad 0 0)), (1, .int x1), (2, .int x2)]) hx hb dX8_move_11 hl (by decide) rfl (fun ls hl => ?_)
  refine lv_aload_n hx hb dX8_move_13 rfl (lv_at hl 1 rfl) ?_
  obtain ⟨_, hv5, h⟩ := mbind h
  replace hv5 := ck_spec hv5
  rcases ho6 : sJ g 5 v1 9 with _ | v7
  · replace h := om_n ho6 h
    refine cg_get hx hb hts iC_Court_move_X3 hown hK hX 5 v1 hv5 rfl rfl 9 (by decide) (hts (.fieldLink RX8 110 "PassageCourt$Person" "there" "LPassageCourt$Land;") (by decide +kernel)) (fun _ h9 => h9) (v := .null) (by rw [ho6]; rfl) dX8_move_14 ?_
    refine lv_astoreN (lv' := [(5, .null), (4, .ref (ad 4 v3)), (3, .ref (ad 5 v1)), (0, .ref (ad 0 0)), (1, .int x1), (2, .int x2)]) hx hb dX8_move_17 hl (by decide) rfl (fun ls hl => ?_)
    refine lv_aloadN hx hb dX8_move_19 (lv_at hl 0 rfl) ?_
    refine lv_ifnullN (tgt := 47) hx hb dX8_move_21 (by decide) ?_
    exact w_X_Court_move_47 C hlf ht hxs hA h hX (lv_sub hl [3] rfl)
  · replace h := om_s ho6 h
    refine cg_get hx hb hts iC_Court_move_X3 hown hK hX 5 v1 hv5 rfl rfl 9 (by decide) (hts (.fieldLink RX8 110 "PassageCourt$Person" "there" "LPassageCourt$Land;") (by decide +kernel)) (fun _ h9 => h9) (v := .ref (ad 4 v7)) (by rw [ho6]; rfl) dX8_move_14 ?_
    refine lv_astore (lv' := [(5, .ref (ad 4 v7)), (4, .ref (ad 4 v3)), (3, .ref (ad 5 v1)), (0, .ref (ad 0 0)), (1, .int x1), (2, .int x2)]) hx hb dX8_move_17 hl (by decide) rfl (fun ls hl => ?_)
    refine lv_aload hx hb dX8_move_19 (lv_at hl 0 rfl) ?_
    refine lv_ifnull hx hb dX8_move_21 ?_
    refine lv_aload hx hb dX8_move_24 (lv_at hl 0 rfl) ?_
    refine lv_aload hx hb dX8_move_26 (lv_at hl 1 rfl) ?_
    obtain ⟨_, hv9, h⟩ := mbind h
    replace hv9 := ck_spec hv9
    obtain ⟨_, hv10, h⟩ := mbind h
    replace hv10 := ck_spec hv10
    refine lv_acmp_eq (rx := some (ad 4 v7)) (ry := some (ad 4 v3)) (tgt := 47) hx hb dX8_move_28 (by decide) (fun c8 => ?_) (fun c8 => ?_)
    · replace h := mpos ((cX_inj (k := 4) hX hv9 hv10).mp c8) h
      exact w_X_Court_move_47 C hlf ht hxs hA h hX (lv_sub hl [3] rfl)
    · replace h := mneg (fun z => c8 ((cX_inj (k := 4) hX hv9 hv10).mpr z)) h
      refine lv_aload hx hb dX8_move_31 (lv_at hl 0 rfl) ?_
      refine cg_get hx hb hts iC_Court_move_X1 hown hK hX 4 v7 hv9 rfl rfl 1 (by decide) (hts (.fieldLink RX8 165 "PassageCourt$Land" "isInRegion" "Z") (by decide +kernel)) (fun _ h9 => h9) rfl dX8_move_33 ?_
      refine lv_if_eq (tgt := 47) hx hb dX8_move_36 (by decide) (fun c11 => ?_) (fun c11 => ?_)
      · replace h := mpos c11 h
        exact w_X_Court_move_47 C hlf ht hxs hA h hX (lv_sub hl [3] rfl)
      · replace h := mneg c11 h
        refine lv_aload hx hb dX8_move_39 (lv_at hl 1 rfl) ?_
        refine cg_get hx hb hts iC_Court_move_X1 hown hK hX 4 v3 hv10 rfl rfl 1 (by decide) (hts (.fieldLink RX8 165 "PassageCourt$Land" "isInRegion" "Z") (by decide +kernel)) (fun _ h9 => h9) rfl dX8_move_41 ?_
        refine lv_if_ne (tgt := 57) hx hb dX8_move_44 (by decide) (fun c12 => ?_) (fun c12 => ?_)
        · replace h := mneg c12 h
          refine lv_aload_n hx hb dX8_move_57 rfl (lv_at hl 2 rfl) ?_
          refine lv_aload hx hb dX8_move_58 (lv_at hl 1 rfl) ?_
          obtain ⟨g13, eg13, h⟩ := mbind h
          refine cg_put hx hb hts iC_Court_move_X3 tyX3 tyX3_ok nmX3 hown hK hX 5 v1 hv5 rfl rfl 9 (by decide) (hts (.fieldLink RX8 110 "PassageCourt$Person" "there" "LPassageCourt$Land;") (by decide +kernel)) (fun _ h9 => h9) rfl (by decide +kernel) rfl rfl (ty := .object "PassageCourt$Land") (g1 := (uJ g 5 v1 9 (some v3))) (Nat.le_of_ble_eq_true rfl) (by unfold cent; rw [sJ_up]; rfl) (fun _ _ => rfl) rfl (fun _ _ hab => cent_uJ yI yO ad _ _ _ hab) dX8_move_60 (fun H locs hX => ?_)
          have eg13 := Option.some.inj eg13
          rw [eg13] at hX
          have hv14 : clvb g13 5 v1 = true := by rw [← eg13]; exact hv5
          have hv15 : clvb g13 4 v7 = true := by rw [← eg13]; exact hv9
          have hv16 : clvb g13 4 v3 = true := by rw [← eg13]; exact hv10
          refine lv_aload_n hx hb dX8_move_63 rfl (lv_at hl 3 rfl) ?_
          refine lv_aload_n hx hb dX8_move_64 rfl (lv_at hl 2 rfl) ?_
          obtain ⟨g17, eg17, h⟩ := mbind h
          refine cg_callVv (As := [.ref (ad 5 v1)]) (rest := []) ⟨hx, hb, hml, hown, hts⟩ 0 0 rfl (ci := 9) rfl rfl (cC_Court_lookAt l D yI yO z0 ad eg17) (cwV 1 hts gX8_move_X8_lookAt rfl rfl rfl (by decide +kernel) ⟨Nat.le_of_ble_eq_true rfl, Nat.le_of_ble_eq_true rfl⟩) hK hX rfl hl.1 rfl (Nat.le_of_ble_eq_true rfl) dX8_move_65 ⟨Nat.zero_le _, Nat.zero_le _⟩ (fun H locs hX => ?_)
          refine lv_aload_n hx hb dX8_move_68 rfl (lv_at hl 3 rfl) ?_
          refine lv_aload_n hx hb dX8_move_69 rfl (lv_at hl 2 rfl) ?_
          obtain ⟨r18, er18, h⟩ := mbind h
          refine cg_callV (As := [.ref (ad 5 v1)]) (rest := []) ⟨hx, hb, hml, hown, hts⟩ 0 0 rfl (ci := 9) rfl rfl (cC_Court_statusToday l D yI yO z0 ad er18) (cwV 1 hts gX8_move_X8_statusToday rfl rfl rfl (by decide +kernel) ⟨Nat.le_of_ble_eq_true rfl, Nat.le_of_ble_eq_true rfl⟩) hK hX rfl hl.1 rfl (Nat.le_of_ble_eq_true rfl) dX8_move_70 ⟨Nat.zero_le _, Nat.zero_le _⟩ (fun H locs hX => ?_)
          cases h
        · replace h := mpos c12 h
          exact w_X_Court_move_47 C hlf ht hxs hA h hX (lv_sub hl [3] rfl)
set_option maxRecDepth 20000 in
theorem cC_Court_move (l : Launch) (D : va_G) (yI yO : ClassId) (z0 : Nat) (ad : Nat → Nat → Nat) {g : CS} {gz : CS} {rz : Int32} {x1 : Int32} {x2 : Int32} (h : fC_Court_move g x1 x2 = some (.inr (rz, gz))) : Met l yX8_move wsX8_move (mR 7 157) (va_Pc [.ref (ad 0 0), .int x1, .int x2] (cPre D yI yO z0 ad g)) (cQ D yI yO z0 ad rz gz (cF ad g)) 0 0 (cF ad g) := by
  refine Met.ofW (cc := cX8_move) (maxL := 6) (ret := (some .int)) (by decide) rfl ?_
  intro p e s m args below meth c s₁ B hml hv
  obtain ⟨hv0, hw, hK⟩ := hv
  have hv1 : args = [.ref (ad 0 0), .int x1, .int x2].toArray := hv0
  subst hv1
  have C : cC p s m _ meth c cX8_move RX8 (some .int) wsX8_move 6 D yI yO := ⟨B.exec, B.bytes, B.returns, atoms_spec (ws := wsX8_move) B.pre, findClass_of_methodNamed B.named, B.notSynchronized, hml, hK⟩
  have hl := lv_entry ([.ref (ad 0 0), .int x1, .int x2]) (n := 6) (Nat.le_of_ble_eq_true rfl)
  rw [lg_entry_eq]
  generalize (lg_sl ([.ref (ad 0 0), .int x1, .int x2]) ++ List.replicate (6 - (lg_sl ([.ref (ad 0 0), .int x1, .int x2])).length) Slot.unset).toArray = ls at hl ⊢
  have hl : lv_has ls 6 [(0, .ref (ad 0 0)), (1, .int x1), (2, .int x2)] := hl
  exact w_C_Court_move_0 C h ⟨hw, fun k i hi => ⟨k, i, hi, rfl⟩, va_S.rf⟩ hl
set_option maxRecDepth 20000 in
theorem cX_Court_move (l : Launch) (hlf : l.stackTraces = false) (D : va_G) (yI yO : ClassId) (z0 : Nat) (ad : Nat → Nat → Nat) {g : CS} {ez : Nat} {x1 : Int32} {x2 : Int32} (sz : Nat) (h : fC_Court_move g x1 x2 = some (.inl ez)) : vx_Met l yX8_move wsX8_move (xR 7 157) (va_Pc [.ref (ad 0 0), .int x1, .int x2] (xPre D yI yO z0 ad g sz)) (xQ (cA ad g sz)) (xXC D yI yO z0 ad g ez (cA ad g sz)) 1 6 (cA ad g sz) := by
  refine vx_ofW (cc := cX8_move) (maxL := 6) (ret := (some .int)) (by decide) rfl ?_
  intro p e s m args below meth c s₁ B hml ht hv
  obtain ⟨hv0, ⟨hw, hK⟩, hsz, hxs⟩ := hv
  subst hsz
  have hv1 : args = [.ref (ad 0 0), .int x1, .int x2].toArray := hv0
  subst hv1
  have C : cC p s m _ meth c cX8_move RX8 (some .int) wsX8_move 6 D yI yO := ⟨B.exec, B.bytes, B.returns, atoms_spec (ws := wsX8_move) B.pre, findClass_of_methodNamed B.named, B.notSynchronized, hml, hK⟩
  have hl := lv_entry ([.ref (ad 0 0), .int x1, .int x2]) (n := 6) (Nat.le_of_ble_eq_true rfl)
  rw [lg_entry_eq]
  generalize (lg_sl ([.ref (ad 0 0), .int x1, .int x2]) ++ List.replicate (6 - (lg_sl ([.ref (ad 0 0), .int x1, .int x2])).length) Slot.unset).toArray = ls at hl ⊢
  have hl : lv_has ls 6 [(0, .ref (ad 0 0)), (1, .int x1), (2, .int x2)] := hl
  exact w_X_Court_move_0 C hlf ht hxs (fun q h => Or.inr h) h ⟨hw, fun k i hi => Or.inl ⟨k, i, hi, rfl⟩, va_S.rf⟩ hl
theorem iC_Court_leave_X0 : ∀ w ∈ wsX00, w ∈ wsX8_leave := by decide +kernel
theorem iC_Court_leave_X1 : ∀ w ∈ wsX10, w ∈ wsX8_leave := by decide +kernel
theorem iC_Court_leave_X3 : ∀ w ∈ wsX30, w ∈ wsX8_leave := by decide +kernel
theorem iC_Court_leave_X8 : ∀ w ∈ wsX80, w ∈ wsX8_leave := by decide +kernel
theorem eC_Court_leave_56 : ∀ w ∈ (vx_atS RX8 56 "java/lang/IllegalStateException" ["java/lang/RuntimeException", "java/lang/Exception"]).filter goodWord, w ∈ wsX8_leave := by decide +kernel
def fC_Court_leave (g : CS) (x1 : Int32) : Option (Nat ⊕ (Int32 × CS)) :=
  xb (fC_Court_personAt g x1) fun v1 =>
  (ck g 5 v1).bind fun _ =>
  om (sJ g 5 v1 9) (
    some (.inl 2))
    fun v5 =>
    (fC_Court_overstayedDays g v1).bind fun r6 =>
    (some (uJ g 5 v1 9 none)).bind fun g7 =>
    (some (uJ g7 5 v1 10 none)).bind fun g9 =>
    if (if (10 * r6) < 720 then (10 * r6) else 720) = 0 then
      some (.inr ((-1), g9))
    else
      (ck g9 4 v5).bind fun _ =>
      (fC_Bans_add v1 g9 (sI g9 4 v5 0) ((sI g9 0 0 6) + 1) ((sI g9 0 0 6) + (if (10 * r6) < 720 then (10 * r6) else 720)) (sI g9 0 0 6)).bind fun g13 =>
      (ck g13 5 v1).bind fun _ =>
      (ck g13 4 v5).bind fun _ =>
      (fC_Row_at 12 v1 g13 (sI g13 4 v5 0)).bind fun r16 =>
      some (.inr (r16, g13))
set_option maxRecDepth 20000 in
theorem w_C_Court_leave_0 (C : cC p s m args meth c cX8_leave RX8 (some .int) wsX8_leave 5 D yI yO) {gz : CS} {rz : Int32} {g : CS} {x1 : Int32} (h : fC_Court_leave g x1 = some (.inr (rz, gz))) {H : Heap} {locs : List Loc} {ls : Array Slot} (hX : cX D yI yO z0 ad g A s H locs) (hl : lv_has ls 5 [(0, .ref (ad 0 0)), (1, .int x1)]) : W p l e (mR 4 85) s m args below meth c H locs 0 0 (MQ below (cQ D yI yO z0 ad rz gz A) args s 0 0 A) (F0 m 0 ls []) := by
  obtain ⟨hx, hb, hr, hts, hown, hlocks, hml, hK⟩ := id C
  unfold fC_Court_leave at h
  refine lv_aload_n hx hb dX8_leave_0 rfl (lv_at hl 0 rfl) ?_
  refine lv_iload_n hx hb dX8_leave_1 rfl (lv_at hl 1 rfl) ?_
  obtain ⟨v1, et2, h⟩ := xb_ret h
  refine cg_callVq (As := [.int x1]) (rest := []) ⟨hx, hb, hml, hown, hts⟩ 0 0 rfl (ci := 9) rfl rfl (cC_Court_personAt l D yI yO z0 ad et2) (cwV 1 hts gX8_leave_X8_personAt rfl rfl rfl (by decide +kernel) ⟨Nat.le_of_ble_eq_true rfl, Nat.le_of_ble_eq_true rfl⟩) hK hX rfl hl.1 rfl (Nat.le_of_ble_eq_true rfl) dX8_leave_2 ⟨Nat.zero_le _, Nat.zero_le _⟩ (fun H locs hX => ?_)
  refine W.eq (g2 := F0 m 5 ls [.ref (ad 5 v1)]) rfl ?_
  refine lv_astore_n (lv' := [(2, .ref (ad 5 v1)), (0, .ref (ad 0 0)), (1, .int x1)]) hx hb dX8_leave_5 rfl hl (by decide) rfl (fun ls hl => ?_)
  refine lv_aload_n hx hb dX8_leave_6 rfl (lv_at hl 0 rfl) ?_
  obtain ⟨_, hv3, h⟩ := mbind h
  replace hv3 := ck_spec hv3
  rcases ho4 : sJ g 5 v1 9 with _ | v5
  · replace h := om_n ho4 h
    refine cg_get hx hb hts iC_Court_leave_X3 hown hK hX 5 v1 hv3 rfl rfl 9 (by decide) (hts (.fieldLink RX8 110 "PassageCourt$Person" "there" "LPassageCourt$Land;") (by decide +kernel)) (fun _ h9 => h9) (v := .null) (by rw [ho4]; rfl) dX8_leave_7 ?_
    refine lv_astore_nN (lv' := [(3, .null), (2, .ref (ad 5 v1)), (0, .ref (ad 0 0)), (1, .int x1)]) hx hb dX8_leave_10 rfl hl (by decide) rfl (fun ls hl => ?_)
    refine lv_aload_nN hx hb dX8_leave_11 rfl (lv_at hl 0 rfl) ?_
    refine lv_ifnonnullN hx hb dX8_leave_12 ?_
    cases h
  · replace h := om_s ho4 h
    refine cg_get hx hb hts iC_Court_leave_X3 hown hK hX 5 v1 hv3 rfl rfl 9 (by decide) (hts (.fieldLink RX8 110 "PassageCourt$Person" "there" "LPassageCourt$Land;") (by decide +kernel)) (fun _ h9 => h9) (v := .ref (ad 4 v5)) (by rw [ho4]; rfl) dX8_leave_7 ?_
    refine lv_astore_n (lv' := [(3, .ref (ad 4 v5)), (2, .ref (ad 5 v1)), (0, .ref (ad 0 0)), (1, .int x1)]) hx hb dX8_leave_10 rfl hl (by decide) rfl (fun ls hl => ?_)
    refine lv_aload_n hx hb dX8_leave_11 rfl (lv_at hl 0 rfl) ?_
    refine lv_ifnonnull (tgt := 25) hx hb dX8_leave_12 (by decide) ?_
    refine lv_sipush (v := 720) hx hb dX8_leave_25 (by decide) ?_
    refine lv_bipush (v := 10) hx hb dX8_leave_28 (by decide) ?_
    refine lv_aload_n hx hb dX8_leave_30 rfl (lv_at hl 2 rfl) ?_
    refine lv_aload_n hx hb dX8_leave_31 rfl (lv_at hl 1 rfl) ?_
    obtain ⟨r6, er6, h⟩ := mbind h
    refine cg_callV (As := [.ref (ad 5 v1)]) (rest := [.int 10, .int 720]) ⟨hx, hb, hml, hown, hts⟩ 0 0 rfl (ci := 9) rfl rfl (cC_Court_overstayedDays l D yI yO z0 ad er6) (cwV 1 hts gX8_leave_X8_overstayedDays rfl rfl rfl (by decide +kernel) ⟨Nat.le_of_ble_eq_true rfl, Nat.le_of_ble_eq_true rfl⟩) hK hX rfl hl.1 rfl (Nat.le_of_ble_eq_true rfl) dX8_leave_32 ⟨Nat.zero_le _, Nat.zero_le _⟩ (fun H locs hX => ?_)
    refine lv_imul hx hb dX8_leave_35 ?_
    refine va_mmin hx hb (hml.trans hl.1.symm) hown (hts (.methodLink RX8 179 Lib.Math.min.name) (by decide +kernel)) (hts (.static Lib.Math.min.name) (by decide +kernel)) (hts (.initialized "java/lang/Math") (by decide +kernel)) (hts (.code Lib.Math.min.name Lib.Math.min.code 2 (some .int)) (by decide +kernel)) (Nat.le_of_ble_eq_true rfl) (Nat.le_of_ble_eq_true rfl) (Nat.le_of_ble_eq_true rfl) (Nat.le_of_ble_eq_true rfl) dX8_leave_36 ?_
    refine lv_istore (lv' := [(4, .int (if (10 * r6) < 720 then (10 * r6) else 720)), (3, .ref (ad 4 v5)), (2, .ref (ad 5 v1)), (0, .ref (ad 0 0)), (1, .int x1)]) hx hb dX8_leave_39 hl (by decide) rfl (fun ls hl => ?_)
    refine lv_aload_n hx hb dX8_leave_41 rfl (lv_at hl 2 rfl) ?_
    refine lv_null hx hb dX8_leave_42 ?_
    obtain ⟨g7, eg7, h⟩ := mbind h
    refine cg_put hx hb hts iC_Court_leave_X3 tyX3 tyX3_ok nmX3 hown hK hX 5 v1 hv3 rfl rfl 9 (by decide) (hts (.fieldLink RX8 110 "PassageCourt$Person" "there" "LPassageCourt$Land;") (by decide +kernel)) (fun _ h9 => h9) rfl (by decide +kernel) rfl rfl (ty := .object "PassageCourt$Land") (g1 := (uJ g 5 v1 9 none)) (Nat.le_of_ble_eq_true rfl) (by unfold cent; rw [sJ_up]; rfl) (fun _ _ => rfl) rfl (fun _ _ hab => cent_uJ yI yO ad _ _ _ hab) dX8_leave_43 (fun H locs hX => ?_)
    have eg7 := Option.some.inj eg7
    rw [eg7] at hX
    have hv8 : clvb g7 5 v1 = true := by rw [← eg7]; exact hv3
    refine lv_aload_n hx hb dX8_leave_46 rfl (lv_at hl 2 rfl) ?_
    refine lv_null hx hb dX8_leave_47 ?_
    obtain ⟨g9, eg9, h⟩ := mbind h
    refine cg_put hx hb hts iC_Court_leave_X3 tyX3 tyX3_ok nmX3 hown hK hX 5 v1 hv8 rfl rfl 10 (by decide) (hts (.fieldLink RX8 185 "PassageCourt$Person" "visa" "LPassageCourt$Visa;") (by decide +kernel)) (fun _ h9 => h9) rfl (by decide +kernel) rfl rfl (ty := .object "PassageCourt$Visa") (g1 := (uJ g7 5 v1 10 none)) (Nat.le_of_ble_eq_true rfl) (by unfold cent; rw [sJ_up]; rfl) (fun _ _ => rfl) rfl (fun _ _ hab => cent_uJ yI yO ad _ _ _ hab) dX8_leave_48 (fun H locs hX => ?_)
    have eg9 := Option.some.inj eg9
    rw [eg9] at hX
    have hv10 : clvb g9 5 v1 = true := by rw [← eg9]; exact hv8
    refine lv_iload hx hb dX8_leave_51 (lv_at hl 0 rfl) ?_
    refine lv_if_ne (tgt := 58) hx hb dX8_leave_53 (by decide) (fun c11 => ?_) (fun c11 => ?_)
    · replace h := mneg c11 h
      refine lv_aload_n hx hb dX8_leave_58 rfl (lv_at hl 2 rfl) ?_
      refine cg_get hx hb hts iC_Court_leave_X3 hown hK hX 5 v1 hv10 rfl rfl 6 (by decide) (hts (.fieldLink RX8 189 "PassageCourt$Person" "bans" "LPassageCourt$Bans;") (by decide +kernel)) (fun _ h9 => h9) rfl dX8_leave_59 ?_
      refine lv_aload_n hx hb dX8_leave_62 rfl (lv_at hl 1 rfl) ?_
      obtain ⟨_, hv12, h⟩ := mbind h
      replace hv12 := ck_spec hv12
      refine cg_get hx hb hts iC_Court_leave_X1 hown hK hX 4 v5 hv12 rfl rfl 0 (by decide) (hts (.fieldLink RX8 66 "PassageCourt$Land" "number" "I") (by decide +kernel)) (fun _ h9 => h9) rfl dX8_leave_63 ?_
      refine lv_aload_n hx hb dX8_leave_66 rfl (lv_at hl 3 rfl) ?_
      refine cg_get hx hb hts iC_Court_leave_X8 hown hK hX 0 0 rfl rfl rfl 6 (by decide) (hts (.fieldLink RX8 37 "PassageCourt" "today" "I") (by decide +kernel)) (fun _ h9 => h9) rfl dX8_leave_67 ?_
      refine lv_iconst (v := 1) hx hb dX8_leave_70 (by decide) ?_
      refine lv_iadd hx hb dX8_leave_71 ?_
      refine lv_aload_n hx hb dX8_leave_72 rfl (lv_at hl 3 rfl) ?_
      refine cg_get hx hb hts iC_Court_leave_X8 hown hK hX 0 0 rfl rfl rfl 6 (by decide) (hts (.fieldLink RX8 37 "PassageCourt" "today" "I") (by decide +kernel)) (fun _ h9 => h9) rfl dX8_leave_73 ?_
      refine lv_iload hx hb dX8_leave_76 (lv_at hl 0 rfl) ?_
      refine lv_iadd hx hb dX8_leave_78 ?_
      refine lv_aload_n hx hb dX8_leave_79 rfl (lv_at hl 3 rfl) ?_
      refine cg_get hx hb hts iC_Court_leave_X8 hown hK hX 0 0 rfl rfl rfl 6 (by decide) (hts (.fieldLink RX8 37 "PassageCourt" "today" "I") (by decide +kernel)) (fun _ h9 => h9) rfl dX8_leave_80 ?_
      obtain ⟨g13, eg13, h⟩ := mbind h
      refine cg_callVv (As := [.int (sI g9 4 v5 0), .int ((sI g9 0 0 6) + 1), .int ((sI g9 0 0 6) + (if (10 * r6) < 720 then (10 * r6) else 720)), .int (sI g9 0 0 6)]) (rest := []) ⟨hx, hb, hml, hown, hts⟩ 24 v1 hv10 (ci := 1) rfl rfl (cC_Bans_add l D yI yO z0 ad eg13) (cwV 4 hts gX8_leave_X0_add rfl rfl rfl (by decide +kernel) ⟨Nat.le_of_ble_eq_true rfl, Nat.le_of_ble_eq_true rfl⟩) hK hX rfl hl.1 rfl (Nat.le_of_ble_eq_true rfl) dX8_leave_83 ⟨Nat.zero_le _, Nat.zero_le _⟩ (fun H locs hX => ?_)
      refine lv_aload_n hx hb dX8_leave_86 rfl (lv_at hl 2 rfl) ?_
      obtain ⟨_, hv14, h⟩ := mbind h
      replace hv14 := ck_spec hv14
      refine cg_get hx hb hts iC_Court_leave_X3 hown hK hX 5 v1 hv14 rfl rfl 6 (by decide) (hts (.fieldLink RX8 189 "PassageCourt$Person" "bans" "LPassageCourt$Bans;") (by decide +kernel)) (fun _ h9 => h9) rfl dX8_leave_87 ?_
      refine cg_get hx hb hts iC_Court_leave_X0 hown hK hX 24 v1 hv14 rfl rfl 1 (by decide) (hts (.fieldLink RX8 198 "PassageCourt$Bans" "last" "LPassageCourt$Row;") (by decide +kernel)) (fun _ h9 => h9) rfl dX8_leave_90 ?_
      refine lv_aload_n hx hb dX8_leave_93 rfl (lv_at hl 1 rfl) ?_
      obtain ⟨_, hv15, h⟩ := mbind h
      replace hv15 := ck_spec hv15
      refine cg_get hx hb hts iC_Court_leave_X1 hown hK hX 4 v5 hv15 rfl rfl 0 (by decide) (hts (.fieldLink RX8 66 "PassageCourt$Land" "number" "I") (by decide +kernel)) (fun _ h9 => h9) rfl dX8_leave_94 ?_
      obtain ⟨r16, er16, h⟩ := mbind h
      refine cg_callV (As := [.int (sI g13 4 v5 0)]) (rest := []) ⟨hx, hb, hml, hown, hts⟩ 12 v1 hv14 (ci := 6) rfl rfl (cC_Row_at l D yI yO z0 ad ⟨by decide, by decide⟩ er16) (cwV 1 hts gX8_leave_X5_at rfl rfl rfl (by decide +kernel) ⟨Nat.le_of_ble_eq_true rfl, Nat.le_of_ble_eq_true rfl⟩) hK hX rfl hl.1 rfl (Nat.le_of_ble_eq_true rfl) dX8_leave_97 ⟨Nat.zero_le _, Nat.zero_le _⟩ (fun H locs hX => ?_)
      cases h
      exact cg_reti hx hb hr hlocks hK hX dX8_leave_100
    · replace h := mpos c11 h
      refine lv_iconst (v := -1) hx hb dX8_leave_56 (by decide) ?_
      cases h
      exact cg_reti hx hb hr hlocks hK hX dX8_leave_57
set_option maxRecDepth 20000 in
theorem w_X_Court_leave_0 (C : cC p s m args meth c cX8_leave RX8 (some .int) wsX8_leave 5 D yI yO) {Qc : Array Value → State → Outcome → State → Prop} (hlf : l.stackTraces = false) (ht : ∀ x ∈ c.exceptionTable.toList, False) (hxs : xS A s s.heap) (hA : ∀ q, s.heap.size ≤ q → A q) {ez : Nat} {g : CS} {x1 : Int32} (h : fC_Court_leave g x1 = some (.inl ez)) {H : Heap} {locs : List Loc} {ls : Array Slot} (hX : cX D yI yO z0 ad g A s H locs) (hl : lv_has ls 5 [(0, .ref (ad 0 0)), (1, .int x1)]) : W p l e (xR 7 111) s m args below meth c H locs 0 0 (vx_MQ below Qc (xXC D yI yO z0 ad g ez A) args s 1 6 A) (F0 m 0 ls []) := by
  obtain ⟨hx, hb, hr, hts, hown, hlocks, hml, hK⟩ := id C
  unfold fC_Court_leave at h
  refine lv_aload_n hx hb dX8_leave_0 rfl (lv_at hl 0 rfl) ?_
  refine lv_iload_n hx hb dX8_leave_1 rfl (lv_at hl 1 rfl) ?_
  rcases xb_thr h with et2 | ⟨v1, et2, h⟩
  · exact xg_callV (As := [.int x1]) (rest := []) ⟨hx, hb, hml, hown, hts⟩ 0 0 rfl (ci := 9) rfl rfl (cX_Court_personAt l hlf D yI yO z0 ad H.size et2) (cwV 1 hts gX8_leave_X8_personAt rfl rfl rfl (by decide +kernel) ⟨Nat.le_of_ble_eq_true rfl, Nat.le_of_ble_eq_true rfl⟩) hK hX hA hxs ht hlocks rfl hl.1 rfl (Nat.le_of_ble_eq_true rfl) dX8_leave_2 ⟨Nat.le_refl _, Nat.le_refl _⟩
  refine cg_callVq (As := [.int x1]) (rest := []) ⟨hx, hb, hml, hown, hts⟩ 0 0 rfl (ci := 9) rfl rfl (cC_Court_personAt l D yI yO z0 ad et2) (cwV 1 hts gX8_leave_X8_personAt rfl rfl rfl (by decide +kernel) ⟨Nat.le_of_ble_eq_true rfl, Nat.le_of_ble_eq_true rfl⟩) hK hX rfl hl.1 rfl (Nat.le_of_ble_eq_true rfl) dX8_leave_2 ⟨Nat.zero_le _, Nat.zero_le _⟩ (fun H locs hX => ?_)
  refine W.eq (g2 := F0 m 5 ls [.ref (ad 5 v1)]) rfl ?_
  refine lv_astore_n (lv' := [(2, .ref (ad 5 v1)), (0, .ref (ad 0 0)), (1, .int x1)]) hx hb dX8_leave_5 rfl hl (by decide) rfl (fun ls hl => ?_)
  refine lv_aload_n hx hb dX8_leave_6 rfl (lv_at hl 0 rfl) ?_
  obtain ⟨_, hv3, h⟩ := mbind h
  replace hv3 := ck_spec hv3
  rcases ho4 : sJ g 5 v1 9 with _ | v5
  · replace h := om_n ho4 h
    refine cg_get hx hb hts iC_Court_leave_X3 hown hK hX 5 v1 hv3 rfl rfl 9 (by decide) (hts (.fieldLink RX8 110 "PassageCourt$Person" "there" "LPassageCourt$Land;") (by decide +kernel)) (fun _ h9 => h9) (v := .null) (by rw [ho4]; rfl) dX8_leave_7 ?_
    refine lv_astore_nN (lv' := [(3, .null), (2, .ref (ad 5 v1)), (0, .ref (ad 0 0)), (1, .int x1)]) hx hb dX8_leave_10 rfl hl (by decide) rfl (fun ls hl => ?_)
    refine lv_aload_nN hx hb dX8_leave_11 rfl (lv_at hl 0 rfl) ?_
    refine lv_ifnonnullN hx hb dX8_leave_12 ?_
    cases h
    obtain ⟨sa, hsa⟩ := hxs.2.2.1 (174, "one who is abroad can\'t leave") (by decide +kernel)
    exact vx_throwS hx hb hlf (own := RX8) (cls := "java/lang/IllegalStateException") (text := "one who is abroad can\'t leave") (names := ["java/lang/RuntimeException", "java/lang/Exception"]) (A := A) hown (by decide +kernel) (by decide +kernel) (hts (.classLink RX8 52 "java/lang/IllegalStateException") (by decide +kernel)) (hts (.initialized "java/lang/IllegalStateException") (by decide +kernel)) hsa (vx_hat (fun w hw => hts w (eC_Court_leave_56 w hw)) (B := xB) (by decide +kernel) (fun w hw => va_Nw.use (xB_on w hw) (hxs.2.2.2 w hw))) (by decide +kernel) hxs.1 hxs.2.1 hX.2.2 (hl.1.trans hml.symm) dX8_leave_15 dX8_leave_18 dX8_leave_19 dX8_leave_21 dX8_leave_24 (fun x hx => (ht x hx).elim) (Nat.le_of_ble_eq_true rfl) (Nat.le_of_ble_eq_true rfl) (Nat.le_of_ble_eq_true rfl) (Nat.le_of_ble_eq_true rfl) hlocks (fun t a1 a2 a3 => xX_post rfl hK hX t a1 a2 a3) hX.2.2.2.2 (Nat.le_refl _) (Nat.le_refl _)
  · replace h := om_s ho4 h
    refine cg_get hx hb hts iC_Court_leave_X3 hown hK hX 5 v1 hv3 rfl rfl 9 (by decide) (hts (.fieldLink RX8 110 "PassageCourt$Person" "there" "LPassageCourt$Land;") (by decide +kernel)) (fun _ h9 => h9) (v := .ref (ad 4 v5)) (by rw [ho4]; rfl) dX8_leave_7 ?_
    refine lv_astore_n (lv' := [(3, .ref (ad 4 v5)), (2, .ref (ad 5 v1)), (0, .ref (ad 0 0)), (1, .int x1)]) hx hb dX8_leave_10 rfl hl (by decide) rfl (fun ls hl => ?_)
    refine lv_aload_n hx hb dX8_leave_11 rfl (lv_at hl 0 rfl) ?_
    refine lv_ifnonnull (tgt := 25) hx hb dX8_leave_12 (by decide) ?_
    refine lv_sipush (v := 720) hx hb dX8_leave_25 (by decide) ?_
    refine lv_bipush (v := 10) hx hb dX8_leave_28 (by decide) ?_
    refine lv_aload_n hx hb dX8_leave_30 rfl (lv_at hl 2 rfl) ?_
    refine lv_aload_n hx hb dX8_leave_31 rfl (lv_at hl 1 rfl) ?_
    obtain ⟨r6, er6, h⟩ := mbind h
    refine cg_callV (As := [.ref (ad 5 v1)]) (rest := [.int 10, .int 720]) ⟨hx, hb, hml, hown, hts⟩ 0 0 rfl (ci := 9) rfl rfl (cC_Court_overstayedDays l D yI yO z0 ad er6) (cwV 1 hts gX8_leave_X8_overstayedDays rfl rfl rfl (by decide +kernel) ⟨Nat.le_of_ble_eq_true rfl, Nat.le_of_ble_eq_true rfl⟩) hK hX rfl hl.1 rfl (Nat.le_of_ble_eq_true rfl) dX8_leave_32 ⟨Nat.zero_le _, Nat.zero_le _⟩ (fun H locs hX => ?_)
    refine lv_imul hx hb dX8_leave_35 ?_
    refine va_mmin hx hb (hml.trans hl.1.symm) hown (hts (.methodLink RX8 179 Lib.Math.min.name) (by decide +kernel)) (hts (.static Lib.Math.min.name) (by decide +kernel)) (hts (.initialized "java/lang/Math") (by decide +kernel)) (hts (.code Lib.Math.min.name Lib.Math.min.code 2 (some .int)) (by decide +kernel)) (Nat.le_of_ble_eq_true rfl) (Nat.le_of_ble_eq_true rfl) (Nat.le_of_ble_eq_true rfl) (Nat.le_of_ble_eq_true rfl) dX8_leave_36 ?_
    refine lv_istore (lv' := [(4, .int (if (10 * r6) < 720 then (10 * r6) else 720)), (3, .ref (ad 4 v5)), (2, .ref (ad 5 v1)), (0, .ref (ad 0 0)), (1, .int x1)]) hx hb dX8_leave_39 hl (by decide) rfl (fun ls hl => ?_)
    refine lv_aload_n hx hb dX8_leave_41 rfl (lv_at hl 2 rfl) ?_
    refine lv_null hx hb dX8_leave_42 ?_
    obtain ⟨g7, eg7, h⟩ := mbind h
    refine cg_put hx hb hts iC_Court_leave_X3 tyX3 tyX3_ok nmX3 hown hK hX 5 v1 hv3 rfl rfl 9 (by decide) (hts (.fieldLink RX8 110 "PassageCourt$Person" "there" "LPassageCourt$Land;") (by decide +kernel)) (fun _ h9 => h9) rfl (by decide +kernel) rfl rfl (ty := .object "PassageCourt$Land") (g1 := (uJ g 5 v1 9 none)) (Nat.le_of_ble_eq_true rfl) (by unfold cent; rw [sJ_up]; rfl) (fun _ _ => rfl) rfl (fun _ _ hab => cent_uJ yI yO ad _ _ _ hab) dX8_leave_43 (fun H locs hX => ?_)
    have eg7 := Option.some.inj eg7
    rw [eg7] at hX
    have hv8 : clvb g7 5 v1 = true := by rw [← eg7]; exact hv3
    refine lv_aload_n hx hb dX8_leave_46 rfl (lv_at hl 2 rfl) ?_
    refine lv_null hx hb dX8_leave_47 ?_
    obtain ⟨g9, eg9, h⟩ := mbind h
    refine cg_put hx hb hts iC_Court_leave_X3 tyX3 tyX3_ok nmX3 hown hK hX 5 v1 hv8 rfl rfl 10 (by decide) (hts (.fieldLink RX8 185 "PassageCourt$Person" "visa" "LPassageCourt$Visa;") (by decide +kernel)) (fun _ h9 => h9) rfl (by decide +kernel) rfl rfl (ty := .object "PassageCourt$Visa") (g1 := (uJ g7 5 v1 10 none)) (Nat.le_of_ble_eq_true rfl) (by unfold cent; rw [sJ_up]; rfl) (fun _ _ => rfl) rfl (fun _ _ hab => cent_uJ yI yO ad _ _ _ hab) dX8_leave_48 (fun H locs hX => ?_)
    have eg9 := Option.some.inj eg9
    rw [eg9] at hX
    have hv10 : clvb g9 5 v1 = true := by rw [← eg9]; exact hv8
    refine lv_iload hx hb dX8_leave_51 (lv_at hl 0 rfl) ?_
    refine lv_if_ne (tgt := 58) hx hb dX8_leave_53 (by decide) (fun c11 => ?_) (fun c11 => ?_)
    · replace h := mneg c11 h
      refine lv_aload_n hx hb dX8_leave_58 rfl (lv_at hl 2 rfl) ?_
      refine cg_get hx hb hts iC_Court_leave_X3 hown hK hX 5 v1 hv10 rfl rfl 6 (by decide) (hts (.fieldLink RX8 189 "PassageCourt$Person" "bans" "LPassageCourt$Bans;") (by decide +kernel)) (fun _ h9 => h9) rfl dX8_leave_59 ?_
      refine lv_aload_n hx hb dX8_leave_62 rfl (lv_at hl 1 rfl) ?_
      obtain ⟨_, hv12, h⟩ := mbind h
      replace hv12 := ck_spec hv12
      refine cg_get hx hb hts iC_Court_leave_X1 hown hK hX 4 v5 hv12 rfl rfl 0 (by decide) (hts (.fieldLink RX8 66 "PassageCourt$Land" "number" "I") (by decide +kernel)) (fun _ h9 => h9) rfl dX8_leave_63 ?_
      refine lv_aload_n hx hb dX8_leave_66 rfl (lv_at hl 3 rfl) ?_
      refine cg_get hx hb hts iC_Court_leave_X8 hown hK hX 0 0 rfl rfl rfl 6 (by decide) (hts (.fieldLink RX8 37 "PassageCourt" "today" "I") (by decide +kernel)) (fun _ h9 => h9) rfl dX8_leave_67 ?_
      refine lv_iconst (v := 1) hx hb dX8_leave_70 (by decide) ?_
      refine lv_iadd hx hb dX8_leave_71 ?_
      refine lv_aload_n hx hb dX8_leave_72 rfl (lv_at hl 3 rfl) ?_
      refine cg_get hx hb hts iC_Court_leave_X8 hown hK hX 0 0 rfl rfl rfl 6 (by decide) (hts (.fieldLink RX8 37 "PassageCourt" "today" "I") (by decide +kernel)) (fun _ h9 => h9) rfl dX8_leave_73 ?_
      refine lv_iload hx hb dX8_leave_76 (lv_at hl 0 rfl) ?_
      refine lv_iadd hx hb dX8_leave_78 ?_
      refine lv_aload_n hx hb dX8_leave_79 rfl (lv_at hl 3 rfl) ?_
      refine cg_get hx hb hts iC_Court_leave_X8 hown hK hX 0 0 rfl rfl rfl 6 (by decide) (hts (.fieldLink RX8 37 "PassageCourt" "today" "I") (by decide +kernel)) (fun _ h9 => h9) rfl dX8_leave_80 ?_
      obtain ⟨g13, eg13, h⟩ := mbind h
      refine cg_callVv (As := [.int (sI g9 4 v5 0), .int ((sI g9 0 0 6) + 1), .int ((sI g9 0 0 6) + (if (10 * r6) < 720 then (10 * r6) else 720)), .int (sI g9 0 0 6)]) (rest := []) ⟨hx, hb, hml, hown, hts⟩ 24 v1 hv10 (ci := 1) rfl rfl (cC_Bans_add l D yI yO z0 ad eg13) (cwV 4 hts gX8_leave_X0_add rfl rfl rfl (by decide +kernel) ⟨Nat.le_of_ble_eq_true rfl, Nat.le_of_ble_eq_true rfl⟩) hK hX rfl hl.1 rfl (Nat.le_of_ble_eq_true rfl) dX8_leave_83 ⟨Nat.zero_le _, Nat.zero_le _⟩ (fun H locs hX => ?_)
      refine lv_aload_n hx hb dX8_leave_86 rfl (lv_at hl 2 rfl) ?_
      obtain ⟨_, hv14, h⟩ := mbind h
      replace hv14 := ck_spec hv14
      refine cg_get hx hb hts iC_Court_leave_X3 hown hK hX 5 v1 hv14 rfl rfl 6 (by decide) (hts (.fieldLink RX8 189 "PassageCourt$Person" "bans" "LPassageCourt$Bans;") (by decide +kernel)) (fun _ h9 => h9) rfl dX8_leave_87 ?_
      refine cg_get hx hb hts iC_Court_leave_X0 hown hK hX 24 v1 hv14 rfl rfl 1 (by decide) (hts (.fieldLink RX8 198 "PassageCourt$Bans" "last" "LPassageCourt$Row;") (by decide +kernel)) (fun _ h9 => h9) rfl dX8_leave_90 ?_
      refine lv_aload_n hx hb dX8_leave_93 rfl (lv_at hl 1 rfl) ?_
      obtain ⟨_, hv15, h⟩ := mbind h
      replace hv15 := ck_spec hv15
      refine cg_get hx hb hts iC_Court_leave_X1 hown hK hX 4 v5 hv15 rfl rfl 0 (by decide) (hts (.fieldLink RX8 66 "PassageCourt$Land" "number" "I") (by decide +kernel)) (fun _ h9 => h9) rfl dX8_leave_94 ?_
      obtain ⟨r16, er16, h⟩ := mbind h
      refine cg_callV (As := [.int (sI g13 4 v5 0)]) (rest := []) ⟨hx, hb, hml, hown, hts⟩ 12 v1 hv14 (ci := 6) rfl rfl (cC_Row_at l D yI yO z0 ad ⟨by decide, by decide⟩ er16) (cwV 1 hts gX8_leave_X5_at rfl rfl rfl (by decide +kernel) ⟨Nat.le_of_ble_eq_true rfl, Nat.le_of_ble_eq_true rfl⟩) hK hX rfl hl.1 rfl (Nat.le_of_ble_eq_true rfl) dX8_leave_97 ⟨Nat.zero_le _, Nat.zero_le _⟩ (fun H locs hX => ?_)
      cases h
    · replace h := mpos c11 h
      refine lv_iconst (v := -1) hx hb dX8_leave_56 (by decide) ?_
      cases h
set_option maxRecDepth 20000 in
theorem cC_Court_leave (l : Launch) (D : va_G) (yI yO : ClassId) (z0 : Nat) (ad : Nat → Nat → Nat) {g : CS} {gz : CS} {rz : Int32} {x1 : Int32} (h : fC_Court_leave g x1 = some (.inr (rz, gz))) : Met l yX8_leave wsX8_leave (mR 4 85) (va_Pc [.ref (ad 0 0), .int x1] (cPre D yI yO z0 ad g)) (cQ D yI yO z0 ad rz gz (cF ad g)) 0 0 (cF ad g) := by
  refine Met.ofW (cc := cX8_leave) (maxL := 5) (ret := (some .int)) (by decide) rfl ?_
  intro p e s m args below meth c s₁ B hml hv
  obtain ⟨hv0, hw, hK⟩ := hv
  have hv1 : args = [.ref (ad 0 0), .int x1].toArray := hv0
  subst hv1
  have C : cC p s m _ meth c cX8_leave RX8 (some .int) wsX8_leave 5 D yI yO := ⟨B.exec, B.bytes, B.returns, atoms_spec (ws := wsX8_leave) B.pre, findClass_of_methodNamed B.named, B.notSynchronized, hml, hK⟩
  have hl := lv_entry ([.ref (ad 0 0), .int x1]) (n := 5) (Nat.le_of_ble_eq_true rfl)
  rw [lg_entry_eq]
  generalize (lg_sl ([.ref (ad 0 0), .int x1]) ++ List.replicate (5 - (lg_sl ([.ref (ad 0 0), .int x1])).length) Slot.unset).toArray = ls at hl ⊢
  have hl : lv_has ls 5 [(0, .ref (ad 0 0)), (1, .int x1)] := hl
  exact w_C_Court_leave_0 C h ⟨hw, fun k i hi => ⟨k, i, hi, rfl⟩, va_S.rf⟩ hl
set_option maxRecDepth 20000 in
theorem cX_Court_leave (l : Launch) (hlf : l.stackTraces = false) (D : va_G) (yI yO : ClassId) (z0 : Nat) (ad : Nat → Nat → Nat) {g : CS} {ez : Nat} {x1 : Int32} (sz : Nat) (h : fC_Court_leave g x1 = some (.inl ez)) : vx_Met l yX8_leave wsX8_leave (xR 7 111) (va_Pc [.ref (ad 0 0), .int x1] (xPre D yI yO z0 ad g sz)) (xQ (cA ad g sz)) (xXC D yI yO z0 ad g ez (cA ad g sz)) 1 6 (cA ad g sz) := by
  refine vx_ofW (cc := cX8_leave) (maxL := 5) (ret := (some .int)) (by decide) rfl ?_
  intro p e s m args below meth c s₁ B hml ht hv
  obtain ⟨hv0, ⟨hw, hK⟩, hsz, hxs⟩ := hv
  subst hsz
  have hv1 : args = [.ref (ad 0 0), .int x1].toArray := hv0
  subst hv1
  have C : cC p s m _ meth c cX8_leave RX8 (some .int) wsX8_leave 5 D yI yO := ⟨B.exec, B.bytes, B.returns, atoms_spec (ws := wsX8_leave) B.pre, findClass_of_methodNamed B.named, B.notSynchronized, hml, hK⟩
  have hl := lv_entry ([.ref (ad 0 0), .int x1]) (n := 5) (Nat.le_of_ble_eq_true rfl)
  rw [lg_entry_eq]
  generalize (lg_sl ([.ref (ad 0 0), .int x1]) ++ List.replicate (5 - (lg_sl ([.ref (ad 0 0), .int x1])).length) Slot.unset).toArray = ls at hl ⊢
  have hl : lv_has ls 5 [(0, .ref (ad 0 0)), (1, .int x1)] := hl
  exact w_X_Court_leave_0 C hlf ht hxs (fun q h => Or.inr h) h ⟨hw, fun k i hi => Or.inl ⟨k, i, hi, rfl⟩, va_S.rf⟩ hl
theorem iC_Court_ban_X0 : ∀ w ∈ wsX00, w ∈ wsX8_ban := by decide +kernel
theorem iC_Court_ban_X1 : ∀ w ∈ wsX10, w ∈ wsX8_ban := by decide +kernel
theorem iC_Court_ban_X3 : ∀ w ∈ wsX30, w ∈ wsX8_ban := by decide +kernel
theorem iC_Court_ban_X8 : ∀ w ∈ wsX80, w ∈ wsX8_ban := by decide +kernel
theorem eC_Court_ban_45 : ∀ w ∈ (vx_atS RX8 45 "java/lang/IllegalArgumentException" ["java/lang/RuntimeException", "java/lang/Exception"]).filter goodWord, w ∈ wsX8_ban := by decide +kernel
def fC_Court_ban_26 (g : CS) : Option (Nat ⊕ (Int32 × CS)) :=
  some (.inl 1)
set_option maxRecDepth 20000 in
theorem w_C_Court_ban_26 (C : cC p s m args meth c cX8_ban RX8 (some .int) wsX8_ban 6 D yI yO) {gz : CS} {rz : Int32} {g : CS} (h : fC_Court_ban_26 g = some (.inr (rz, gz))) {H : Heap} {locs : List Loc} {ls : Array Slot} (hX : cX D yI yO z0 ad g A s H locs) (hl : lv_has ls 6 [(0, .ref (ad 0 0))]) : W p l e (mR 4 85) s m args below meth c H locs 0 0 (MQ below (cQ D yI yO z0 ad rz gz A) args s 0 0 A) (F0 m 26 ls []) := by
  obtain ⟨hx, hb, hr, hts, hown, hlocks, hml, hK⟩ := id C
  unfold fC_Court_ban_26 at h
  cases h
set_option maxRecDepth 20000 in
theorem w_X_Court_ban_26 (C : cC p s m args meth c cX8_ban RX8 (some .int) wsX8_ban 6 D yI yO) {Qc : Array Value → State → Outcome → State → Prop} (hlf : l.stackTraces = false) (ht : ∀ x ∈ c.exceptionTable.toList, False) (hxs : xS A s s.heap) (hA : ∀ q, s.heap.size ≤ q → A q) {ez : Nat} {g : CS} (h : fC_Court_ban_26 g = some (.inl ez)) {H : Heap} {locs : List Loc} {ls : Array Slot} (hX : cX D yI yO z0 ad g A s H locs) (hl : lv_has ls 6 [(0, .ref (ad 0 0))]) : W p l e (xR 7 111) s m args below meth c H locs 0 0 (vx_MQ below Qc (xXC D yI yO z0 ad g ez A) args s 1 6 A) (F0 m 26 ls []) := by
  obtain ⟨hx, hb, hr, hts, hown, hlocks, hml, hK⟩ := id C
  unfold fC_Court_ban_26 at h
  cases h
  obtain ⟨sa, hsa⟩ := hxs.2.2.1 (208, "days is out of range") (by decide +kernel)
  exact vx_throwS hx hb hlf (own := RX8) (cls := "java/lang/IllegalArgumentException") (text := "days is out of range") (names := ["java/lang/RuntimeException", "java/lang/Exception"]) (A := A) hown (by decide +kernel) (by decide +kernel) (hts (.classLink RX8 41 "java/lang/IllegalArgumentException") (by decide +kernel)) (hts (.initialized "java/lang/IllegalArgumentException") (by decide +kernel)) hsa (vx_hat (fun w hw => hts w (eC_Court_ban_45 w hw)) (B := xB) (by decide +kernel) (fun w hw => va_Nw.use (xB_on w hw) (hxs.2.2.2 w hw))) (by decide +kernel) hxs.1 hxs.2.1 hX.2.2 (hl.1.trans hml.symm) dX8_ban_26 dX8_ban_29 dX8_ban_30 dX8_ban_32 dX8_ban_35 (fun x hx => (ht x hx).elim) (Nat.le_of_ble_eq_true rfl) (Nat.le_of_ble_eq_true rfl) (Nat.le_of_ble_eq_true rfl) (Nat.le_of_ble_eq_true rfl) hlocks (fun t a1 a2 a3 => xX_post rfl hK hX t a1 a2 a3) hX.2.2.2.2 (Nat.le_refl _) (Nat.le_refl _)
def fC_Court_ban (g : CS) (x1 : Int32) (x2 : Int32) (x3 : Int32) : Option (Nat ⊕ (Int32 × CS)) :=
  xb (fC_Court_landAt g x1) fun v1 =>
  xb (fC_Court_personAt g x2) fun v3 =>
  if x3 < 1 then
    fC_Court_ban_26 g
  else
    if x3 ≤ 720 then
      (ck g 5 v3).bind fun _ =>
      (ck g 4 v1).bind fun _ =>
      (fC_Bans_add v3 g (sI g 4 v1 0) (sI g 0 0 6) (((sI g 0 0 6) + x3) - 1) (sI g 0 0 6)).bind fun g9 =>
      (ck g9 5 v3).bind fun _ =>
      (ck g9 4 v1).bind fun _ =>
      (fC_Row_at 12 v3 g9 (sI g9 4 v1 0)).bind fun r12 =>
      some (.inr (r12, g9))
    else
      fC_Court_ban_26 g
set_option maxRecDepth 20000 in
theorem w_C_Court_ban_0 (C : cC p s m args meth c cX8_ban RX8 (some .int) wsX8_ban 6 D yI yO) {gz : CS} {rz : Int32} {g : CS} {x1 : Int32} {x2 : Int32} {x3 : Int32} (h : fC_Court_ban g x1 x2 x3 = some (.inr (rz, gz))) {H : Heap} {locs : List Loc} {ls : Array Slot} (hX : cX D yI yO z0 ad g A s H locs) (hl : lv_has ls 6 [(0, .ref (ad 0 0)), (1, .int x1), (2, .int x2), (3, .int x3)]) : W p l e (mR 4 85) s m args below meth c H locs 0 0 (MQ below (cQ D yI yO z0 ad rz gz A) args s 0 0 A) (F0 m 0 ls []) := by
  obtain ⟨hx, hb, hr, hts, hown, hlocks, hml, hK⟩ := id C
  unfold fC_Court_ban at h
  refine lv_aload_n hx hb dX8_ban_0 rfl (lv_at hl 0 rfl) ?_
  refine lv_iload_n hx hb dX8_ban_1 rfl (lv_at hl 1 rfl) ?_
  obtain ⟨v1, et2, h⟩ := xb_ret h
  refine cg_callVq (As := [.int x1]) (rest := []) ⟨hx, hb, hml, hown, hts⟩ 0 0 rfl (ci := 9) rfl rfl (cC_Court_landAt l D yI yO z0 ad et2) (cwV 1 hts gX8_ban_X8_landAt rfl rfl rfl (by decide +kernel) ⟨Nat.le_of_ble_eq_true rfl, Nat.le_of_ble_eq_true rfl⟩) hK hX rfl hl.1 rfl (Nat.le_of_ble_eq_true rfl) dX8_ban_2 ⟨Nat.zero_le _, Nat.zero_le _⟩ (fun H locs hX => ?_)
  refine W.eq (g2 := F0 m 5 ls [.ref (ad 4 v1)]) rfl ?_
  refine lv_astore (lv' := [(4, .ref (ad 4 v1)), (0, .ref (ad 0 0)), (1, .int x1), (2, .int x2), (3, .int x3)]) hx hb dX8_ban_5 hl (by decide) rfl (fun ls hl => ?_)
  refine lv_aload_n hx hb dX8_ban_7 rfl (lv_at hl 1 rfl) ?_
  refine lv_iload_n hx hb dX8_ban_8 rfl (lv_at hl 3 rfl) ?_
  obtain ⟨v3, et4, h⟩ := xb_ret h
  refine cg_callVq (As := [.int x2]) (rest := []) ⟨hx, hb, hml, hown, hts⟩ 0 0 rfl (ci := 9) rfl rfl (cC_Court_personAt l D yI yO z0 ad et4) (cwV 1 hts gX8_ban_X8_personAt rfl rfl rfl (by decide +kernel) ⟨Nat.le_of_ble_eq_true rfl, Nat.le_of_ble_eq_true rfl⟩) hK hX rfl hl.1 rfl (Nat.le_of_ble_eq_true rfl) dX8_ban_9 ⟨Nat.zero_le _, Nat.zero_le _⟩ (fun H locs hX => ?_)
  refine W.eq (g2 := F0 m 12 ls [.ref (ad 5 v3)]) rfl ?_
  refine lv_astore (lv' := [(5, .ref (ad 5 v3)), (4, .ref (ad 4 v1)), (0, .ref (ad 0 0)), (1, .int x1), (2, .int x2), (3, .int x3)]) hx hb dX8_ban_12 hl (by decide) rfl (fun ls hl => ?_)
  refine lv_iload_n hx hb dX8_ban_14 rfl (lv_at hl 5 rfl) ?_
  refine lv_iconst (v := 1) hx hb dX8_ban_15 (by decide) ?_
  refine lv_icmp_lt (tgt := 26) hx hb dX8_ban_16 (by decide) (fun c5 => ?_) (fun c5 => ?_)
  · replace h := mpos c5 h
    exact w_C_Court_ban_26 C h hX (lv_sub hl [2] rfl)
  · replace h := mneg c5 h
    refine lv_iload_n hx hb dX8_ban_19 rfl (lv_at hl 5 rfl) ?_
    refine lv_sipush (v := 720) hx hb dX8_ban_20 (by decide) ?_
    refine lv_icmp_le (tgt := 36) hx hb dX8_ban_23 (by decide) (fun c6 => ?_) (fun c6 => ?_)
    · replace h := mpos c6 h
      refine lv_aload hx hb dX8_ban_36 (lv_at hl 0 rfl) ?_
      obtain ⟨_, hv7, h⟩ := mbind h
      replace hv7 := ck_spec hv7
      refine cg_get hx hb hts iC_Court_ban_X3 hown hK hX 5 v3 hv7 rfl rfl 6 (by decide) (hts (.fieldLink RX8 189 "PassageCourt$Person" "bans" "LPassageCourt$Bans;") (by decide +kernel)) (fun _ h9 => h9) rfl dX8_ban_38 ?_
      refine lv_aload hx hb dX8_ban_41 (lv_at hl 1 rfl) ?_
      obtain ⟨_, hv8, h⟩ := mbind h
      replace hv8 := ck_spec hv8
      refine cg_get hx hb hts iC_Court_ban_X1 hown hK hX 4 v1 hv8 rfl rfl 0 (by decide) (hts (.fieldLink RX8 66 "PassageCourt$Land" "number" "I") (by decide +kernel)) (fun _ h9 => h9) rfl dX8_ban_43 ?_
      refine lv_aload_n hx hb dX8_ban_46 rfl (lv_at hl 2 rfl) ?_
      refine cg_get hx hb hts iC_Court_ban_X8 hown hK hX 0 0 rfl rfl rfl 6 (by decide) (hts (.fieldLink RX8 37 "PassageCourt" "today" "I") (by decide +kernel)) (fun _ h9 => h9) rfl dX8_ban_47 ?_
      refine lv_aload_n hx hb dX8_ban_50 rfl (lv_at hl 2 rfl) ?_
      refine cg_get hx hb hts iC_Court_ban_X8 hown hK hX 0 0 rfl rfl rfl 6 (by decide) (hts (.fieldLink RX8 37 "PassageCourt" "today" "I") (by decide +kernel)) (fun _ h9 => h9) rfl dX8_ban_51 ?_
      refine lv_iload_n hx hb dX8_ban_54 rfl (lv_at hl 5 rfl) ?_
      refine lv_iadd hx hb dX8_ban_55 ?_
      refine lv_iconst (v := 1) hx hb dX8_ban_56 (by decide) ?_
      refine lv_isub hx hb dX8_ban_57 ?_
      refine lv_aload_n hx hb dX8_ban_58 rfl (lv_at hl 2 rfl) ?_
      refine cg_get hx hb hts iC_Court_ban_X8 hown hK hX 0 0 rfl rfl rfl 6 (by decide) (hts (.fieldLink RX8 37 "PassageCourt" "today" "I") (by decide +kernel)) (fun _ h9 => h9) rfl dX8_ban_59 ?_
      obtain ⟨g9, eg9, h⟩ := mbind h
      refine cg_callVv (As := [.int (sI g 4 v1 0), .int (sI g 0 0 6), .int (((sI g 0 0 6) + x3) - 1), .int (sI g 0 0 6)]) (rest := []) ⟨hx, hb, hml, hown, hts⟩ 24 v3 hv7 (ci := 1) rfl rfl (cC_Bans_add l D yI yO z0 ad eg9) (cwV 4 hts gX8_ban_X0_add rfl rfl rfl (by decide +kernel) ⟨Nat.le_of_ble_eq_true rfl, Nat.le_of_ble_eq_true rfl⟩) hK hX rfl hl.1 rfl (Nat.le_of_ble_eq_true rfl) dX8_ban_62 ⟨Nat.zero_le _, Nat.zero_le _⟩ (fun H locs hX => ?_)
      refine lv_aload hx hb dX8_ban_65 (lv_at hl 0 rfl) ?_
      obtain ⟨_, hv10, h⟩ := mbind h
      replace hv10 := ck_spec hv10
      refine cg_get hx hb hts iC_Court_ban_X3 hown hK hX 5 v3 hv10 rfl rfl 6 (by decide) (hts (.fieldLink RX8 189 "PassageCourt$Person" "bans" "LPassageCourt$Bans;") (by decide +kernel)) (fun _ h9 => h9) rfl dX8_ban_67 ?_
      refine cg_get hx hb hts iC_Court_ban_X0 hown hK hX 24 v3 hv10 rfl rfl 1 (by decide) (hts (.fieldLink RX8 198 "PassageCourt$Bans" "last" "LPassageCourt$Row;") (by decide +kernel)) (fun _ h9 => h9) rfl dX8_ban_70 ?_
      refine lv_aload hx hb dX8_ban_73 (lv_at hl 1 rfl) ?_
      obtain ⟨_, hv11, h⟩ := mbind h
      replace hv11 := ck_spec hv11
      refine cg_get hx hb hts iC_Court_ban_X1 hown hK hX 4 v1 hv11 rfl rfl 0 (by decide) (hts (.fieldLink RX8 66 "PassageCourt$Land" "number" "I") (by decide +kernel)) (fun _ h9 => h9) rfl dX8_ban_75 ?_
      obtain ⟨r12, er12, h⟩ := mbind h
      refine cg_callV (As := [.int (sI g9 4 v1 0)]) (rest := []) ⟨hx, hb, hml, hown, hts⟩ 12 v3 hv10 (ci := 6) rfl rfl (cC_Row_at l D yI yO z0 ad ⟨by decide, by decide⟩ er12) (cwV 1 hts gX8_ban_X5_at rfl rfl rfl (by decide +kernel) ⟨Nat.le_of_ble_eq_true rfl, Nat.le_of_ble_eq_true rfl⟩) hK hX rfl hl.1 rfl (Nat.le_of_ble_eq_true rfl) dX8_ban_78 ⟨Nat.zero_le _, Nat.zero_le _⟩ (fun H locs hX => ?_)
      cases h
      exact cg_reti hx hb hr hlocks hK hX dX8_ban_81
    · replace h := mneg c6 h
      exact w_C_Court_ban_26 C h hX (lv_sub hl [2] rfl)
set_option maxRecDepth 20000 in
theorem w_X_Court_ban_0 (C : cC p s m args meth c cX8_ban RX8 (some .int) wsX8_ban 6 D yI yO) {Qc : Array Value → State → Outcome → State → Prop} (hlf : l.stackTraces = false) (ht : ∀ x ∈ c.exceptionTable.toList, False) (hxs : xS A s s.heap) (hA : ∀ q, s.heap.size ≤ q → A q) {ez : Nat} {g : CS} {x1 : Int32} {x2 : Int32} {x3 : Int32} (h : fC_Court_ban g x1 x2 x3 = some (.inl ez)) {H : Heap} {locs : List Loc} {ls : Array Slot} (hX : cX D yI yO z0 ad g A s H locs) (hl : lv_has ls 6 [(0, .ref (ad 0 0)), (1, .int x1), (2, .int x2), (3, .int x3)]) : W p l e (xR 7 111) s m args below meth c H locs 0 0 (vx_MQ below Qc (xXC D yI yO z0 ad g ez A) args s 1 6 A) (F0 m 0 ls []) := by
  obtain ⟨hx, hb, hr, hts, hown, hlocks, hml, hK⟩ := id C
  unfold fC_Court_ban at h
  refine lv_aload_n hx hb dX8_ban_0 rfl (lv_at hl 0 rfl) ?_
  refine lv_iload_n hx hb dX8_ban_1 rfl (lv_at hl 1 rfl) ?_
  rcases xb_thr h with et2 | ⟨v1, et2, h⟩
  · exact xg_callV (As := [.int x1]) (rest := []) ⟨hx, hb, hml, hown, hts⟩ 0 0 rfl (ci := 9) rfl rfl (cX_Court_landAt l hlf D yI yO z0 ad H.size et2) (cwV 1 hts gX8_ban_X8_landAt rfl rfl rfl (by decide +kernel) ⟨Nat.le_of_ble_eq_true rfl, Nat.le_of_ble_eq_true rfl⟩) hK hX hA hxs ht hlocks rfl hl.1 rfl (Nat.le_of_ble_eq_true rfl) dX8_ban_2 ⟨Nat.le_refl _, Nat.le_refl _⟩
  refine cg_callVq (As := [.int x1]) (rest := []) ⟨hx, hb, hml, hown, hts⟩ 0 0 rfl (ci := 9) rfl rfl (cC_Court_landAt l D yI yO z0 ad et2) (cwV 1 hts gX8_ban_X8_landAt rfl rfl rfl (by decide +kernel) ⟨Nat.le_of_ble_eq_true rfl, Nat.le_of_ble_eq_true rfl⟩) hK hX rfl hl.1 rfl (Nat.le_of_ble_eq_true rfl) dX8_ban_2 ⟨Nat.zero_le _, Nat.zero_le _⟩ (fun H locs hX => ?_)
  refine W.eq (g2 := F0 m 5 ls [.ref (ad 4 v1)]) rfl ?_
  refine lv_astore (lv' := [(4, .ref (ad 4 v1)), (0, .ref (ad 0 0)), (1, .int x1), (2, .int x2), (3, .int x3)]) hx hb dX8_ban_5 hl (by decide) rfl (fun ls hl => ?_)
  refine lv_aload_n hx hb dX8_ban_7 rfl (lv_at hl 1 rfl) ?_
  refine lv_iload_n hx hb dX8_ban_8 rfl (lv_at hl 3 rfl) ?_
  rcases xb_thr h with et4 | ⟨v3, et4, h⟩
  · exact xg_callV (As := [.int x2]) (rest := []) ⟨hx, hb, hml, hown, hts⟩ 0 0 rfl (ci := 9) rfl rfl (cX_Court_personAt l hlf D yI yO z0 ad H.size et4) (cwV 1 hts gX8_ban_X8_personAt rfl rfl rfl (by decide +kernel) ⟨Nat.le_of_ble_eq_true rfl, Nat.le_of_ble_eq_true rfl⟩) hK hX hA hxs ht hlocks rfl hl.1 rfl (Nat.le_of_ble_eq_true rfl) dX8_ban_9 ⟨Nat.le_refl _, Nat.le_refl _⟩
  refine cg_callVq (As := [.int x2]) (rest := []) ⟨hx, hb, hml, hown, hts⟩ 0 0 rfl (ci := 9) rfl rfl (cC_Court_personAt l D yI yO z0 ad et4) (cwV 1 hts gX8_ban_X8_personAt rfl rfl rfl (by decide +kernel) ⟨Nat.le_of_ble_eq_true rfl, Nat.le_of_ble_eq_true rfl⟩) hK hX rfl hl.1 rfl (Nat.le_of_ble_eq_true rfl) dX8_ban_9 ⟨Nat.zero_le _, Nat.zero_le _⟩ (fun H locs hX => ?_)
  refine W.eq (g2 := F0 m 12 ls [.ref (ad 5 v3)]) rfl ?_
  refine lv_astore (lv' := [(5, .ref (ad 5 v3)), (4, .ref (ad 4 v1)), (0, .ref (ad 0 0)), (1, .int x1), (2, .int x2), (3, .int x3)]) hx hb dX8_ban_12 hl (by decide) rfl (fun ls hl => ?_)
  refine lv_iload_n hx hb dX8_ban_14 rfl (lv_at hl 5 rfl) ?_
  refine lv_iconst (v := 1) hx hb dX8_ban_15 (by decide) ?_
  refine lv_icmp_lt (tgt := 26) hx hb dX8_ban_16 (by decide) (fun c5 => ?_) (fun c5 => ?_)
  · replace h := mpos c5 h
    exact w_X_Court_ban_26 C hlf ht hxs hA h hX (lv_sub hl [2] rfl)
  · replace h := mneg c5 h
    refine lv_iload_n hx hb dX8_ban_19 rfl (lv_at hl 5 rfl) ?_
    refine lv_sipush (v := 720) hx hb dX8_ban_20 (by decide) ?_
    refine lv_icmp_le (tgt := 36) hx hb dX8_ban_23 (by decide) (fun c6 => ?_) (fun c6 => ?_)
    · replace h := mpos c6 h
      refine lv_aload hx hb dX8_ban_36 (lv_at hl 0 rfl) ?_
      obtain ⟨_, hv7, h⟩ := mbind h
      replace hv7 := ck_spec hv7
      refine cg_get hx hb hts iC_Court_ban_X3 hown hK hX 5 v3 hv7 rfl rfl 6 (by decide) (hts (.fieldLink RX8 189 "PassageCourt$Person" "bans" "LPassageCourt$Bans;") (by decide +kernel)) (fun _ h9 => h9) rfl dX8_ban_38 ?_
      refine lv_aload hx hb dX8_ban_41 (lv_at hl 1 rfl) ?_
      obtain ⟨_, hv8, h⟩ := mbind h
      replace hv8 := ck_spec hv8
      refine cg_get hx hb hts iC_Court_ban_X1 hown hK hX 4 v1 hv8 rfl rfl 0 (by decide) (hts (.fieldLink RX8 66 "PassageCourt$Land" "number" "I") (by decide +kernel)) (fun _ h9 => h9) rfl dX8_ban_43 ?_
      refine lv_aload_n hx hb dX8_ban_46 rfl (lv_at hl 2 rfl) ?_
      refine cg_get hx hb hts iC_Court_ban_X8 hown hK hX 0 0 rfl rfl rfl 6 (by decide) (hts (.fieldLink RX8 37 "PassageCourt" "today" "I") (by decide +kernel)) (fun _ h9 => h9) rfl dX8_ban_47 ?_
      refine lv_aload_n hx hb dX8_ban_50 rfl (lv_at hl 2 rfl) ?_
      refine cg_get hx hb hts iC_Court_ban_X8 hown hK hX 0 0 rfl rfl rfl 6 (by decide) (hts (.fieldLink RX8 37 "PassageCourt" "today" "I") (by decide +kernel)) (fun _ h9 => h9) rfl dX8_ban_51 ?_
      refine lv_iload_n hx hb dX8_ban_54 rfl (lv_at hl 5 rfl) ?_
      refine lv_iadd hx hb dX8_ban_55 ?_
      refine lv_iconst (v := 1) hx hb dX8_ban_56 (by decide) ?_
      refine lv_isub hx hb dX8_ban_57 ?_
      refine lv_aload_n hx hb dX8_ban_58 rfl (lv_at hl 2 rfl) ?_
      refine cg_get hx hb hts iC_Court_ban_X8 hown hK hX 0 0 rfl rfl rfl 6 (by decide) (hts (.fieldLink RX8 37 "PassageCourt" "today" "I") (by decide +kernel)) (fun _ h9 => h9) rfl dX8_ban_59 ?_
      obtain ⟨g9, eg9, h⟩ := mbind h
      refine cg_callVv (As := [.int (sI g 4 v1 0), .int (sI g 0 0 6), .int (((sI g 0 0 6) + x3) - 1), .int (sI g 0 0 6)]) (rest := []) ⟨hx, hb, hml, hown, hts⟩ 24 v3 hv7 (ci := 1) rfl rfl (cC_Bans_add l D yI yO z0 ad eg9) (cwV 4 hts gX8_ban_X0_add rfl rfl rfl (by decide +kernel) ⟨Nat.le_of_ble_eq_true rfl, Nat.le_of_ble_eq_true rfl⟩) hK hX rfl hl.1 rfl (Nat.le_of_ble_eq_true rfl) dX8_ban_62 ⟨Nat.zero_le _, Nat.zero_le _⟩ (fun H locs hX => ?_)
      refine lv_aload hx hb dX8_ban_65 (lv_at hl 0 rfl) ?_
      obtain ⟨_, hv10, h⟩ := mbind h
      replace hv10 := ck_spec hv10
      refine cg_get hx hb hts iC_Court_ban_X3 hown hK hX 5 v3 hv10 rfl rfl 6 (by decide) (hts (.fieldLink RX8 189 "PassageCourt$Person" "bans" "LPassageCourt$Bans;") (by decide +kernel)) (fun _ h9 => h9) rfl dX8_ban_67 ?_
      refine cg_get hx hb hts iC_Court_ban_X0 hown hK hX 24 v3 hv10 rfl rfl 1 (by decide) (hts (.fieldLink RX8 198 "PassageCourt$Bans" "last" "LPassageCourt$Row;") (by decide +kernel)) (fun _ h9 => h9) rfl dX8_ban_70 ?_
      refine lv_aload hx hb dX8_ban_73 (lv_at hl 1 rfl) ?_
      obtain ⟨_, hv11, h⟩ := mbind h
      replace hv11 := ck_spec hv11
      refine cg_get hx hb hts iC_Court_ban_X1 hown hK hX 4 v1 hv11 rfl rfl 0 (by decide) (hts (.fieldLink RX8 66 "PassageCourt$Land" "number" "I") (by decide +kernel)) (fun _ h9 => h9) rfl dX8_ban_75 ?_
      obtain ⟨r12, er12, h⟩ := mbind h
      refine cg_callV (As := [.int (sI g9 4 v1 0)]) (rest := []) ⟨hx, hb, hml, hown, hts⟩ 12 v3 hv10 (ci := 6) rfl rfl (cC_Row_at l D yI yO z0 ad ⟨by decide, by decide⟩ er12) (cwV 1 hts gX8_ban_X5_at rfl rfl rfl (by decide +kernel) ⟨Nat.le_of_ble_eq_true rfl, Nat.le_of_ble_eq_true rfl⟩) hK hX rfl hl.1 rfl (Nat.le_of_ble_eq_true rfl) dX8_ban_78 ⟨Nat.zero_le _, Nat.zero_le _⟩ (fun H locs hX => ?_)
      cases h
    · replace h := mneg c6 h
      exact w_X_Court_ban_26 C hlf ht hxs hA h hX (lv_sub hl [2] rfl)
set_option maxRecDepth 20000 in
theorem cC_Court_ban (l : Launch) (D : va_G) (yI yO : ClassId) (z0 : Nat) (ad : Nat → Nat → Nat) {g : CS} {gz : CS} {rz : Int32} {x1 : Int32} {x2 : Int32} {x3 : Int32} (h : fC_Court_ban g x1 x2 x3 = some (.inr (rz, gz))) : Met l yX8_ban wsX8_ban (mR 4 85) (va_Pc [.ref (ad 0 0), .int x1, .int x2, .int x3] (cPre D yI yO z0 ad g)) (cQ D yI yO z0 ad rz gz (cF ad g)) 0 0 (cF ad g) := by
  refine Met.ofW (cc := cX8_ban) (maxL := 6) (ret := (some .int)) (by decide) rfl ?_
  intro p e s m args below meth c s₁ B hml hv
  obtain ⟨hv0, hw, hK⟩ := hv
  have hv1 : args = [.ref (ad 0 0), .int x1, .int x2, .int x3].toArray := hv0
  subst hv1
  have C : cC p s m _ meth c cX8_ban RX8 (some .int) wsX8_ban 6 D yI yO := ⟨B.exec, B.bytes, B.returns, atoms_spec (ws := wsX8_ban) B.pre, findClass_of_methodNamed B.named, B.notSynchronized, hml, hK⟩
  have hl := lv_entry ([.ref (ad 0 0), .int x1, .int x2, .int x3]) (n := 6) (Nat.le_of_ble_eq_true rfl)
  rw [lg_entry_eq]
  generalize (lg_sl ([.ref (ad 0 0), .int x1, .int x2, .int x3]) ++ List.replicate (6 - (lg_sl ([.ref (ad 0 0), .int x1, .int x2, .int x3])).length) Slot.unset).toArray = ls at hl ⊢
  have hl : lv_has ls 6 [(0, .ref (ad 0 0)), (1, .int x1), (2, .int x2), (3, .int x3)] := hl
  exact w_C_Court_ban_0 C h ⟨hw, fun k i hi => ⟨k, i, hi, rfl⟩, va_S.rf⟩ hl
set_option maxRecDepth 20000 in
theorem cX_Court_ban (l : Launch) (hlf : l.stackTraces = false) (D : va_G) (yI yO : ClassId) (z0 : Nat) (ad : Nat → Nat → Nat) {g : CS} {ez : Nat} {x1 : Int32} {x2 : Int32} {x3 : Int32} (sz : Nat) (h : fC_Court_ban g x1 x2 x3 = some (.inl ez)) : vx_Met l yX8_ban wsX8_ban (xR 7 111) (va_Pc [.ref (ad 0 0), .int x1, .int x2, .int x3] (xPre D yI yO z0 ad g sz)) (xQ (cA ad g sz)) (xXC D yI yO z0 ad g ez (cA ad g sz)) 1 6 (cA ad g sz) := by
  refine vx_ofW (cc := cX8_ban) (maxL := 6) (ret := (some .int)) (by decide) rfl ?_
  intro p e s m args below meth c s₁ B hml ht hv
  obtain ⟨hv0, ⟨hw, hK⟩, hsz, hxs⟩ := hv
  subst hsz
  have hv1 : args = [.ref (ad 0 0), .int x1, .int x2, .int x3].toArray := hv0
  subst hv1
  have C : cC p s m _ meth c cX8_ban RX8 (some .int) wsX8_ban 6 D yI yO := ⟨B.exec, B.bytes, B.returns, atoms_spec (ws := wsX8_ban) B.pre, findClass_of_methodNamed B.named, B.notSynchronized, hml, hK⟩
  have hl := lv_entry ([.ref (ad 0 0), .int x1, .int x2, .int x3]) (n := 6) (Nat.le_of_ble_eq_true rfl)
  rw [lg_entry_eq]
  generalize (lg_sl ([.ref (ad 0 0), .int x1, .int x2, .int x3]) ++ List.replicate (6 - (lg_sl ([.ref (ad 0 0), .int x1, .int x2, .int x3])).length) Slot.unset).toArray = ls at hl ⊢
  have hl : lv_has ls 6 [(0, .ref (ad 0 0)), (1, .int x1), (2, .int x2), (3, .int x3)] := hl
  exact w_X_Court_ban_0 C hlf ht hxs (fun q h => Or.inr h) h ⟨hw, fun k i hi => Or.inl ⟨k, i, hi, rfl⟩, va_S.rf⟩ hl
end GX1
