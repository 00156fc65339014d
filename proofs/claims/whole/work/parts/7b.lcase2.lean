set_option maxRecDepth 20000 in
theorem lc_refuse {p : Program} {l : Launch} {e : Env} {s : State} {m : MethodId} {below : List Frame} {meth : Method} {c : Code} {b L : Nat} {xs : Nat → Int32} {D : va_G} {yI yO yL cZ : ClassId} {z0 : Nat} {q : Nat → Nat} {ad : Nat → Nat → Nat} {g : CS} {u : MS} {o : Nat} {f : Nat → Int64} {H : Heap} {locs : List Loc} {cells slots i : Nat} {ls : Array Slot} {g1 : CS} {u1 : MS} {mc ms : Nat} {code9 rb : Int32} {out : Int64} (C0 : lw_At p s m meth c b L xs) (hT : ∀ w ∈ wsL_law, w.before #[Value.ref b] s = true) (hi : i + 7 ≤ L) (hL : L ≤ 3584) (hB : gB z0 (fun a : Nat => s.heap.size ≤ a) s) (hK : gK D yI yO yL cZ s) (hN : gW D yI yO yL cZ z0 q ad g u o f (fun a : Nat => s.heap.size ≤ a) s H locs) (hl : lv_has ls 7 [(0, .ref b), (1, .ref (ad 0 0)), (2, .ref (q 0)), (3, .ref o), (4, .int (nI i))]) (hr1 : cells + mc ≤ 136060 ∧ slots + ms ≤ 8687926) (hM1 : Met l yL_refuse wsL_refuse ({ frames := 8, cells := mc, slots := ms, locals := 133 }) (va_Pc [.ref (ad 0 0), .int (xs (nI i + 1).toNatClampNeg), .ref o] (hPre D yI yO yL z0 ad g o f H.size)) (hQ D yI yO yL z0 ad g1 o f code9 out (hAd ad g H.size o)) mc ms (hAd ad g H.size o)) (hM2 : Met l yX9_refuse wsX9_refuse (mR 3 68) (va_Pc [.ref (q 0), .int (xs (nI i + 1).toNatClampNeg)] (mPre D yI cZ q u)) (mQ D yI cZ q rb u1) 0 0 (mF q)) (hcode : u1 0 0 = code9) (hout : code9 = 0 → out = rb.toInt64) (K : ∀ (ad1 : Nat → Nat → Nat) (f1 : Nat → Int64) (H1 : Heap) (locs1 : List Loc) (ls1 : Array Slot), gW D yI yO yL cZ z0 q ad1 g1 u1 o f1 (fun a : Nat => s.heap.size ≤ a) s H1 locs1 → lv_has ls1 7 [(0, .ref b), (1, .ref (ad1 0 0)), (2, .ref (q 0)), (3, .ref o), (4, .int (nI i))] → W p l e room_1 s m #[Value.ref b] below meth c H1 locs1 (cells + mc) (slots + ms) (lw_Z below #[Value.ref b] s) (F0 m 2544 ls1 [])) : W p l e room_1 s m #[Value.ref b] below meth c H locs (cells) (slots) (lw_Z below #[Value.ref b] s) (F0 m 1500 ls []) := by
  obtain ⟨hx, hb, hr, hml, hown9, -, hX, hbl, hlocks, -⟩ := C0
  have hown : s.vm.findClass RL = some m.cls := hown9
  have hA : ∀ a : Nat, s.heap.size ≤ a → (fun a : Nat => s.heap.size ≤ a) a := fun _ h => h
  have hbA : ¬ (fun a : Nat => s.heap.size ≤ a) b := Nat.not_le.mpr hbl
  have v1 : vp_in (nI i + 1) L := by
    show vp_in (nI i + nI 1) L
    rw [nI_add]
    exact vp_in_nI (by omega) (by omega)
  refine lv_aload_n hx hb dL_law_1500 rfl (lv_at hl 1 rfl) ?_
  refine lv_aload_n hx hb dL_law_1501 rfl (lv_at hl 0 rfl) ?_
  refine lv_iload hx hb dL_law_1502 (lv_at hl 4 rfl) ?_
  refine lv_iconst (v := 1) hx hb dL_law_1504 (by decide) ?_
  refine lv_iadd hx hb dL_law_1505 ?_
  refine va_sld hx hb hX hbl hbA hN.1.2.2 v1 dL_law_1506 ?_
  refine lv_aload_n hx hb dL_law_1507 rfl (lv_at hl 3 rfl) ?_
  refine lh_call (As := [.ref (ad 0 0), .int (xs (nI i + 1).toNatClampNeg), .ref o]) (rest := []) ⟨hx, hb, hml, hown, hT⟩ hM1 (vx_cwSW 3 hT gL_law_L_refuse rfl rfl rfl (by decide +kernel) ⟨Nat.le_of_ble_eq_true rfl, Nat.le_of_ble_eq_true rfl⟩) hB hK hN hA rfl hl.1 rfl (Nat.le_of_ble_eq_true rfl) dL_law_1508 hr1 (fun ad1 f1 H locs had hf1 hN => ?_)
  refine lv_istore (lv' := [(5, .int code9), (0, .ref b), (1, .ref (ad 0 0)), (2, .ref (q 0)), (3, .ref o), (4, .int (nI i))]) hx hb dL_law_1511 hl (by decide) rfl (fun ls hl => ?_)
  refine lv_aload_n hx hb dL_law_1513 rfl (lv_at hl 3 rfl) ?_
  refine lv_aload_n hx hb dL_law_1514 rfl (lv_at hl 1 rfl) ?_
  refine lv_iload hx hb dL_law_1515 (lv_at hl 5 rfl) ?_
  refine lv_iconst (v := 1) hx hb dL_law_1517 (by decide) ?_
  refine lv_iadd hx hb dL_law_1518 ?_
  refine va_sld hx hb hX hbl hbA hN.1.2.2 v1 dL_law_1519 ?_
  refine lr_call (As := [.int (xs (nI i + 1).toNatClampNeg)]) (rest := []) ⟨hx, hb, hml, hown, hT⟩ hM2 (cwV 1 hT gL_law_X9_refuse rfl rfl rfl (by decide +kernel) ⟨Nat.le_of_ble_eq_true rfl, Nat.le_of_ble_eq_true rfl⟩) hK hN rfl hl.1 rfl (Nat.le_of_ble_eq_true rfl) dL_law_1520 hr1 (fun H locs hN => ?_)
  refine lv_istore (lv' := [(6, .int rb), (5, .int code9), (0, .ref b), (1, .ref (ad 0 0)), (2, .ref (q 0)), (3, .ref o), (4, .int (nI i))]) hx hb dL_law_1523 hl (by decide) rfl (fun ls hl => ?_)
  refine lv_aload_n hx hb dL_law_1525 rfl (lv_at hl 4 rfl) ?_
  refine lr_call (As := []) (rest := []) ⟨hx, hb, hml, hown, hT⟩ (cM_thrown l D yI cZ q (u := u1) (rz := u1 0 0) (uz := u1) rfl) (cwV 0 hT gL_law_X9_thrown rfl rfl rfl (by decide +kernel) ⟨Nat.le_of_ble_eq_true rfl, Nat.le_of_ble_eq_true rfl⟩) hK hN rfl hl.1 rfl (Nat.le_of_ble_eq_true rfl) dL_law_1526 hr1 (fun H locs hN => ?_)
  refine lv_iload hx hb dL_law_1529 (lv_at hl 1 rfl) ?_
  refine lv_icmp_eq (tgt := 1536) hx hb dL_law_1531 (by decide) (fun c1 => ?_) (fun c1 => absurd hcode c1)
  refine lv_iload hx hb dL_law_1536 (lv_at hl 1 rfl) ?_
  refine lv_if_ne (tgt := 1553) hx hb dL_law_1538 (by decide) (fun c2 => ?_) (fun c2 => ?_)
  · refine lv_goto (tgt := 2544) hx hb dL_law_1553 (by decide) ?_
    exact K ad1 f1 H locs ls hN (by rw [had]; exact lv_sub hl [2, 3, 4, 5, 6] rfl)
  · refine lv_aload_n hx hb dL_law_1541 rfl (lv_at hl 5 rfl) ?_
    refine lv_iconst (v := 0) hx hb dL_law_1542 (by decide) ?_
    refine lr_long hx hb hK hN hf1 dL_law_1543 ?_
    refine lv_iload hx hb dL_law_1544 (lv_at hl 0 rfl) ?_
    refine lv_i2l (v := rb.toInt64) hx hb dL_law_1546 rfl ?_
    refine W.lcmp hx hb dL_law_1547 ?_
    refine lv_if_eq (tgt := 1553) hx hb dL_law_1548 (by decide) (fun c3 => ?_) (fun c3 => absurd ((lg_cmp_eq _ _).mpr (hout c2)) c3)
    refine lv_goto (tgt := 2544) hx hb dL_law_1553 (by decide) ?_
    exact K ad1 f1 H locs ls hN (by rw [had]; exact lv_sub hl [2, 3, 4, 5, 6] rfl)
set_option maxRecDepth 20000 in
theorem lc_appeal {p : Program} {l : Launch} {e : Env} {s : State} {m : MethodId} {below : List Frame} {meth : Method} {c : Code} {b L : Nat} {xs : Nat → Int32} {D : va_G} {yI yO yL cZ : ClassId} {z0 : Nat} {q : Nat → Nat} {ad : Nat → Nat → Nat} {g : CS} {u : MS} {o : Nat} {f : Nat → Int64} {H : Heap} {locs : List Loc} {cells slots i : Nat} {ls : Array Slot} {g1 : CS} {u1 : MS} {mc ms : Nat} {code9 rb : Int32} {out : Int64} (C0 : lw_At p s m meth c b L xs) (hT : ∀ w ∈ wsL_law, w.before #[Value.ref b] s = true) (hi : i + 7 ≤ L) (hL : L ≤ 3584) (hB : gB z0 (fun a : Nat => s.heap.size ≤ a) s) (hK : gK D yI yO yL cZ s) (hN : gW D yI yO yL cZ z0 q ad g u o f (fun a : Nat => s.heap.size ≤ a) s H locs) (hl : lv_has ls 7 [(0, .ref b), (1, .ref (ad 0 0)), (2, .ref (q 0)), (3, .ref o), (4, .int (nI i))]) (hr1 : cells + mc ≤ 136060 ∧ slots + ms ≤ 8687926) (hM1 : Met l yL_appeal wsL_appeal ({ frames := 8, cells := mc, slots := ms, locals := 133 }) (va_Pc [.ref (ad 0 0), .int (xs (nI i + 1).toNatClampNeg), .ref o] (hPre D yI yO yL z0 ad g o f H.size)) (hQ D yI yO yL z0 ad g1 o f code9 out (hAd ad g H.size o)) mc ms (hAd ad g H.size o)) (hM2 : Met l yX9_appeal wsX9_appeal (mR 3 68) (va_Pc [.ref (q 0), .int (xs (nI i + 1).toNatClampNeg)] (mPre D yI cZ q u)) (mQ D yI cZ q rb u1) 0 0 (mF q)) (hcode : u1 0 0 = code9) (hout : code9 = 0 → out = rb.toInt64) (K : ∀ (ad1 : Nat → Nat → Nat) (f1 : Nat → Int64) (H1 : Heap) (locs1 : List Loc) (ls1 : Array Slot), gW D yI yO yL cZ z0 q ad1 g1 u1 o f1 (fun a : Nat => s.heap.size ≤ a) s H1 locs1 → lv_has ls1 7 [(0, .ref b), (1, .ref (ad1 0 0)), (2, .ref (q 0)), (3, .ref o), (4, .int (nI i))] → W p l e room_1 s m #[Value.ref b] below meth c H1 locs1 (cells + mc) (slots + ms) (lw_Z below #[Value.ref b] s) (F0 m 2544 ls1 [])) : W p l e room_1 s m #[Value.ref b] below meth c H locs (cells) (slots) (lw_Z below #[Value.ref b] s) (F0 m 1556 ls []) := by
  obtain ⟨hx, hb, hr, hml, hown9, -, hX, hbl, hlocks, -⟩ := C0
  have hown : s.vm.findClass RL = some m.cls := hown9
  have hA : ∀ a : Nat, s.heap.size ≤ a → (fun a : Nat => s.heap.size ≤ a) a := fun _ h => h
  have hbA : ¬ (fun a : Nat => s.heap.size ≤ a) b := Nat.not_le.mpr hbl
  have v1 : vp_in (nI i + 1) L := by
    show vp_in (nI i + nI 1) L
    rw [nI_add]
    exact vp_in_nI (by omega) (by omega)
  refine lv_aload_n hx hb dL_law_1556 rfl (lv_at hl 1 rfl) ?_
  refine lv_aload_n hx hb dL_law_1557 rfl (lv_at hl 0 rfl) ?_
  refine lv_iload hx hb dL_law_1558 (lv_at hl 4 rfl) ?_
  refine lv_iconst (v := 1) hx hb dL_law_1560 (by decide) ?_
  refine lv_iadd hx hb dL_law_1561 ?_
  refine va_sld hx hb hX hbl hbA hN.1.2.2 v1 dL_law_1562 ?_
  refine lv_aload_n hx hb dL_law_1563 rfl (lv_at hl 3 rfl) ?_
  refine lh_call (As := [.ref (ad 0 0), .int (xs (nI i + 1).toNatClampNeg), .ref o]) (rest := []) ⟨hx, hb, hml, hown, hT⟩ hM1 (vx_cwSW 3 hT gL_law_L_appeal rfl rfl rfl (by decide +kernel) ⟨Nat.le_of_ble_eq_true rfl, Nat.le_of_ble_eq_true rfl⟩) hB hK hN hA rfl hl.1 rfl (Nat.le_of_ble_eq_true rfl) dL_law_1564 hr1 (fun ad1 f1 H locs had hf1 hN => ?_)
  refine lv_istore (lv' := [(5, .int code9), (0, .ref b), (1, .ref (ad 0 0)), (2, .ref (q 0)), (3, .ref o), (4, .int (nI i))]) hx hb dL_law_1567 hl (by decide) rfl (fun ls hl => ?_)
  refine lv_aload_n hx hb dL_law_1569 rfl (lv_at hl 3 rfl) ?_
  refine lv_aload_n hx hb dL_law_1570 rfl (lv_at hl 1 rfl) ?_
  refine lv_iload hx hb dL_law_1571 (lv_at hl 5 rfl) ?_
  refine lv_iconst (v := 1) hx hb dL_law_1573 (by decide) ?_
  refine lv_iadd hx hb dL_law_1574 ?_
  refine va_sld hx hb hX hbl hbA hN.1.2.2 v1 dL_law_1575 ?_
  refine lr_call (As := [.int (xs (nI i + 1).toNatClampNeg)]) (rest := []) ⟨hx, hb, hml, hown, hT⟩ hM2 (cwV 1 hT gL_law_X9_appeal rfl rfl rfl (by decide +kernel) ⟨Nat.le_of_ble_eq_true rfl, Nat.le_of_ble_eq_true rfl⟩) hK hN rfl hl.1 rfl (Nat.le_of_ble_eq_true rfl) dL_law_1576 hr1 (fun H locs hN => ?_)
  refine lv_istore (lv' := [(6, .int rb), (5, .int code9), (0, .ref b), (1, .ref (ad 0 0)), (2, .ref (q 0)), (3, .ref o), (4, .int (nI i))]) hx hb dL_law_1579 hl (by decide) rfl (fun ls hl => ?_)
  refine lv_aload_n hx hb dL_law_1581 rfl (lv_at hl 4 rfl) ?_
  refine lr_call (As := []) (rest := []) ⟨hx, hb, hml, hown, hT⟩ (cM_thrown l D yI cZ q (u := u1) (rz := u1 0 0) (uz := u1) rfl) (cwV 0 hT gL_law_X9_thrown rfl rfl rfl (by decide +kernel) ⟨Nat.le_of_ble_eq_true rfl, Nat.le_of_ble_eq_true rfl⟩) hK hN rfl hl.1 rfl (Nat.le_of_ble_eq_true rfl) dL_law_1582 hr1 (fun H locs hN => ?_)
  refine lv_iload hx hb dL_law_1585 (lv_at hl 1 rfl) ?_
  refine lv_icmp_eq (tgt := 1592) hx hb dL_law_1587 (by decide) (fun c1 => ?_) (fun c1 => absurd hcode c1)
  refine lv_iload hx hb dL_law_1592 (lv_at hl 1 rfl) ?_
  refine lv_if_ne (tgt := 1609) hx hb dL_law_1594 (by decide) (fun c2 => ?_) (fun c2 => ?_)
  · refine lv_goto (tgt := 2544) hx hb dL_law_1609 (by decide) ?_
    exact K ad1 f1 H locs ls hN (by rw [had]; exact lv_sub hl [2, 3, 4, 5, 6] rfl)
  · refine lv_aload_n hx hb dL_law_1597 rfl (lv_at hl 5 rfl) ?_
    refine lv_iconst (v := 0) hx hb dL_law_1598 (by decide) ?_
    refine lr_long hx hb hK hN hf1 dL_law_1599 ?_
    refine lv_iload hx hb dL_law_1600 (lv_at hl 0 rfl) ?_
    refine lv_i2l (v := rb.toInt64) hx hb dL_law_1602 rfl ?_
    refine W.lcmp hx hb dL_law_1603 ?_
    refine lv_if_eq (tgt := 1609) hx hb dL_law_1604 (by decide) (fun c3 => ?_) (fun c3 => absurd ((lg_cmp_eq _ _).mpr (hout c2)) c3)
    refine lv_goto (tgt := 2544) hx hb dL_law_1609 (by decide) ?_
    exact K ad1 f1 H locs ls hN (by rw [had]; exact lv_sub hl [2, 3, 4, 5, 6] rfl)
set_option maxRecDepth 20000 in
theorem lc_judge {p : Program} {l : Launch} {e : Env} {s : State} {m : MethodId} {below : List Frame} {meth : Method} {c : Code} {b L : Nat} {xs : Nat → Int32} {D : va_G} {yI yO yL cZ : ClassId} {z0 : Nat} {q : Nat → Nat} {ad : Nat → Nat → Nat} {g : CS} {u : MS} {o : Nat} {f : Nat → Int64} {H : Heap} {locs : List Loc} {cells slots i : Nat} {ls : Array Slot} {g1 : CS} {u1 : MS} {mc ms : Nat} {code9 rb : Int32} {out : Int64} (C0 : lw_At p s m meth c b L xs) (hT : ∀ w ∈ wsL_law, w.before #[Value.ref b] s = true) (hi : i + 7 ≤ L) (hL : L ≤ 3584) (hB : gB z0 (fun a : Nat => s.heap.size ≤ a) s) (hK : gK D yI yO yL cZ s) (hN : gW D yI yO yL cZ z0 q ad g u o f (fun a : Nat => s.heap.size ≤ a) s H locs) (hl : lv_has ls 7 [(0, .ref b), (1, .ref (ad 0 0)), (2, .ref (q 0)), (3, .ref o), (4, .int (nI i))]) (hr1 : cells + mc ≤ 136060 ∧ slots + ms ≤ 8687926) (hM1 : Met l yL_judge wsL_judge ({ frames := 8, cells := mc, slots := ms, locals := 134 }) (va_Pc [.ref (ad 0 0), .int (xs (nI i + 1).toNatClampNeg), .int (zB (!decide (xs (nI i + 2).toNatClampNeg = 0))), .ref o] (hPre D yI yO yL z0 ad g o f H.size)) (hQ D yI yO yL z0 ad g1 o f code9 out (hAd ad g H.size o)) mc ms (hAd ad g H.size o)) (hM2 : Met l yX9_judge wsX9_judge (mR 3 68) (va_Pc [.ref (q 0), .int (xs (nI i + 1).toNatClampNeg), .int (zB (!decide (xs (nI i + 2).toNatClampNeg = 0)))] (mPre D yI cZ q u)) (mQ D yI cZ q rb u1) 0 0 (mF q)) (hcode : u1 0 0 = code9) (hout : code9 = 0 → out = rb.toInt64) (K : ∀ (ad1 : Nat → Nat → Nat) (f1 : Nat → Int64) (H1 : Heap) (locs1 : List Loc) (ls1 : Array Slot), gW D yI yO yL cZ z0 q ad1 g1 u1 o f1 (fun a : Nat => s.heap.size ≤ a) s H1 locs1 → lv_has ls1 7 [(0, .ref b), (1, .ref (ad1 0 0)), (2, .ref (q 0)), (3, .ref o), (4, .int (nI i))] → W p l e room_1 s m #[Value.ref b] below meth c H1 locs1 (cells + mc) (slots + ms) (lw_Z below #[Value.ref b] s) (F0 m 2544 ls1 [])) : W p l e room_1 s m #[Value.ref b] below meth c H locs (cells) (slots) (lw_Z below #[Value.ref b] s) (F0 m 1612 ls []) := by
  obtain ⟨hx, hb, hr, hml, hown9, -, hX, hbl, hlocks, -⟩ := C0
  have hown : s.vm.findClass RL = some m.cls := hown9
  have hA : ∀ a : Nat, s.heap.size ≤ a → (fun a : Nat => s.heap.size ≤ a) a := fun _ h => h
  have hbA : ¬ (fun a : Nat => s.heap.size ≤ a) b := Nat.not_le.mpr hbl
  have v1 : vp_in (nI i + 1) L := by
    show vp_in (nI i + nI 1) L
    rw [nI_add]
    exact vp_in_nI (by omega) (by omega)
  have v2 : vp_in (nI i + 2) L := by
    show vp_in (nI i + nI 2) L
    rw [nI_add]
    exact vp_in_nI (by omega) (by omega)
  refine lv_aload_n hx hb dL_law_1612 rfl (lv_at hl 1 rfl) ?_
  refine lv_aload_n hx hb dL_law_1613 rfl (lv_at hl 0 rfl) ?_
  refine lv_iload hx hb dL_law_1614 (lv_at hl 4 rfl) ?_
  refine lv_iconst (v := 1) hx hb dL_law_1616 (by decide) ?_
  refine lv_iadd hx hb dL_law_1617 ?_
  refine va_sld hx hb hX hbl hbA hN.1.2.2 v1 dL_law_1618 ?_
  refine lv_aload_n hx hb dL_law_1619 rfl (lv_at hl 0 rfl) ?_
  refine lv_iload hx hb dL_law_1620 (lv_at hl 4 rfl) ?_
  refine lv_iconst (v := 2) hx hb dL_law_1622 (by decide) ?_
  refine lv_iadd hx hb dL_law_1623 ?_
  refine va_sld hx hb hX hbl hbA hN.1.2.2 v2 dL_law_1624 ?_
  refine lb_bool hx hb dL_law_1625 dL_law_1628 dL_law_1629 dL_law_1632 ?_
  refine lv_aload_n hx hb dL_law_1633 rfl (lv_at hl 3 rfl) ?_
  refine lh_call (As := [.ref (ad 0 0), .int (xs (nI i + 1).toNatClampNeg), .int (zB (!decide (xs (nI i + 2).toNatClampNeg = 0))), .ref o]) (rest := []) ⟨hx, hb, hml, hown, hT⟩ hM1 (vx_cwSW 4 hT gL_law_L_judge rfl rfl rfl (by decide +kernel) ⟨Nat.le_of_ble_eq_true rfl, Nat.le_of_ble_eq_true rfl⟩) hB hK hN hA rfl hl.1 rfl (Nat.le_of_ble_eq_true rfl) dL_law_1634 hr1 (fun ad1 f1 H locs had hf1 hN => ?_)
  refine lv_istore (lv' := [(5, .int code9), (0, .ref b), (1, .ref (ad 0 0)), (2, .ref (q 0)), (3, .ref o), (4, .int (nI i))]) hx hb dL_law_1637 hl (by decide) rfl (fun ls hl => ?_)
  refine lv_aload_n hx hb dL_law_1639 rfl (lv_at hl 3 rfl) ?_
  refine lv_aload_n hx hb dL_law_1640 rfl (lv_at hl 1 rfl) ?_
  refine lv_iload hx hb dL_law_1641 (lv_at hl 5 rfl) ?_
  refine lv_iconst (v := 1) hx hb dL_law_1643 (by decide) ?_
  refine lv_iadd hx hb dL_law_1644 ?_
  refine va_sld hx hb hX hbl hbA hN.1.2.2 v1 dL_law_1645 ?_
  refine lv_aload_n hx hb dL_law_1646 rfl (lv_at hl 1 rfl) ?_
  refine lv_iload hx hb dL_law_1647 (lv_at hl 5 rfl) ?_
  refine lv_iconst (v := 2) hx hb dL_law_1649 (by decide) ?_
  refine lv_iadd hx hb dL_law_1650 ?_
  refine va_sld hx hb hX hbl hbA hN.1.2.2 v2 dL_law_1651 ?_
  refine lb_bool hx hb dL_law_1652 dL_law_1655 dL_law_1656 dL_law_1659 ?_
  refine lr_call (As := [.int (xs (nI i + 1).toNatClampNeg), .int (zB (!decide (xs (nI i + 2).toNatClampNeg = 0)))]) (rest := []) ⟨hx, hb, hml, hown, hT⟩ hM2 (cwV 2 hT gL_law_X9_judge rfl rfl rfl (by decide +kernel) ⟨Nat.le_of_ble_eq_true rfl, Nat.le_of_ble_eq_true rfl⟩) hK hN rfl hl.1 rfl (Nat.le_of_ble_eq_true rfl) dL_law_1660 hr1 (fun H locs hN => ?_)
  refine lv_istore (lv' := [(6, .int rb), (5, .int code9), (0, .ref b), (1, .ref (ad 0 0)), (2, .ref (q 0)), (3, .ref o), (4, .int (nI i))]) hx hb dL_law_1663 hl (by decide) rfl (fun ls hl => ?_)
  refine lv_aload_n hx hb dL_law_1665 rfl (lv_at hl 4 rfl) ?_
  refine lr_call (As := []) (rest := []) ⟨hx, hb, hml, hown, hT⟩ (cM_thrown l D yI cZ q (u := u1) (rz := u1 0 0) (uz := u1) rfl) (cwV 0 hT gL_law_X9_thrown rfl rfl rfl (by decide +kernel) ⟨Nat.le_of_ble_eq_true rfl, Nat.le_of_ble_eq_true rfl⟩) hK hN rfl hl.1 rfl (Nat.le_of_ble_eq_true rfl) dL_law_1666 hr1 (fun H locs hN => ?_)
  refine lv_iload hx hb dL_law_1669 (lv_at hl 1 rfl) ?_
  refine lv_icmp_eq (tgt := 1676) hx hb dL_law_1671 (by decide) (fun c1 => ?_) (fun c1 => absurd hcode c1)
  refine lv_iload hx hb dL_law_1676 (lv_at hl 1 rfl) ?_
  refine lv_if_ne (tgt := 1693) hx hb dL_law_1678 (by decide) (fun c2 => ?_) (fun c2 => ?_)
  · refine lv_goto (tgt := 2544) hx hb dL_law_1693 (by decide) ?_
    exact K ad1 f1 H locs ls hN (by rw [had]; exact lv_sub hl [2, 3, 4, 5, 6] rfl)
  · refine lv_aload_n hx hb dL_law_1681 rfl (lv_at hl 5 rfl) ?_
    refine lv_iconst (v := 0) hx hb dL_law_1682 (by decide) ?_
    refine lr_long hx hb hK hN hf1 dL_law_1683 ?_
    refine lv_iload hx hb dL_law_1684 (lv_at hl 0 rfl) ?_
    refine lv_i2l (v := rb.toInt64) hx hb dL_law_1686 rfl ?_
    refine W.lcmp hx hb dL_law_1687 ?_
    refine lv_if_eq (tgt := 1693) hx hb dL_law_1688 (by decide) (fun c3 => ?_) (fun c3 => absurd ((lg_cmp_eq _ _).mpr (hout c2)) c3)
    refine lv_goto (tgt := 2544) hx hb dL_law_1693 (by decide) ?_
    exact K ad1 f1 H locs ls hN (by rw [had]; exact lv_sub hl [2, 3, 4, 5, 6] rfl)
set_option maxRecDepth 20000 in
theorem lc_withdraw {p : Program} {l : Launch} {e : Env} {s : State} {m : MethodId} {below : List Frame} {meth : Method} {c : Code} {b L : Nat} {xs : Nat → Int32} {D : va_G} {yI yO yL cZ : ClassId} {z0 : Nat} {q : Nat → Nat} {ad : Nat → Nat → Nat} {g : CS} {u : MS} {o : Nat} {f : Nat → Int64} {H : Heap} {locs : List Loc} {cells slots i : Nat} {ls : Array Slot} {g1 : CS} {u1 : MS} {mc ms : Nat} {code9 rb : Int32} {out : Int64} (C0 : lw_At p s m meth c b L xs) (hT : ∀ w ∈ wsL_law, w.before #[Value.ref b] s = true) (hi : i + 7 ≤ L) (hL : L ≤ 3584) (hB : gB z0 (fun a : Nat => s.heap.size ≤ a) s) (hK : gK D yI yO yL cZ s) (hN : gW D yI yO yL cZ z0 q ad g u o f (fun a : Nat => s.heap.size ≤ a) s H locs) (hl : lv_has ls 7 [(0, .ref b), (1, .ref (ad 0 0)), (2, .ref (q 0)), (3, .ref o), (4, .int (nI i))]) (hr1 : cells + mc ≤ 136060 ∧ slots + ms ≤ 8687926) (hM1 : Met l yL_withdraw wsL_withdraw ({ frames := 8, cells := mc, slots := ms, locals := 133 }) (va_Pc [.ref (ad 0 0), .int (xs (nI i + 1).toNatClampNeg), .ref o] (hPre D yI yO yL z0 ad g o f H.size)) (hQ D yI yO yL z0 ad g1 o f code9 out (hAd ad g H.size o)) mc ms (hAd ad g H.size o)) (hM2 : Met l yX9_withdraw wsX9_withdraw (mR 3 68) (va_Pc [.ref (q 0), .int (xs (nI i + 1).toNatClampNeg)] (mPre D yI cZ q u)) (mQ D yI cZ q rb u1) 0 0 (mF q)) (hcode : u1 0 0 = code9) (hout : code9 = 0 → out = rb.toInt64) (K : ∀ (ad1 : Nat → Nat → Nat) (f1 : Nat → Int64) (H1 : Heap) (locs1 : List Loc) (ls1 : Array Slot), gW D yI yO yL cZ z0 q ad1 g1 u1 o f1 (fun a : Nat => s.heap.size ≤ a) s H1 locs1 → lv_has ls1 7 [(0, .ref b), (1, .ref (ad1 0 0)), (2, .ref (q 0)), (3, .ref o), (4, .int (nI i))] → W p l e room_1 s m #[Value.ref b] below meth c H1 locs1 (cells + mc) (slots + ms) (lw_Z below #[Value.ref b] s) (F0 m 2544 ls1 [])) : W p l e room_1 s m #[Value.ref b] below meth c H locs (cells) (slots) (lw_Z below #[Value.ref b] s) (F0 m 1696 ls []) := by
  obtain ⟨hx, hb, hr, hml, hown9, -, hX, hbl, hlocks, -⟩ := C0
  have hown : s.vm.findClass RL = some m.cls := hown9
  have hA : ∀ a : Nat, s.heap.size ≤ a → (fun a : Nat => s.heap.size ≤ a) a := fun _ h => h
  have hbA : ¬ (fun a : Nat => s.heap.size ≤ a) b := Nat.not_le.mpr hbl
  have v1 : vp_in (nI i + 1) L := by
    show vp_in (nI i + nI 1) L
    rw [nI_add]
    exact vp_in_nI (by omega) (by omega)
  refine lv_aload_n hx hb dL_law_1696 rfl (lv_at hl 1 rfl) ?_
  refine lv_aload_n hx hb dL_law_1697 rfl (lv_at hl 0 rfl) ?_
  refine lv_iload hx hb dL_law_1698 (lv_at hl 4 rfl) ?_
  refine lv_iconst (v := 1) hx hb dL_law_1700 (by decide) ?_
  refine lv_iadd hx hb dL_law_1701 ?_
  refine va_sld hx hb hX hbl hbA hN.1.2.2 v1 dL_law_1702 ?_
  refine lv_aload_n hx hb dL_law_1703 rfl (lv_at hl 3 rfl) ?_
  refine lh_call (As := [.ref (ad 0 0), .int (xs (nI i + 1).toNatClampNeg), .ref o]) (rest := []) ⟨hx, hb, hml, hown, hT⟩ hM1 (vx_cwSW 3 hT gL_law_L_withdraw rfl rfl rfl (by decide +kernel) ⟨Nat.le_of_ble_eq_true rfl, Nat.le_of_ble_eq_true rfl⟩) hB hK hN hA rfl hl.1 rfl (Nat.le_of_ble_eq_true rfl) dL_law_1704 hr1 (fun ad1 f1 H locs had hf1 hN => ?_)
  refine lv_istore (lv' := [(5, .int code9), (0, .ref b), (1, .ref (ad 0 0)), (2, .ref (q 0)), (3, .ref o), (4, .int (nI i))]) hx hb dL_law_1707 hl (by decide) rfl (fun ls hl => ?_)
  refine lv_aload_n hx hb dL_law_1709 rfl (lv_at hl 3 rfl) ?_
  refine lv_aload_n hx hb dL_law_1710 rfl (lv_at hl 1 rfl) ?_
  refine lv_iload hx hb dL_law_1711 (lv_at hl 5 rfl) ?_
  refine lv_iconst (v := 1) hx hb dL_law_1713 (by decide) ?_
  refine lv_iadd hx hb dL_law_1714 ?_
  refine va_sld hx hb hX hbl hbA hN.1.2.2 v1 dL_law_1715 ?_
  refine lr_call (As := [.int (xs (nI i + 1).toNatClampNeg)]) (rest := []) ⟨hx, hb, hml, hown, hT⟩ hM2 (cwV 1 hT gL_law_X9_withdraw rfl rfl rfl (by decide +kernel) ⟨Nat.le_of_ble_eq_true rfl, Nat.le_of_ble_eq_true rfl⟩) hK hN rfl hl.1 rfl (Nat.le_of_ble_eq_true rfl) dL_law_1716 hr1 (fun H locs hN => ?_)
  refine lv_istore (lv' := [(6, .int rb), (5, .int code9), (0, .ref b), (1, .ref (ad 0 0)), (2, .ref (q 0)), (3, .ref o), (4, .int (nI i))]) hx hb dL_law_1719 hl (by decide) rfl (fun ls hl => ?_)
  refine lv_aload_n hx hb dL_law_1721 rfl (lv_at hl 4 rfl) ?_
  refine lr_call (As := []) (rest := []) ⟨hx, hb, hml, hown, hT⟩ (cM_thrown l D yI cZ q (u := u1) (rz := u1 0 0) (uz := u1) rfl) (cwV 0 hT gL_law_X9_thrown rfl rfl rfl (by decide +kernel) ⟨Nat.le_of_ble_eq_true rfl, Nat.le_of_ble_eq_true rfl⟩) hK hN rfl hl.1 rfl (Nat.le_of_ble_eq_true rfl) dL_law_1722 hr1 (fun H locs hN => ?_)
  refine lv_iload hx hb dL_law_1725 (lv_at hl 1 rfl) ?_
  refine lv_icmp_eq (tgt := 1732) hx hb dL_law_1727 (by decide) (fun c1 => ?_) (fun c1 => absurd hcode c1)
  refine lv_iload hx hb dL_law_1732 (lv_at hl 1 rfl) ?_
  refine lv_if_ne (tgt := 1749) hx hb dL_law_1734 (by decide) (fun c2 => ?_) (fun c2 => ?_)
  · refine lv_goto (tgt := 2544) hx hb dL_law_1749 (by decide) ?_
    exact K ad1 f1 H locs ls hN (by rw [had]; exact lv_sub hl [2, 3, 4, 5, 6] rfl)
  · refine lv_aload_n hx hb dL_law_1737 rfl (lv_at hl 5 rfl) ?_
    refine lv_iconst (v := 0) hx hb dL_law_1738 (by decide) ?_
    refine lr_long hx hb hK hN hf1 dL_law_1739 ?_
    refine lv_iload hx hb dL_law_1740 (lv_at hl 0 rfl) ?_
    refine lv_i2l (v := rb.toInt64) hx hb dL_law_1742 rfl ?_
    refine W.lcmp hx hb dL_law_1743 ?_
    refine lv_if_eq (tgt := 1749) hx hb dL_law_1744 (by decide) (fun c3 => ?_) (fun c3 => absurd ((lg_cmp_eq _ _).mpr (hout c2)) c3)
    refine lv_goto (tgt := 2544) hx hb dL_law_1749 (by decide) ?_
    exact K ad1 f1 H locs ls hN (by rw [had]; exact lv_sub hl [2, 3, 4, 5, 6] rfl)
set_option maxRecDepth 20000 in
theorem lc_extend {p : Program} {l : Launch} {e : Env} {s : State} {m : MethodId} {below : List Frame} {meth : Method} {c : Code} {b L : Nat} {xs : Nat → Int32} {D : va_G} {yI yO yL cZ : ClassId} {z0 : Nat} {q : Nat → Nat} {ad : Nat → Nat → Nat} {g : CS} {u : MS} {o : Nat} {f : Nat → Int64} {H : Heap} {locs : List Loc} {cells slots i : Nat} {ls : Array Slot} {g1 : CS} {u1 : MS} {mc ms : Nat} {code9 rb : Int32} {out : Int64} (C0 : lw_At p s m meth c b L xs) (hT : ∀ w ∈ wsL_law, w.before #[Value.ref b] s = true) (hi : i + 7 ≤ L) (hL : L ≤ 3584) (hB : gB z0 (fun a : Nat => s.heap.size ≤ a) s) (hK : gK D yI yO yL cZ s) (hN : gW D yI yO yL cZ z0 q ad g u o f (fun a : Nat => s.heap.size ≤ a) s H locs) (hl : lv_has ls 7 [(0, .ref b), (1, .ref (ad 0 0)), (2, .ref (q 0)), (3, .ref o), (4, .int (nI i))]) (hr1 : cells + mc ≤ 136060 ∧ slots + ms ≤ 8687926) (hM1 : Met l yL_extend wsL_extend ({ frames := 8, cells := mc, slots := ms, locals := 135 }) (va_Pc [.ref (ad 0 0), .int (xs (nI i + 1).toNatClampNeg), .int (xs (nI i + 2).toNatClampNeg), .ref o] (hPre D yI yO yL z0 ad g o f H.size)) (hQ D yI yO yL z0 ad g1 o f code9 out (hAd ad g H.size o)) mc ms (hAd ad g H.size o)) (hM2 : Met l yX9_extend wsX9_extend (mR 2 43) (va_Pc [.ref (q 0), .int (xs (nI i + 1).toNatClampNeg), .int (xs (nI i + 2).toNatClampNeg)] (mPre D yI cZ q u)) (mQ D yI cZ q rb u1) 0 0 (mF q)) (hcode : u1 0 0 = code9) (hout : code9 = 0 → out = rb.toInt64) (K : ∀ (ad1 : Nat → Nat → Nat) (f1 : Nat → Int64) (H1 : Heap) (locs1 : List Loc) (ls1 : Array Slot), gW D yI yO yL cZ z0 q ad1 g1 u1 o f1 (fun a : Nat => s.heap.size ≤ a) s H1 locs1 → lv_has ls1 7 [(0, .ref b), (1, .ref (ad1 0 0)), (2, .ref (q 0)), (3, .ref o), (4, .int (nI i))] → W p l e room_1 s m #[Value.ref b] below meth c H1 locs1 (cells + mc) (slots + ms) (lw_Z below #[Value.ref b] s) (F0 m 2544 ls1 [])) : W p l e room_1 s m #[Value.ref b] below meth c H locs (cells) (slots) (lw_Z below #[Value.ref b] s) (F0 m 1752 ls []) := by
  obtain ⟨hx, hb, hr, hml, hown9, -, hX, hbl, hlocks, -⟩ := C0
  have hown : s.vm.findClass RL = some m.cls := hown9
  have hA : ∀ a : Nat, s.heap.size ≤ a → (fun a : Nat => s.heap.size ≤ a) a := fun _ h => h
  have hbA : ¬ (fun a : Nat => s.heap.size ≤ a) b := Nat.not_le.mpr hbl
  have v1 : vp_in (nI i + 1) L := by
    show vp_in (nI i + nI 1) L
    rw [nI_add]
    exact vp_in_nI (by omega) (by omega)
  have v2 : vp_in (nI i + 2) L := by
    show vp_in (nI i + nI 2) L
    rw [nI_add]
    exact vp_in_nI (by omega) (by omega)
  refine lv_aload_n hx hb dL_law_1752 rfl (lv_at hl 1 rfl) ?_
  refine lv_aload_n hx hb dL_law_1753 rfl (lv_at hl 0 rfl) ?_
  refine lv_iload hx hb dL_law_1754 (lv_at hl 4 rfl) ?_
  refine lv_iconst (v := 1) hx hb dL_law_1756 (by decide) ?_
  refine lv_iadd hx hb dL_law_1757 ?_
  refine va_sld hx hb hX hbl hbA hN.1.2.2 v1 dL_law_1758 ?_
  refine lv_aload_n hx hb dL_law_1759 rfl (lv_at hl 0 rfl) ?_
  refine lv_iload hx hb dL_law_1760 (lv_at hl 4 rfl) ?_
  refine lv_iconst (v := 2) hx hb dL_law_1762 (by decide) ?_
  refine lv_iadd hx hb dL_law_1763 ?_
  refine va_sld hx hb hX hbl hbA hN.1.2.2 v2 dL_law_1764 ?_
  refine lv_aload_n hx hb dL_law_1765 rfl (lv_at hl 3 rfl) ?_
  refine lh_call (As := [.ref (ad 0 0), .int (xs (nI i + 1).toNatClampNeg), .int (xs (nI i + 2).toNatClampNeg), .ref o]) (rest := []) ⟨hx, hb, hml, hown, hT⟩ hM1 (vx_cwSW 4 hT gL_law_L_extend rfl rfl rfl (by decide +kernel) ⟨Nat.le_of_ble_eq_true rfl, Nat.le_of_ble_eq_true rfl⟩) hB hK hN hA rfl hl.1 rfl (Nat.le_of_ble_eq_true rfl) dL_law_1766 hr1 (fun ad1 f1 H locs had hf1 hN => ?_)
  refine lv_istore (lv' := [(5, .int code9), (0, .ref b), (1, .ref (ad 0 0)), (2, .ref (q 0)), (3, .ref o), (4, .int (nI i))]) hx hb dL_law_1769 hl (by decide) rfl (fun ls hl => ?_)
  refine lv_aload_n hx hb dL_law_1771 rfl (lv_at hl 3 rfl) ?_
  refine lv_aload_n hx hb dL_law_1772 rfl (lv_at hl 1 rfl) ?_
  refine lv_iload hx hb dL_law_1773 (lv_at hl 5 rfl) ?_
  refine lv_iconst (v := 1) hx hb dL_law_1775 (by decide) ?_
  refine lv_iadd hx hb dL_law_1776 ?_
  refine va_sld hx hb hX hbl hbA hN.1.2.2 v1 dL_law_1777 ?_
  refine lv_aload_n hx hb dL_law_1778 rfl (lv_at hl 1 rfl) ?_
  refine lv_iload hx hb dL_law_1779 (lv_at hl 5 rfl) ?_
  refine lv_iconst (v := 2) hx hb dL_law_1781 (by decide) ?_
  refine lv_iadd hx hb dL_law_1782 ?_
  refine va_sld hx hb hX hbl hbA hN.1.2.2 v2 dL_law_1783 ?_
  refine lr_call (As := [.int (xs (nI i + 1).toNatClampNeg), .int (xs (nI i + 2).toNatClampNeg)]) (rest := []) ⟨hx, hb, hml, hown, hT⟩ hM2 (cwV 2 hT gL_law_X9_extend rfl rfl rfl (by decide +kernel) ⟨Nat.le_of_ble_eq_true rfl, Nat.le_of_ble_eq_true rfl⟩) hK hN rfl hl.1 rfl (Nat.le_of_ble_eq_true rfl) dL_law_1784 hr1 (fun H locs hN => ?_)
  refine lv_istore (lv' := [(6, .int rb), (5, .int code9), (0, .ref b), (1, .ref (ad 0 0)), (2, .ref (q 0)), (3, .ref o), (4, .int (nI i))]) hx hb dL_law_1787 hl (by decide) rfl (fun ls hl => ?_)
  refine lv_aload_n hx hb dL_law_1789 rfl (lv_at hl 4 rfl) ?_
  refine lr_call (As := []) (rest := []) ⟨hx, hb, hml, hown, hT⟩ (cM_thrown l D yI cZ q (u := u1) (rz := u1 0 0) (uz := u1) rfl) (cwV 0 hT gL_law_X9_thrown rfl rfl rfl (by decide +kernel) ⟨Nat.le_of_ble_eq_true rfl, Nat.le_of_ble_eq_true rfl⟩) hK hN rfl hl.1 rfl (Nat.le_of_ble_eq_true rfl) dL_law_1790 hr1 (fun H locs hN => ?_)
  refine lv_iload hx hb dL_law_1793 (lv_at hl 1 rfl) ?_
  refine lv_icmp_eq (tgt := 1800) hx hb dL_law_1795 (by decide) (fun c1 => ?_) (fun c1 => absurd hcode c1)
  refine lv_iload hx hb dL_law_1800 (lv_at hl 1 rfl) ?_
  refine lv_if_ne (tgt := 1817) hx hb dL_law_1802 (by decide) (fun c2 => ?_) (fun c2 => ?_)
  · refine lv_goto (tgt := 2544) hx hb dL_law_1817 (by decide) ?_
    exact K ad1 f1 H locs ls hN (by rw [had]; exact lv_sub hl [2, 3, 4, 5, 6] rfl)
  · refine lv_aload_n hx hb dL_law_1805 rfl (lv_at hl 5 rfl) ?_
    refine lv_iconst (v := 0) hx hb dL_law_1806 (by decide) ?_
    refine lr_long hx hb hK hN hf1 dL_law_1807 ?_
    refine lv_iload hx hb dL_law_1808 (lv_at hl 0 rfl) ?_
    refine lv_i2l (v := rb.toInt64) hx hb dL_law_1810 rfl ?_
    refine W.lcmp hx hb dL_law_1811 ?_
    refine lv_if_eq (tgt := 1817) hx hb dL_law_1812 (by decide) (fun c3 => ?_) (fun c3 => absurd ((lg_cmp_eq _ _).mpr (hout c2)) c3)
    refine lv_goto (tgt := 2544) hx hb dL_law_1817 (by decide) ?_
    exact K ad1 f1 H locs ls hN (by rw [had]; exact lv_sub hl [2, 3, 4, 5, 6] rfl)
set_option maxRecDepth 20000 in
theorem lc_oath {p : Program} {l : Launch} {e : Env} {s : State} {m : MethodId} {below : List Frame} {meth : Method} {c : Code} {b L : Nat} {xs : Nat → Int32} {D : va_G} {yI yO yL cZ : ClassId} {z0 : Nat} {q : Nat → Nat} {ad : Nat → Nat → Nat} {g : CS} {u : MS} {o : Nat} {f : Nat → Int64} {H : Heap} {locs : List Loc} {cells slots i : Nat} {ls : Array Slot} {g1 : CS} {u1 : MS} {mc ms : Nat} {code9 rb : Int32} {out : Int64} (C0 : lw_At p s m meth c b L xs) (hT : ∀ w ∈ wsL_law, w.before #[Value.ref b] s = true) (hi : i + 7 ≤ L) (hL : L ≤ 3584) (hB : gB z0 (fun a : Nat => s.heap.size ≤ a) s) (hK : gK D yI yO yL cZ s) (hN : gW D yI yO yL cZ z0 q ad g u o f (fun a : Nat => s.heap.size ≤ a) s H locs) (hl : lv_has ls 7 [(0, .ref b), (1, .ref (ad 0 0)), (2, .ref (q 0)), (3, .ref o), (4, .int (nI i))]) (hr1 : cells + mc ≤ 136060 ∧ slots + ms ≤ 8687926) (hM1 : Met l yL_oath wsL_oath ({ frames := 8, cells := mc, slots := ms, locals := 135 }) (va_Pc [.ref (ad 0 0), .int (xs (nI i + 1).toNatClampNeg), .int (xs (nI i + 2).toNatClampNeg), .ref o] (hPre D yI yO yL z0 ad g o f H.size)) (hQ D yI yO yL z0 ad g1 o f code9 out (hAd ad g H.size o)) mc ms (hAd ad g H.size o)) (hM2 : Met l yX9_oath wsX9_oath (mR 2 43) (va_Pc [.ref (q 0), .int (xs (nI i + 1).toNatClampNeg), .int (xs (nI i + 2).toNatClampNeg)] (mPre D yI cZ q u)) (mQ D yI cZ q rb u1) 0 0 (mF q)) (hcode : u1 0 0 = code9) (hout : code9 = 0 → out = rb.toInt64) (K : ∀ (ad1 : Nat → Nat → Nat) (f1 : Nat → Int64) (H1 : Heap) (locs1 : List Loc) (ls1 : Array Slot), gW D yI yO yL cZ z0 q ad1 g1 u1 o f1 (fun a : Nat => s.heap.size ≤ a) s H1 locs1 → lv_has ls1 7 [(0, .ref b), (1, .ref (ad1 0 0)), (2, .ref (q 0)), (3, .ref o), (4, .int (nI i))] → W p l e room_1 s m #[Value.ref b] below meth c H1 locs1 (cells + mc) (slots + ms) (lw_Z below #[Value.ref b] s) (F0 m 2544 ls1 [])) : W p l e room_1 s m #[Value.ref b] below meth c H locs (cells) (slots) (lw_Z below #[Value.ref b] s) (F0 m 1820 ls []) := by
  obtain ⟨hx, hb, hr, hml, hown9, -, hX, hbl, hlocks, -⟩ := C0
  have hown : s.vm.findClass RL = some m.cls := hown9
  have hA : ∀ a : Nat, s.heap.size ≤ a → (fun a : Nat => s.heap.size ≤ a) a := fun _ h => h
  have hbA : ¬ (fun a : Nat => s.heap.size ≤ a) b := Nat.not_le.mpr hbl
  have v1 : vp_in (nI i + 1) L := by
    show vp_in (nI i + nI 1) L
    rw [nI_add]
    exact vp_in_nI (by omega) (by omega)
  have v2 : vp_in (nI i + 2) L := by
    show vp_in (nI i + nI 2) L
    rw [nI_add]
    exact vp_in_nI (by omega) (by omega)
  refine lv_aload_n hx hb dL_law_1820 rfl (lv_at hl 1 rfl) ?_
  refine lv_aload_n hx hb dL_law_1821 rfl (lv_at hl 0 rfl) ?_
  refine lv_iload hx hb dL_law_1822 (lv_at hl 4 rfl) ?_
  refine lv_iconst (v := 1) hx hb dL_law_1824 (by decide) ?_
  refine lv_iadd hx hb dL_law_1825 ?_
  refine va_sld hx hb hX hbl hbA hN.1.2.2 v1 dL_law_1826 ?_
  refine lv_aload_n hx hb dL_law_1827 rfl (lv_at hl 0 rfl) ?_
  refine lv_iload hx hb dL_law_1828 (lv_at hl 4 rfl) ?_
  refine lv_iconst (v := 2) hx hb dL_law_1830 (by decide) ?_
  refine lv_iadd hx hb dL_law_1831 ?_
  refine va_sld hx hb hX hbl hbA hN.1.2.2 v2 dL_law_1832 ?_
  refine lv_aload_n hx hb dL_law_1833 rfl (lv_at hl 3 rfl) ?_
  refine lh_call (As := [.ref (ad 0 0), .int (xs (nI i + 1).toNatClampNeg), .int (xs (nI i + 2).toNatClampNeg), .ref o]) (rest := []) ⟨hx, hb, hml, hown, hT⟩ hM1 (vx_cwSW 4 hT gL_law_L_oath rfl rfl rfl (by decide +kernel) ⟨Nat.le_of_ble_eq_true rfl, Nat.le_of_ble_eq_true rfl⟩) hB hK hN hA rfl hl.1 rfl (Nat.le_of_ble_eq_true rfl) dL_law_1834 hr1 (fun ad1 f1 H locs had hf1 hN => ?_)
  refine lv_istore (lv' := [(5, .int code9), (0, .ref b), (1, .ref (ad 0 0)), (2, .ref (q 0)), (3, .ref o), (4, .int (nI i))]) hx hb dL_law_1837 hl (by decide) rfl (fun ls hl => ?_)
  refine lv_aload_n hx hb dL_law_1839 rfl (lv_at hl 3 rfl) ?_
  refine lv_aload_n hx hb dL_law_1840 rfl (lv_at hl 1 rfl) ?_
  refine lv_iload hx hb dL_law_1841 (lv_at hl 5 rfl) ?_
  refine lv_iconst (v := 1) hx hb dL_law_1843 (by decide) ?_
  refine lv_iadd hx hb dL_law_1844 ?_
  refine va_sld hx hb hX hbl hbA hN.1.2.2 v1 dL_law_1845 ?_
  refine lv_aload_n hx hb dL_law_1846 rfl (lv_at hl 1 rfl) ?_
  refine lv_iload hx hb dL_law_1847 (lv_at hl 5 rfl) ?_
  refine lv_iconst (v := 2) hx hb dL_law_1849 (by decide) ?_
  refine lv_iadd hx hb dL_law_1850 ?_
  refine va_sld hx hb hX hbl hbA hN.1.2.2 v2 dL_law_1851 ?_
  refine lr_call (As := [.int (xs (nI i + 1).toNatClampNeg), .int (xs (nI i + 2).toNatClampNeg)]) (rest := []) ⟨hx, hb, hml, hown, hT⟩ hM2 (cwV 2 hT gL_law_X9_oath rfl rfl rfl (by decide +kernel) ⟨Nat.le_of_ble_eq_true rfl, Nat.le_of_ble_eq_true rfl⟩) hK hN rfl hl.1 rfl (Nat.le_of_ble_eq_true rfl) dL_law_1852 hr1 (fun H locs hN => ?_)
  refine lv_istore (lv' := [(6, .int rb), (5, .int code9), (0, .ref b), (1, .ref (ad 0 0)), (2, .ref (q 0)), (3, .ref o), (4, .int (nI i))]) hx hb dL_law_1855 hl (by decide) rfl (fun ls hl => ?_)
  refine lv_aload_n hx hb dL_law_1857 rfl (lv_at hl 4 rfl) ?_
  refine lr_call (As := []) (rest := []) ⟨hx, hb, hml, hown, hT⟩ (cM_thrown l D yI cZ q (u := u1) (rz := u1 0 0) (uz := u1) rfl) (cwV 0 hT gL_law_X9_thrown rfl rfl rfl (by decide +kernel) ⟨Nat.le_of_ble_eq_true rfl, Nat.le_of_ble_eq_true rfl⟩) hK hN rfl hl.1 rfl (Nat.le_of_ble_eq_true rfl) dL_law_1858 hr1 (fun H locs hN => ?_)
  refine lv_iload hx hb dL_law_1861 (lv_at hl 1 rfl) ?_
  refine lv_icmp_eq (tgt := 1868) hx hb dL_law_1863 (by decide) (fun c1 => ?_) (fun c1 => absurd hcode c1)
  refine lv_iload hx hb dL_law_1868 (lv_at hl 1 rfl) ?_
  refine lv_if_ne (tgt := 1885) hx hb dL_law_1870 (by decide) (fun c2 => ?_) (fun c2 => ?_)
  · refine lv_goto (tgt := 2544) hx hb dL_law_1885 (by decide) ?_
    exact K ad1 f1 H locs ls hN (by rw [had]; exact lv_sub hl [2, 3, 4, 5, 6] rfl)
  · refine lv_aload_n hx hb dL_law_1873 rfl (lv_at hl 5 rfl) ?_
    refine lv_iconst (v := 0) hx hb dL_law_1874 (by decide) ?_
    refine lr_long hx hb hK hN hf1 dL_law_1875 ?_
    refine lv_iload hx hb dL_law_1876 (lv_at hl 0 rfl) ?_
    refine lv_i2l (v := rb.toInt64) hx hb dL_law_1878 rfl ?_
    refine W.lcmp hx hb dL_law_1879 ?_
    refine lv_if_eq (tgt := 1885) hx hb dL_law_1880 (by decide) (fun c3 => ?_) (fun c3 => absurd ((lg_cmp_eq _ _).mpr (hout c2)) c3)
    refine lv_goto (tgt := 2544) hx hb dL_law_1885 (by decide) ?_
    exact K ad1 f1 H locs ls hN (by rw [had]; exact lv_sub hl [2, 3, 4, 5, 6] rfl)
set_option maxRecDepth 20000 in
theorem lc_pass {p : Program} {l : Launch} {e : Env} {s : State} {m : MethodId} {below : List Frame} {meth : Method} {c : Code} {b L : Nat} {xs : Nat → Int32} {D : va_G} {yI yO yL cZ : ClassId} {z0 : Nat} {q : Nat → Nat} {ad : Nat → Nat → Nat} {g : CS} {u : MS} {o : Nat} {f : Nat → Int64} {H : Heap} {locs : List Loc} {cells slots i : Nat} {ls : Array Slot} {g1 : CS} {u1 : MS} {mc ms : Nat} {code9 rb : Int32} {out : Int64} (C0 : lw_At p s m meth c b L xs) (hT : ∀ w ∈ wsL_law, w.before #[Value.ref b] s = true) (hi : i + 7 ≤ L) (hL : L ≤ 3584) (hB : gB z0 (fun a : Nat => s.heap.size ≤ a) s) (hK : gK D yI yO yL cZ s) (hN : gW D yI yO yL cZ z0 q ad g u o f (fun a : Nat => s.heap.size ≤ a) s H locs) (hl : lv_has ls 7 [(0, .ref b), (1, .ref (ad 0 0)), (2, .ref (q 0)), (3, .ref o), (4, .int (nI i))]) (hr1 : cells + mc ≤ 136060 ∧ slots + ms ≤ 8687926) (hM1 : Met l yL_pass wsL_pass ({ frames := 9, cells := mc, slots := ms, locals := 200 }) (va_Pc [.ref (ad 0 0), .int (xs (nI i + 1).toNatClampNeg), .ref o] (hPre D yI yO yL z0 ad g o f H.size)) (hQ D yI yO yL z0 ad g1 o f code9 out (hAd ad g H.size o)) mc ms (hAd ad g H.size o)) (hM2 : Met l yX9_pass wsX9_pass (mR 6 140) (va_Pc [.ref (q 0), .int (xs (nI i + 1).toNatClampNeg)] (mPre D yI cZ q u)) (mQ D yI cZ q rb u1) 0 0 (mF q)) (hcode : u1 0 0 = code9) (hout : code9 = 0 → out = rb.toInt64) (K : ∀ (ad1 : Nat → Nat → Nat) (f1 : Nat → Int64) (H1 : Heap) (locs1 : List Loc) (ls1 : Array Slot), gW D yI yO yL cZ z0 q ad1 g1 u1 o f1 (fun a : Nat => s.heap.size ≤ a) s H1 locs1 → lv_has ls1 7 [(0, .ref b), (1, .ref (ad1 0 0)), (2, .ref (q 0)), (3, .ref o), (4, .int (nI i))] → W p l e room_1 s m #[Value.ref b] below meth c H1 locs1 (cells + mc) (slots + ms) (lw_Z below #[Value.ref b] s) (F0 m 2544 ls1 [])) : W p l e room_1 s m #[Value.ref b] below meth c H locs (cells) (slots) (lw_Z below #[Value.ref b] s) (F0 m 1888 ls []) := by
  obtain ⟨hx, hb, hr, hml, hown9, -, hX, hbl, hlocks, -⟩ := C0
  have hown : s.vm.findClass RL = some m.cls := hown9
  have hA : ∀ a : Nat, s.heap.size ≤ a → (fun a : Nat => s.heap.size ≤ a) a := fun _ h => h
  have hbA : ¬ (fun a : Nat => s.heap.size ≤ a) b := Nat.not_le.mpr hbl
  have v1 : vp_in (nI i + 1) L := by
    show vp_in (nI i + nI 1) L
    rw [nI_add]
    exact vp_in_nI (by omega) (by omega)
  refine lv_aload_n hx hb dL_law_1888 rfl (lv_at hl 1 rfl) ?_
  refine lv_aload_n hx hb dL_law_1889 rfl (lv_at hl 0 rfl) ?_
  refine lv_iload hx hb dL_law_1890 (lv_at hl 4 rfl) ?_
  refine lv_iconst (v := 1) hx hb dL_law_1892 (by decide) ?_
  refine lv_iadd hx hb dL_law_1893 ?_
  refine va_sld hx hb hX hbl hbA hN.1.2.2 v1 dL_law_1894 ?_
  refine lv_aload_n hx hb dL_law_1895 rfl (lv_at hl 3 rfl) ?_
  refine lh_call (As := [.ref (ad 0 0), .int (xs (nI i + 1).toNatClampNeg), .ref o]) (rest := []) ⟨hx, hb, hml, hown, hT⟩ hM1 (vx_cwSW 3 hT gL_law_L_pass rfl rfl rfl (by decide +kernel) ⟨Nat.le_of_ble_eq_true rfl, Nat.le_of_ble_eq_true rfl⟩) hB hK hN hA rfl hl.1 rfl (Nat.le_of_ble_eq_true rfl) dL_law_1896 hr1 (fun ad1 f1 H locs had hf1 hN => ?_)
  refine lv_istore (lv' := [(5, .int code9), (0, .ref b), (1, .ref (ad 0 0)), (2, .ref (q 0)), (3, .ref o), (4, .int (nI i))]) hx hb dL_law_1899 hl (by decide) rfl (fun ls hl => ?_)
  refine lv_aload_n hx hb dL_law_1901 rfl (lv_at hl 3 rfl) ?_
  refine lv_aload_n hx hb dL_law_1902 rfl (lv_at hl 1 rfl) ?_
  refine lv_iload hx hb dL_law_1903 (lv_at hl 5 rfl) ?_
  refine lv_iconst (v := 1) hx hb dL_law_1905 (by decide) ?_
  refine lv_iadd hx hb dL_law_1906 ?_
  refine va_sld hx hb hX hbl hbA hN.1.2.2 v1 dL_law_1907 ?_
  refine lr_call (As := [.int (xs (nI i + 1).toNatClampNeg)]) (rest := []) ⟨hx, hb, hml, hown, hT⟩ hM2 (cwV 1 hT gL_law_X9_pass rfl rfl rfl (by decide +kernel) ⟨Nat.le_of_ble_eq_true rfl, Nat.le_of_ble_eq_true rfl⟩) hK hN rfl hl.1 rfl (Nat.le_of_ble_eq_true rfl) dL_law_1908 hr1 (fun H locs hN => ?_)
  refine lv_istore (lv' := [(6, .int rb), (5, .int code9), (0, .ref b), (1, .ref (ad 0 0)), (2, .ref (q 0)), (3, .ref o), (4, .int (nI i))]) hx hb dL_law_1911 hl (by decide) rfl (fun ls hl => ?_)
  refine lv_aload_n hx hb dL_law_1913 rfl (lv_at hl 4 rfl) ?_
  refine lr_call (As := []) (rest := []) ⟨hx, hb, hml, hown, hT⟩ (cM_thrown l D yI cZ q (u := u1) (rz := u1 0 0) (uz := u1) rfl) (cwV 0 hT gL_law_X9_thrown rfl rfl rfl (by decide +kernel) ⟨Nat.le_of_ble_eq_true rfl, Nat.le_of_ble_eq_true rfl⟩) hK hN rfl hl.1 rfl (Nat.le_of_ble_eq_true rfl) dL_law_1914 hr1 (fun H locs hN => ?_)
  refine lv_iload hx hb dL_law_1917 (lv_at hl 1 rfl) ?_
  refine lv_icmp_eq (tgt := 1924) hx hb dL_law_1919 (by decide) (fun c1 => ?_) (fun c1 => absurd hcode c1)
  refine lv_iload hx hb dL_law_1924 (lv_at hl 1 rfl) ?_
  refine lv_if_ne (tgt := 1941) hx hb dL_law_1926 (by decide) (fun c2 => ?_) (fun c2 => ?_)
  · refine lv_goto (tgt := 2544) hx hb dL_law_1941 (by decide) ?_
    exact K ad1 f1 H locs ls hN (by rw [had]; exact lv_sub hl [2, 3, 4, 5, 6] rfl)
  · refine lv_aload_n hx hb dL_law_1929 rfl (lv_at hl 5 rfl) ?_
    refine lv_iconst (v := 0) hx hb dL_law_1930 (by decide) ?_
    refine lr_long hx hb hK hN hf1 dL_law_1931 ?_
    refine lv_iload hx hb dL_law_1932 (lv_at hl 0 rfl) ?_
    refine lv_i2l (v := rb.toInt64) hx hb dL_law_1934 rfl ?_
    refine W.lcmp hx hb dL_law_1935 ?_
    refine lv_if_eq (tgt := 1941) hx hb dL_law_1936 (by decide) (fun c3 => ?_) (fun c3 => absurd ((lg_cmp_eq _ _).mpr (hout c2)) c3)
    refine lv_goto (tgt := 2544) hx hb dL_law_1941 (by decide) ?_
    exact K ad1 f1 H locs ls hN (by rw [had]; exact lv_sub hl [2, 3, 4, 5, 6] rfl)
set_option maxRecDepth 20000 in
theorem lc_status {p : Program} {l : Launch} {e : Env} {s : State} {m : MethodId} {below : List Frame} {meth : Method} {c : Code} {b L : Nat} {xs : Nat → Int32} {D : va_G} {yI yO yL cZ : ClassId} {z0 : Nat} {q : Nat → Nat} {ad : Nat → Nat → Nat} {g : CS} {u : MS} {o : Nat} {f : Nat → Int64} {H : Heap} {locs : List Loc} {cells slots i : Nat} {ls : Array Slot} {g1 : CS} {u1 : MS} {mc ms : Nat} {code9 rb : Int32} {out : Int64} (C0 : lw_At p s m meth c b L xs) (hT : ∀ w ∈ wsL_law, w.before #[Value.ref b] s = true) (hi : i + 7 ≤ L) (hL : L ≤ 3584) (hB : gB z0 (fun a : Nat => s.heap.size ≤ a) s) (hK : gK D yI yO yL cZ s) (hN : gW D yI yO yL cZ z0 q ad g u o f (fun a : Nat => s.heap.size ≤ a) s H locs) (hl : lv_has ls 7 [(0, .ref b), (1, .ref (ad 0 0)), (2, .ref (q 0)), (3, .ref o), (4, .int (nI i))]) (hr1 : cells + mc ≤ 136060 ∧ slots + ms ≤ 8687926) (hM1 : Met l yL_status wsL_status ({ frames := 8, cells := mc, slots := ms, locals := 132 }) (va_Pc [.ref (ad 0 0), .int (xs (nI i + 1).toNatClampNeg), .ref o] (hPre D yI yO yL z0 ad g o f H.size)) (hQ D yI yO yL z0 ad g1 o f code9 out (hAd ad g H.size o)) mc ms (hAd ad g H.size o)) (hM2 : Met l yX9_status wsX9_status (mR 2 43) (va_Pc [.ref (q 0), .int (xs (nI i + 1).toNatClampNeg)] (mPre D yI cZ q u)) (mQ D yI cZ q rb u1) 0 0 (mF q)) (hcode : u1 0 0 = code9) (hout : code9 = 0 → out = rb.toInt64) (K : ∀ (ad1 : Nat → Nat → Nat) (f1 : Nat → Int64) (H1 : Heap) (locs1 : List Loc) (ls1 : Array Slot), gW D yI yO yL cZ z0 q ad1 g1 u1 o f1 (fun a : Nat => s.heap.size ≤ a) s H1 locs1 → lv_has ls1 7 [(0, .ref b), (1, .ref (ad1 0 0)), (2, .ref (q 0)), (3, .ref o), (4, .int (nI i))] → W p l e room_1 s m #[Value.ref b] below meth c H1 locs1 (cells + mc) (slots + ms) (lw_Z below #[Value.ref b] s) (F0 m 2544 ls1 [])) : W p l e room_1 s m #[Value.ref b] below meth c H locs (cells) (slots) (lw_Z below #[Value.ref b] s) (F0 m 1944 ls []) := by
  obtain ⟨hx, hb, hr, hml, hown9, -, hX, hbl, hlocks, -⟩ := C0
  have hown : s.vm.findClass RL = some m.cls := hown9
  have hA : ∀ a : Nat, s.heap.size ≤ a → (fun a : Nat => s.heap.size ≤ a) a := fun _ h => h
  have hbA : ¬ (fun a : Nat => s.heap.size ≤ a) b := Nat.not_le.mpr hbl
  have v1 : vp_in (nI i + 1) L := by
    show vp_in (nI i + nI 1) L
    rw [nI_add]
    exact vp_in_nI (by omega) (by omega)
  refine lv_aload_n hx hb dL_law_1944 rfl (lv_at hl 1 rfl) ?_
  refine lv_aload_n hx hb dL_law_1945 rfl (lv_at hl 0 rfl) ?_
  refine lv_iload hx hb dL_law_1946 (lv_at hl 4 rfl) ?_
  refine lv_iconst (v := 1) hx hb dL_law_1948 (by decide) ?_
  refine lv_iadd hx hb dL_law_1949 ?_
  refine va_sld hx hb hX hbl hbA hN.1.2.2 v1 dL_law_1950 ?_
  refine lv_aload_n hx hb dL_law_1951 rfl (lv_at hl 3 rfl) ?_
  refine lh_call (As := [.ref (ad 0 0), .int (xs (nI i + 1).toNatClampNeg), .ref o]) (rest := []) ⟨hx, hb, hml, hown, hT⟩ hM1 (vx_cwSW 3 hT gL_law_L_status rfl rfl rfl (by decide +kernel) ⟨Nat.le_of_ble_eq_true rfl, Nat.le_of_ble_eq_true rfl⟩) hB hK hN hA rfl hl.1 rfl (Nat.le_of_ble_eq_true rfl) dL_law_1952 hr1 (fun ad1 f1 H locs had hf1 hN => ?_)
  refine lv_istore (lv' := [(5, .int code9), (0, .ref b), (1, .ref (ad 0 0)), (2, .ref (q 0)), (3, .ref o), (4, .int (nI i))]) hx hb dL_law_1955 hl (by decide) rfl (fun ls hl => ?_)
  refine lv_aload_n hx hb dL_law_1957 rfl (lv_at hl 3 rfl) ?_
  refine lv_aload_n hx hb dL_law_1958 rfl (lv_at hl 1 rfl) ?_
  refine lv_iload hx hb dL_law_1959 (lv_at hl 5 rfl) ?_
  refine lv_iconst (v := 1) hx hb dL_law_1961 (by decide) ?_
  refine lv_iadd hx hb dL_law_1962 ?_
  refine va_sld hx hb hX hbl hbA hN.1.2.2 v1 dL_law_1963 ?_
  refine lr_call (As := [.int (xs (nI i + 1).toNatClampNeg)]) (rest := []) ⟨hx, hb, hml, hown, hT⟩ hM2 (cwV 1 hT gL_law_X9_status rfl rfl rfl (by decide +kernel) ⟨Nat.le_of_ble_eq_true rfl, Nat.le_of_ble_eq_true rfl⟩) hK hN rfl hl.1 rfl (Nat.le_of_ble_eq_true rfl) dL_law_1964 hr1 (fun H locs hN => ?_)
  refine lv_istore (lv' := [(6, .int rb), (5, .int code9), (0, .ref b), (1, .ref (ad 0 0)), (2, .ref (q 0)), (3, .ref o), (4, .int (nI i))]) hx hb dL_law_1967 hl (by decide) rfl (fun ls hl => ?_)
  refine lv_aload_n hx hb dL_law_1969 rfl (lv_at hl 4 rfl) ?_
  refine lr_call (As := []) (rest := []) ⟨hx, hb, hml, hown, hT⟩ (cM_thrown l D yI cZ q (u := u1) (rz := u1 0 0) (uz := u1) rfl) (cwV 0 hT gL_law_X9_thrown rfl rfl rfl (by decide +kernel) ⟨Nat.le_of_ble_eq_true rfl, Nat.le_of_ble_eq_true rfl⟩) hK hN rfl hl.1 rfl (Nat.le_of_ble_eq_true rfl) dL_law_1970 hr1 (fun H locs hN => ?_)
  refine lv_iload hx hb dL_law_1973 (lv_at hl 1 rfl) ?_
  refine lv_icmp_eq (tgt := 1980) hx hb dL_law_1975 (by decide) (fun c1 => ?_) (fun c1 => absurd hcode c1)
  refine lv_iload hx hb dL_law_1980 (lv_at hl 1 rfl) ?_
  refine lv_if_ne (tgt := 1997) hx hb dL_law_1982 (by decide) (fun c2 => ?_) (fun c2 => ?_)
  · refine lv_goto (tgt := 2544) hx hb dL_law_1997 (by decide) ?_
    exact K ad1 f1 H locs ls hN (by rw [had]; exact lv_sub hl [2, 3, 4, 5, 6] rfl)
  · refine lv_aload_n hx hb dL_law_1985 rfl (lv_at hl 5 rfl) ?_
    refine lv_iconst (v := 0) hx hb dL_law_1986 (by decide) ?_
    refine lr_long hx hb hK hN hf1 dL_law_1987 ?_
    refine lv_iload hx hb dL_law_1988 (lv_at hl 0 rfl) ?_
    refine lv_i2l (v := rb.toInt64) hx hb dL_law_1990 rfl ?_
    refine W.lcmp hx hb dL_law_1991 ?_
    refine lv_if_eq (tgt := 1997) hx hb dL_law_1992 (by decide) (fun c3 => ?_) (fun c3 => absurd ((lg_cmp_eq _ _).mpr (hout c2)) c3)
    refine lv_goto (tgt := 2544) hx hb dL_law_1997 (by decide) ?_
    exact K ad1 f1 H locs ls hN (by rw [had]; exact lv_sub hl [2, 3, 4, 5, 6] rfl)
