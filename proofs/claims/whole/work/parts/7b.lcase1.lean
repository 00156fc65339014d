set_option maxRecDepth 20000 in
theorem lc_slip {p : Program} {l : Launch} {e : Env} {s : State} {m : MethodId} {below : List Frame} {meth : Method} {c : Code} {b L : Nat} {xs : Nat → Int32} {D : va_G} {yI yO yL cZ : ClassId} {z0 : Nat} {q : Nat → Nat} {ad : Nat → Nat → Nat} {g : CS} {u : MS} {o : Nat} {f : Nat → Int64} {H : Heap} {locs : List Loc} {cells slots i : Nat} {ls : Array Slot} {g1 : CS} {u1 : MS} {mc ms : Nat} {code9 rb : Int32} {out : Int64} (C0 : lw_At p s m meth c b L xs) (hT : ∀ w ∈ wsL_law, w.before #[Value.ref b] s = true) (hi : i + 7 ≤ L) (hL : L ≤ 3584) (hB : gB z0 (fun a : Nat => s.heap.size ≤ a) s) (hK : gK D yI yO yL cZ s) (hN : gW D yI yO yL cZ z0 q ad g u o f (fun a : Nat => s.heap.size ≤ a) s H locs) (hl : lv_has ls 7 [(0, .ref b), (1, .ref (ad 0 0)), (2, .ref (q 0)), (3, .ref o), (4, .int (nI i))]) (hr1 : cells + mc ≤ 136060 ∧ slots + ms ≤ 8687926) (hM1 : Met l yL_slip wsL_slip ({ frames := 9, cells := mc, slots := ms, locals := 205 }) (va_Pc [.ref (ad 0 0), .int (xs (nI i + 1).toNatClampNeg), .int (xs (nI i + 2).toNatClampNeg), .ref o] (hPre D yI yO yL z0 ad g o f H.size)) (hQ D yI yO yL z0 ad g1 o f code9 out (hAd ad g H.size o)) mc ms (hAd ad g H.size o)) (hM2 : Met l yX9_slip wsX9_slip (mR 6 142) (va_Pc [.ref (q 0), .int (xs (nI i + 1).toNatClampNeg), .int (xs (nI i + 2).toNatClampNeg)] (mPre D yI cZ q u)) (mQ D yI cZ q rb u1) 0 0 (mF q)) (hcode : u1 0 0 = code9) (hout : code9 = 0 → out = rb.toInt64) (K : ∀ (ad1 : Nat → Nat → Nat) (f1 : Nat → Int64) (H1 : Heap) (locs1 : List Loc) (ls1 : Array Slot), gW D yI yO yL cZ z0 q ad1 g1 u1 o f1 (fun a : Nat => s.heap.size ≤ a) s H1 locs1 → lv_has ls1 7 [(0, .ref b), (1, .ref (ad1 0 0)), (2, .ref (q 0)), (3, .ref o), (4, .int (nI i))] → W p l e room_1 s m #[Value.ref b] below meth c H1 locs1 (cells + mc) (slots + ms) (lw_Z below #[Value.ref b] s) (F0 m 2544 ls1 [])) : W p l e room_1 s m #[Value.ref b] below meth c H locs (cells) (slots) (lw_Z below #[Value.ref b] s) (F0 m 925 ls []) := by
  obtain ⟨hx, hb, hr, hml, hown9, -, hX, hbl, hlocks, -⟩ := C0
  have hown : s.vm.findClass RL = some m.cls := hown9
  have hA : ∀ a : Nat, s.heap.size ≤ a → (fun a : Nat => s.heap.size ≤ a) a := fun _ h => h
  have hbA : ¬ (fun a : Nat => s.heap.size ≤ a) b := Nat.not_le.mpr hbl
  have v1 : vp_in (nI i + 1) L := by
    show vp_in (nI i + nI 1) L
    rw [nI_add]
    exact vp_in_nI (by omega) (by omega)
  have v2 : vp_in (nI i + 2) L := by
    show vp_in (nI i + nI 2) L
    rw [nI_add]
    exact vp_in_nI (by omega) (by omega)
  refine lv_aload_n hx hb dL_law_925 rfl (lv_at hl 1 rfl) ?_
  refine lv_aload_n hx hb dL_law_926 rfl (lv_at hl 0 rfl) ?_
  refine lv_iload hx hb dL_law_927 (lv_at hl 4 rfl) ?_
  refine lv_iconst (v := 1) hx hb dL_law_929 (by decide) ?_
  refine lv_iadd hx hb dL_law_930 ?_
  refine va_sld hx hb hX hbl hbA hN.1.2.2 v1 dL_law_931 ?_
  refine lv_aload_n hx hb dL_law_932 rfl (lv_at hl 0 rfl) ?_
  refine lv_iload hx hb dL_law_933 (lv_at hl 4 rfl) ?_
  refine lv_iconst (v := 2) hx hb dL_law_935 (by decide) ?_
  refine lv_iadd hx hb dL_law_936 ?_
  refine va_sld hx hb hX hbl hbA hN.1.2.2 v2 dL_law_937 ?_
  refine lv_aload_n hx hb dL_law_938 rfl (lv_at hl 3 rfl) ?_
  refine lh_call (As := [.ref (ad 0 0), .int (xs (nI i + 1).toNatClampNeg), .int (xs (nI i + 2).toNatClampNeg), .ref o]) (rest := []) ⟨hx, hb, hml, hown, hT⟩ hM1 (vx_cwSW 4 hT gL_law_L_slip rfl rfl rfl (by decide +kernel) ⟨Nat.le_of_ble_eq_true rfl, Nat.le_of_ble_eq_true rfl⟩) hB hK hN hA rfl hl.1 rfl (Nat.le_of_ble_eq_true rfl) dL_law_939 hr1 (fun ad1 f1 H locs had hf1 hN => ?_)
  refine lv_istore (lv' := [(5, .int code9), (0, .ref b), (1, .ref (ad 0 0)), (2, .ref (q 0)), (3, .ref o), (4, .int (nI i))]) hx hb dL_law_942 hl (by decide) rfl (fun ls hl => ?_)
  refine lv_aload_n hx hb dL_law_944 rfl (lv_at hl 3 rfl) ?_
  refine lv_aload_n hx hb dL_law_945 rfl (lv_at hl 1 rfl) ?_
  refine lv_iload hx hb dL_law_946 (lv_at hl 5 rfl) ?_
  refine lv_iconst (v := 1) hx hb dL_law_948 (by decide) ?_
  refine lv_iadd hx hb dL_law_949 ?_
  refine va_sld hx hb hX hbl hbA hN.1.2.2 v1 dL_law_950 ?_
  refine lv_aload_n hx hb dL_law_951 rfl (lv_at hl 1 rfl) ?_
  refine lv_iload hx hb dL_law_952 (lv_at hl 5 rfl) ?_
  refine lv_iconst (v := 2) hx hb dL_law_954 (by decide) ?_
  refine lv_iadd hx hb dL_law_955 ?_
  refine va_sld hx hb hX hbl hbA hN.1.2.2 v2 dL_law_956 ?_
  refine lr_call (As := [.int (xs (nI i + 1).toNatClampNeg), .int (xs (nI i + 2).toNatClampNeg)]) (rest := []) ⟨hx, hb, hml, hown, hT⟩ hM2 (cwV 2 hT gL_law_X9_slip rfl rfl rfl (by decide +kernel) ⟨Nat.le_of_ble_eq_true rfl, Nat.le_of_ble_eq_true rfl⟩) hK hN rfl hl.1 rfl (Nat.le_of_ble_eq_true rfl) dL_law_957 hr1 (fun H locs hN => ?_)
  refine lv_istore (lv' := [(6, .int rb), (5, .int code9), (0, .ref b), (1, .ref (ad 0 0)), (2, .ref (q 0)), (3, .ref o), (4, .int (nI i))]) hx hb dL_law_960 hl (by decide) rfl (fun ls hl => ?_)
  refine lv_aload_n hx hb dL_law_962 rfl (lv_at hl 4 rfl) ?_
  refine lr_call (As := []) (rest := []) ⟨hx, hb, hml, hown, hT⟩ (cM_thrown l D yI cZ q (u := u1) (rz := u1 0 0) (uz := u1) rfl) (cwV 0 hT gL_law_X9_thrown rfl rfl rfl (by decide +kernel) ⟨Nat.le_of_ble_eq_true rfl, Nat.le_of_ble_eq_true rfl⟩) hK hN rfl hl.1 rfl (Nat.le_of_ble_eq_true rfl) dL_law_963 hr1 (fun H locs hN => ?_)
  refine lv_iload hx hb dL_law_966 (lv_at hl 1 rfl) ?_
  refine lv_icmp_eq (tgt := 973) hx hb dL_law_968 (by decide) (fun c1 => ?_) (fun c1 => absurd hcode c1)
  refine lv_iload hx hb dL_law_973 (lv_at hl 1 rfl) ?_
  refine lv_if_ne (tgt := 990) hx hb dL_law_975 (by decide) (fun c2 => ?_) (fun c2 => ?_)
  · refine lv_goto (tgt := 2544) hx hb dL_law_990 (by decide) ?_
    exact K ad1 f1 H locs ls hN (by rw [had]; exact lv_sub hl [2, 3, 4, 5, 6] rfl)
  · refine lv_aload_n hx hb dL_law_978 rfl (lv_at hl 5 rfl) ?_
    refine lv_iconst (v := 0) hx hb dL_law_979 (by decide) ?_
    refine lr_long hx hb hK hN hf1 dL_law_980 ?_
    refine lv_iload hx hb dL_law_981 (lv_at hl 0 rfl) ?_
    refine lv_i2l (v := rb.toInt64) hx hb dL_law_983 rfl ?_
    refine W.lcmp hx hb dL_law_984 ?_
    refine lv_if_eq (tgt := 990) hx hb dL_law_985 (by decide) (fun c3 => ?_) (fun c3 => absurd ((lg_cmp_eq _ _).mpr (hout c2)) c3)
    refine lv_goto (tgt := 2544) hx hb dL_law_990 (by decide) ?_
    exact K ad1 f1 H locs ls hN (by rw [had]; exact lv_sub hl [2, 3, 4, 5, 6] rfl)
set_option maxRecDepth 20000 in
theorem lc_move {p : Program} {l : Launch} {e : Env} {s : State} {m : MethodId} {below : List Frame} {meth : Method} {c : Code} {b L : Nat} {xs : Nat → Int32} {D : va_G} {yI yO yL cZ : ClassId} {z0 : Nat} {q : Nat → Nat} {ad : Nat → Nat → Nat} {g : CS} {u : MS} {o : Nat} {f : Nat → Int64} {H : Heap} {locs : List Loc} {cells slots i : Nat} {ls : Array Slot} {g1 : CS} {u1 : MS} {mc ms : Nat} {code9 rb : Int32} {out : Int64} (C0 : lw_At p s m meth c b L xs) (hT : ∀ w ∈ wsL_law, w.before #[Value.ref b] s = true) (hi : i + 7 ≤ L) (hL : L ≤ 3584) (hB : gB z0 (fun a : Nat => s.heap.size ≤ a) s) (hK : gK D yI yO yL cZ s) (hN : gW D yI yO yL cZ z0 q ad g u o f (fun a : Nat => s.heap.size ≤ a) s H locs) (hl : lv_has ls 7 [(0, .ref b), (1, .ref (ad 0 0)), (2, .ref (q 0)), (3, .ref o), (4, .int (nI i))]) (hr1 : cells + mc ≤ 136060 ∧ slots + ms ≤ 8687926) (hM1 : Met l yL_move wsL_move ({ frames := 8, cells := mc, slots := ms, locals := 182 }) (va_Pc [.ref (ad 0 0), .int (xs (nI i + 1).toNatClampNeg), .int (xs (nI i + 2).toNatClampNeg), .ref o] (hPre D yI yO yL z0 ad g o f H.size)) (hQ D yI yO yL z0 ad g1 o f code9 out (hAd ad g H.size o)) mc ms (hAd ad g H.size o)) (hM2 : Met l yX9_move wsX9_move (mR 5 118) (va_Pc [.ref (q 0), .int (xs (nI i + 1).toNatClampNeg), .int (xs (nI i + 2).toNatClampNeg)] (mPre D yI cZ q u)) (mQ D yI cZ q rb u1) 0 0 (mF q)) (hcode : u1 0 0 = code9) (hout : code9 = 0 → out = rb.toInt64) (K : ∀ (ad1 : Nat → Nat → Nat) (f1 : Nat → Int64) (H1 : Heap) (locs1 : List Loc) (ls1 : Array Slot), gW D yI yO yL cZ z0 q ad1 g1 u1 o f1 (fun a : Nat => s.heap.size ≤ a) s H1 locs1 → lv_has ls1 7 [(0, .ref b), (1, .ref (ad1 0 0)), (2, .ref (q 0)), (3, .ref o), (4, .int (nI i))] → W p l e room_1 s m #[Value.ref b] below meth c H1 locs1 (cells + mc) (slots + ms) (lw_Z below #[Value.ref b] s) (F0 m 2544 ls1 [])) : W p l e room_1 s m #[Value.ref b] below meth c H locs (cells) (slots) (lw_Z below #[Value.ref b] s) (F0 m 993 ls []) := by
  obtain ⟨hx, hb, hr, hml, hown9, -, hX, hbl, hlocks, -⟩ := C0
  have hown : s.vm.findClass RL = some m.cls := hown9
  have hA : ∀ a : Nat, s.heap.size ≤ a → (fun a : Nat => s.heap.size ≤ a) a := fun _ h => h
  have hbA : ¬ (fun a : Nat => s.heap.size ≤ a) b := Nat.not_le.mpr hbl
  have v1 : vp_in (nI i + 1) L := by
    show vp_in (nI i + nI 1) L
    rw [nI_add]
    exact vp_in_nI (by omega) (by omega)
  have v2 : vp_in (nI i + 2) L := by
    show vp_in (nI i + nI 2) L
    rw [nI_add]
    exact vp_in_nI (by omega) (by omega)
  refine lv_aload_n hx hb dL_law_993 rfl (lv_at hl 1 rfl) ?_
  refine lv_aload_n hx hb dL_law_994 rfl (lv_at hl 0 rfl) ?_
  refine lv_iload hx hb dL_law_995 (lv_at hl 4 rfl) ?_
  refine lv_iconst (v := 1) hx hb dL_law_997 (by decide) ?_
  refine lv_iadd hx hb dL_law_998 ?_
  refine va_sld hx hb hX hbl hbA hN.1.2.2 v1 dL_law_999 ?_
  refine lv_aload_n hx hb dL_law_1000 rfl (lv_at hl 0 rfl) ?_
  refine lv_iload hx hb dL_law_1001 (lv_at hl 4 rfl) ?_
  refine lv_iconst (v := 2) hx hb dL_law_1003 (by decide) ?_
  refine lv_iadd hx hb dL_law_1004 ?_
  refine va_sld hx hb hX hbl hbA hN.1.2.2 v2 dL_law_1005 ?_
  refine lv_aload_n hx hb dL_law_1006 rfl (lv_at hl 3 rfl) ?_
  refine lh_call (As := [.ref (ad 0 0), .int (xs (nI i + 1).toNatClampNeg), .int (xs (nI i + 2).toNatClampNeg), .ref o]) (rest := []) ⟨hx, hb, hml, hown, hT⟩ hM1 (vx_cwSW 4 hT gL_law_L_move rfl rfl rfl (by decide +kernel) ⟨Nat.le_of_ble_eq_true rfl, Nat.le_of_ble_eq_true rfl⟩) hB hK hN hA rfl hl.1 rfl (Nat.le_of_ble_eq_true rfl) dL_law_1007 hr1 (fun ad1 f1 H locs had hf1 hN => ?_)
  refine lv_istore (lv' := [(5, .int code9), (0, .ref b), (1, .ref (ad 0 0)), (2, .ref (q 0)), (3, .ref o), (4, .int (nI i))]) hx hb dL_law_1010 hl (by decide) rfl (fun ls hl => ?_)
  refine lv_aload_n hx hb dL_law_1012 rfl (lv_at hl 3 rfl) ?_
  refine lv_aload_n hx hb dL_law_1013 rfl (lv_at hl 1 rfl) ?_
  refine lv_iload hx hb dL_law_1014 (lv_at hl 5 rfl) ?_
  refine lv_iconst (v := 1) hx hb dL_law_1016 (by decide) ?_
  refine lv_iadd hx hb dL_law_1017 ?_
  refine va_sld hx hb hX hbl hbA hN.1.2.2 v1 dL_law_1018 ?_
  refine lv_aload_n hx hb dL_law_1019 rfl (lv_at hl 1 rfl) ?_
  refine lv_iload hx hb dL_law_1020 (lv_at hl 5 rfl) ?_
  refine lv_iconst (v := 2) hx hb dL_law_1022 (by decide) ?_
  refine lv_iadd hx hb dL_law_1023 ?_
  refine va_sld hx hb hX hbl hbA hN.1.2.2 v2 dL_law_1024 ?_
  refine lr_call (As := [.int (xs (nI i + 1).toNatClampNeg), .int (xs (nI i + 2).toNatClampNeg)]) (rest := []) ⟨hx, hb, hml, hown, hT⟩ hM2 (cwV 2 hT gL_law_X9_move rfl rfl rfl (by decide +kernel) ⟨Nat.le_of_ble_eq_true rfl, Nat.le_of_ble_eq_true rfl⟩) hK hN rfl hl.1 rfl (Nat.le_of_ble_eq_true rfl) dL_law_1025 hr1 (fun H locs hN => ?_)
  refine lv_istore (lv' := [(6, .int rb), (5, .int code9), (0, .ref b), (1, .ref (ad 0 0)), (2, .ref (q 0)), (3, .ref o), (4, .int (nI i))]) hx hb dL_law_1028 hl (by decide) rfl (fun ls hl => ?_)
  refine lv_aload_n hx hb dL_law_1030 rfl (lv_at hl 4 rfl) ?_
  refine lr_call (As := []) (rest := []) ⟨hx, hb, hml, hown, hT⟩ (cM_thrown l D yI cZ q (u := u1) (rz := u1 0 0) (uz := u1) rfl) (cwV 0 hT gL_law_X9_thrown rfl rfl rfl (by decide +kernel) ⟨Nat.le_of_ble_eq_true rfl, Nat.le_of_ble_eq_true rfl⟩) hK hN rfl hl.1 rfl (Nat.le_of_ble_eq_true rfl) dL_law_1031 hr1 (fun H locs hN => ?_)
  refine lv_iload hx hb dL_law_1034 (lv_at hl 1 rfl) ?_
  refine lv_icmp_eq (tgt := 1041) hx hb dL_law_1036 (by decide) (fun c1 => ?_) (fun c1 => absurd hcode c1)
  refine lv_iload hx hb dL_law_1041 (lv_at hl 1 rfl) ?_
  refine lv_if_ne (tgt := 1058) hx hb dL_law_1043 (by decide) (fun c2 => ?_) (fun c2 => ?_)
  · refine lv_goto (tgt := 2544) hx hb dL_law_1058 (by decide) ?_
    exact K ad1 f1 H locs ls hN (by rw [had]; exact lv_sub hl [2, 3, 4, 5, 6] rfl)
  · refine lv_aload_n hx hb dL_law_1046 rfl (lv_at hl 5 rfl) ?_
    refine lv_iconst (v := 0) hx hb dL_law_1047 (by decide) ?_
    refine lr_long hx hb hK hN hf1 dL_law_1048 ?_
    refine lv_iload hx hb dL_law_1049 (lv_at hl 0 rfl) ?_
    refine lv_i2l (v := rb.toInt64) hx hb dL_law_1051 rfl ?_
    refine W.lcmp hx hb dL_law_1052 ?_
    refine lv_if_eq (tgt := 1058) hx hb dL_law_1053 (by decide) (fun c3 => ?_) (fun c3 => absurd ((lg_cmp_eq _ _).mpr (hout c2)) c3)
    refine lv_goto (tgt := 2544) hx hb dL_law_1058 (by decide) ?_
    exact K ad1 f1 H locs ls hN (by rw [had]; exact lv_sub hl [2, 3, 4, 5, 6] rfl)
set_option maxRecDepth 20000 in
theorem lc_leave {p : Program} {l : Launch} {e : Env} {s : State} {m : MethodId} {below : List Frame} {meth : Method} {c : Code} {b L : Nat} {xs : Nat → Int32} {D : va_G} {yI yO yL cZ : ClassId} {z0 : Nat} {q : Nat → Nat} {ad : Nat → Nat → Nat} {g : CS} {u : MS} {o : Nat} {f : Nat → Int64} {H : Heap} {locs : List Loc} {cells slots i : Nat} {ls : Array Slot} {g1 : CS} {u1 : MS} {mc ms : Nat} {code9 rb : Int32} {out : Int64} (C0 : lw_At p s m meth c b L xs) (hT : ∀ w ∈ wsL_law, w.before #[Value.ref b] s = true) (hi : i + 7 ≤ L) (hL : L ≤ 3584) (hB : gB z0 (fun a : Nat => s.heap.size ≤ a) s) (hK : gK D yI yO yL cZ s) (hN : gW D yI yO yL cZ z0 q ad g u o f (fun a : Nat => s.heap.size ≤ a) s H locs) (hl : lv_has ls 7 [(0, .ref b), (1, .ref (ad 0 0)), (2, .ref (q 0)), (3, .ref o), (4, .int (nI i))]) (hr1 : cells + mc ≤ 136060 ∧ slots + ms ≤ 8687926) (hM1 : Met l yL_leave wsL_leave ({ frames := 8, cells := mc, slots := ms, locals := 135 }) (va_Pc [.ref (ad 0 0), .int (xs (nI i + 1).toNatClampNeg), .ref o] (hPre D yI yO yL z0 ad g o f H.size)) (hQ D yI yO yL z0 ad g1 o f code9 out (hAd ad g H.size o)) mc ms (hAd ad g H.size o)) (hM2 : Met l yX9_leave wsX9_leave (mR 2 43) (va_Pc [.ref (q 0), .int (xs (nI i + 1).toNatClampNeg)] (mPre D yI cZ q u)) (mQ D yI cZ q rb u1) 0 0 (mF q)) (hcode : u1 0 0 = code9) (hout : code9 = 0 → out = rb.toInt64) (K : ∀ (ad1 : Nat → Nat → Nat) (f1 : Nat → Int64) (H1 : Heap) (locs1 : List Loc) (ls1 : Array Slot), gW D yI yO yL cZ z0 q ad1 g1 u1 o f1 (fun a : Nat => s.heap.size ≤ a) s H1 locs1 → lv_has ls1 7 [(0, .ref b), (1, .ref (ad1 0 0)), (2, .ref (q 0)), (3, .ref o), (4, .int (nI i))] → W p l e room_1 s m #[Value.ref b] below meth c H1 locs1 (cells + mc) (slots + ms) (lw_Z below #[Value.ref b] s) (F0 m 2544 ls1 [])) : W p l e room_1 s m #[Value.ref b] below meth c H locs (cells) (slots) (lw_Z below #[Value.ref b] s) (F0 m 1061 ls []) := by
  obtain ⟨hx, hb, hr, hml, hown9, -, hX, hbl, hlocks, -⟩ := C0
  have hown : s.vm.findClass RL = some m.cls := hown9
  have hA : ∀ a : Nat, s.heap.size ≤ a → (fun a : Nat => s.heap.size ≤ a) a := fun _ h => h
  have hbA : ¬ (fun a : Nat => s.heap.size ≤ a) b := Nat.not_le.mpr hbl
  have v1 : vp_in (nI i + 1) L := by
    show vp_in (nI i + nI 1) L
    rw [nI_add]
    exact vp_in_nI (by omega) (by omega)
  refine lv_aload_n hx hb dL_law_1061 rfl (lv_at hl 1 rfl) ?_
  refine lv_aload_n hx hb dL_law_1062 rfl (lv_at hl 0 rfl) ?_
  refine lv_iload hx hb dL_law_1063 (lv_at hl 4 rfl) ?_
  refine lv_iconst (v := 1) hx hb dL_law_1065 (by decide) ?_
  refine lv_iadd hx hb dL_law_1066 ?_
  refine va_sld hx hb hX hbl hbA hN.1.2.2 v1 dL_law_1067 ?_
  refine lv_aload_n hx hb dL_law_1068 rfl (lv_at hl 3 rfl) ?_
  refine lh_call (As := [.ref (ad 0 0), .int (xs (nI i + 1).toNatClampNeg), .ref o]) (rest := []) ⟨hx, hb, hml, hown, hT⟩ hM1 (vx_cwSW 3 hT gL_law_L_leave rfl rfl rfl (by decide +kernel) ⟨Nat.le_of_ble_eq_true rfl, Nat.le_of_ble_eq_true rfl⟩) hB hK hN hA rfl hl.1 rfl (Nat.le_of_ble_eq_true rfl) dL_law_1069 hr1 (fun ad1 f1 H locs had hf1 hN => ?_)
  refine lv_istore (lv' := [(5, .int code9), (0, .ref b), (1, .ref (ad 0 0)), (2, .ref (q 0)), (3, .ref o), (4, .int (nI i))]) hx hb dL_law_1072 hl (by decide) rfl (fun ls hl => ?_)
  refine lv_aload_n hx hb dL_law_1074 rfl (lv_at hl 3 rfl) ?_
  refine lv_aload_n hx hb dL_law_1075 rfl (lv_at hl 1 rfl) ?_
  refine lv_iload hx hb dL_law_1076 (lv_at hl 5 rfl) ?_
  refine lv_iconst (v := 1) hx hb dL_law_1078 (by decide) ?_
  refine lv_iadd hx hb dL_law_1079 ?_
  refine va_sld hx hb hX hbl hbA hN.1.2.2 v1 dL_law_1080 ?_
  refine lr_call (As := [.int (xs (nI i + 1).toNatClampNeg)]) (rest := []) ⟨hx, hb, hml, hown, hT⟩ hM2 (cwV 1 hT gL_law_X9_leave rfl rfl rfl (by decide +kernel) ⟨Nat.le_of_ble_eq_true rfl, Nat.le_of_ble_eq_true rfl⟩) hK hN rfl hl.1 rfl (Nat.le_of_ble_eq_true rfl) dL_law_1081 hr1 (fun H locs hN => ?_)
  refine lv_istore (lv' := [(6, .int rb), (5, .int code9), (0, .ref b), (1, .ref (ad 0 0)), (2, .ref (q 0)), (3, .ref o), (4, .int (nI i))]) hx hb dL_law_1084 hl (by decide) rfl (fun ls hl => ?_)
  refine lv_aload_n hx hb dL_law_1086 rfl (lv_at hl 4 rfl) ?_
  refine lr_call (As := []) (rest := []) ⟨hx, hb, hml, hown, hT⟩ (cM_thrown l D yI cZ q (u := u1) (rz := u1 0 0) (uz := u1) rfl) (cwV 0 hT gL_law_X9_thrown rfl rfl rfl (by decide +kernel) ⟨Nat.le_of_ble_eq_true rfl, Nat.le_of_ble_eq_true rfl⟩) hK hN rfl hl.1 rfl (Nat.le_of_ble_eq_true rfl) dL_law_1087 hr1 (fun H locs hN => ?_)
  refine lv_iload hx hb dL_law_1090 (lv_at hl 1 rfl) ?_
  refine lv_icmp_eq (tgt := 1097) hx hb dL_law_1092 (by decide) (fun c1 => ?_) (fun c1 => absurd hcode c1)
  refine lv_iload hx hb dL_law_1097 (lv_at hl 1 rfl) ?_
  refine lv_if_ne (tgt := 1114) hx hb dL_law_1099 (by decide) (fun c2 => ?_) (fun c2 => ?_)
  · refine lv_goto (tgt := 2544) hx hb dL_law_1114 (by decide) ?_
    exact K ad1 f1 H locs ls hN (by rw [had]; exact lv_sub hl [2, 3, 4, 5, 6] rfl)
  · refine lv_aload_n hx hb dL_law_1102 rfl (lv_at hl 5 rfl) ?_
    refine lv_iconst (v := 0) hx hb dL_law_1103 (by decide) ?_
    refine lr_long hx hb hK hN hf1 dL_law_1104 ?_
    refine lv_iload hx hb dL_law_1105 (lv_at hl 0 rfl) ?_
    refine lv_i2l (v := rb.toInt64) hx hb dL_law_1107 rfl ?_
    refine W.lcmp hx hb dL_law_1108 ?_
    refine lv_if_eq (tgt := 1114) hx hb dL_law_1109 (by decide) (fun c3 => ?_) (fun c3 => absurd ((lg_cmp_eq _ _).mpr (hout c2)) c3)
    refine lv_goto (tgt := 2544) hx hb dL_law_1114 (by decide) ?_
    exact K ad1 f1 H locs ls hN (by rw [had]; exact lv_sub hl [2, 3, 4, 5, 6] rfl)
set_option maxRecDepth 20000 in
theorem lc_ban {p : Program} {l : Launch} {e : Env} {s : State} {m : MethodId} {below : List Frame} {meth : Method} {c : Code} {b L : Nat} {xs : Nat → Int32} {D : va_G} {yI yO yL cZ : ClassId} {z0 : Nat} {q : Nat → Nat} {ad : Nat → Nat → Nat} {g : CS} {u : MS} {o : Nat} {f : Nat → Int64} {H : Heap} {locs : List Loc} {cells slots i : Nat} {ls : Array Slot} {g1 : CS} {u1 : MS} {mc ms : Nat} {code9 rb : Int32} {out : Int64} (C0 : lw_At p s m meth c b L xs) (hT : ∀ w ∈ wsL_law, w.before #[Value.ref b] s = true) (hi : i + 7 ≤ L) (hL : L ≤ 3584) (hB : gB z0 (fun a : Nat => s.heap.size ≤ a) s) (hK : gK D yI yO yL cZ s) (hN : gW D yI yO yL cZ z0 q ad g u o f (fun a : Nat => s.heap.size ≤ a) s H locs) (hl : lv_has ls 7 [(0, .ref b), (1, .ref (ad 0 0)), (2, .ref (q 0)), (3, .ref o), (4, .int (nI i))]) (hr1 : cells + mc ≤ 136060 ∧ slots + ms ≤ 8687926) (hM1 : Met l yL_ban wsL_ban ({ frames := 8, cells := mc, slots := ms, locals := 136 }) (va_Pc [.ref (ad 0 0), .int (xs (nI i + 1).toNatClampNeg), .int (xs (nI i + 2).toNatClampNeg), .int (xs (nI i + 3).toNatClampNeg), .ref o] (hPre D yI yO yL z0 ad g o f H.size)) (hQ D yI yO yL z0 ad g1 o f code9 out (hAd ad g H.size o)) mc ms (hAd ad g H.size o)) (hM2 : Met l yX9_ban wsX9_ban (mR 2 43) (va_Pc [.ref (q 0), .int (xs (nI i + 1).toNatClampNeg), .int (xs (nI i + 2).toNatClampNeg), .int (xs (nI i + 3).toNatClampNeg)] (mPre D yI cZ q u)) (mQ D yI cZ q rb u1) 0 0 (mF q)) (hcode : u1 0 0 = code9) (hout : code9 = 0 → out = rb.toInt64) (K : ∀ (ad1 : Nat → Nat → Nat) (f1 : Nat → Int64) (H1 : Heap) (locs1 : List Loc) (ls1 : Array Slot), gW D yI yO yL cZ z0 q ad1 g1 u1 o f1 (fun a : Nat => s.heap.size ≤ a) s H1 locs1 → lv_has ls1 7 [(0, .ref b), (1, .ref (ad1 0 0)), (2, .ref (q 0)), (3, .ref o), (4, .int (nI i))] → W p l e room_1 s m #[Value.ref b] below meth c H1 locs1 (cells + mc) (slots + ms) (lw_Z below #[Value.ref b] s) (F0 m 2544 ls1 [])) : W p l e room_1 s m #[Value.ref b] below meth c H locs (cells) (slots) (lw_Z below #[Value.ref b] s) (F0 m 1117 ls []) := by
  obtain ⟨hx, hb, hr, hml, hown9, -, hX, hbl, hlocks, -⟩ := C0
  have hown : s.vm.findClass RL = some m.cls := hown9
  have hA : ∀ a : Nat, s.heap.size ≤ a → (fun a : Nat => s.heap.size ≤ a) a := fun _ h => h
  have hbA : ¬ (fun a : Nat => s.heap.size ≤ a) b := Nat.not_le.mpr hbl
  have v1 : vp_in (nI i + 1) L := by
    show vp_in (nI i + nI 1) L
    rw [nI_add]
    exact vp_in_nI (by omega) (by omega)
  have v2 : vp_in (nI i + 2) L := by
    show vp_in (nI i + nI 2) L
    rw [nI_add]
    exact vp_in_nI (by omega) (by omega)
  have v3 : vp_in (nI i + 3) L := by
    show vp_in (nI i + nI 3) L
    rw [nI_add]
    exact vp_in_nI (by omega) (by omega)
  refine lv_aload_n hx hb dL_law_1117 rfl (lv_at hl 1 rfl) ?_
  refine lv_aload_n hx hb dL_law_1118 rfl (lv_at hl 0 rfl) ?_
  refine lv_iload hx hb dL_law_1119 (lv_at hl 4 rfl) ?_
  refine lv_iconst (v := 1) hx hb dL_law_1121 (by decide) ?_
  refine lv_iadd hx hb dL_law_1122 ?_
  refine va_sld hx hb hX hbl hbA hN.1.2.2 v1 dL_law_1123 ?_
  refine lv_aload_n hx hb dL_law_1124 rfl (lv_at hl 0 rfl) ?_
  refine lv_iload hx hb dL_law_1125 (lv_at hl 4 rfl) ?_
  refine lv_iconst (v := 2) hx hb dL_law_1127 (by decide) ?_
  refine lv_iadd hx hb dL_law_1128 ?_
  refine va_sld hx hb hX hbl hbA hN.1.2.2 v2 dL_law_1129 ?_
  refine lv_aload_n hx hb dL_law_1130 rfl (lv_at hl 0 rfl) ?_
  refine lv_iload hx hb dL_law_1131 (lv_at hl 4 rfl) ?_
  refine lv_iconst (v := 3) hx hb dL_law_1133 (by decide) ?_
  refine lv_iadd hx hb dL_law_1134 ?_
  refine va_sld hx hb hX hbl hbA hN.1.2.2 v3 dL_law_1135 ?_
  refine lv_aload_n hx hb dL_law_1136 rfl (lv_at hl 3 rfl) ?_
  refine lh_call (As := [.ref (ad 0 0), .int (xs (nI i + 1).toNatClampNeg), .int (xs (nI i + 2).toNatClampNeg), .int (xs (nI i + 3).toNatClampNeg), .ref o]) (rest := []) ⟨hx, hb, hml, hown, hT⟩ hM1 (vx_cwSW 5 hT gL_law_L_ban rfl rfl rfl (by decide +kernel) ⟨Nat.le_of_ble_eq_true rfl, Nat.le_of_ble_eq_true rfl⟩) hB hK hN hA rfl hl.1 rfl (Nat.le_of_ble_eq_true rfl) dL_law_1137 hr1 (fun ad1 f1 H locs had hf1 hN => ?_)
  refine lv_istore (lv' := [(5, .int code9), (0, .ref b), (1, .ref (ad 0 0)), (2, .ref (q 0)), (3, .ref o), (4, .int (nI i))]) hx hb dL_law_1140 hl (by decide) rfl (fun ls hl => ?_)
  refine lv_aload_n hx hb dL_law_1142 rfl (lv_at hl 3 rfl) ?_
  refine lv_aload_n hx hb dL_law_1143 rfl (lv_at hl 1 rfl) ?_
  refine lv_iload hx hb dL_law_1144 (lv_at hl 5 rfl) ?_
  refine lv_iconst (v := 1) hx hb dL_law_1146 (by decide) ?_
  refine lv_iadd hx hb dL_law_1147 ?_
  refine va_sld hx hb hX hbl hbA hN.1.2.2 v1 dL_law_1148 ?_
  refine lv_aload_n hx hb dL_law_1149 rfl (lv_at hl 1 rfl) ?_
  refine lv_iload hx hb dL_law_1150 (lv_at hl 5 rfl) ?_
  refine lv_iconst (v := 2) hx hb dL_law_1152 (by decide) ?_
  refine lv_iadd hx hb dL_law_1153 ?_
  refine va_sld hx hb hX hbl hbA hN.1.2.2 v2 dL_law_1154 ?_
  refine lv_aload_n hx hb dL_law_1155 rfl (lv_at hl 1 rfl) ?_
  refine lv_iload hx hb dL_law_1156 (lv_at hl 5 rfl) ?_
  refine lv_iconst (v := 3) hx hb dL_law_1158 (by decide) ?_
  refine lv_iadd hx hb dL_law_1159 ?_
  refine va_sld hx hb hX hbl hbA hN.1.2.2 v3 dL_law_1160 ?_
  refine lr_call (As := [.int (xs (nI i + 1).toNatClampNeg), .int (xs (nI i + 2).toNatClampNeg), .int (xs (nI i + 3).toNatClampNeg)]) (rest := []) ⟨hx, hb, hml, hown, hT⟩ hM2 (cwV 3 hT gL_law_X9_ban rfl rfl rfl (by decide +kernel) ⟨Nat.le_of_ble_eq_true rfl, Nat.le_of_ble_eq_true rfl⟩) hK hN rfl hl.1 rfl (Nat.le_of_ble_eq_true rfl) dL_law_1161 hr1 (fun H locs hN => ?_)
  refine lv_istore (lv' := [(6, .int rb), (5, .int code9), (0, .ref b), (1, .ref (ad 0 0)), (2, .ref (q 0)), (3, .ref o), (4, .int (nI i))]) hx hb dL_law_1164 hl (by decide) rfl (fun ls hl => ?_)
  refine lv_aload_n hx hb dL_law_1166 rfl (lv_at hl 4 rfl) ?_
  refine lr_call (As := []) (rest := []) ⟨hx, hb, hml, hown, hT⟩ (cM_thrown l D yI cZ q (u := u1) (rz := u1 0 0) (uz := u1) rfl) (cwV 0 hT gL_law_X9_thrown rfl rfl rfl (by decide +kernel) ⟨Nat.le_of_ble_eq_true rfl, Nat.le_of_ble_eq_true rfl⟩) hK hN rfl hl.1 rfl (Nat.le_of_ble_eq_true rfl) dL_law_1167 hr1 (fun H locs hN => ?_)
  refine lv_iload hx hb dL_law_1170 (lv_at hl 1 rfl) ?_
  refine lv_icmp_eq (tgt := 1177) hx hb dL_law_1172 (by decide) (fun c1 => ?_) (fun c1 => absurd hcode c1)
  refine lv_iload hx hb dL_law_1177 (lv_at hl 1 rfl) ?_
  refine lv_if_ne (tgt := 1194) hx hb dL_law_1179 (by decide) (fun c2 => ?_) (fun c2 => ?_)
  · refine lv_goto (tgt := 2544) hx hb dL_law_1194 (by decide) ?_
    exact K ad1 f1 H locs ls hN (by rw [had]; exact lv_sub hl [2, 3, 4, 5, 6] rfl)
  · refine lv_aload_n hx hb dL_law_1182 rfl (lv_at hl 5 rfl) ?_
    refine lv_iconst (v := 0) hx hb dL_law_1183 (by decide) ?_
    refine lr_long hx hb hK hN hf1 dL_law_1184 ?_
    refine lv_iload hx hb dL_law_1185 (lv_at hl 0 rfl) ?_
    refine lv_i2l (v := rb.toInt64) hx hb dL_law_1187 rfl ?_
    refine W.lcmp hx hb dL_law_1188 ?_
    refine lv_if_eq (tgt := 1194) hx hb dL_law_1189 (by decide) (fun c3 => ?_) (fun c3 => absurd ((lg_cmp_eq _ _).mpr (hout c2)) c3)
    refine lv_goto (tgt := 2544) hx hb dL_law_1194 (by decide) ?_
    exact K ad1 f1 H locs ls hN (by rw [had]; exact lv_sub hl [2, 3, 4, 5, 6] rfl)
set_option maxRecDepth 20000 in
theorem lc_lift {p : Program} {l : Launch} {e : Env} {s : State} {m : MethodId} {below : List Frame} {meth : Method} {c : Code} {b L : Nat} {xs : Nat → Int32} {D : va_G} {yI yO yL cZ : ClassId} {z0 : Nat} {q : Nat → Nat} {ad : Nat → Nat → Nat} {g : CS} {u : MS} {o : Nat} {f : Nat → Int64} {H : Heap} {locs : List Loc} {cells slots i : Nat} {ls : Array Slot} {g1 : CS} {u1 : MS} {mc ms : Nat} {code9 rb : Int32} {out : Int64} (C0 : lw_At p s m meth c b L xs) (hT : ∀ w ∈ wsL_law, w.before #[Value.ref b] s = true) (hi : i + 7 ≤ L) (hL : L ≤ 3584) (hB : gB z0 (fun a : Nat => s.heap.size ≤ a) s) (hK : gK D yI yO yL cZ s) (hN : gW D yI yO yL cZ z0 q ad g u o f (fun a : Nat => s.heap.size ≤ a) s H locs) (hl : lv_has ls 7 [(0, .ref b), (1, .ref (ad 0 0)), (2, .ref (q 0)), (3, .ref o), (4, .int (nI i))]) (hr1 : cells + mc ≤ 136060 ∧ slots + ms ≤ 8687926) (hM1 : Met l yL_lift wsL_lift ({ frames := 8, cells := mc, slots := ms, locals := 136 }) (va_Pc [.ref (ad 0 0), .int (xs (nI i + 1).toNatClampNeg), .int (xs (nI i + 2).toNatClampNeg), .ref o] (hPre D yI yO yL z0 ad g o f H.size)) (hQ D yI yO yL z0 ad g1 o f code9 out (hAd ad g H.size o)) mc ms (hAd ad g H.size o)) (hM2 : Met l yX9_lift wsX9_lift (mR 2 43) (va_Pc [.ref (q 0), .int (xs (nI i + 1).toNatClampNeg), .int (xs (nI i + 2).toNatClampNeg)] (mPre D yI cZ q u)) (mQ D yI cZ q rb u1) 0 0 (mF q)) (hcode : u1 0 0 = code9) (hout : code9 = 0 → out = (if rb = 0 then (0 : Int64) else 1)) (K : ∀ (ad1 : Nat → Nat → Nat) (f1 : Nat → Int64) (H1 : Heap) (locs1 : List Loc) (ls1 : Array Slot), gW D yI yO yL cZ z0 q ad1 g1 u1 o f1 (fun a : Nat => s.heap.size ≤ a) s H1 locs1 → lv_has ls1 7 [(0, .ref b), (1, .ref (ad1 0 0)), (2, .ref (q 0)), (3, .ref o), (4, .int (nI i))] → W p l e room_1 s m #[Value.ref b] below meth c H1 locs1 (cells + mc) (slots + ms) (lw_Z below #[Value.ref b] s) (F0 m 2544 ls1 [])) : W p l e room_1 s m #[Value.ref b] below meth c H locs (cells) (slots) (lw_Z below #[Value.ref b] s) (F0 m 1197 ls []) := by
  obtain ⟨hx, hb, hr, hml, hown9, -, hX, hbl, hlocks, -⟩ := C0
  have hown : s.vm.findClass RL = some m.cls := hown9
  have hA : ∀ a : Nat, s.heap.size ≤ a → (fun a : Nat => s.heap.size ≤ a) a := fun _ h => h
  have hbA : ¬ (fun a : Nat => s.heap.size ≤ a) b := Nat.not_le.mpr hbl
  have v1 : vp_in (nI i + 1) L := by
    show vp_in (nI i + nI 1) L
    rw [nI_add]
    exact vp_in_nI (by omega) (by omega)
  have v2 : vp_in (nI i + 2) L := by
    show vp_in (nI i + nI 2) L
    rw [nI_add]
    exact vp_in_nI (by omega) (by omega)
  refine lv_aload_n hx hb dL_law_1197 rfl (lv_at hl 1 rfl) ?_
  refine lv_aload_n hx hb dL_law_1198 rfl (lv_at hl 0 rfl) ?_
  refine lv_iload hx hb dL_law_1199 (lv_at hl 4 rfl) ?_
  refine lv_iconst (v := 1) hx hb dL_law_1201 (by decide) ?_
  refine lv_iadd hx hb dL_law_1202 ?_
  refine va_sld hx hb hX hbl hbA hN.1.2.2 v1 dL_law_1203 ?_
  refine lv_aload_n hx hb dL_law_1204 rfl (lv_at hl 0 rfl) ?_
  refine lv_iload hx hb dL_law_1205 (lv_at hl 4 rfl) ?_
  refine lv_iconst (v := 2) hx hb dL_law_1207 (by decide) ?_
  refine lv_iadd hx hb dL_law_1208 ?_
  refine va_sld hx hb hX hbl hbA hN.1.2.2 v2 dL_law_1209 ?_
  refine lv_aload_n hx hb dL_law_1210 rfl (lv_at hl 3 rfl) ?_
  refine lh_call (As := [.ref (ad 0 0), .int (xs (nI i + 1).toNatClampNeg), .int (xs (nI i + 2).toNatClampNeg), .ref o]) (rest := []) ⟨hx, hb, hml, hown, hT⟩ hM1 (vx_cwSW 4 hT gL_law_L_lift rfl rfl rfl (by decide +kernel) ⟨Nat.le_of_ble_eq_true rfl, Nat.le_of_ble_eq_true rfl⟩) hB hK hN hA rfl hl.1 rfl (Nat.le_of_ble_eq_true rfl) dL_law_1211 hr1 (fun ad1 f1 H locs had hf1 hN => ?_)
  refine lv_istore (lv' := [(5, .int code9), (0, .ref b), (1, .ref (ad 0 0)), (2, .ref (q 0)), (3, .ref o), (4, .int (nI i))]) hx hb dL_law_1214 hl (by decide) rfl (fun ls hl => ?_)
  refine lv_aload_n hx hb dL_law_1216 rfl (lv_at hl 3 rfl) ?_
  refine lv_aload_n hx hb dL_law_1217 rfl (lv_at hl 1 rfl) ?_
  refine lv_iload hx hb dL_law_1218 (lv_at hl 5 rfl) ?_
  refine lv_iconst (v := 1) hx hb dL_law_1220 (by decide) ?_
  refine lv_iadd hx hb dL_law_1221 ?_
  refine va_sld hx hb hX hbl hbA hN.1.2.2 v1 dL_law_1222 ?_
  refine lv_aload_n hx hb dL_law_1223 rfl (lv_at hl 1 rfl) ?_
  refine lv_iload hx hb dL_law_1224 (lv_at hl 5 rfl) ?_
  refine lv_iconst (v := 2) hx hb dL_law_1226 (by decide) ?_
  refine lv_iadd hx hb dL_law_1227 ?_
  refine va_sld hx hb hX hbl hbA hN.1.2.2 v2 dL_law_1228 ?_
  refine lr_call (As := [.int (xs (nI i + 1).toNatClampNeg), .int (xs (nI i + 2).toNatClampNeg)]) (rest := []) ⟨hx, hb, hml, hown, hT⟩ hM2 (cwV 2 hT gL_law_X9_lift rfl rfl rfl (by decide +kernel) ⟨Nat.le_of_ble_eq_true rfl, Nat.le_of_ble_eq_true rfl⟩) hK hN rfl hl.1 rfl (Nat.le_of_ble_eq_true rfl) dL_law_1229 hr1 (fun H locs hN => ?_)
  refine lv_istore (lv' := [(6, .int rb), (5, .int code9), (0, .ref b), (1, .ref (ad 0 0)), (2, .ref (q 0)), (3, .ref o), (4, .int (nI i))]) hx hb dL_law_1232 hl (by decide) rfl (fun ls hl => ?_)
  refine lv_aload_n hx hb dL_law_1234 rfl (lv_at hl 4 rfl) ?_
  refine lr_call (As := []) (rest := []) ⟨hx, hb, hml, hown, hT⟩ (cM_thrown l D yI cZ q (u := u1) (rz := u1 0 0) (uz := u1) rfl) (cwV 0 hT gL_law_X9_thrown rfl rfl rfl (by decide +kernel) ⟨Nat.le_of_ble_eq_true rfl, Nat.le_of_ble_eq_true rfl⟩) hK hN rfl hl.1 rfl (Nat.le_of_ble_eq_true rfl) dL_law_1235 hr1 (fun H locs hN => ?_)
  refine lv_iload hx hb dL_law_1238 (lv_at hl 1 rfl) ?_
  refine lv_icmp_eq (tgt := 1245) hx hb dL_law_1240 (by decide) (fun c1 => ?_) (fun c1 => absurd hcode c1)
  refine lv_iload hx hb dL_law_1245 (lv_at hl 1 rfl) ?_
  refine lv_if_ne (tgt := 1269) hx hb dL_law_1247 (by decide) (fun c2 => ?_) (fun c2 => ?_)
  · refine lv_goto (tgt := 2544) hx hb dL_law_1269 (by decide) ?_
    exact K ad1 f1 H locs ls hN (by rw [had]; exact lv_sub hl [2, 3, 4, 5, 6] rfl)
  · refine lv_aload_n hx hb dL_law_1250 rfl (lv_at hl 5 rfl) ?_
    refine lv_iconst (v := 0) hx hb dL_law_1251 (by decide) ?_
    refine lr_long hx hb hK hN hf1 dL_law_1252 ?_
    refine lv_iload hx hb dL_law_1253 (lv_at hl 0 rfl) ?_
    refine lb_lbool hx hb dL_law_1255 dL_law_1258 dL_law_1259 dL_law_1262 ?_
    refine W.lcmp hx hb dL_law_1263 ?_
    refine lv_if_eq (tgt := 1269) hx hb dL_law_1264 (by decide) (fun c3 => ?_) (fun c3 => absurd ((lg_cmp_eq _ _).mpr (hout c2)) c3)
    refine lv_goto (tgt := 2544) hx hb dL_law_1269 (by decide) ?_
    exact K ad1 f1 H locs ls hN (by rw [had]; exact lv_sub hl [2, 3, 4, 5, 6] rfl)
set_option maxRecDepth 20000 in
theorem lc_quota {p : Program} {l : Launch} {e : Env} {s : State} {m : MethodId} {below : List Frame} {meth : Method} {c : Code} {b L : Nat} {xs : Nat → Int32} {D : va_G} {yI yO yL cZ : ClassId} {z0 : Nat} {q : Nat → Nat} {ad : Nat → Nat → Nat} {g : CS} {u : MS} {o : Nat} {f : Nat → Int64} {H : Heap} {locs : List Loc} {cells slots i : Nat} {ls : Array Slot} {g1 : CS} {u1 : MS} {mc ms : Nat} {code9 rb : Int32} {out : Int64} (C0 : lw_At p s m meth c b L xs) (hT : ∀ w ∈ wsL_law, w.before #[Value.ref b] s = true) (hi : i + 7 ≤ L) (hL : L ≤ 3584) (hB : gB z0 (fun a : Nat => s.heap.size ≤ a) s) (hK : gK D yI yO yL cZ s) (hN : gW D yI yO yL cZ z0 q ad g u o f (fun a : Nat => s.heap.size ≤ a) s H locs) (hl : lv_has ls 7 [(0, .ref b), (1, .ref (ad 0 0)), (2, .ref (q 0)), (3, .ref o), (4, .int (nI i))]) (hr1 : cells + mc ≤ 136060 ∧ slots + ms ≤ 8687926) (hM1 : Met l yL_quota wsL_quota ({ frames := 8, cells := mc, slots := ms, locals := 136 }) (va_Pc [.ref (ad 0 0), .int (xs (nI i + 1).toNatClampNeg), .int (xs (nI i + 2).toNatClampNeg), .int (xs (nI i + 3).toNatClampNeg), .ref o] (hPre D yI yO yL z0 ad g o f H.size)) (hQ D yI yO yL z0 ad g1 o f code9 out (hAd ad g H.size o)) mc ms (hAd ad g H.size o)) (hM2 : Met l yX9_quota wsX9_quota (mR 2 43) (va_Pc [.ref (q 0), .int (xs (nI i + 1).toNatClampNeg), .int (xs (nI i + 2).toNatClampNeg), .int (xs (nI i + 3).toNatClampNeg)] (mPre D yI cZ q u)) (mQ D yI cZ q rb u1) 0 0 (mF q)) (hcode : u1 0 0 = code9) (hout : code9 = 0 → out = rb.toInt64) (K : ∀ (ad1 : Nat → Nat → Nat) (f1 : Nat → Int64) (H1 : Heap) (locs1 : List Loc) (ls1 : Array Slot), gW D yI yO yL cZ z0 q ad1 g1 u1 o f1 (fun a : Nat => s.heap.size ≤ a) s H1 locs1 → lv_has ls1 7 [(0, .ref b), (1, .ref (ad1 0 0)), (2, .ref (q 0)), (3, .ref o), (4, .int (nI i))] → W p l e room_1 s m #[Value.ref b] below meth c H1 locs1 (cells + mc) (slots + ms) (lw_Z below #[Value.ref b] s) (F0 m 2544 ls1 [])) : W p l e room_1 s m #[Value.ref b] below meth c H locs (cells) (slots) (lw_Z below #[Value.ref b] s) (F0 m 1272 ls []) := by
  obtain ⟨hx, hb, hr, hml, hown9, -, hX, hbl, hlocks, -⟩ := C0
  have hown : s.vm.findClass RL = some m.cls := hown9
  have hA : ∀ a : Nat, s.heap.size ≤ a → (fun a : Nat => s.heap.size ≤ a) a := fun _ h => h
  have hbA : ¬ (fun a : Nat => s.heap.size ≤ a) b := Nat.not_le.mpr hbl
  have v1 : vp_in (nI i + 1) L := by
    show vp_in (nI i + nI 1) L
    rw [nI_add]
    exact vp_in_nI (by omega) (by omega)
  have v2 : vp_in (nI i + 2) L := by
    show vp_in (nI i + nI 2) L
    rw [nI_add]
    exact vp_in_nI (by omega) (by omega)
  have v3 : vp_in (nI i + 3) L := by
    show vp_in (nI i + nI 3) L
    rw [nI_add]
    exact vp_in_nI (by omega) (by omega)
  refine lv_aload_n hx hb dL_law_1272 rfl (lv_at hl 1 rfl) ?_
  refine lv_aload_n hx hb dL_law_1273 rfl (lv_at hl 0 rfl) ?_
  refine lv_iload hx hb dL_law_1274 (lv_at hl 4 rfl) ?_
  refine lv_iconst (v := 1) hx hb dL_law_1276 (by decide) ?_
  refine lv_iadd hx hb dL_law_1277 ?_
  refine va_sld hx hb hX hbl hbA hN.1.2.2 v1 dL_law_1278 ?_
  refine lv_aload_n hx hb dL_law_1279 rfl (lv_at hl 0 rfl) ?_
  refine lv_iload hx hb dL_law_1280 (lv_at hl 4 rfl) ?_
  refine lv_iconst (v := 2) hx hb dL_law_1282 (by decide) ?_
  refine lv_iadd hx hb dL_law_1283 ?_
  refine va_sld hx hb hX hbl hbA hN.1.2.2 v2 dL_law_1284 ?_
  refine lv_aload_n hx hb dL_law_1285 rfl (lv_at hl 0 rfl) ?_
  refine lv_iload hx hb dL_law_1286 (lv_at hl 4 rfl) ?_
  refine lv_iconst (v := 3) hx hb dL_law_1288 (by decide) ?_
  refine lv_iadd hx hb dL_law_1289 ?_
  refine va_sld hx hb hX hbl hbA hN.1.2.2 v3 dL_law_1290 ?_
  refine lv_aload_n hx hb dL_law_1291 rfl (lv_at hl 3 rfl) ?_
  refine lh_call (As := [.ref (ad 0 0), .int (xs (nI i + 1).toNatClampNeg), .int (xs (nI i + 2).toNatClampNeg), .int (xs (nI i + 3).toNatClampNeg), .ref o]) (rest := []) ⟨hx, hb, hml, hown, hT⟩ hM1 (vx_cwSW 5 hT gL_law_L_quota rfl rfl rfl (by decide +kernel) ⟨Nat.le_of_ble_eq_true rfl, Nat.le_of_ble_eq_true rfl⟩) hB hK hN hA rfl hl.1 rfl (Nat.le_of_ble_eq_true rfl) dL_law_1292 hr1 (fun ad1 f1 H locs had hf1 hN => ?_)
  refine lv_istore (lv' := [(5, .int code9), (0, .ref b), (1, .ref (ad 0 0)), (2, .ref (q 0)), (3, .ref o), (4, .int (nI i))]) hx hb dL_law_1295 hl (by decide) rfl (fun ls hl => ?_)
  refine lv_aload_n hx hb dL_law_1297 rfl (lv_at hl 3 rfl) ?_
  refine lv_aload_n hx hb dL_law_1298 rfl (lv_at hl 1 rfl) ?_
  refine lv_iload hx hb dL_law_1299 (lv_at hl 5 rfl) ?_
  refine lv_iconst (v := 1) hx hb dL_law_1301 (by decide) ?_
  refine lv_iadd hx hb dL_law_1302 ?_
  refine va_sld hx hb hX hbl hbA hN.1.2.2 v1 dL_law_1303 ?_
  refine lv_aload_n hx hb dL_law_1304 rfl (lv_at hl 1 rfl) ?_
  refine lv_iload hx hb dL_law_1305 (lv_at hl 5 rfl) ?_
  refine lv_iconst (v := 2) hx hb dL_law_1307 (by decide) ?_
  refine lv_iadd hx hb dL_law_1308 ?_
  refine va_sld hx hb hX hbl hbA hN.1.2.2 v2 dL_law_1309 ?_
  refine lv_aload_n hx hb dL_law_1310 rfl (lv_at hl 1 rfl) ?_
  refine lv_iload hx hb dL_law_1311 (lv_at hl 5 rfl) ?_
  refine lv_iconst (v := 3) hx hb dL_law_1313 (by decide) ?_
  refine lv_iadd hx hb dL_law_1314 ?_
  refine va_sld hx hb hX hbl hbA hN.1.2.2 v3 dL_law_1315 ?_
  refine lr_call (As := [.int (xs (nI i + 1).toNatClampNeg), .int (xs (nI i + 2).toNatClampNeg), .int (xs (nI i + 3).toNatClampNeg)]) (rest := []) ⟨hx, hb, hml, hown, hT⟩ hM2 (cwV 3 hT gL_law_X9_quota rfl rfl rfl (by decide +kernel) ⟨Nat.le_of_ble_eq_true rfl, Nat.le_of_ble_eq_true rfl⟩) hK hN rfl hl.1 rfl (Nat.le_of_ble_eq_true rfl) dL_law_1316 hr1 (fun H locs hN => ?_)
  refine lv_istore (lv' := [(6, .int rb), (5, .int code9), (0, .ref b), (1, .ref (ad 0 0)), (2, .ref (q 0)), (3, .ref o), (4, .int (nI i))]) hx hb dL_law_1319 hl (by decide) rfl (fun ls hl => ?_)
  refine lv_aload_n hx hb dL_law_1321 rfl (lv_at hl 4 rfl) ?_
  refine lr_call (As := []) (rest := []) ⟨hx, hb, hml, hown, hT⟩ (cM_thrown l D yI cZ q (u := u1) (rz := u1 0 0) (uz := u1) rfl) (cwV 0 hT gL_law_X9_thrown rfl rfl rfl (by decide +kernel) ⟨Nat.le_of_ble_eq_true rfl, Nat.le_of_ble_eq_true rfl⟩) hK hN rfl hl.1 rfl (Nat.le_of_ble_eq_true rfl) dL_law_1322 hr1 (fun H locs hN => ?_)
  refine lv_iload hx hb dL_law_1325 (lv_at hl 1 rfl) ?_
  refine lv_icmp_eq (tgt := 1332) hx hb dL_law_1327 (by decide) (fun c1 => ?_) (fun c1 => absurd hcode c1)
  refine lv_iload hx hb dL_law_1332 (lv_at hl 1 rfl) ?_
  refine lv_if_ne (tgt := 1349) hx hb dL_law_1334 (by decide) (fun c2 => ?_) (fun c2 => ?_)
  · refine lv_goto (tgt := 2544) hx hb dL_law_1349 (by decide) ?_
    exact K ad1 f1 H locs ls hN (by rw [had]; exact lv_sub hl [2, 3, 4, 5, 6] rfl)
  · refine lv_aload_n hx hb dL_law_1337 rfl (lv_at hl 5 rfl) ?_
    refine lv_iconst (v := 0) hx hb dL_law_1338 (by decide) ?_
    refine lr_long hx hb hK hN hf1 dL_law_1339 ?_
    refine lv_iload hx hb dL_law_1340 (lv_at hl 0 rfl) ?_
    refine lv_i2l (v := rb.toInt64) hx hb dL_law_1342 rfl ?_
    refine W.lcmp hx hb dL_law_1343 ?_
    refine lv_if_eq (tgt := 1349) hx hb dL_law_1344 (by decide) (fun c3 => ?_) (fun c3 => absurd ((lg_cmp_eq _ _).mpr (hout c2)) c3)
    refine lv_goto (tgt := 2544) hx hb dL_law_1349 (by decide) ?_
    exact K ad1 f1 H locs ls hN (by rw [had]; exact lv_sub hl [2, 3, 4, 5, 6] rfl)
set_option maxRecDepth 20000 in
theorem lc_ask {p : Program} {l : Launch} {e : Env} {s : State} {m : MethodId} {below : List Frame} {meth : Method} {c : Code} {b L : Nat} {xs : Nat → Int32} {D : va_G} {yI yO yL cZ : ClassId} {z0 : Nat} {q : Nat → Nat} {ad : Nat → Nat → Nat} {g : CS} {u : MS} {o : Nat} {f : Nat → Int64} {H : Heap} {locs : List Loc} {cells slots i : Nat} {ls : Array Slot} {g1 : CS} {u1 : MS} {mc ms : Nat} {code9 rb : Int32} {out : Int64} (C0 : lw_At p s m meth c b L xs) (hT : ∀ w ∈ wsL_law, w.before #[Value.ref b] s = true) (hi : i + 7 ≤ L) (hL : L ≤ 3584) (hB : gB z0 (fun a : Nat => s.heap.size ≤ a) s) (hK : gK D yI yO yL cZ s) (hN : gW D yI yO yL cZ z0 q ad g u o f (fun a : Nat => s.heap.size ≤ a) s H locs) (hl : lv_has ls 7 [(0, .ref b), (1, .ref (ad 0 0)), (2, .ref (q 0)), (3, .ref o), (4, .int (nI i))]) (hr1 : cells + mc ≤ 136060 ∧ slots + ms ≤ 8687926) (hM1 : Met l yL_ask wsL_ask ({ frames := 8, cells := mc, slots := ms, locals := 227 }) (va_Pc [.ref (ad 0 0), .int (xs (nI i + 1).toNatClampNeg), .int (xs (nI i + 2).toNatClampNeg), .int (xs (nI i + 3).toNatClampNeg), .ref o] (hPre D yI yO yL z0 ad g o f H.size)) (hQ D yI yO yL z0 ad g1 o f code9 out (hAd ad g H.size o)) mc ms (hAd ad g H.size o)) (hM2 : Met l yX9_ask wsX9_ask (mR 2 43) (va_Pc [.ref (q 0), .int (xs (nI i + 1).toNatClampNeg), .int (xs (nI i + 2).toNatClampNeg), .int (xs (nI i + 3).toNatClampNeg)] (mPre D yI cZ q u)) (mQ D yI cZ q rb u1) 0 0 (mF q)) (hcode : u1 0 0 = code9) (hout : code9 = 0 → out = rb.toInt64) (K : ∀ (ad1 : Nat → Nat → Nat) (f1 : Nat → Int64) (H1 : Heap) (locs1 : List Loc) (ls1 : Array Slot), gW D yI yO yL cZ z0 q ad1 g1 u1 o f1 (fun a : Nat => s.heap.size ≤ a) s H1 locs1 → lv_has ls1 7 [(0, .ref b), (1, .ref (ad1 0 0)), (2, .ref (q 0)), (3, .ref o), (4, .int (nI i))] → W p l e room_1 s m #[Value.ref b] below meth c H1 locs1 (cells + mc) (slots + ms) (lw_Z below #[Value.ref b] s) (F0 m 2544 ls1 [])) : W p l e room_1 s m #[Value.ref b] below meth c H locs (cells) (slots) (lw_Z below #[Value.ref b] s) (F0 m 1352 ls []) := by
  obtain ⟨hx, hb, hr, hml, hown9, -, hX, hbl, hlocks, -⟩ := C0
  have hown : s.vm.findClass RL = some m.cls := hown9
  have hA : ∀ a : Nat, s.heap.size ≤ a → (fun a : Nat => s.heap.size ≤ a) a := fun _ h => h
  have hbA : ¬ (fun a : Nat => s.heap.size ≤ a) b := Nat.not_le.mpr hbl
  have v1 : vp_in (nI i + 1) L := by
    show vp_in (nI i + nI 1) L
    rw [nI_add]
    exact vp_in_nI (by omega) (by omega)
  have v2 : vp_in (nI i + 2) L := by
    show vp_in (nI i + nI 2) L
    rw [nI_add]
    exact vp_in_nI (by omega) (by omega)
  have v3 : vp_in (nI i + 3) L := by
    show vp_in (nI i + nI 3) L
    rw [nI_add]
    exact vp_in_nI (by omega) (by omega)
  refine lv_aload_n hx hb dL_law_1352 rfl (lv_at hl 1 rfl) ?_
  refine lv_aload_n hx hb dL_law_1353 rfl (lv_at hl 0 rfl) ?_
  refine lv_iload hx hb dL_law_1354 (lv_at hl 4 rfl) ?_
  refine lv_iconst (v := 1) hx hb dL_law_1356 (by decide) ?_
  refine lv_iadd hx hb dL_law_1357 ?_
  refine va_sld hx hb hX hbl hbA hN.1.2.2 v1 dL_law_1358 ?_
  refine lv_aload_n hx hb dL_law_1359 rfl (lv_at hl 0 rfl) ?_
  refine lv_iload hx hb dL_law_1360 (lv_at hl 4 rfl) ?_
  refine lv_iconst (v := 2) hx hb dL_law_1362 (by decide) ?_
  refine lv_iadd hx hb dL_law_1363 ?_
  refine va_sld hx hb hX hbl hbA hN.1.2.2 v2 dL_law_1364 ?_
  refine lv_aload_n hx hb dL_law_1365 rfl (lv_at hl 0 rfl) ?_
  refine lv_iload hx hb dL_law_1366 (lv_at hl 4 rfl) ?_
  refine lv_iconst (v := 3) hx hb dL_law_1368 (by decide) ?_
  refine lv_iadd hx hb dL_law_1369 ?_
  refine va_sld hx hb hX hbl hbA hN.1.2.2 v3 dL_law_1370 ?_
  refine lv_aload_n hx hb dL_law_1371 rfl (lv_at hl 3 rfl) ?_
  refine lh_call (As := [.ref (ad 0 0), .int (xs (nI i + 1).toNatClampNeg), .int (xs (nI i + 2).toNatClampNeg), .int (xs (nI i + 3).toNatClampNeg), .ref o]) (rest := []) ⟨hx, hb, hml, hown, hT⟩ hM1 (vx_cwSW 5 hT gL_law_L_ask rfl rfl rfl (by decide +kernel) ⟨Nat.le_of_ble_eq_true rfl, Nat.le_of_ble_eq_true rfl⟩) hB hK hN hA rfl hl.1 rfl (Nat.le_of_ble_eq_true rfl) dL_law_1372 hr1 (fun ad1 f1 H locs had hf1 hN => ?_)
  refine lv_istore (lv' := [(5, .int code9), (0, .ref b), (1, .ref (ad 0 0)), (2, .ref (q 0)), (3, .ref o), (4, .int (nI i))]) hx hb dL_law_1375 hl (by decide) rfl (fun ls hl => ?_)
  refine lv_aload_n hx hb dL_law_1377 rfl (lv_at hl 3 rfl) ?_
  refine lv_aload_n hx hb dL_law_1378 rfl (lv_at hl 1 rfl) ?_
  refine lv_iload hx hb dL_law_1379 (lv_at hl 5 rfl) ?_
  refine lv_iconst (v := 1) hx hb dL_law_1381 (by decide) ?_
  refine lv_iadd hx hb dL_law_1382 ?_
  refine va_sld hx hb hX hbl hbA hN.1.2.2 v1 dL_law_1383 ?_
  refine lv_aload_n hx hb dL_law_1384 rfl (lv_at hl 1 rfl) ?_
  refine lv_iload hx hb dL_law_1385 (lv_at hl 5 rfl) ?_
  refine lv_iconst (v := 2) hx hb dL_law_1387 (by decide) ?_
  refine lv_iadd hx hb dL_law_1388 ?_
  refine va_sld hx hb hX hbl hbA hN.1.2.2 v2 dL_law_1389 ?_
  refine lv_aload_n hx hb dL_law_1390 rfl (lv_at hl 1 rfl) ?_
  refine lv_iload hx hb dL_law_1391 (lv_at hl 5 rfl) ?_
  refine lv_iconst (v := 3) hx hb dL_law_1393 (by decide) ?_
  refine lv_iadd hx hb dL_law_1394 ?_
  refine va_sld hx hb hX hbl hbA hN.1.2.2 v3 dL_law_1395 ?_
  refine lr_call (As := [.int (xs (nI i + 1).toNatClampNeg), .int (xs (nI i + 2).toNatClampNeg), .int (xs (nI i + 3).toNatClampNeg)]) (rest := []) ⟨hx, hb, hml, hown, hT⟩ hM2 (cwV 3 hT gL_law_X9_ask rfl rfl rfl (by decide +kernel) ⟨Nat.le_of_ble_eq_true rfl, Nat.le_of_ble_eq_true rfl⟩) hK hN rfl hl.1 rfl (Nat.le_of_ble_eq_true rfl) dL_law_1396 hr1 (fun H locs hN => ?_)
  refine lv_istore (lv' := [(6, .int rb), (5, .int code9), (0, .ref b), (1, .ref (ad 0 0)), (2, .ref (q 0)), (3, .ref o), (4, .int (nI i))]) hx hb dL_law_1399 hl (by decide) rfl (fun ls hl => ?_)
  refine lv_aload_n hx hb dL_law_1401 rfl (lv_at hl 4 rfl) ?_
  refine lr_call (As := []) (rest := []) ⟨hx, hb, hml, hown, hT⟩ (cM_thrown l D yI cZ q (u := u1) (rz := u1 0 0) (uz := u1) rfl) (cwV 0 hT gL_law_X9_thrown rfl rfl rfl (by decide +kernel) ⟨Nat.le_of_ble_eq_true rfl, Nat.le_of_ble_eq_true rfl⟩) hK hN rfl hl.1 rfl (Nat.le_of_ble_eq_true rfl) dL_law_1402 hr1 (fun H locs hN => ?_)
  refine lv_iload hx hb dL_law_1405 (lv_at hl 1 rfl) ?_
  refine lv_icmp_eq (tgt := 1412) hx hb dL_law_1407 (by decide) (fun c1 => ?_) (fun c1 => absurd hcode c1)
  refine lv_iload hx hb dL_law_1412 (lv_at hl 1 rfl) ?_
  refine lv_if_ne (tgt := 1429) hx hb dL_law_1414 (by decide) (fun c2 => ?_) (fun c2 => ?_)
  · refine lv_goto (tgt := 2544) hx hb dL_law_1429 (by decide) ?_
    exact K ad1 f1 H locs ls hN (by rw [had]; exact lv_sub hl [2, 3, 4, 5, 6] rfl)
  · refine lv_aload_n hx hb dL_law_1417 rfl (lv_at hl 5 rfl) ?_
    refine lv_iconst (v := 0) hx hb dL_law_1418 (by decide) ?_
    refine lr_long hx hb hK hN hf1 dL_law_1419 ?_
    refine lv_iload hx hb dL_law_1420 (lv_at hl 0 rfl) ?_
    refine lv_i2l (v := rb.toInt64) hx hb dL_law_1422 rfl ?_
    refine W.lcmp hx hb dL_law_1423 ?_
    refine lv_if_eq (tgt := 1429) hx hb dL_law_1424 (by decide) (fun c3 => ?_) (fun c3 => absurd ((lg_cmp_eq _ _).mpr (hout c2)) c3)
    refine lv_goto (tgt := 2544) hx hb dL_law_1429 (by decide) ?_
    exact K ad1 f1 H locs ls hN (by rw [had]; exact lv_sub hl [2, 3, 4, 5, 6] rfl)
set_option maxRecDepth 20000 in
theorem lc_join {p : Program} {l : Launch} {e : Env} {s : State} {m : MethodId} {below : List Frame} {meth : Method} {c : Code} {b L : Nat} {xs : Nat → Int32} {D : va_G} {yI yO yL cZ : ClassId} {z0 : Nat} {q : Nat → Nat} {ad : Nat → Nat → Nat} {g : CS} {u : MS} {o : Nat} {f : Nat → Int64} {H : Heap} {locs : List Loc} {cells slots i : Nat} {ls : Array Slot} {g1 : CS} {u1 : MS} {mc ms : Nat} {code9 rb : Int32} {out : Int64} (C0 : lw_At p s m meth c b L xs) (hT : ∀ w ∈ wsL_law, w.before #[Value.ref b] s = true) (hi : i + 7 ≤ L) (hL : L ≤ 3584) (hB : gB z0 (fun a : Nat => s.heap.size ≤ a) s) (hK : gK D yI yO yL cZ s) (hN : gW D yI yO yL cZ z0 q ad g u o f (fun a : Nat => s.heap.size ≤ a) s H locs) (hl : lv_has ls 7 [(0, .ref b), (1, .ref (ad 0 0)), (2, .ref (q 0)), (3, .ref o), (4, .int (nI i))]) (hr1 : cells + mc ≤ 136060 ∧ slots + ms ≤ 8687926) (hM1 : Met l yL_join wsL_join ({ frames := 8, cells := mc, slots := ms, locals := 135 }) (va_Pc [.ref (ad 0 0), .int (xs (nI i + 1).toNatClampNeg), .int (xs (nI i + 2).toNatClampNeg), .ref o] (hPre D yI yO yL z0 ad g o f H.size)) (hQ D yI yO yL z0 ad g1 o f code9 out (hAd ad g H.size o)) mc ms (hAd ad g H.size o)) (hM2 : Met l yX9_join wsX9_join (mR 2 43) (va_Pc [.ref (q 0), .int (xs (nI i + 1).toNatClampNeg), .int (xs (nI i + 2).toNatClampNeg)] (mPre D yI cZ q u)) (mQ D yI cZ q rb u1) 0 0 (mF q)) (hcode : u1 0 0 = code9) (hout : code9 = 0 → out = rb.toInt64) (K : ∀ (ad1 : Nat → Nat → Nat) (f1 : Nat → Int64) (H1 : Heap) (locs1 : List Loc) (ls1 : Array Slot), gW D yI yO yL cZ z0 q ad1 g1 u1 o f1 (fun a : Nat => s.heap.size ≤ a) s H1 locs1 → lv_has ls1 7 [(0, .ref b), (1, .ref (ad1 0 0)), (2, .ref (q 0)), (3, .ref o), (4, .int (nI i))] → W p l e room_1 s m #[Value.ref b] below meth c H1 locs1 (cells + mc) (slots + ms) (lw_Z below #[Value.ref b] s) (F0 m 2544 ls1 [])) : W p l e room_1 s m #[Value.ref b] below meth c H locs (cells) (slots) (lw_Z below #[Value.ref b] s) (F0 m 1432 ls []) := by
  obtain ⟨hx, hb, hr, hml, hown9, -, hX, hbl, hlocks, -⟩ := C0
  have hown : s.vm.findClass RL = some m.cls := hown9
  have hA : ∀ a : Nat, s.heap.size ≤ a → (fun a : Nat => s.heap.size ≤ a) a := fun _ h => h
  have hbA : ¬ (fun a : Nat => s.heap.size ≤ a) b := Nat.not_le.mpr hbl
  have v1 : vp_in (nI i + 1) L := by
    show vp_in (nI i + nI 1) L
    rw [nI_add]
    exact vp_in_nI (by omega) (by omega)
  have v2 : vp_in (nI i + 2) L := by
    show vp_in (nI i + nI 2) L
    rw [nI_add]
    exact vp_in_nI (by omega) (by omega)
  refine lv_aload_n hx hb dL_law_1432 rfl (lv_at hl 1 rfl) ?_
  refine lv_aload_n hx hb dL_law_1433 rfl (lv_at hl 0 rfl) ?_
  refine lv_iload hx hb dL_law_1434 (lv_at hl 4 rfl) ?_
  refine lv_iconst (v := 1) hx hb dL_law_1436 (by decide) ?_
  refine lv_iadd hx hb dL_law_1437 ?_
  refine va_sld hx hb hX hbl hbA hN.1.2.2 v1 dL_law_1438 ?_
  refine lv_aload_n hx hb dL_law_1439 rfl (lv_at hl 0 rfl) ?_
  refine lv_iload hx hb dL_law_1440 (lv_at hl 4 rfl) ?_
  refine lv_iconst (v := 2) hx hb dL_law_1442 (by decide) ?_
  refine lv_iadd hx hb dL_law_1443 ?_
  refine va_sld hx hb hX hbl hbA hN.1.2.2 v2 dL_law_1444 ?_
  refine lv_aload_n hx hb dL_law_1445 rfl (lv_at hl 3 rfl) ?_
  refine lh_call (As := [.ref (ad 0 0), .int (xs (nI i + 1).toNatClampNeg), .int (xs (nI i + 2).toNatClampNeg), .ref o]) (rest := []) ⟨hx, hb, hml, hown, hT⟩ hM1 (vx_cwSW 4 hT gL_law_L_join rfl rfl rfl (by decide +kernel) ⟨Nat.le_of_ble_eq_true rfl, Nat.le_of_ble_eq_true rfl⟩) hB hK hN hA rfl hl.1 rfl (Nat.le_of_ble_eq_true rfl) dL_law_1446 hr1 (fun ad1 f1 H locs had hf1 hN => ?_)
  refine lv_istore (lv' := [(5, .int code9), (0, .ref b), (1, .ref (ad 0 0)), (2, .ref (q 0)), (3, .ref o), (4, .int (nI i))]) hx hb dL_law_1449 hl (by decide) rfl (fun ls hl => ?_)
  refine lv_aload_n hx hb dL_law_1451 rfl (lv_at hl 3 rfl) ?_
  refine lv_aload_n hx hb dL_law_1452 rfl (lv_at hl 1 rfl) ?_
  refine lv_iload hx hb dL_law_1453 (lv_at hl 5 rfl) ?_
  refine lv_iconst (v := 1) hx hb dL_law_1455 (by decide) ?_
  refine lv_iadd hx hb dL_law_1456 ?_
  refine va_sld hx hb hX hbl hbA hN.1.2.2 v1 dL_law_1457 ?_
  refine lv_aload_n hx hb dL_law_1458 rfl (lv_at hl 1 rfl) ?_
  refine lv_iload hx hb dL_law_1459 (lv_at hl 5 rfl) ?_
  refine lv_iconst (v := 2) hx hb dL_law_1461 (by decide) ?_
  refine lv_iadd hx hb dL_law_1462 ?_
  refine va_sld hx hb hX hbl hbA hN.1.2.2 v2 dL_law_1463 ?_
  refine lr_call (As := [.int (xs (nI i + 1).toNatClampNeg), .int (xs (nI i + 2).toNatClampNeg)]) (rest := []) ⟨hx, hb, hml, hown, hT⟩ hM2 (cwV 2 hT gL_law_X9_join rfl rfl rfl (by decide +kernel) ⟨Nat.le_of_ble_eq_true rfl, Nat.le_of_ble_eq_true rfl⟩) hK hN rfl hl.1 rfl (Nat.le_of_ble_eq_true rfl) dL_law_1464 hr1 (fun H locs hN => ?_)
  refine lv_istore (lv' := [(6, .int rb), (5, .int code9), (0, .ref b), (1, .ref (ad 0 0)), (2, .ref (q 0)), (3, .ref o), (4, .int (nI i))]) hx hb dL_law_1467 hl (by decide) rfl (fun ls hl => ?_)
  refine lv_aload_n hx hb dL_law_1469 rfl (lv_at hl 4 rfl) ?_
  refine lr_call (As := []) (rest := []) ⟨hx, hb, hml, hown, hT⟩ (cM_thrown l D yI cZ q (u := u1) (rz := u1 0 0) (uz := u1) rfl) (cwV 0 hT gL_law_X9_thrown rfl rfl rfl (by decide +kernel) ⟨Nat.le_of_ble_eq_true rfl, Nat.le_of_ble_eq_true rfl⟩) hK hN rfl hl.1 rfl (Nat.le_of_ble_eq_true rfl) dL_law_1470 hr1 (fun H locs hN => ?_)
  refine lv_iload hx hb dL_law_1473 (lv_at hl 1 rfl) ?_
  refine lv_icmp_eq (tgt := 1480) hx hb dL_law_1475 (by decide) (fun c1 => ?_) (fun c1 => absurd hcode c1)
  refine lv_iload hx hb dL_law_1480 (lv_at hl 1 rfl) ?_
  refine lv_if_ne (tgt := 1497) hx hb dL_law_1482 (by decide) (fun c2 => ?_) (fun c2 => ?_)
  · refine lv_goto (tgt := 2544) hx hb dL_law_1497 (by decide) ?_
    exact K ad1 f1 H locs ls hN (by rw [had]; exact lv_sub hl [2, 3, 4, 5, 6] rfl)
  · refine lv_aload_n hx hb dL_law_1485 rfl (lv_at hl 5 rfl) ?_
    refine lv_iconst (v := 0) hx hb dL_law_1486 (by decide) ?_
    refine lr_long hx hb hK hN hf1 dL_law_1487 ?_
    refine lv_iload hx hb dL_law_1488 (lv_at hl 0 rfl) ?_
    refine lv_i2l (v := rb.toInt64) hx hb dL_law_1490 rfl ?_
    refine W.lcmp hx hb dL_law_1491 ?_
    refine lv_if_eq (tgt := 1497) hx hb dL_law_1492 (by decide) (fun c3 => ?_) (fun c3 => absurd ((lg_cmp_eq _ _).mpr (hout c2)) c3)
    refine lv_goto (tgt := 2544) hx hb dL_law_1497 (by decide) ?_
    exact K ad1 f1 H locs ls hN (by rw [had]; exact lv_sub hl [2, 3, 4, 5, 6] rfl)
