set_option maxRecDepth 20000 in
theorem lc_about {p : Program} {l : Launch} {e : Env} {s : State} {m : MethodId} {below : List Frame} {meth : Method} {c : Code} {b L : Nat} {xs : Nat → Int32} {D : va_G} {yI yO yL cZ : ClassId} {z0 : Nat} {q : Nat → Nat} {ad : Nat → Nat → Nat} {g : CS} {u : MS} {o : Nat} {f : Nat → Int64} {H : Heap} {locs : List Loc} {cells slots i : Nat} {ls : Array Slot} {g1 : CS} {u1 : MS} {mc ms : Nat} {code9 rb : Int32} {out : Int64} (C0 : lw_At p s m meth c b L xs) (hT : ∀ w ∈ wsL_law, w.before #[Value.ref b] s = true) (hi : i + 7 ≤ L) (hL : L ≤ 3584) (hB : gB z0 (fun a : Nat => s.heap.size ≤ a) s) (hK : gK D yI yO yL cZ s) (hN : gW D yI yO yL cZ z0 q ad g u o f (fun a : Nat => s.heap.size ≤ a) s H locs) (hl : lv_has ls 7 [(0, .ref b), (1, .ref (ad 0 0)), (2, .ref (q 0)), (3, .ref o), (4, .int (nI i))]) (hr1 : cells + mc ≤ 136060 ∧ slots + ms ≤ 8687926) (hM1 : Met l yL_about wsL_about ({ frames := 8, cells := mc, slots := ms, locals := 134 }) (va_Pc [.ref (ad 0 0), .int (xs (nI i + 1).toNatClampNeg), .int (xs (nI i + 2).toNatClampNeg), .ref o] (hPre D yI yO yL z0 ad g o f H.size)) (hQ D yI yO yL z0 ad g1 o f code9 out (hAd ad g H.size o)) mc ms (hAd ad g H.size o)) (hM2 : Met l yX9_about wsX9_about (mR 2 49) (va_Pc [.ref (q 0), .int (xs (nI i + 1).toNatClampNeg), .int (xs (nI i + 2).toNatClampNeg)] (mPre D yI cZ q u)) (mQ D yI cZ q rb u1) 0 0 (mF q)) (hcode : u1 0 0 = code9) (hout : code9 = 0 → out = rb.toInt64) (K : ∀ (ad1 : Nat → Nat → Nat) (f1 : Nat → Int64) (H1 : Heap) (locs1 : List Loc) (ls1 : Array Slot), gW D yI yO yL cZ z0 q ad1 g1 u1 o f1 (fun a : Nat => s.heap.size ≤ a) s H1 locs1 → lv_has ls1 7 [(0, .ref b), (1, .ref (ad1 0 0)), (2, .ref (q 0)), (3, .ref o), (4, .int (nI i))] → W p l e room_1 s m #[Value.ref b] below meth c H1 locs1 (cells + mc) (slots + ms) (lw_Z below #[Value.ref b] s) (F0 m 2544 ls1 [])) : W p l e room_1 s m #[Value.ref b] below meth c H locs (cells) (slots) (lw_Z below #[Value.ref b] s) (F0 m 2000 ls []) := by
  obtain ⟨hx, hb, hr, hml, hown9, -, hX, hbl, hlocks, -⟩ := C0
  have hown : s.vm.findClass RL = some m.cls := hown9
  have hA : ∀ a : Nat, s.heap.size ≤ a → (fun a : Nat => s.heap.size ≤ a) a := fun _ h => h
  have hbA : ¬ (fun a : Nat => s.heap.size ≤ a) b := Nat.not_le.mpr hbl
  have v1 : vp_in (nI i + 1) L := by
    show vp_in (nI i + nI 1) L
    rw [nI_add]
    exact vp_in_nI (by omega) (by omega)
  have v2 : vp_in (nI i + 2) L := by
    show vp_in (nI i + nI 2) L
    rw [nI_add]
    exact vp_in_nI (by omega) (by omega)
  refine lv_aload_n hx hb dL_law_2000 rfl (lv_at hl 1 rfl) ?_
  refine lv_aload_n hx hb dL_law_2001 rfl (lv_at hl 0 rfl) ?_
  refine lv_iload hx hb dL_law_2002 (lv_at hl 4 rfl) ?_
  refine lv_iconst (v := 1) hx hb dL_law_2004 (by decide) ?_
  refine lv_iadd hx hb dL_law_2005 ?_
  refine va_sld hx hb hX hbl hbA hN.1.2.2 v1 dL_law_2006 ?_
  refine lv_aload_n hx hb dL_law_2007 rfl (lv_at hl 0 rfl) ?_
  refine lv_iload hx hb dL_law_2008 (lv_at hl 4 rfl) ?_
  refine lv_iconst (v := 2) hx hb dL_law_2010 (by decide) ?_
  refine lv_iadd hx hb dL_law_2011 ?_
  refine va_sld hx hb hX hbl hbA hN.1.2.2 v2 dL_law_2012 ?_
  refine lv_aload_n hx hb dL_law_2013 rfl (lv_at hl 3 rfl) ?_
  refine lh_call (As := [.ref (ad 0 0), .int (xs (nI i + 1).toNatClampNeg), .int (xs (nI i + 2).toNatClampNeg), .ref o]) (rest := []) ⟨hx, hb, hml, hown, hT⟩ hM1 (vx_cwSW 4 hT gL_law_L_about rfl rfl rfl (by decide +kernel) ⟨Nat.le_of_ble_eq_true rfl, Nat.le_of_ble_eq_true rfl⟩) hB hK hN hA rfl hl.1 rfl (Nat.le_of_ble_eq_true rfl) dL_law_2014 hr1 (fun ad1 f1 H locs had hf1 hN => ?_)
  refine lv_istore (lv' := [(5, .int code9), (0, .ref b), (1, .ref (ad 0 0)), (2, .ref (q 0)), (3, .ref o), (4, .int (nI i))]) hx hb dL_law_2017 hl (by decide) rfl (fun ls hl => ?_)
  refine lv_aload_n hx hb dL_law_2019 rfl (lv_at hl 3 rfl) ?_
  refine lv_aload_n hx hb dL_law_2020 rfl (lv_at hl 1 rfl) ?_
  refine lv_iload hx hb dL_law_2021 (lv_at hl 5 rfl) ?_
  refine lv_iconst (v := 1) hx hb dL_law_2023 (by decide) ?_
  refine lv_iadd hx hb dL_law_2024 ?_
  refine va_sld hx hb hX hbl hbA hN.1.2.2 v1 dL_law_2025 ?_
  refine lv_aload_n hx hb dL_law_2026 rfl (lv_at hl 1 rfl) ?_
  refine lv_iload hx hb dL_law_2027 (lv_at hl 5 rfl) ?_
  refine lv_iconst (v := 2) hx hb dL_law_2029 (by decide) ?_
  refine lv_iadd hx hb dL_law_2030 ?_
  refine va_sld hx hb hX hbl hbA hN.1.2.2 v2 dL_law_2031 ?_
  refine lr_call (As := [.int (xs (nI i + 1).toNatClampNeg), .int (xs (nI i + 2).toNatClampNeg)]) (rest := []) ⟨hx, hb, hml, hown, hT⟩ hM2 (cwV 2 hT gL_law_X9_about rfl rfl rfl (by decide +kernel) ⟨Nat.le_of_ble_eq_true rfl, Nat.le_of_ble_eq_true rfl⟩) hK hN rfl hl.1 rfl (Nat.le_of_ble_eq_true rfl) dL_law_2032 hr1 (fun H locs hN => ?_)
  refine lv_istore (lv' := [(6, .int rb), (5, .int code9), (0, .ref b), (1, .ref (ad 0 0)), (2, .ref (q 0)), (3, .ref o), (4, .int (nI i))]) hx hb dL_law_2035 hl (by decide) rfl (fun ls hl => ?_)
  refine lv_aload_n hx hb dL_law_2037 rfl (lv_at hl 4 rfl) ?_
  refine lr_call (As := []) (rest := []) ⟨hx, hb, hml, hown, hT⟩ (cM_thrown l D yI cZ q (u := u1) (rz := u1 0 0) (uz := u1) rfl) (cwV 0 hT gL_law_X9_thrown rfl rfl rfl (by decide +kernel) ⟨Nat.le_of_ble_eq_true rfl, Nat.le_of_ble_eq_true rfl⟩) hK hN rfl hl.1 rfl (Nat.le_of_ble_eq_true rfl) dL_law_2038 hr1 (fun H locs hN => ?_)
  refine lv_iload hx hb dL_law_2041 (lv_at hl 1 rfl) ?_
  refine lv_icmp_eq (tgt := 2048) hx hb dL_law_2043 (by decide) (fun c1 => ?_) (fun c1 => absurd hcode c1)
  refine lv_iload hx hb dL_law_2048 (lv_at hl 1 rfl) ?_
  refine lv_if_ne (tgt := 2065) hx hb dL_law_2050 (by decide) (fun c2 => ?_) (fun c2 => ?_)
  · refine lv_goto (tgt := 2544) hx hb dL_law_2065 (by decide) ?_
    exact K ad1 f1 H locs ls hN (by rw [had]; exact lv_sub hl [2, 3, 4, 5, 6] rfl)
  · refine lv_aload_n hx hb dL_law_2053 rfl (lv_at hl 5 rfl) ?_
    refine lv_iconst (v := 0) hx hb dL_law_2054 (by decide) ?_
    refine lr_long hx hb hK hN hf1 dL_law_2055 ?_
    refine lv_iload hx hb dL_law_2056 (lv_at hl 0 rfl) ?_
    refine lv_i2l (v := rb.toInt64) hx hb dL_law_2058 rfl ?_
    refine W.lcmp hx hb dL_law_2059 ?_
    refine lv_if_eq (tgt := 2065) hx hb dL_law_2060 (by decide) (fun c3 => ?_) (fun c3 => absurd ((lg_cmp_eq _ _).mpr (hout c2)) c3)
    refine lv_goto (tgt := 2544) hx hb dL_law_2065 (by decide) ?_
    exact K ad1 f1 H locs ls hN (by rw [had]; exact lv_sub hl [2, 3, 4, 5, 6] rfl)
set_option maxRecDepth 20000 in
theorem lc_daysAnew {p : Program} {l : Launch} {e : Env} {s : State} {m : MethodId} {below : List Frame} {meth : Method} {c : Code} {b L : Nat} {xs : Nat → Int32} {D : va_G} {yI yO yL cZ : ClassId} {z0 : Nat} {q : Nat → Nat} {ad : Nat → Nat → Nat} {g : CS} {u : MS} {o : Nat} {f : Nat → Int64} {H : Heap} {locs : List Loc} {cells slots i : Nat} {ls : Array Slot} {g1 : CS} {u1 : MS} {mc ms : Nat} {code9 rb : Int32} {out : Int64} (C0 : lw_At p s m meth c b L xs) (hT : ∀ w ∈ wsL_law, w.before #[Value.ref b] s = true) (hi : i + 7 ≤ L) (hL : L ≤ 3584) (hB : gB z0 (fun a : Nat => s.heap.size ≤ a) s) (hK : gK D yI yO yL cZ s) (hN : gW D yI yO yL cZ z0 q ad g u o f (fun a : Nat => s.heap.size ≤ a) s H locs) (hl : lv_has ls 7 [(0, .ref b), (1, .ref (ad 0 0)), (2, .ref (q 0)), (3, .ref o), (4, .int (nI i))]) (hr1 : cells + mc ≤ 136060 ∧ slots + ms ≤ 8687926) (hM1 : Met l yL_daysAnew wsL_daysAnew ({ frames := 8, cells := mc, slots := ms, locals := 135 }) (va_Pc [.ref (ad 0 0), .int (xs (nI i + 1).toNatClampNeg), .ref o] (hPre D yI yO yL z0 ad g o f H.size)) (hQ D yI yO yL z0 ad g1 o f code9 out (hAd ad g H.size o)) mc ms (hAd ad g H.size o)) (hM2 : Met l yX9_daysAnew wsX9_daysAnew (mR 2 49) (va_Pc [.ref (q 0), .int (xs (nI i + 1).toNatClampNeg)] (mPre D yI cZ q u)) (mQ D yI cZ q rb u1) 0 0 (mF q)) (hcode : u1 0 0 = code9) (hout : code9 = 0 → out = rb.toInt64) (K : ∀ (ad1 : Nat → Nat → Nat) (f1 : Nat → Int64) (H1 : Heap) (locs1 : List Loc) (ls1 : Array Slot), gW D yI yO yL cZ z0 q ad1 g1 u1 o f1 (fun a : Nat => s.heap.size ≤ a) s H1 locs1 → lv_has ls1 7 [(0, .ref b), (1, .ref (ad1 0 0)), (2, .ref (q 0)), (3, .ref o), (4, .int (nI i))] → W p l e room_1 s m #[Value.ref b] below meth c H1 locs1 (cells + mc) (slots + ms) (lw_Z below #[Value.ref b] s) (F0 m 2544 ls1 [])) : W p l e room_1 s m #[Value.ref b] below meth c H locs (cells) (slots) (lw_Z below #[Value.ref b] s) (F0 m 2068 ls []) := by
  obtain ⟨hx, hb, hr, hml, hown9, -, hX, hbl, hlocks, -⟩ := C0
  have hown : s.vm.findClass RL = some m.cls := hown9
  have hA : ∀ a : Nat, s.heap.size ≤ a → (fun a : Nat => s.heap.size ≤ a) a := fun _ h => h
  have hbA : ¬ (fun a : Nat => s.heap.size ≤ a) b := Nat.not_le.mpr hbl
  have v1 : vp_in (nI i + 1) L := by
    show vp_in (nI i + nI 1) L
    rw [nI_add]
    exact vp_in_nI (by omega) (by omega)
  refine lv_aload_n hx hb dL_law_2068 rfl (lv_at hl 1 rfl) ?_
  refine lv_aload_n hx hb dL_law_2069 rfl (lv_at hl 0 rfl) ?_
  refine lv_iload hx hb dL_law_2070 (lv_at hl 4 rfl) ?_
  refine lv_iconst (v := 1) hx hb dL_law_2072 (by decide) ?_
  refine lv_iadd hx hb dL_law_2073 ?_
  refine va_sld hx hb hX hbl hbA hN.1.2.2 v1 dL_law_2074 ?_
  refine lv_aload_n hx hb dL_law_2075 rfl (lv_at hl 3 rfl) ?_
  refine lh_call (As := [.ref (ad 0 0), .int (xs (nI i + 1).toNatClampNeg), .ref o]) (rest := []) ⟨hx, hb, hml, hown, hT⟩ hM1 (vx_cwSW 3 hT gL_law_L_daysAnew rfl rfl rfl (by decide +kernel) ⟨Nat.le_of_ble_eq_true rfl, Nat.le_of_ble_eq_true rfl⟩) hB hK hN hA rfl hl.1 rfl (Nat.le_of_ble_eq_true rfl) dL_law_2076 hr1 (fun ad1 f1 H locs had hf1 hN => ?_)
  refine lv_istore (lv' := [(5, .int code9), (0, .ref b), (1, .ref (ad 0 0)), (2, .ref (q 0)), (3, .ref o), (4, .int (nI i))]) hx hb dL_law_2079 hl (by decide) rfl (fun ls hl => ?_)
  refine lv_aload_n hx hb dL_law_2081 rfl (lv_at hl 3 rfl) ?_
  refine lv_aload_n hx hb dL_law_2082 rfl (lv_at hl 1 rfl) ?_
  refine lv_iload hx hb dL_law_2083 (lv_at hl 5 rfl) ?_
  refine lv_iconst (v := 1) hx hb dL_law_2085 (by decide) ?_
  refine lv_iadd hx hb dL_law_2086 ?_
  refine va_sld hx hb hX hbl hbA hN.1.2.2 v1 dL_law_2087 ?_
  refine lr_call (As := [.int (xs (nI i + 1).toNatClampNeg)]) (rest := []) ⟨hx, hb, hml, hown, hT⟩ hM2 (cwV 1 hT gL_law_X9_daysAnew rfl rfl rfl (by decide +kernel) ⟨Nat.le_of_ble_eq_true rfl, Nat.le_of_ble_eq_true rfl⟩) hK hN rfl hl.1 rfl (Nat.le_of_ble_eq_true rfl) dL_law_2088 hr1 (fun H locs hN => ?_)
  refine lv_istore (lv' := [(6, .int rb), (5, .int code9), (0, .ref b), (1, .ref (ad 0 0)), (2, .ref (q 0)), (3, .ref o), (4, .int (nI i))]) hx hb dL_law_2091 hl (by decide) rfl (fun ls hl => ?_)
  refine lv_aload_n hx hb dL_law_2093 rfl (lv_at hl 4 rfl) ?_
  refine lr_call (As := []) (rest := []) ⟨hx, hb, hml, hown, hT⟩ (cM_thrown l D yI cZ q (u := u1) (rz := u1 0 0) (uz := u1) rfl) (cwV 0 hT gL_law_X9_thrown rfl rfl rfl (by decide +kernel) ⟨Nat.le_of_ble_eq_true rfl, Nat.le_of_ble_eq_true rfl⟩) hK hN rfl hl.1 rfl (Nat.le_of_ble_eq_true rfl) dL_law_2094 hr1 (fun H locs hN => ?_)
  refine lv_iload hx hb dL_law_2097 (lv_at hl 1 rfl) ?_
  refine lv_icmp_eq (tgt := 2104) hx hb dL_law_2099 (by decide) (fun c1 => ?_) (fun c1 => absurd hcode c1)
  refine lv_iload hx hb dL_law_2104 (lv_at hl 1 rfl) ?_
  refine lv_if_ne (tgt := 2121) hx hb dL_law_2106 (by decide) (fun c2 => ?_) (fun c2 => ?_)
  · refine lv_goto (tgt := 2544) hx hb dL_law_2121 (by decide) ?_
    exact K ad1 f1 H locs ls hN (by rw [had]; exact lv_sub hl [2, 3, 4, 5, 6] rfl)
  · refine lv_aload_n hx hb dL_law_2109 rfl (lv_at hl 5 rfl) ?_
    refine lv_iconst (v := 0) hx hb dL_law_2110 (by decide) ?_
    refine lr_long hx hb hK hN hf1 dL_law_2111 ?_
    refine lv_iload hx hb dL_law_2112 (lv_at hl 0 rfl) ?_
    refine lv_i2l (v := rb.toInt64) hx hb dL_law_2114 rfl ?_
    refine W.lcmp hx hb dL_law_2115 ?_
    refine lv_if_eq (tgt := 2121) hx hb dL_law_2116 (by decide) (fun c3 => ?_) (fun c3 => absurd ((lg_cmp_eq _ _).mpr (hout c2)) c3)
    refine lv_goto (tgt := 2544) hx hb dL_law_2121 (by decide) ?_
    exact K ad1 f1 H locs ls hN (by rw [had]; exact lv_sub hl [2, 3, 4, 5, 6] rfl)
set_option maxRecDepth 20000 in
theorem lc_was {p : Program} {l : Launch} {e : Env} {s : State} {m : MethodId} {below : List Frame} {meth : Method} {c : Code} {b L : Nat} {xs : Nat → Int32} {D : va_G} {yI yO yL cZ : ClassId} {z0 : Nat} {q : Nat → Nat} {ad : Nat → Nat → Nat} {g : CS} {u : MS} {o : Nat} {f : Nat → Int64} {H : Heap} {locs : List Loc} {cells slots i : Nat} {ls : Array Slot} {g1 : CS} {u1 : MS} {mc ms : Nat} {code9 rb : Int32} {out : Int64} (C0 : lw_At p s m meth c b L xs) (hT : ∀ w ∈ wsL_law, w.before #[Value.ref b] s = true) (hi : i + 7 ≤ L) (hL : L ≤ 3584) (hB : gB z0 (fun a : Nat => s.heap.size ≤ a) s) (hK : gK D yI yO yL cZ s) (hN : gW D yI yO yL cZ z0 q ad g u o f (fun a : Nat => s.heap.size ≤ a) s H locs) (hl : lv_has ls 7 [(0, .ref b), (1, .ref (ad 0 0)), (2, .ref (q 0)), (3, .ref o), (4, .int (nI i))]) (hr1 : cells + mc ≤ 136060 ∧ slots + ms ≤ 8687926) (hM1 : Met l yL_was wsL_was ({ frames := 8, cells := mc, slots := ms, locals := 134 }) (va_Pc [.ref (ad 0 0), .int (xs (nI i + 1).toNatClampNeg), .int (xs (nI i + 2).toNatClampNeg), .ref o] (hPre D yI yO yL z0 ad g o f H.size)) (hQ D yI yO yL z0 ad g1 o f code9 out (hAd ad g H.size o)) mc ms (hAd ad g H.size o)) (hM2 : Met l yX9_was wsX9_was (mR 2 43) (va_Pc [.ref (q 0), .int (xs (nI i + 1).toNatClampNeg), .int (xs (nI i + 2).toNatClampNeg)] (mPre D yI cZ q u)) (mQ D yI cZ q rb u1) 0 0 (mF q)) (hcode : u1 0 0 = code9) (hout : code9 = 0 → out = rb.toInt64) (K : ∀ (ad1 : Nat → Nat → Nat) (f1 : Nat → Int64) (H1 : Heap) (locs1 : List Loc) (ls1 : Array Slot), gW D yI yO yL cZ z0 q ad1 g1 u1 o f1 (fun a : Nat => s.heap.size ≤ a) s H1 locs1 → lv_has ls1 7 [(0, .ref b), (1, .ref (ad1 0 0)), (2, .ref (q 0)), (3, .ref o), (4, .int (nI i))] → W p l e room_1 s m #[Value.ref b] below meth c H1 locs1 (cells + mc) (slots + ms) (lw_Z below #[Value.ref b] s) (F0 m 2544 ls1 [])) : W p l e room_1 s m #[Value.ref b] below meth c H locs (cells) (slots) (lw_Z below #[Value.ref b] s) (F0 m 2124 ls []) := by
  obtain ⟨hx, hb, hr, hml, hown9, -, hX, hbl, hlocks, -⟩ := C0
  have hown : s.vm.findClass RL = some m.cls := hown9
  have hA : ∀ a : Nat, s.heap.size ≤ a → (fun a : Nat => s.heap.size ≤ a) a := fun _ h => h
  have hbA : ¬ (fun a : Nat => s.heap.size ≤ a) b := Nat.not_le.mpr hbl
  have v1 : vp_in (nI i + 1) L := by
    show vp_in (nI i + nI 1) L
    rw [nI_add]
    exact vp_in_nI (by omega) (by omega)
  have v2 : vp_in (nI i + 2) L := by
    show vp_in (nI i + nI 2) L
    rw [nI_add]
    exact vp_in_nI (by omega) (by omega)
  refine lv_aload_n hx hb dL_law_2124 rfl (lv_at hl 1 rfl) ?_
  refine lv_aload_n hx hb dL_law_2125 rfl (lv_at hl 0 rfl) ?_
  refine lv_iload hx hb dL_law_2126 (lv_at hl 4 rfl) ?_
  refine lv_iconst (v := 1) hx hb dL_law_2128 (by decide) ?_
  refine lv_iadd hx hb dL_law_2129 ?_
  refine va_sld hx hb hX hbl hbA hN.1.2.2 v1 dL_law_2130 ?_
  refine lv_aload_n hx hb dL_law_2131 rfl (lv_at hl 0 rfl) ?_
  refine lv_iload hx hb dL_law_2132 (lv_at hl 4 rfl) ?_
  refine lv_iconst (v := 2) hx hb dL_law_2134 (by decide) ?_
  refine lv_iadd hx hb dL_law_2135 ?_
  refine va_sld hx hb hX hbl hbA hN.1.2.2 v2 dL_law_2136 ?_
  refine lv_aload_n hx hb dL_law_2137 rfl (lv_at hl 3 rfl) ?_
  refine lh_call (As := [.ref (ad 0 0), .int (xs (nI i + 1).toNatClampNeg), .int (xs (nI i + 2).toNatClampNeg), .ref o]) (rest := []) ⟨hx, hb, hml, hown, hT⟩ hM1 (vx_cwSW 4 hT gL_law_L_was rfl rfl rfl (by decide +kernel) ⟨Nat.le_of_ble_eq_true rfl, Nat.le_of_ble_eq_true rfl⟩) hB hK hN hA rfl hl.1 rfl (Nat.le_of_ble_eq_true rfl) dL_law_2138 hr1 (fun ad1 f1 H locs had hf1 hN => ?_)
  refine lv_istore (lv' := [(5, .int code9), (0, .ref b), (1, .ref (ad 0 0)), (2, .ref (q 0)), (3, .ref o), (4, .int (nI i))]) hx hb dL_law_2141 hl (by decide) rfl (fun ls hl => ?_)
  refine lv_aload_n hx hb dL_law_2143 rfl (lv_at hl 3 rfl) ?_
  refine lv_aload_n hx hb dL_law_2144 rfl (lv_at hl 1 rfl) ?_
  refine lv_iload hx hb dL_law_2145 (lv_at hl 5 rfl) ?_
  refine lv_iconst (v := 1) hx hb dL_law_2147 (by decide) ?_
  refine lv_iadd hx hb dL_law_2148 ?_
  refine va_sld hx hb hX hbl hbA hN.1.2.2 v1 dL_law_2149 ?_
  refine lv_aload_n hx hb dL_law_2150 rfl (lv_at hl 1 rfl) ?_
  refine lv_iload hx hb dL_law_2151 (lv_at hl 5 rfl) ?_
  refine lv_iconst (v := 2) hx hb dL_law_2153 (by decide) ?_
  refine lv_iadd hx hb dL_law_2154 ?_
  refine va_sld hx hb hX hbl hbA hN.1.2.2 v2 dL_law_2155 ?_
  refine lr_call (As := [.int (xs (nI i + 1).toNatClampNeg), .int (xs (nI i + 2).toNatClampNeg)]) (rest := []) ⟨hx, hb, hml, hown, hT⟩ hM2 (cwV 2 hT gL_law_X9_was rfl rfl rfl (by decide +kernel) ⟨Nat.le_of_ble_eq_true rfl, Nat.le_of_ble_eq_true rfl⟩) hK hN rfl hl.1 rfl (Nat.le_of_ble_eq_true rfl) dL_law_2156 hr1 (fun H locs hN => ?_)
  refine lv_istore (lv' := [(6, .int rb), (5, .int code9), (0, .ref b), (1, .ref (ad 0 0)), (2, .ref (q 0)), (3, .ref o), (4, .int (nI i))]) hx hb dL_law_2159 hl (by decide) rfl (fun ls hl => ?_)
  refine lv_aload_n hx hb dL_law_2161 rfl (lv_at hl 4 rfl) ?_
  refine lr_call (As := []) (rest := []) ⟨hx, hb, hml, hown, hT⟩ (cM_thrown l D yI cZ q (u := u1) (rz := u1 0 0) (uz := u1) rfl) (cwV 0 hT gL_law_X9_thrown rfl rfl rfl (by decide +kernel) ⟨Nat.le_of_ble_eq_true rfl, Nat.le_of_ble_eq_true rfl⟩) hK hN rfl hl.1 rfl (Nat.le_of_ble_eq_true rfl) dL_law_2162 hr1 (fun H locs hN => ?_)
  refine lv_iload hx hb dL_law_2165 (lv_at hl 1 rfl) ?_
  refine lv_icmp_eq (tgt := 2172) hx hb dL_law_2167 (by decide) (fun c1 => ?_) (fun c1 => absurd hcode c1)
  refine lv_iload hx hb dL_law_2172 (lv_at hl 1 rfl) ?_
  refine lv_if_ne (tgt := 2189) hx hb dL_law_2174 (by decide) (fun c2 => ?_) (fun c2 => ?_)
  · refine lv_goto (tgt := 2544) hx hb dL_law_2189 (by decide) ?_
    exact K ad1 f1 H locs ls hN (by rw [had]; exact lv_sub hl [2, 3, 4, 5, 6] rfl)
  · refine lv_aload_n hx hb dL_law_2177 rfl (lv_at hl 5 rfl) ?_
    refine lv_iconst (v := 0) hx hb dL_law_2178 (by decide) ?_
    refine lr_long hx hb hK hN hf1 dL_law_2179 ?_
    refine lv_iload hx hb dL_law_2180 (lv_at hl 0 rfl) ?_
    refine lv_i2l (v := rb.toInt64) hx hb dL_law_2182 rfl ?_
    refine W.lcmp hx hb dL_law_2183 ?_
    refine lv_if_eq (tgt := 2189) hx hb dL_law_2184 (by decide) (fun c3 => ?_) (fun c3 => absurd ((lg_cmp_eq _ _).mpr (hout c2)) c3)
    refine lv_goto (tgt := 2544) hx hb dL_law_2189 (by decide) ?_
    exact K ad1 f1 H locs ls hN (by rw [had]; exact lv_sub hl [2, 3, 4, 5, 6] rfl)
set_option maxRecDepth 20000 in
theorem lc_reason {p : Program} {l : Launch} {e : Env} {s : State} {m : MethodId} {below : List Frame} {meth : Method} {c : Code} {b L : Nat} {xs : Nat → Int32} {D : va_G} {yI yO yL cZ : ClassId} {z0 : Nat} {q : Nat → Nat} {ad : Nat → Nat → Nat} {g : CS} {u : MS} {o : Nat} {f : Nat → Int64} {H : Heap} {locs : List Loc} {cells slots i : Nat} {ls : Array Slot} {g1 : CS} {u1 : MS} {mc ms : Nat} {code9 rb : Int32} {out : Int64} (C0 : lw_At p s m meth c b L xs) (hT : ∀ w ∈ wsL_law, w.before #[Value.ref b] s = true) (hi : i + 7 ≤ L) (hL : L ≤ 3584) (hB : gB z0 (fun a : Nat => s.heap.size ≤ a) s) (hK : gK D yI yO yL cZ s) (hN : gW D yI yO yL cZ z0 q ad g u o f (fun a : Nat => s.heap.size ≤ a) s H locs) (hl : lv_has ls 7 [(0, .ref b), (1, .ref (ad 0 0)), (2, .ref (q 0)), (3, .ref o), (4, .int (nI i))]) (hr1 : cells + mc ≤ 136060 ∧ slots + ms ≤ 8687926) (hM1 : Met l yL_reason wsL_reason ({ frames := 8, cells := mc, slots := ms, locals := 155 }) (va_Pc [.ref (ad 0 0), .int (xs (nI i + 1).toNatClampNeg), .int (xs (nI i + 2).toNatClampNeg), .ref o] (hPre D yI yO yL z0 ad g o f H.size)) (hQ D yI yO yL z0 ad g1 o f code9 out (hAd ad g H.size o)) mc ms (hAd ad g H.size o)) (hM2 : Met l yX9_reason wsX9_reason (mR 4 94) (va_Pc [.ref (q 0), .int (xs (nI i + 1).toNatClampNeg), .int (xs (nI i + 2).toNatClampNeg)] (mPre D yI cZ q u)) (mQ D yI cZ q rb u1) 0 0 (mF q)) (hcode : u1 0 0 = code9) (hout : code9 = 0 → out = rb.toInt64) (K : ∀ (ad1 : Nat → Nat → Nat) (f1 : Nat → Int64) (H1 : Heap) (locs1 : List Loc) (ls1 : Array Slot), gW D yI yO yL cZ z0 q ad1 g1 u1 o f1 (fun a : Nat => s.heap.size ≤ a) s H1 locs1 → lv_has ls1 7 [(0, .ref b), (1, .ref (ad1 0 0)), (2, .ref (q 0)), (3, .ref o), (4, .int (nI i))] → W p l e room_1 s m #[Value.ref b] below meth c H1 locs1 (cells + mc) (slots + ms) (lw_Z below #[Value.ref b] s) (F0 m 2544 ls1 [])) : W p l e room_1 s m #[Value.ref b] below meth c H locs (cells) (slots) (lw_Z below #[Value.ref b] s) (F0 m 2192 ls []) := by
  obtain ⟨hx, hb, hr, hml, hown9, -, hX, hbl, hlocks, -⟩ := C0
  have hown : s.vm.findClass RL = some m.cls := hown9
  have hA : ∀ a : Nat, s.heap.size ≤ a → (fun a : Nat => s.heap.size ≤ a) a := fun _ h => h
  have hbA : ¬ (fun a : Nat => s.heap.size ≤ a) b := Nat.not_le.mpr hbl
  have v1 : vp_in (nI i + 1) L := by
    show vp_in (nI i + nI 1) L
    rw [nI_add]
    exact vp_in_nI (by omega) (by omega)
  have v2 : vp_in (nI i + 2) L := by
    show vp_in (nI i + nI 2) L
    rw [nI_add]
    exact vp_in_nI (by omega) (by omega)
  refine lv_aload_n hx hb dL_law_2192 rfl (lv_at hl 1 rfl) ?_
  refine lv_aload_n hx hb dL_law_2193 rfl (lv_at hl 0 rfl) ?_
  refine lv_iload hx hb dL_law_2194 (lv_at hl 4 rfl) ?_
  refine lv_iconst (v := 1) hx hb dL_law_2196 (by decide) ?_
  refine lv_iadd hx hb dL_law_2197 ?_
  refine va_sld hx hb hX hbl hbA hN.1.2.2 v1 dL_law_2198 ?_
  refine lv_aload_n hx hb dL_law_2199 rfl (lv_at hl 0 rfl) ?_
  refine lv_iload hx hb dL_law_2200 (lv_at hl 4 rfl) ?_
  refine lv_iconst (v := 2) hx hb dL_law_2202 (by decide) ?_
  refine lv_iadd hx hb dL_law_2203 ?_
  refine va_sld hx hb hX hbl hbA hN.1.2.2 v2 dL_law_2204 ?_
  refine lv_aload_n hx hb dL_law_2205 rfl (lv_at hl 3 rfl) ?_
  refine lh_call (As := [.ref (ad 0 0), .int (xs (nI i + 1).toNatClampNeg), .int (xs (nI i + 2).toNatClampNeg), .ref o]) (rest := []) ⟨hx, hb, hml, hown, hT⟩ hM1 (vx_cwSW 4 hT gL_law_L_reason rfl rfl rfl (by decide +kernel) ⟨Nat.le_of_ble_eq_true rfl, Nat.le_of_ble_eq_true rfl⟩) hB hK hN hA rfl hl.1 rfl (Nat.le_of_ble_eq_true rfl) dL_law_2206 hr1 (fun ad1 f1 H locs had hf1 hN => ?_)
  refine lv_istore (lv' := [(5, .int code9), (0, .ref b), (1, .ref (ad 0 0)), (2, .ref (q 0)), (3, .ref o), (4, .int (nI i))]) hx hb dL_law_2209 hl (by decide) rfl (fun ls hl => ?_)
  refine lv_aload_n hx hb dL_law_2211 rfl (lv_at hl 3 rfl) ?_
  refine lv_aload_n hx hb dL_law_2212 rfl (lv_at hl 1 rfl) ?_
  refine lv_iload hx hb dL_law_2213 (lv_at hl 5 rfl) ?_
  refine lv_iconst (v := 1) hx hb dL_law_2215 (by decide) ?_
  refine lv_iadd hx hb dL_law_2216 ?_
  refine va_sld hx hb hX hbl hbA hN.1.2.2 v1 dL_law_2217 ?_
  refine lv_aload_n hx hb dL_law_2218 rfl (lv_at hl 1 rfl) ?_
  refine lv_iload hx hb dL_law_2219 (lv_at hl 5 rfl) ?_
  refine lv_iconst (v := 2) hx hb dL_law_2221 (by decide) ?_
  refine lv_iadd hx hb dL_law_2222 ?_
  refine va_sld hx hb hX hbl hbA hN.1.2.2 v2 dL_law_2223 ?_
  refine lr_call (As := [.int (xs (nI i + 1).toNatClampNeg), .int (xs (nI i + 2).toNatClampNeg)]) (rest := []) ⟨hx, hb, hml, hown, hT⟩ hM2 (cwV 2 hT gL_law_X9_reason rfl rfl rfl (by decide +kernel) ⟨Nat.le_of_ble_eq_true rfl, Nat.le_of_ble_eq_true rfl⟩) hK hN rfl hl.1 rfl (Nat.le_of_ble_eq_true rfl) dL_law_2224 hr1 (fun H locs hN => ?_)
  refine lv_istore (lv' := [(6, .int rb), (5, .int code9), (0, .ref b), (1, .ref (ad 0 0)), (2, .ref (q 0)), (3, .ref o), (4, .int (nI i))]) hx hb dL_law_2227 hl (by decide) rfl (fun ls hl => ?_)
  refine lv_aload_n hx hb dL_law_2229 rfl (lv_at hl 4 rfl) ?_
  refine lr_call (As := []) (rest := []) ⟨hx, hb, hml, hown, hT⟩ (cM_thrown l D yI cZ q (u := u1) (rz := u1 0 0) (uz := u1) rfl) (cwV 0 hT gL_law_X9_thrown rfl rfl rfl (by decide +kernel) ⟨Nat.le_of_ble_eq_true rfl, Nat.le_of_ble_eq_true rfl⟩) hK hN rfl hl.1 rfl (Nat.le_of_ble_eq_true rfl) dL_law_2230 hr1 (fun H locs hN => ?_)
  refine lv_iload hx hb dL_law_2233 (lv_at hl 1 rfl) ?_
  refine lv_icmp_eq (tgt := 2240) hx hb dL_law_2235 (by decide) (fun c1 => ?_) (fun c1 => absurd hcode c1)
  refine lv_iload hx hb dL_law_2240 (lv_at hl 1 rfl) ?_
  refine lv_if_ne (tgt := 2257) hx hb dL_law_2242 (by decide) (fun c2 => ?_) (fun c2 => ?_)
  · refine lv_goto (tgt := 2544) hx hb dL_law_2257 (by decide) ?_
    exact K ad1 f1 H locs ls hN (by rw [had]; exact lv_sub hl [2, 3, 4, 5, 6] rfl)
  · refine lv_aload_n hx hb dL_law_2245 rfl (lv_at hl 5 rfl) ?_
    refine lv_iconst (v := 0) hx hb dL_law_2246 (by decide) ?_
    refine lr_long hx hb hK hN hf1 dL_law_2247 ?_
    refine lv_iload hx hb dL_law_2248 (lv_at hl 0 rfl) ?_
    refine lv_i2l (v := rb.toInt64) hx hb dL_law_2250 rfl ?_
    refine W.lcmp hx hb dL_law_2251 ?_
    refine lv_if_eq (tgt := 2257) hx hb dL_law_2252 (by decide) (fun c3 => ?_) (fun c3 => absurd ((lg_cmp_eq _ _).mpr (hout c2)) c3)
    refine lv_goto (tgt := 2544) hx hb dL_law_2257 (by decide) ?_
    exact K ad1 f1 H locs ls hN (by rw [had]; exact lv_sub hl [2, 3, 4, 5, 6] rfl)
set_option maxRecDepth 20000 in
theorem lc_banned {p : Program} {l : Launch} {e : Env} {s : State} {m : MethodId} {below : List Frame} {meth : Method} {c : Code} {b L : Nat} {xs : Nat → Int32} {D : va_G} {yI yO yL cZ : ClassId} {z0 : Nat} {q : Nat → Nat} {ad : Nat → Nat → Nat} {g : CS} {u : MS} {o : Nat} {f : Nat → Int64} {H : Heap} {locs : List Loc} {cells slots i : Nat} {ls : Array Slot} {g1 : CS} {u1 : MS} {mc ms : Nat} {code9 rb : Int32} {out : Int64} (C0 : lw_At p s m meth c b L xs) (hT : ∀ w ∈ wsL_law, w.before #[Value.ref b] s = true) (hi : i + 7 ≤ L) (hL : L ≤ 3584) (hB : gB z0 (fun a : Nat => s.heap.size ≤ a) s) (hK : gK D yI yO yL cZ s) (hN : gW D yI yO yL cZ z0 q ad g u o f (fun a : Nat => s.heap.size ≤ a) s H locs) (hl : lv_has ls 7 [(0, .ref b), (1, .ref (ad 0 0)), (2, .ref (q 0)), (3, .ref o), (4, .int (nI i))]) (hr1 : cells + mc ≤ 136060 ∧ slots + ms ≤ 8687926) (hM1 : Met l yL_banned wsL_banned ({ frames := 8, cells := mc, slots := ms, locals := 137 }) (va_Pc [.ref (ad 0 0), .int (xs (nI i + 1).toNatClampNeg), .int (xs (nI i + 2).toNatClampNeg), .int (xs (nI i + 3).toNatClampNeg), .ref o] (hPre D yI yO yL z0 ad g o f H.size)) (hQ D yI yO yL z0 ad g1 o f code9 out (hAd ad g H.size o)) mc ms (hAd ad g H.size o)) (hM2 : Met l yX9_banned wsX9_banned (mR 2 43) (va_Pc [.ref (q 0), .int (xs (nI i + 1).toNatClampNeg), .int (xs (nI i + 2).toNatClampNeg), .int (xs (nI i + 3).toNatClampNeg)] (mPre D yI cZ q u)) (mQ D yI cZ q rb u1) 0 0 (mF q)) (hcode : u1 0 0 = code9) (hout : code9 = 0 → out = rb.toInt64) (K : ∀ (ad1 : Nat → Nat → Nat) (f1 : Nat → Int64) (H1 : Heap) (locs1 : List Loc) (ls1 : Array Slot), gW D yI yO yL cZ z0 q ad1 g1 u1 o f1 (fun a : Nat => s.heap.size ≤ a) s H1 locs1 → lv_has ls1 7 [(0, .ref b), (1, .ref (ad1 0 0)), (2, .ref (q 0)), (3, .ref o), (4, .int (nI i))] → W p l e room_1 s m #[Value.ref b] below meth c H1 locs1 (cells + mc) (slots + ms) (lw_Z below #[Value.ref b] s) (F0 m 2544 ls1 [])) : W p l e room_1 s m #[Value.ref b] below meth c H locs (cells) (slots) (lw_Z below #[Value.ref b] s) (F0 m 2260 ls []) := by
  obtain ⟨hx, hb, hr, hml, hown9, -, hX, hbl, hlocks, -⟩ := C0
  have hown : s.vm.findClass RL = some m.cls := hown9
  have hA : ∀ a : Nat, s.heap.size ≤ a → (fun a : Nat => s.heap.size ≤ a) a := fun _ h => h
  have hbA : ¬ (fun a : Nat => s.heap.size ≤ a) b := Nat.not_le.mpr hbl
  have v1 : vp_in (nI i + 1) L := by
    show vp_in (nI i + nI 1) L
    rw [nI_add]
    exact vp_in_nI (by omega) (by omega)
  have v2 : vp_in (nI i + 2) L := by
    show vp_in (nI i + nI 2) L
    rw [nI_add]
    exact vp_in_nI (by omega) (by omega)
  have v3 : vp_in (nI i + 3) L := by
    show vp_in (nI i + nI 3) L
    rw [nI_add]
    exact vp_in_nI (by omega) (by omega)
  refine lv_aload_n hx hb dL_law_2260 rfl (lv_at hl 1 rfl) ?_
  refine lv_aload_n hx hb dL_law_2261 rfl (lv_at hl 0 rfl) ?_
  refine lv_iload hx hb dL_law_2262 (lv_at hl 4 rfl) ?_
  refine lv_iconst (v := 1) hx hb dL_law_2264 (by decide) ?_
  refine lv_iadd hx hb dL_law_2265 ?_
  refine va_sld hx hb hX hbl hbA hN.1.2.2 v1 dL_law_2266 ?_
  refine lv_aload_n hx hb dL_law_2267 rfl (lv_at hl 0 rfl) ?_
  refine lv_iload hx hb dL_law_2268 (lv_at hl 4 rfl) ?_
  refine lv_iconst (v := 2) hx hb dL_law_2270 (by decide) ?_
  refine lv_iadd hx hb dL_law_2271 ?_
  refine va_sld hx hb hX hbl hbA hN.1.2.2 v2 dL_law_2272 ?_
  refine lv_aload_n hx hb dL_law_2273 rfl (lv_at hl 0 rfl) ?_
  refine lv_iload hx hb dL_law_2274 (lv_at hl 4 rfl) ?_
  refine lv_iconst (v := 3) hx hb dL_law_2276 (by decide) ?_
  refine lv_iadd hx hb dL_law_2277 ?_
  refine va_sld hx hb hX hbl hbA hN.1.2.2 v3 dL_law_2278 ?_
  refine lv_aload_n hx hb dL_law_2279 rfl (lv_at hl 3 rfl) ?_
  refine lh_call (As := [.ref (ad 0 0), .int (xs (nI i + 1).toNatClampNeg), .int (xs (nI i + 2).toNatClampNeg), .int (xs (nI i + 3).toNatClampNeg), .ref o]) (rest := []) ⟨hx, hb, hml, hown, hT⟩ hM1 (vx_cwSW 5 hT gL_law_L_banned rfl rfl rfl (by decide +kernel) ⟨Nat.le_of_ble_eq_true rfl, Nat.le_of_ble_eq_true rfl⟩) hB hK hN hA rfl hl.1 rfl (Nat.le_of_ble_eq_true rfl) dL_law_2280 hr1 (fun ad1 f1 H locs had hf1 hN => ?_)
  refine lv_istore (lv' := [(5, .int code9), (0, .ref b), (1, .ref (ad 0 0)), (2, .ref (q 0)), (3, .ref o), (4, .int (nI i))]) hx hb dL_law_2283 hl (by decide) rfl (fun ls hl => ?_)
  refine lv_aload_n hx hb dL_law_2285 rfl (lv_at hl 3 rfl) ?_
  refine lv_aload_n hx hb dL_law_2286 rfl (lv_at hl 1 rfl) ?_
  refine lv_iload hx hb dL_law_2287 (lv_at hl 5 rfl) ?_
  refine lv_iconst (v := 1) hx hb dL_law_2289 (by decide) ?_
  refine lv_iadd hx hb dL_law_2290 ?_
  refine va_sld hx hb hX hbl hbA hN.1.2.2 v1 dL_law_2291 ?_
  refine lv_aload_n hx hb dL_law_2292 rfl (lv_at hl 1 rfl) ?_
  refine lv_iload hx hb dL_law_2293 (lv_at hl 5 rfl) ?_
  refine lv_iconst (v := 2) hx hb dL_law_2295 (by decide) ?_
  refine lv_iadd hx hb dL_law_2296 ?_
  refine va_sld hx hb hX hbl hbA hN.1.2.2 v2 dL_law_2297 ?_
  refine lv_aload_n hx hb dL_law_2298 rfl (lv_at hl 1 rfl) ?_
  refine lv_iload hx hb dL_law_2299 (lv_at hl 5 rfl) ?_
  refine lv_iconst (v := 3) hx hb dL_law_2301 (by decide) ?_
  refine lv_iadd hx hb dL_law_2302 ?_
  refine va_sld hx hb hX hbl hbA hN.1.2.2 v3 dL_law_2303 ?_
  refine lr_call (As := [.int (xs (nI i + 1).toNatClampNeg), .int (xs (nI i + 2).toNatClampNeg), .int (xs (nI i + 3).toNatClampNeg)]) (rest := []) ⟨hx, hb, hml, hown, hT⟩ hM2 (cwV 3 hT gL_law_X9_banned rfl rfl rfl (by decide +kernel) ⟨Nat.le_of_ble_eq_true rfl, Nat.le_of_ble_eq_true rfl⟩) hK hN rfl hl.1 rfl (Nat.le_of_ble_eq_true rfl) dL_law_2304 hr1 (fun H locs hN => ?_)
  refine lv_istore (lv' := [(6, .int rb), (5, .int code9), (0, .ref b), (1, .ref (ad 0 0)), (2, .ref (q 0)), (3, .ref o), (4, .int (nI i))]) hx hb dL_law_2307 hl (by decide) rfl (fun ls hl => ?_)
  refine lv_aload_n hx hb dL_law_2309 rfl (lv_at hl 4 rfl) ?_
  refine lr_call (As := []) (rest := []) ⟨hx, hb, hml, hown, hT⟩ (cM_thrown l D yI cZ q (u := u1) (rz := u1 0 0) (uz := u1) rfl) (cwV 0 hT gL_law_X9_thrown rfl rfl rfl (by decide +kernel) ⟨Nat.le_of_ble_eq_true rfl, Nat.le_of_ble_eq_true rfl⟩) hK hN rfl hl.1 rfl (Nat.le_of_ble_eq_true rfl) dL_law_2310 hr1 (fun H locs hN => ?_)
  refine lv_iload hx hb dL_law_2313 (lv_at hl 1 rfl) ?_
  refine lv_icmp_eq (tgt := 2320) hx hb dL_law_2315 (by decide) (fun c1 => ?_) (fun c1 => absurd hcode c1)
  refine lv_iload hx hb dL_law_2320 (lv_at hl 1 rfl) ?_
  refine lv_if_ne (tgt := 2337) hx hb dL_law_2322 (by decide) (fun c2 => ?_) (fun c2 => ?_)
  · refine lv_goto (tgt := 2544) hx hb dL_law_2337 (by decide) ?_
    exact K ad1 f1 H locs ls hN (by rw [had]; exact lv_sub hl [2, 3, 4, 5, 6] rfl)
  · refine lv_aload_n hx hb dL_law_2325 rfl (lv_at hl 5 rfl) ?_
    refine lv_iconst (v := 0) hx hb dL_law_2326 (by decide) ?_
    refine lr_long hx hb hK hN hf1 dL_law_2327 ?_
    refine lv_iload hx hb dL_law_2328 (lv_at hl 0 rfl) ?_
    refine lv_i2l (v := rb.toInt64) hx hb dL_law_2330 rfl ?_
    refine W.lcmp hx hb dL_law_2331 ?_
    refine lv_if_eq (tgt := 2337) hx hb dL_law_2332 (by decide) (fun c3 => ?_) (fun c3 => absurd ((lg_cmp_eq _ _).mpr (hout c2)) c3)
    refine lv_goto (tgt := 2544) hx hb dL_law_2337 (by decide) ?_
    exact K ad1 f1 H locs ls hN (by rw [had]; exact lv_sub hl [2, 3, 4, 5, 6] rfl)
set_option maxRecDepth 20000 in
theorem lc_ofVisa {p : Program} {l : Launch} {e : Env} {s : State} {m : MethodId} {below : List Frame} {meth : Method} {c : Code} {b L : Nat} {xs : Nat → Int32} {D : va_G} {yI yO yL cZ : ClassId} {z0 : Nat} {q : Nat → Nat} {ad : Nat → Nat → Nat} {g : CS} {u : MS} {o : Nat} {f : Nat → Int64} {H : Heap} {locs : List Loc} {cells slots i : Nat} {ls : Array Slot} {g1 : CS} {u1 : MS} {mc ms : Nat} {code9 rb : Int32} {out : Int64} (C0 : lw_At p s m meth c b L xs) (hT : ∀ w ∈ wsL_law, w.before #[Value.ref b] s = true) (hi : i + 7 ≤ L) (hL : L ≤ 3584) (hB : gB z0 (fun a : Nat => s.heap.size ≤ a) s) (hK : gK D yI yO yL cZ s) (hN : gW D yI yO yL cZ z0 q ad g u o f (fun a : Nat => s.heap.size ≤ a) s H locs) (hl : lv_has ls 7 [(0, .ref b), (1, .ref (ad 0 0)), (2, .ref (q 0)), (3, .ref o), (4, .int (nI i))]) (hr1 : cells + mc ≤ 136060 ∧ slots + ms ≤ 8687926) (hM1 : Met l yL_ofVisa wsL_ofVisa ({ frames := 8, cells := mc, slots := ms, locals := 134 }) (va_Pc [.ref (ad 0 0), .int (xs (nI i + 1).toNatClampNeg), .int (xs (nI i + 2).toNatClampNeg), .ref o] (hPre D yI yO yL z0 ad g o f H.size)) (hQ D yI yO yL z0 ad g1 o f code9 out (hAd ad g H.size o)) mc ms (hAd ad g H.size o)) (hM2 : Met l yX9_ofVisa wsX9_ofVisa (mR 1 22) (va_Pc [.ref (q 0), .int (xs (nI i + 1).toNatClampNeg), .int (xs (nI i + 2).toNatClampNeg)] (mPre D yI cZ q u)) (mQ D yI cZ q rb u1) 0 0 (mF q)) (hcode : u1 0 0 = code9) (hout : code9 = 0 → out = rb.toInt64) (K : ∀ (ad1 : Nat → Nat → Nat) (f1 : Nat → Int64) (H1 : Heap) (locs1 : List Loc) (ls1 : Array Slot), gW D yI yO yL cZ z0 q ad1 g1 u1 o f1 (fun a : Nat => s.heap.size ≤ a) s H1 locs1 → lv_has ls1 7 [(0, .ref b), (1, .ref (ad1 0 0)), (2, .ref (q 0)), (3, .ref o), (4, .int (nI i))] → W p l e room_1 s m #[Value.ref b] below meth c H1 locs1 (cells + mc) (slots + ms) (lw_Z below #[Value.ref b] s) (F0 m 2544 ls1 [])) : W p l e room_1 s m #[Value.ref b] below meth c H locs (cells) (slots) (lw_Z below #[Value.ref b] s) (F0 m 2340 ls []) := by
  obtain ⟨hx, hb, hr, hml, hown9, -, hX, hbl, hlocks, -⟩ := C0
  have hown : s.vm.findClass RL = some m.cls := hown9
  have hA : ∀ a : Nat, s.heap.size ≤ a → (fun a : Nat => s.heap.size ≤ a) a := fun _ h => h
  have hbA : ¬ (fun a : Nat => s.heap.size ≤ a) b := Nat.not_le.mpr hbl
  have v1 : vp_in (nI i + 1) L := by
    show vp_in (nI i + nI 1) L
    rw [nI_add]
    exact vp_in_nI (by omega) (by omega)
  have v2 : vp_in (nI i + 2) L := by
    show vp_in (nI i + nI 2) L
    rw [nI_add]
    exact vp_in_nI (by omega) (by omega)
  refine lv_aload_n hx hb dL_law_2340 rfl (lv_at hl 1 rfl) ?_
  refine lv_aload_n hx hb dL_law_2341 rfl (lv_at hl 0 rfl) ?_
  refine lv_iload hx hb dL_law_2342 (lv_at hl 4 rfl) ?_
  refine lv_iconst (v := 1) hx hb dL_law_2344 (by decide) ?_
  refine lv_iadd hx hb dL_law_2345 ?_
  refine va_sld hx hb hX hbl hbA hN.1.2.2 v1 dL_law_2346 ?_
  refine lv_aload_n hx hb dL_law_2347 rfl (lv_at hl 0 rfl) ?_
  refine lv_iload hx hb dL_law_2348 (lv_at hl 4 rfl) ?_
  refine lv_iconst (v := 2) hx hb dL_law_2350 (by decide) ?_
  refine lv_iadd hx hb dL_law_2351 ?_
  refine va_sld hx hb hX hbl hbA hN.1.2.2 v2 dL_law_2352 ?_
  refine lv_aload_n hx hb dL_law_2353 rfl (lv_at hl 3 rfl) ?_
  refine lh_call (As := [.ref (ad 0 0), .int (xs (nI i + 1).toNatClampNeg), .int (xs (nI i + 2).toNatClampNeg), .ref o]) (rest := []) ⟨hx, hb, hml, hown, hT⟩ hM1 (vx_cwSW 4 hT gL_law_L_ofVisa rfl rfl rfl (by decide +kernel) ⟨Nat.le_of_ble_eq_true rfl, Nat.le_of_ble_eq_true rfl⟩) hB hK hN hA rfl hl.1 rfl (Nat.le_of_ble_eq_true rfl) dL_law_2354 hr1 (fun ad1 f1 H locs had hf1 hN => ?_)
  refine lv_istore (lv' := [(5, .int code9), (0, .ref b), (1, .ref (ad 0 0)), (2, .ref (q 0)), (3, .ref o), (4, .int (nI i))]) hx hb dL_law_2357 hl (by decide) rfl (fun ls hl => ?_)
  refine lv_aload_n hx hb dL_law_2359 rfl (lv_at hl 3 rfl) ?_
  refine lv_aload_n hx hb dL_law_2360 rfl (lv_at hl 1 rfl) ?_
  refine lv_iload hx hb dL_law_2361 (lv_at hl 5 rfl) ?_
  refine lv_iconst (v := 1) hx hb dL_law_2363 (by decide) ?_
  refine lv_iadd hx hb dL_law_2364 ?_
  refine va_sld hx hb hX hbl hbA hN.1.2.2 v1 dL_law_2365 ?_
  refine lv_aload_n hx hb dL_law_2366 rfl (lv_at hl 1 rfl) ?_
  refine lv_iload hx hb dL_law_2367 (lv_at hl 5 rfl) ?_
  refine lv_iconst (v := 2) hx hb dL_law_2369 (by decide) ?_
  refine lv_iadd hx hb dL_law_2370 ?_
  refine va_sld hx hb hX hbl hbA hN.1.2.2 v2 dL_law_2371 ?_
  refine lr_call (As := [.int (xs (nI i + 1).toNatClampNeg), .int (xs (nI i + 2).toNatClampNeg)]) (rest := []) ⟨hx, hb, hml, hown, hT⟩ hM2 (cwV 2 hT gL_law_X9_ofVisa rfl rfl rfl (by decide +kernel) ⟨Nat.le_of_ble_eq_true rfl, Nat.le_of_ble_eq_true rfl⟩) hK hN rfl hl.1 rfl (Nat.le_of_ble_eq_true rfl) dL_law_2372 hr1 (fun H locs hN => ?_)
  refine lv_istore (lv' := [(6, .int rb), (5, .int code9), (0, .ref b), (1, .ref (ad 0 0)), (2, .ref (q 0)), (3, .ref o), (4, .int (nI i))]) hx hb dL_law_2375 hl (by decide) rfl (fun ls hl => ?_)
  refine lv_aload_n hx hb dL_law_2377 rfl (lv_at hl 4 rfl) ?_
  refine lr_call (As := []) (rest := []) ⟨hx, hb, hml, hown, hT⟩ (cM_thrown l D yI cZ q (u := u1) (rz := u1 0 0) (uz := u1) rfl) (cwV 0 hT gL_law_X9_thrown rfl rfl rfl (by decide +kernel) ⟨Nat.le_of_ble_eq_true rfl, Nat.le_of_ble_eq_true rfl⟩) hK hN rfl hl.1 rfl (Nat.le_of_ble_eq_true rfl) dL_law_2378 hr1 (fun H locs hN => ?_)
  refine lv_iload hx hb dL_law_2381 (lv_at hl 1 rfl) ?_
  refine lv_icmp_eq (tgt := 2388) hx hb dL_law_2383 (by decide) (fun c1 => ?_) (fun c1 => absurd hcode c1)
  refine lv_iload hx hb dL_law_2388 (lv_at hl 1 rfl) ?_
  refine lv_if_ne (tgt := 2405) hx hb dL_law_2390 (by decide) (fun c2 => ?_) (fun c2 => ?_)
  · refine lv_goto (tgt := 2544) hx hb dL_law_2405 (by decide) ?_
    exact K ad1 f1 H locs ls hN (by rw [had]; exact lv_sub hl [2, 3, 4, 5, 6] rfl)
  · refine lv_aload_n hx hb dL_law_2393 rfl (lv_at hl 5 rfl) ?_
    refine lv_iconst (v := 0) hx hb dL_law_2394 (by decide) ?_
    refine lr_long hx hb hK hN hf1 dL_law_2395 ?_
    refine lv_iload hx hb dL_law_2396 (lv_at hl 0 rfl) ?_
    refine lv_i2l (v := rb.toInt64) hx hb dL_law_2398 rfl ?_
    refine W.lcmp hx hb dL_law_2399 ?_
    refine lv_if_eq (tgt := 2405) hx hb dL_law_2400 (by decide) (fun c3 => ?_) (fun c3 => absurd ((lg_cmp_eq _ _).mpr (hout c2)) c3)
    refine lv_goto (tgt := 2544) hx hb dL_law_2405 (by decide) ?_
    exact K ad1 f1 H locs ls hN (by rw [had]; exact lv_sub hl [2, 3, 4, 5, 6] rfl)
set_option maxRecDepth 20000 in
theorem lc_ofRequest {p : Program} {l : Launch} {e : Env} {s : State} {m : MethodId} {below : List Frame} {meth : Method} {c : Code} {b L : Nat} {xs : Nat → Int32} {D : va_G} {yI yO yL cZ : ClassId} {z0 : Nat} {q : Nat → Nat} {ad : Nat → Nat → Nat} {g : CS} {u : MS} {o : Nat} {f : Nat → Int64} {H : Heap} {locs : List Loc} {cells slots i : Nat} {ls : Array Slot} {g1 : CS} {u1 : MS} {mc ms : Nat} {code9 rb : Int32} {out : Int64} (C0 : lw_At p s m meth c b L xs) (hT : ∀ w ∈ wsL_law, w.before #[Value.ref b] s = true) (hi : i + 7 ≤ L) (hL : L ≤ 3584) (hB : gB z0 (fun a : Nat => s.heap.size ≤ a) s) (hK : gK D yI yO yL cZ s) (hN : gW D yI yO yL cZ z0 q ad g u o f (fun a : Nat => s.heap.size ≤ a) s H locs) (hl : lv_has ls 7 [(0, .ref b), (1, .ref (ad 0 0)), (2, .ref (q 0)), (3, .ref o), (4, .int (nI i))]) (hr1 : cells + mc ≤ 136060 ∧ slots + ms ≤ 8687926) (hM1 : Met l yL_ofRequest wsL_ofRequest ({ frames := 8, cells := mc, slots := ms, locals := 134 }) (va_Pc [.ref (ad 0 0), .int (xs (nI i + 1).toNatClampNeg), .int (xs (nI i + 2).toNatClampNeg), .ref o] (hPre D yI yO yL z0 ad g o f H.size)) (hQ D yI yO yL z0 ad g1 o f code9 out (hAd ad g H.size o)) mc ms (hAd ad g H.size o)) (hM2 : Met l yX9_ofRequest wsX9_ofRequest (mR 2 43) (va_Pc [.ref (q 0), .int (xs (nI i + 1).toNatClampNeg), .int (xs (nI i + 2).toNatClampNeg)] (mPre D yI cZ q u)) (mQ D yI cZ q rb u1) 0 0 (mF q)) (hcode : u1 0 0 = code9) (hout : code9 = 0 → out = rb.toInt64) (K : ∀ (ad1 : Nat → Nat → Nat) (f1 : Nat → Int64) (H1 : Heap) (locs1 : List Loc) (ls1 : Array Slot), gW D yI yO yL cZ z0 q ad1 g1 u1 o f1 (fun a : Nat => s.heap.size ≤ a) s H1 locs1 → lv_has ls1 7 [(0, .ref b), (1, .ref (ad1 0 0)), (2, .ref (q 0)), (3, .ref o), (4, .int (nI i))] → W p l e room_1 s m #[Value.ref b] below meth c H1 locs1 (cells + mc) (slots + ms) (lw_Z below #[Value.ref b] s) (F0 m 2544 ls1 [])) : W p l e room_1 s m #[Value.ref b] below meth c H locs (cells) (slots) (lw_Z below #[Value.ref b] s) (F0 m 2408 ls []) := by
  obtain ⟨hx, hb, hr, hml, hown9, -, hX, hbl, hlocks, -⟩ := C0
  have hown : s.vm.findClass RL = some m.cls := hown9
  have hA : ∀ a : Nat, s.heap.size ≤ a → (fun a : Nat => s.heap.size ≤ a) a := fun _ h => h
  have hbA : ¬ (fun a : Nat => s.heap.size ≤ a) b := Nat.not_le.mpr hbl
  have v1 : vp_in (nI i + 1) L := by
    show vp_in (nI i + nI 1) L
    rw [nI_add]
    exact vp_in_nI (by omega) (by omega)
  have v2 : vp_in (nI i + 2) L := by
    show vp_in (nI i + nI 2) L
    rw [nI_add]
    exact vp_in_nI (by omega) (by omega)
  refine lv_aload_n hx hb dL_law_2408 rfl (lv_at hl 1 rfl) ?_
  refine lv_aload_n hx hb dL_law_2409 rfl (lv_at hl 0 rfl) ?_
  refine lv_iload hx hb dL_law_2410 (lv_at hl 4 rfl) ?_
  refine lv_iconst (v := 1) hx hb dL_law_2412 (by decide) ?_
  refine lv_iadd hx hb dL_law_2413 ?_
  refine va_sld hx hb hX hbl hbA hN.1.2.2 v1 dL_law_2414 ?_
  refine lv_aload_n hx hb dL_law_2415 rfl (lv_at hl 0 rfl) ?_
  refine lv_iload hx hb dL_law_2416 (lv_at hl 4 rfl) ?_
  refine lv_iconst (v := 2) hx hb dL_law_2418 (by decide) ?_
  refine lv_iadd hx hb dL_law_2419 ?_
  refine va_sld hx hb hX hbl hbA hN.1.2.2 v2 dL_law_2420 ?_
  refine lv_aload_n hx hb dL_law_2421 rfl (lv_at hl 3 rfl) ?_
  refine lh_call (As := [.ref (ad 0 0), .int (xs (nI i + 1).toNatClampNeg), .int (xs (nI i + 2).toNatClampNeg), .ref o]) (rest := []) ⟨hx, hb, hml, hown, hT⟩ hM1 (vx_cwSW 4 hT gL_law_L_ofRequest rfl rfl rfl (by decide +kernel) ⟨Nat.le_of_ble_eq_true rfl, Nat.le_of_ble_eq_true rfl⟩) hB hK hN hA rfl hl.1 rfl (Nat.le_of_ble_eq_true rfl) dL_law_2422 hr1 (fun ad1 f1 H locs had hf1 hN => ?_)
  refine lv_istore (lv' := [(5, .int code9), (0, .ref b), (1, .ref (ad 0 0)), (2, .ref (q 0)), (3, .ref o), (4, .int (nI i))]) hx hb dL_law_2425 hl (by decide) rfl (fun ls hl => ?_)
  refine lv_aload_n hx hb dL_law_2427 rfl (lv_at hl 3 rfl) ?_
  refine lv_aload_n hx hb dL_law_2428 rfl (lv_at hl 1 rfl) ?_
  refine lv_iload hx hb dL_law_2429 (lv_at hl 5 rfl) ?_
  refine lv_iconst (v := 1) hx hb dL_law_2431 (by decide) ?_
  refine lv_iadd hx hb dL_law_2432 ?_
  refine va_sld hx hb hX hbl hbA hN.1.2.2 v1 dL_law_2433 ?_
  refine lv_aload_n hx hb dL_law_2434 rfl (lv_at hl 1 rfl) ?_
  refine lv_iload hx hb dL_law_2435 (lv_at hl 5 rfl) ?_
  refine lv_iconst (v := 2) hx hb dL_law_2437 (by decide) ?_
  refine lv_iadd hx hb dL_law_2438 ?_
  refine va_sld hx hb hX hbl hbA hN.1.2.2 v2 dL_law_2439 ?_
  refine lr_call (As := [.int (xs (nI i + 1).toNatClampNeg), .int (xs (nI i + 2).toNatClampNeg)]) (rest := []) ⟨hx, hb, hml, hown, hT⟩ hM2 (cwV 2 hT gL_law_X9_ofRequest rfl rfl rfl (by decide +kernel) ⟨Nat.le_of_ble_eq_true rfl, Nat.le_of_ble_eq_true rfl⟩) hK hN rfl hl.1 rfl (Nat.le_of_ble_eq_true rfl) dL_law_2440 hr1 (fun H locs hN => ?_)
  refine lv_istore (lv' := [(6, .int rb), (5, .int code9), (0, .ref b), (1, .ref (ad 0 0)), (2, .ref (q 0)), (3, .ref o), (4, .int (nI i))]) hx hb dL_law_2443 hl (by decide) rfl (fun ls hl => ?_)
  refine lv_aload_n hx hb dL_law_2445 rfl (lv_at hl 4 rfl) ?_
  refine lr_call (As := []) (rest := []) ⟨hx, hb, hml, hown, hT⟩ (cM_thrown l D yI cZ q (u := u1) (rz := u1 0 0) (uz := u1) rfl) (cwV 0 hT gL_law_X9_thrown rfl rfl rfl (by decide +kernel) ⟨Nat.le_of_ble_eq_true rfl, Nat.le_of_ble_eq_true rfl⟩) hK hN rfl hl.1 rfl (Nat.le_of_ble_eq_true rfl) dL_law_2446 hr1 (fun H locs hN => ?_)
  refine lv_iload hx hb dL_law_2449 (lv_at hl 1 rfl) ?_
  refine lv_icmp_eq (tgt := 2456) hx hb dL_law_2451 (by decide) (fun c1 => ?_) (fun c1 => absurd hcode c1)
  refine lv_iload hx hb dL_law_2456 (lv_at hl 1 rfl) ?_
  refine lv_if_ne (tgt := 2473) hx hb dL_law_2458 (by decide) (fun c2 => ?_) (fun c2 => ?_)
  · refine lv_goto (tgt := 2544) hx hb dL_law_2473 (by decide) ?_
    exact K ad1 f1 H locs ls hN (by rw [had]; exact lv_sub hl [2, 3, 4, 5, 6] rfl)
  · refine lv_aload_n hx hb dL_law_2461 rfl (lv_at hl 5 rfl) ?_
    refine lv_iconst (v := 0) hx hb dL_law_2462 (by decide) ?_
    refine lr_long hx hb hK hN hf1 dL_law_2463 ?_
    refine lv_iload hx hb dL_law_2464 (lv_at hl 0 rfl) ?_
    refine lv_i2l (v := rb.toInt64) hx hb dL_law_2466 rfl ?_
    refine W.lcmp hx hb dL_law_2467 ?_
    refine lv_if_eq (tgt := 2473) hx hb dL_law_2468 (by decide) (fun c3 => ?_) (fun c3 => absurd ((lg_cmp_eq _ _).mpr (hout c2)) c3)
    refine lv_goto (tgt := 2544) hx hb dL_law_2473 (by decide) ?_
    exact K ad1 f1 H locs ls hN (by rw [had]; exact lv_sub hl [2, 3, 4, 5, 6] rfl)
set_option maxRecDepth 20000 in
theorem lc_permit {p : Program} {l : Launch} {e : Env} {s : State} {m : MethodId} {below : List Frame} {meth : Method} {c : Code} {b L : Nat} {xs : Nat → Int32} {D : va_G} {yI yO yL cZ : ClassId} {z0 : Nat} {q : Nat → Nat} {ad : Nat → Nat → Nat} {g : CS} {u : MS} {o : Nat} {f : Nat → Int64} {H : Heap} {locs : List Loc} {cells slots i : Nat} {ls : Array Slot} {g1 : CS} {u1 : MS} {mc ms : Nat} {code9 rb : Int32} {out : Int64} (C0 : lw_At p s m meth c b L xs) (hT : ∀ w ∈ wsL_law, w.before #[Value.ref b] s = true) (hi : i + 7 ≤ L) (hL : L ≤ 3584) (hB : gB z0 (fun a : Nat => s.heap.size ≤ a) s) (hK : gK D yI yO yL cZ s) (hN : gW D yI yO yL cZ z0 q ad g u o f (fun a : Nat => s.heap.size ≤ a) s H locs) (hl : lv_has ls 7 [(0, .ref b), (1, .ref (ad 0 0)), (2, .ref (q 0)), (3, .ref o), (4, .int (nI i))]) (hr1 : cells + mc ≤ 136060 ∧ slots + ms ≤ 8687926) (hM1 : Met l yL_permit wsL_permit ({ frames := 8, cells := mc, slots := ms, locals := 135 }) (va_Pc [.ref (ad 0 0), .int (xs (nI i + 1).toNatClampNeg), .int (xs (nI i + 2).toNatClampNeg), .ref o] (hPre D yI yO yL z0 ad g o f H.size)) (hQ D yI yO yL z0 ad g1 o f code9 out (hAd ad g H.size o)) mc ms (hAd ad g H.size o)) (hM2 : Met l yX9_permit wsX9_permit (mR 2 43) (va_Pc [.ref (q 0), .int (xs (nI i + 1).toNatClampNeg), .int (xs (nI i + 2).toNatClampNeg)] (mPre D yI cZ q u)) (mQ D yI cZ q rb u1) 0 0 (mF q)) (hcode : u1 0 0 = code9) (hout : code9 = 0 → out = rb.toInt64) (K : ∀ (ad1 : Nat → Nat → Nat) (f1 : Nat → Int64) (H1 : Heap) (locs1 : List Loc) (ls1 : Array Slot), gW D yI yO yL cZ z0 q ad1 g1 u1 o f1 (fun a : Nat => s.heap.size ≤ a) s H1 locs1 → lv_has ls1 7 [(0, .ref b), (1, .ref (ad1 0 0)), (2, .ref (q 0)), (3, .ref o), (4, .int (nI i))] → W p l e room_1 s m #[Value.ref b] below meth c H1 locs1 (cells + mc) (slots + ms) (lw_Z below #[Value.ref b] s) (F0 m 2544 ls1 [])) : W p l e room_1 s m #[Value.ref b] below meth c H locs (cells) (slots) (lw_Z below #[Value.ref b] s) (F0 m 2476 ls []) := by
  obtain ⟨hx, hb, hr, hml, hown9, -, hX, hbl, hlocks, -⟩ := C0
  have hown : s.vm.findClass RL = some m.cls := hown9
  have hA : ∀ a : Nat, s.heap.size ≤ a → (fun a : Nat => s.heap.size ≤ a) a := fun _ h => h
  have hbA : ¬ (fun a : Nat => s.heap.size ≤ a) b := Nat.not_le.mpr hbl
  have v1 : vp_in (nI i + 1) L := by
    show vp_in (nI i + nI 1) L
    rw [nI_add]
    exact vp_in_nI (by omega) (by omega)
  have v2 : vp_in (nI i + 2) L := by
    show vp_in (nI i + nI 2) L
    rw [nI_add]
    exact vp_in_nI (by omega) (by omega)
  refine lv_aload_n hx hb dL_law_2476 rfl (lv_at hl 1 rfl) ?_
  refine lv_aload_n hx hb dL_law_2477 rfl (lv_at hl 0 rfl) ?_
  refine lv_iload hx hb dL_law_2478 (lv_at hl 4 rfl) ?_
  refine lv_iconst (v := 1) hx hb dL_law_2480 (by decide) ?_
  refine lv_iadd hx hb dL_law_2481 ?_
  refine va_sld hx hb hX hbl hbA hN.1.2.2 v1 dL_law_2482 ?_
  refine lv_aload_n hx hb dL_law_2483 rfl (lv_at hl 0 rfl) ?_
  refine lv_iload hx hb dL_law_2484 (lv_at hl 4 rfl) ?_
  refine lv_iconst (v := 2) hx hb dL_law_2486 (by decide) ?_
  refine lv_iadd hx hb dL_law_2487 ?_
  refine va_sld hx hb hX hbl hbA hN.1.2.2 v2 dL_law_2488 ?_
  refine lv_aload_n hx hb dL_law_2489 rfl (lv_at hl 3 rfl) ?_
  refine lh_call (As := [.ref (ad 0 0), .int (xs (nI i + 1).toNatClampNeg), .int (xs (nI i + 2).toNatClampNeg), .ref o]) (rest := []) ⟨hx, hb, hml, hown, hT⟩ hM1 (vx_cwSW 4 hT gL_law_L_permit rfl rfl rfl (by decide +kernel) ⟨Nat.le_of_ble_eq_true rfl, Nat.le_of_ble_eq_true rfl⟩) hB hK hN hA rfl hl.1 rfl (Nat.le_of_ble_eq_true rfl) dL_law_2490 hr1 (fun ad1 f1 H locs had hf1 hN => ?_)
  refine lv_istore (lv' := [(5, .int code9), (0, .ref b), (1, .ref (ad 0 0)), (2, .ref (q 0)), (3, .ref o), (4, .int (nI i))]) hx hb dL_law_2493 hl (by decide) rfl (fun ls hl => ?_)
  refine lv_aload_n hx hb dL_law_2495 rfl (lv_at hl 3 rfl) ?_
  refine lv_aload_n hx hb dL_law_2496 rfl (lv_at hl 1 rfl) ?_
  refine lv_iload hx hb dL_law_2497 (lv_at hl 5 rfl) ?_
  refine lv_iconst (v := 1) hx hb dL_law_2499 (by decide) ?_
  refine lv_iadd hx hb dL_law_2500 ?_
  refine va_sld hx hb hX hbl hbA hN.1.2.2 v1 dL_law_2501 ?_
  refine lv_aload_n hx hb dL_law_2502 rfl (lv_at hl 1 rfl) ?_
  refine lv_iload hx hb dL_law_2503 (lv_at hl 5 rfl) ?_
  refine lv_iconst (v := 2) hx hb dL_law_2505 (by decide) ?_
  refine lv_iadd hx hb dL_law_2506 ?_
  refine va_sld hx hb hX hbl hbA hN.1.2.2 v2 dL_law_2507 ?_
  refine lr_call (As := [.int (xs (nI i + 1).toNatClampNeg), .int (xs (nI i + 2).toNatClampNeg)]) (rest := []) ⟨hx, hb, hml, hown, hT⟩ hM2 (cwV 2 hT gL_law_X9_permit rfl rfl rfl (by decide +kernel) ⟨Nat.le_of_ble_eq_true rfl, Nat.le_of_ble_eq_true rfl⟩) hK hN rfl hl.1 rfl (Nat.le_of_ble_eq_true rfl) dL_law_2508 hr1 (fun H locs hN => ?_)
  refine lv_istore (lv' := [(6, .int rb), (5, .int code9), (0, .ref b), (1, .ref (ad 0 0)), (2, .ref (q 0)), (3, .ref o), (4, .int (nI i))]) hx hb dL_law_2511 hl (by decide) rfl (fun ls hl => ?_)
  refine lv_aload_n hx hb dL_law_2513 rfl (lv_at hl 4 rfl) ?_
  refine lr_call (As := []) (rest := []) ⟨hx, hb, hml, hown, hT⟩ (cM_thrown l D yI cZ q (u := u1) (rz := u1 0 0) (uz := u1) rfl) (cwV 0 hT gL_law_X9_thrown rfl rfl rfl (by decide +kernel) ⟨Nat.le_of_ble_eq_true rfl, Nat.le_of_ble_eq_true rfl⟩) hK hN rfl hl.1 rfl (Nat.le_of_ble_eq_true rfl) dL_law_2514 hr1 (fun H locs hN => ?_)
  refine lv_iload hx hb dL_law_2517 (lv_at hl 1 rfl) ?_
  refine lv_icmp_eq (tgt := 2524) hx hb dL_law_2519 (by decide) (fun c1 => ?_) (fun c1 => absurd hcode c1)
  refine lv_iload hx hb dL_law_2524 (lv_at hl 1 rfl) ?_
  refine lv_if_ne (tgt := 2541) hx hb dL_law_2526 (by decide) (fun c2 => ?_) (fun c2 => ?_)
  · refine lv_goto (tgt := 2544) hx hb dL_law_2541 (by decide) ?_
    exact K ad1 f1 H locs ls hN (by rw [had]; exact lv_sub hl [2, 3, 4, 5, 6] rfl)
  · refine lv_aload_n hx hb dL_law_2529 rfl (lv_at hl 5 rfl) ?_
    refine lv_iconst (v := 0) hx hb dL_law_2530 (by decide) ?_
    refine lr_long hx hb hK hN hf1 dL_law_2531 ?_
    refine lv_iload hx hb dL_law_2532 (lv_at hl 0 rfl) ?_
    refine lv_i2l (v := rb.toInt64) hx hb dL_law_2534 rfl ?_
    refine W.lcmp hx hb dL_law_2535 ?_
    refine lv_if_eq (tgt := 2541) hx hb dL_law_2536 (by decide) (fun c3 => ?_) (fun c3 => absurd ((lg_cmp_eq _ _).mpr (hout c2)) c3)
    refine lv_goto (tgt := 2544) hx hb dL_law_2541 (by decide) ?_
    exact K ad1 f1 H locs ls hN (by rw [had]; exact lv_sub hl [2, 3, 4, 5, 6] rfl)
