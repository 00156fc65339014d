set_option maxRecDepth 20000 in
theorem law_case {p : Program} {l : Launch} {e : Env} {s : State} {m : MethodId} {below : List Frame} {meth : Method} {c : Code} {b L : Nat} {xs : Nat → Int32} {D : va_G} {yI yO yL cZ : ClassId} {z0 : Nat} {q : Nat → Nat} {o : Nat} {ad : Nat → Nat → Nat} {g : CS} {u : MS} {f : Nat → Int64} {H : Heap} {locs : List Loc} {cells slots i : Nat} {ls : Array Slot} (hlf : l.stackTraces = false) (C0 : lw_At p s m meth c b L xs) (hT : ∀ w ∈ wsL_law, w.before #[Value.ref b] s = true) (hi : i + 7 ≤ L) (hL : L ≤ 3584) (hB : gB z0 (fun a : Nat => s.heap.size ≤ a) s) (hK : gK D yI yO yL cZ s) (hN : gW D yI yO yL cZ z0 q ad g u o f (fun a : Nat => s.heap.size ≤ a) s H locs) (hl : lv_has ls 7 [(0, .ref b), (1, .ref (ad 0 0)), (2, .ref (q 0)), (3, .ref o), (4, .int (nI i))]) (hRR : RR g u) (hr1 : cells + 20 ≤ 136060 ∧ slots + 7700 ≤ 8687926) (K : ∀ (mc ms : Nat) (g1 : CS) (u1 : MS) (ad1 : Nat → Nat → Nat) (f1 : Nat → Int64) (H1 : Heap) (locs1 : List Loc) (ls1 : Array Slot), mc ≤ 20 → ms ≤ 7700 → RR g1 u1 → gW D yI yO yL cZ z0 q ad1 g1 u1 o f1 (fun a : Nat => s.heap.size ≤ a) s H1 locs1 → lv_has ls1 7 [(0, .ref b), (1, .ref (ad1 0 0)), (2, .ref (q 0)), (3, .ref o), (4, .int (nI i))] → W p l e room_1 s m #[Value.ref b] below meth c H1 locs1 (cells + mc) (slots + ms) (lw_Z below #[Value.ref b] s) (F0 m 2544 ls1 [])) {j : Nat} (hj : j < 32) : W p l e room_1 s m #[Value.ref b] below meth c H locs cells slots (lw_Z below #[Value.ref b] s) (F0 m 40 ls [.int (nI j)]) := by
  have hx := C0.1
  have hb := C0.2.1
  rcases j with _ | _ | _ | _ | _ | _ | _ | _ | _ | _ | _ | _ | _ | _ | _ | _ | _ | _ | _ | _ | _ | _ | _ | _ | _ | _ | _ | _ | _ | _ | _ | _ | j
  · exact lv_tableIn (off := 144) (tgt := 184) hx hb dL_law_40 (by decide) (by decide) (by decide) (by decide) (lo_land hlf C0 hT hi hL hB hK hN hl hRR hr1 K)
  · exact lv_tableIn (off := 284) (tgt := 324) hx hb dL_law_40 (by decide) (by decide) (by decide) (by decide) (lo_waive hlf C0 hT hi hL hB hK hN hl hRR hr1 K)
  · exact lv_tableIn (off := 387) (tgt := 427) hx hb dL_law_40 (by decide) (by decide) (by decide) (by decide) (lo_rule hlf C0 hT hi hL hB hK hN hl hRR hr1 K)
  · exact lv_tableIn (off := 467) (tgt := 507) hx hb dL_law_40 (by decide) (by decide) (by decide) (by decide) (lo_person hlf C0 hT hi hL hB hK hN hl hRR hr1 K)
  · exact lv_tableIn (off := 535) (tgt := 575) hx hb dL_law_40 (by decide) (by decide) (by decide) (by decide) (lo_birth hlf C0 hT hi hL hB hK hN hl hRR hr1 K)
  · exact lv_tableIn (off := 603) (tgt := 643) hx hb dL_law_40 (by decide) (by decide) (by decide) (by decide) (lo_nation hlf C0 hT hi hL hB hK hN hl hRR hr1 K)
  · exact lv_tableIn (off := 699) (tgt := 739) hx hb dL_law_40 (by decide) (by decide) (by decide) (by decide) (lo_visa hlf C0 hT hi hL hB hK hN hl hRR hr1 K)
  · exact lv_tableIn (off := 817) (tgt := 857) hx hb dL_law_40 (by decide) (by decide) (by decide) (by decide) (lo_enter hlf C0 hT hi hL hB hK hN hl hRR hr1 K)
  · exact lv_tableIn (off := 885) (tgt := 925) hx hb dL_law_40 (by decide) (by decide) (by decide) (by decide) (lo_slip hlf C0 hT hi hL hB hK hN hl hRR hr1 K)
  · exact lv_tableIn (off := 953) (tgt := 993) hx hb dL_law_40 (by decide) (by decide) (by decide) (by decide) (lo_move hlf C0 hT hi hL hB hK hN hl hRR hr1 K)
  · exact lv_tableIn (off := 1021) (tgt := 1061) hx hb dL_law_40 (by decide) (by decide) (by decide) (by decide) (lo_leave hlf C0 hT hi hL hB hK hN hl hRR hr1 K)
  · exact lv_tableIn (off := 1077) (tgt := 1117) hx hb dL_law_40 (by decide) (by decide) (by decide) (by decide) (lo_ban hlf C0 hT hi hL hB hK hN hl hRR hr1 K)
  · exact lv_tableIn (off := 1157) (tgt := 1197) hx hb dL_law_40 (by decide) (by decide) (by decide) (by decide) (lo_lift hlf C0 hT hi hL hB hK hN hl hRR hr1 K)
  · exact lv_tableIn (off := 1232) (tgt := 1272) hx hb dL_law_40 (by decide) (by decide) (by decide) (by decide) (lo_quota hlf C0 hT hi hL hB hK hN hl hRR hr1 K)
  · exact lv_tableIn (off := 1312) (tgt := 1352) hx hb dL_law_40 (by decide) (by decide) (by decide) (by decide) (lo_ask hlf C0 hT hi hL hB hK hN hl hRR hr1 K)
  · exact lv_tableIn (off := 1392) (tgt := 1432) hx hb dL_law_40 (by decide) (by decide) (by decide) (by decide) (lo_join hlf C0 hT hi hL hB hK hN hl hRR hr1 K)
  · exact lv_tableIn (off := 1460) (tgt := 1500) hx hb dL_law_40 (by decide) (by decide) (by decide) (by decide) (lo_refuse hlf C0 hT hi hL hB hK hN hl hRR hr1 K)
  · exact lv_tableIn (off := 1516) (tgt := 1556) hx hb dL_law_40 (by decide) (by decide) (by decide) (by decide) (lo_appeal hlf C0 hT hi hL hB hK hN hl hRR hr1 K)
  · exact lv_tableIn (off := 1572) (tgt := 1612) hx hb dL_law_40 (by decide) (by decide) (by decide) (by decide) (lo_judge hlf C0 hT hi hL hB hK hN hl hRR hr1 K)
  · exact lv_tableIn (off := 1656) (tgt := 1696) hx hb dL_law_40 (by decide) (by decide) (by decide) (by decide) (lo_withdraw hlf C0 hT hi hL hB hK hN hl hRR hr1 K)
  · exact lv_tableIn (off := 1712) (tgt := 1752) hx hb dL_law_40 (by decide) (by decide) (by decide) (by decide) (lo_extend hlf C0 hT hi hL hB hK hN hl hRR hr1 K)
  · exact lv_tableIn (off := 1780) (tgt := 1820) hx hb dL_law_40 (by decide) (by decide) (by decide) (by decide) (lo_oath hlf C0 hT hi hL hB hK hN hl hRR hr1 K)
  · exact lv_tableIn (off := 1848) (tgt := 1888) hx hb dL_law_40 (by decide) (by decide) (by decide) (by decide) (lo_pass hlf C0 hT hi hL hB hK hN hl hRR hr1 K)
  · exact lv_tableIn (off := 1904) (tgt := 1944) hx hb dL_law_40 (by decide) (by decide) (by decide) (by decide) (lo_status hlf C0 hT hi hL hB hK hN hl hRR hr1 K)
  · exact lv_tableIn (off := 1960) (tgt := 2000) hx hb dL_law_40 (by decide) (by decide) (by decide) (by decide) (lo_about hlf C0 hT hi hL hB hK hN hl hRR hr1 K)
  · exact lv_tableIn (off := 2028) (tgt := 2068) hx hb dL_law_40 (by decide) (by decide) (by decide) (by decide) (lo_daysAnew hlf C0 hT hi hL hB hK hN hl hRR hr1 K)
  · exact lv_tableIn (off := 2084) (tgt := 2124) hx hb dL_law_40 (by decide) (by decide) (by decide) (by decide) (lo_was hlf C0 hT hi hL hB hK hN hl hRR hr1 K)
  · exact lv_tableIn (off := 2152) (tgt := 2192) hx hb dL_law_40 (by decide) (by decide) (by decide) (by decide) (lo_reason hlf C0 hT hi hL hB hK hN hl hRR hr1 K)
  · exact lv_tableIn (off := 2220) (tgt := 2260) hx hb dL_law_40 (by decide) (by decide) (by decide) (by decide) (lo_banned hlf C0 hT hi hL hB hK hN hl hRR hr1 K)
  · exact lv_tableIn (off := 2300) (tgt := 2340) hx hb dL_law_40 (by decide) (by decide) (by decide) (by decide) (lo_ofVisa hlf C0 hT hi hL hB hK hN hl hRR hr1 K)
  · exact lv_tableIn (off := 2368) (tgt := 2408) hx hb dL_law_40 (by decide) (by decide) (by decide) (by decide) (lo_ofRequest hlf C0 hT hi hL hB hK hN hl hRR hr1 K)
  · exact lv_tableIn (off := 2436) (tgt := 2476) hx hb dL_law_40 (by decide) (by decide) (by decide) (by decide) (lo_permit hlf C0 hT hi hL hB hK hN hl hRR hr1 K)
  · exact absurd hj (by omega)
set_option maxRecDepth 20000 in
/-- THE LAW'S LOOP: at its head, with i ints read, the class and the reference agree -/
theorem law_loop {p : Program} {l : Launch} {e : Env} {s : State} {m : MethodId} {below : List Frame} {meth : Method} {c : Code} {b L : Nat} {xs : Nat → Int32} {D : va_G} {yI yO yL cZ : ClassId} {z0 : Nat} {q : Nat → Nat} {o : Nat} (hlf : l.stackTraces = false) (C0 : lw_At p s m meth c b L xs) (hT : ∀ w ∈ wsL_law, w.before #[Value.ref b] s = true) (hL : L ≤ 3584) (hB : gB z0 (fun a : Nat => s.heap.size ≤ a) s) (hK : gK D yI yO yL cZ s) : ∀ (n i cells slots : Nat) (ad : Nat → Nat → Nat) (g : CS) (u : MS) (f : Nat → Int64) (H : Heap) (locs : List Loc) (ls : Array Slot), i ≤ L → L + 1 ≤ i + 7 * n → cells + 20 * n ≤ 136060 → slots + 7700 * n ≤ 8687926 → RR g u → gW D yI yO yL cZ z0 q ad g u o f (fun a : Nat => s.heap.size ≤ a) s H locs → lv_has ls 7 [(0, .ref b), (1, .ref (ad 0 0)), (2, .ref (q 0)), (3, .ref o), (4, .int (nI i))] → W p l e room_1 s m #[Value.ref b] below meth c H locs cells slots (lw_Z below #[Value.ref b] s) (F0 m 23 ls []) := by
  have hx := C0.1
  have hb := C0.2.1
  have hr := C0.2.2.1
  have hX := C0.2.2.2.2.2.2.1
  have hbl := C0.2.2.2.2.2.2.2.1
  have hlocks := C0.2.2.2.2.2.2.2.2.1
  have hbA : ¬ (fun a : Nat => s.heap.size ≤ a) b := Nat.not_le.mpr hbl
  intro n
  induction n with
  | zero =>
    intro i cells slots ad g u f H locs ls h1 h2
    exact absurd h2 (by omega)
  | succ n ih =>
    intro i cells slots ad g u f H locs ls h1 h2 h3 h4 hRR hN hl
    refine lv_iload hx hb dL_law_23 (lv_at hl 4 rfl) ?_
    refine lv_aload_n hx hb dL_law_25 rfl (lv_at hl 0 rfl) ?_
    refine va_slen hx hb hX hbl hbA hN.1.2.2 dL_law_26 ?_
    refine lv_bipush (v := nI 7) hx hb dL_law_27 (by decide) ?_
    refine lv_isub hx hb dL_law_29 ?_
    have e9 : (Int32.ofNat L - nI 7 < nI i) ↔ L < i + 7 := by
      show (nI L - nI 7 < nI i) ↔ L < i + 7
      rw [Int32.lt_iff_toInt_lt, pk_sub_toInt (by omega) (by omega), nI_toInt (by omega)]
      omega
    refine lv_icmp_gt (tgt := 2550) hx hb dL_law_30 (by decide) (fun c9 => ?_) (fun c9 => ?_)
    · refine lv_iconst (v := 1) hx hb dL_law_2550 (by decide) ?_
      refine va_forget (fun a ha => hN.1.2.2.2.2 a ha) ?_
      refine W.widen (k := 136060) (n := 8687926) (by omega) (by omega) ?_
      exact lw_ret hx hb hr hlocks dL_law_2551
    · have hi : i + 7 ≤ L := by
        rw [e9] at c9
        omega
      refine lv_aload_n hx hb dL_law_33 rfl (lv_at hl 0 rfl) ?_
      refine lv_iload hx hb dL_law_34 (lv_at hl 4 rfl) ?_
      refine va_sld hx hb hX hbl hbA hN.1.2.2 (vp_in_nI (by omega) (by omega)) dL_law_36 ?_
      refine lv_bipush (v := 31) hx hb dL_law_37 (by decide) ?_
      refine lv_iand hx hb dL_law_39 ?_
      obtain ⟨j, hj, e⟩ := pk_andE (xs (nI i).toNatClampNeg) (m := 31) 5 (by decide)
      rw [e]
      refine law_case hlf C0 hT hi hL hB hK hN hl hRR ⟨by omega, by omega⟩ (fun mc ms g1 u1 ad1 f1 H1 locs1 ls1 k1 k2 hR1 hN1 hl1 => ?_) hj
      refine lv_iinc (v := nI (i + 7)) (k := 4) (lv' := [(4, .int (nI (i + 7))), (0, .ref b), (1, .ref (ad1 0 0)), (2, .ref (q 0)), (3, .ref o)]) hx hb dL_law_2544 hl1 rfl (nI_add i 7) (by decide) rfl (fun ls2 hl2 => ?_)
      refine lv_goto (tgt := 23) hx hb dL_law_2547 (by decide) ?_
      exact ih (i + 7) _ _ ad1 g1 u1 f1 H1 locs1 ls2 (by omega) (by omega) (by omega) (by omega) hR1 hN1 (lv_sub hl2 [1, 2, 3, 4, 0] rfl)
