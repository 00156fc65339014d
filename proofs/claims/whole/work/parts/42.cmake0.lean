section GM0
variable {p : Program} {l : Launch} {e : Env} {s : State} {m : MethodId} {args : Array Value} {below : List Frame} {meth : Method} {c : Code} {D : va_G} {yI yO : ClassId} {z0 : Nat} {ad : Nat → Nat → Nat} {A : Nat → Prop}
theorem iC_Court_land_X1 : ∀ w ∈ wsX10, w ∈ wsX8_land := by decide +kernel
theorem iC_Court_land_X8 : ∀ w ∈ wsX80, w ∈ wsX8_land := by decide +kernel
theorem eC_Court_land_45 : ∀ w ∈ (vx_atS RX8 45 "java/lang/IllegalArgumentException" ["java/lang/RuntimeException", "java/lang/Exception"]).filter goodWord, w ∈ wsX8_land := by decide +kernel
theorem eC_Court_land_56 : ∀ w ∈ (vx_atS RX8 56 "java/lang/IllegalStateException" ["java/lang/RuntimeException", "java/lang/Exception"]).filter goodWord, w ∈ wsX8_land := by decide +kernel
def fC_Court_land_12 (g : CS) : Option (Nat ⊕ (Int32 × CS)) :=
  some (.inl 1)
set_option maxRecDepth 20000 in
theorem w_C_Court_land_12 (C : cC p s m args meth c cX8_land RX8 (some .int) wsX8_land 6 D yI yO) (hys : yS z0 A s s.heap) (hA : ∀ q, s.heap.size ≤ q → A q) {gz : CS} {rz : Int32} {g : CS} (h : fC_Court_land_12 g = some (.inr (rz, gz))) {H : Heap} {locs : List Loc} {ls : Array Slot} (hX : cX D yI yO z0 ad g A s H locs) (hI : yOK g) (hl : lv_has ls 6 [(0, .ref (ad 0 0))]) : W p l e (nR 7 201) s m args below meth c H locs 0 0 (MQ below (cQN D yI yO z0 ad rz g gz A) args s 20 7700 A) (F0 m 12 ls []) := by
  obtain ⟨hx, hb, hr, hts, hown, hlocks, hml, hK⟩ := id C
  unfold fC_Court_land_12 at h
  cases h
set_option maxRecDepth 20000 in
theorem w_X_Court_land_12 (C : cC p s m args meth c cX8_land RX8 (some .int) wsX8_land 6 D yI yO) {Qc : Array Value → State → Outcome → State → Prop} (hlf : l.stackTraces = false) (ht : ∀ x ∈ c.exceptionTable.toList, False) (hxs : xS A s s.heap) (hA : ∀ q, s.heap.size ≤ q → A q) {ez : Nat} {g : CS} (h : fC_Court_land_12 g = some (.inl ez)) {H : Heap} {locs : List Loc} {ls : Array Slot} (hX : cX D yI yO z0 ad g A s H locs) (hl : lv_has ls 6 [(0, .ref (ad 0 0))]) : W p l e (xR 7 201) s m args below meth c H locs 0 0 (vx_MQ below Qc (xXC D yI yO z0 ad g ez A) args s 1 6 A) (F0 m 12 ls []) := by
  obtain ⟨hx, hb, hr, hts, hown, hlocks, hml, hK⟩ := id C
  unfold fC_Court_land_12 at h
  cases h
  obtain ⟨sa, hsa⟩ := hxs.2.2.1 (43, "late is out of range") (by decide +kernel)
  exact vx_throwS hx hb hlf (own := RX8) (cls := "java/lang/IllegalArgumentException") (text := "late is out of range") (names := ["java/lang/RuntimeException", "java/lang/Exception"]) (A := A) hown (by decide +kernel) (by decide +kernel) (hts (.classLink RX8 41 "java/lang/IllegalArgumentException") (by decide +kernel)) (hts (.initialized "java/lang/IllegalArgumentException") (by decide +kernel)) hsa (vx_hat (fun w hw => hts w (eC_Court_land_45 w hw)) (B := xB) (by decide +kernel) (fun w hw => va_Nw.use (xB_on w hw) (hxs.2.2.2 w hw))) (by decide +kernel) hxs.1 hxs.2.1 hX.2.2 (hl.1.trans hml.symm) dX8_land_12 dX8_land_15 dX8_land_16 dX8_land_18 dX8_land_21 (fun x hx => (ht x hx).elim) (Nat.le_of_ble_eq_true rfl) (Nat.le_of_ble_eq_true rfl) (Nat.le_of_ble_eq_true rfl) (Nat.le_of_ble_eq_true rfl) hlocks (fun t a1 a2 a3 => xX_post rfl hK hX t a1 a2 a3) hX.2.2.2.2 (Nat.le_refl _) (Nat.le_refl _)
def fC_Court_land (g : CS) (x1 : Int32) (x2 : Int32) (x3 : Int32) (x4 : Int32) : Option (Nat ⊕ (Int32 × CS)) :=
  if x4 < 0 then
    fC_Court_land_12 g
  else
    if x4 ≤ 30 then
      if (nI (sN g 0)) < 8 then
        (mbo x1).bind fun b4 =>
        (mbo x2).bind fun b5 =>
        (mbo x3).bind fun b6 =>
        some (.inr (sI ((gnew g 0 (LLand (nI (sN g 0)) x1 x2 x3 x4))) 4 ((lix 0 (sN g 0))) 0, (gnew g 0 (LLand (nI (sN g 0)) x1 x2 x3 x4))))
      else
        some (.inl 2)
    else
      fC_Court_land_12 g
set_option maxRecDepth 20000 in
theorem w_C_Court_land_0 (C : cC p s m args meth c cX8_land RX8 (some .int) wsX8_land 6 D yI yO) (hys : yS z0 A s s.heap) (hA : ∀ q, s.heap.size ≤ q → A q) {gz : CS} {rz : Int32} {g : CS} {x1 : Int32} {x2 : Int32} {x3 : Int32} {x4 : Int32} (h : fC_Court_land g x1 x2 x3 x4 = some (.inr (rz, gz))) {H : Heap} {locs : List Loc} {ls : Array Slot} (hX : cX D yI yO z0 ad g A s H locs) (hI : yOK g) (hl : lv_has ls 6 [(0, .ref (ad 0 0)), (1, .int x1), (2, .int x2), (3, .int x3), (4, .int x4)]) : W p l e (nR 7 201) s m args below meth c H locs 0 0 (MQ below (cQN D yI yO z0 ad rz g gz A) args s 20 7700 A) (F0 m 0 ls []) := by
  obtain ⟨hx, hb, hr, hts, hown, hlocks, hml, hK⟩ := id C
  unfold fC_Court_land at h
  refine lv_iload hx hb dX8_land_0 (lv_at hl 4 rfl) ?_
  refine lv_if_lt (tgt := 12) hx hb dX8_land_2 (by decide) (fun c1 => ?_) (fun c1 => ?_)
  · replace h := mpos c1 h
    exact w_C_Court_land_12 C hys hA h hX hI (lv_sub hl [0] rfl)
  · replace h := mneg c1 h
    refine lv_iload hx hb dX8_land_5 (lv_at hl 4 rfl) ?_
    refine lv_bipush (v := 30) hx hb dX8_land_7 (by decide) ?_
    refine lv_icmp_le (tgt := 22) hx hb dX8_land_9 (by decide) (fun c2 => ?_) (fun c2 => ?_)
    · replace h := mpos c2 h
      refine lv_aload_n hx hb dX8_land_22 rfl (lv_at hl 0 rfl) ?_
      refine cg_get hx hb hts iC_Court_land_X8 hown hK hX 0 0 rfl rfl rfl 0 (by decide) (hts (.fieldLink RX8 12 "PassageCourt" "lands" "Ljava/util/ArrayList;") (by decide +kernel)) (fun _ h9 => h9) rfl dX8_land_23 ?_
      refine cg_callV (As := []) (rest := []) ⟨hx, hb, hml, hown, hts⟩ 1 0 rfl (ci := 0) rfl rfl (cC_List_size l D yI yO z0 ad g 0 (by decide)) (cwV 0 hts gX8_land_Jx4a65c_size_8abf5 rfl rfl rfl (by decide +kernel) ⟨Nat.le_of_ble_eq_true rfl, Nat.le_of_ble_eq_true rfl⟩) hK hX rfl hl.1 rfl (Nat.le_of_ble_eq_true rfl) dX8_land_26 ⟨Nat.zero_le _, Nat.zero_le _⟩ (fun H locs hX => ?_)
      refine lv_bipush (v := 8) hx hb dX8_land_29 (by decide) ?_
      refine lv_icmp_lt (tgt := 44) hx hb dX8_land_31 (by decide) (fun c3 => ?_) (fun c3 => ?_)
      · replace h := mpos c3 h
        obtain ⟨b4, eb4, h⟩ := mbind h
        obtain ⟨eb4, qb4⟩ := mbo_spec eb4
        obtain ⟨b5, eb5, h⟩ := mbind h
        obtain ⟨eb5, qb5⟩ := mbo_spec eb5
        obtain ⟨b6, eb6, h⟩ := mbind h
        obtain ⟨eb6, qb6⟩ := mbo_spec eb6
        cases h
        refine ng_new hx hb hts (by decide +kernel : ∀ w ∈ u_ws RX1 TX1 7, w ∈ wsX8_land) tyX1 tyX1_ok hown (hts (.classLink RX8 57 RX1) (by decide +kernel)) (hts (.instantiable RX1 7) (by decide +kernel)) (hts (.initialized RX1) (by decide +kernel)) hK (nX_of hX) hA (ci := 2) (fs := [.int 0, .int 0, .int 0, .int 0, .int 0, .null, .int 0]) rfl (fun j hj => by rcases (show j = 0 ∨ j = 1 ∨ j = 2 ∨ j = 3 ∨ j = 4 ∨ j = 5 ∨ j = 6 by omega) with rfl | rfl | rfl | rfl | rfl | rfl | rfl <;> rfl) (Nat.le_of_ble_eq_true rfl) (Nat.le_of_ble_eq_true rfl) dX8_land_44 (fun v H hN => ?_)
        have hN : nX D yI yO z0 ad g A s H locs [(v, .inr (2, [.int 0, .int 0, .int 0, .int 0, .int 0, .null, .int 0]))] := hN
        have hX := hN.1
        refine lv_dup hx hb dX8_land_47 rfl ?_
        refine lv_aload_n hx hb dX8_land_48 rfl (lv_at hl 0 rfl) ?_
        refine cg_get hx hb hts iC_Court_land_X8 hown hK hX 0 0 rfl rfl rfl 0 (by decide) (hts (.fieldLink RX8 12 "PassageCourt" "lands" "Ljava/util/ArrayList;") (by decide +kernel)) (fun _ h9 => h9) rfl dX8_land_49 ?_
        refine ng_callV (As := []) (rest := [.ref v, .ref v]) ⟨hx, hb, hml, hown, hts⟩ 1 0 rfl (ci := 0) rfl rfl (cC_List_size l D yI yO z0 ad g 0 (by decide)) (cwV 0 hts gX8_land_Jx4a65c_size_8abf5 rfl rfl rfl (by decide +kernel) ⟨Nat.le_of_ble_eq_true rfl, Nat.le_of_ble_eq_true rfl⟩) hK hN rfl hl.1 rfl (Nat.le_of_ble_eq_true rfl) dX8_land_52 ⟨Nat.le_of_ble_eq_true rfl, Nat.le_of_ble_eq_true rfl⟩ (fun H locs hN => ?_)
        have hX := hN.1
        refine lv_iload_n hx hb dX8_land_55 rfl (lv_at hl 1 rfl) ?_
        refine lv_iload_n hx hb dX8_land_56 rfl (lv_at hl 2 rfl) ?_
        refine lv_iload_n hx hb dX8_land_57 rfl (lv_at hl 3 rfl) ?_
        refine lv_iload hx hb dX8_land_58 (lv_at hl 4 rfl) ?_
        refine ng_init (ws1 := fun u => [(v, .inr (2, [.int (nI (sN g 0)), .int x1, .int x2, .int x3, .int x4, .ref (u 0), .int 0])), (u 0, .inr (6, [.ref (u 1), .int 0])), (u 1, .inl (yI, 3, .inl (kfill 3 0)))]) (As := [.int (nI (sN g 0)), .int x1, .int x2, .int x3, .int x4]) (rest := [.ref v]) ⟨hx, hb, hml, hown, hts⟩ (cK_X1 l D yI yO v H.size (nI (sN g 0)) x1 x2 x3 x4 eb4 eb5 eb6) (cwI 5 hts gX8_land_X1_init rfl rfl rfl (hts (.initialized RX1) (by decide +kernel)) (hts (.methodLink RX8 59 yX1_init) (by decide +kernel)) (hts (.instanceMethod yX1_init) (by decide +kernel)) rfl (by decide +kernel) ⟨Nat.le_of_ble_eq_true rfl, Nat.le_of_ble_eq_true rfl⟩) hys.2 hK hN hA rfl hl.1 rfl (Nat.le_of_ble_eq_true rfl) dX8_land_60 ⟨Nat.le_of_ble_eq_true rfl, Nat.le_of_ble_eq_true rfl⟩ (fun u H locs hN => ?_)
        have hN : nX D yI yO z0 ad g A s H locs [(v, .inr (2, [.int (nI (sN g 0)), .int x1, .int x2, .int x3, .int x4, .ref (u 0), .int 0])), (u 0, .inr (6, [.ref (u 1), .int 0])), (u 1, .inl (yI, 3, .inl (kfill 3 0)))] := hN
        have hX := hN.1
        refine lv_astore (lv' := [(5, .ref v), (0, .ref (ad 0 0)), (1, .int x1), (2, .int x2), (3, .int x3), (4, .int x4)]) hx hb dX8_land_63 hl (by decide) rfl (fun ls hl => ?_)
        refine lv_aload_n hx hb dX8_land_65 rfl (lv_at hl 1 rfl) ?_
        refine cg_get hx hb hts iC_Court_land_X8 hown hK hX 0 0 rfl rfl rfl 0 (by decide) (hts (.fieldLink RX8 12 "PassageCourt" "lands" "Ljava/util/ArrayList;") (by decide +kernel)) (fun _ h9 => h9) rfl dX8_land_66 ?_
        refine lv_aload hx hb dX8_land_69 (lv_at hl 0 rfl) ?_
        refine ng_addR (j := 0) (rest := []) (i0 := 0) ⟨hx, hb, hml, hown, hts⟩ (by decide) rfl (by decide) rfl (cwV 1 hts gX8_land_Jx4a65c_add_9ea2d rfl rfl rfl (by decide +kernel) ⟨Nat.le_of_ble_eq_true rfl, Nat.le_of_ble_eq_true rfl⟩) hys.1 hK hN hA rfl (hI.2 0 (by decide)) hl.1 rfl (Nat.le_of_ble_eq_true rfl) dX8_land_71 ⟨Nat.le_of_ble_eq_true rfl, Nat.le_of_ble_eq_true rfl⟩ (fun a2 H1 locs1 hR => ?_)
        have hX := cX_new (by decide) hI.1 hN hA (i0 := 0) rfl ixLand (naLand v u) (LLand (nI (sN g 0)) x1 x2 x3 x4) rfl (fun a2 k hk => nwLand yI yO ad g v u (nI (sN g 0)) x1 x2 x3 x4 a2 k hk) ixLand_inj hR
        have hext := aext_new ad g a2 (naLand v u) (j := 0) (by decide)
        have ev : v = anew ad g 0 a2 (naLand v u) 4 (lix 0 (sN g 0)) := (anew_new ad a2 (naLand v u) (by decide) (k := 4) (by decide)).symm
        have hlv : clvb (gnew g 0 (LLand (nI (sN g 0)) x1 x2 x3 x4)) 4 (lix 0 (sN g 0)) = true := (clvb_new g (by decide) _ 4 _).mpr (Or.inr (Or.inl ⟨by decide, rfl⟩))
        generalize anew ad g 0 a2 (naLand v u) = ad1 at hX hext ev
        clear hN hR
        generalize H1 = H at hX ⊢
        generalize locs1 = locs at hX ⊢
        refine lv_pop hx hb dX8_land_74 rfl ?_
        refine lv_aload hx hb dX8_land_75 (lv_at hl 0 rfl) ?_
        refine W.eq (g2 := F0 m 77 ls [.ref (ad1 4 ((lix 0 (sN g 0))))]) (by rw [ev]) ?_
        refine cg_get hx hb hts iC_Court_land_X1 hown hK hX 4 ((lix 0 (sN g 0))) hlv rfl rfl 0 (by decide) (hts (.fieldLink RX8 66 "PassageCourt$Land" "number" "I") (by decide +kernel)) (fun _ h9 => h9) rfl dX8_land_77 ?_
        refine W.widen (k := 20) (n := 7700) (Nat.le_of_ble_eq_true rfl) (Nat.le_of_ble_eq_true rfl) ?_
        exact W.iret hx hb hr (fun t ht hW => ⟨⟨_, ad1, rfl, rfl, hext, by rw [ht]; exact hX.1, va_K.moved hW.alike hK, hX.2.1⟩, hX.2.2.F ht⟩) hX.2.2.2.2 dX8_land_80 hlocks
      · replace h := mneg c3 h
        cases h
    · replace h := mneg c2 h
      exact w_C_Court_land_12 C hys hA h hX hI (lv_sub hl [0] rfl)
set_option maxRecDepth 20000 in
theorem w_X_Court_land_0 (C : cC p s m args meth c cX8_land RX8 (some .int) wsX8_land 6 D yI yO) {Qc : Array Value → State → Outcome → State → Prop} (hlf : l.stackTraces = false) (ht : ∀ x ∈ c.exceptionTable.toList, False) (hxs : xS A s s.heap) (hA : ∀ q, s.heap.size ≤ q → A q) {ez : Nat} {g : CS} {x1 : Int32} {x2 : Int32} {x3 : Int32} {x4 : Int32} (h : fC_Court_land g x1 x2 x3 x4 = some (.inl ez)) {H : Heap} {locs : List Loc} {ls : Array Slot} (hX : cX D yI yO z0 ad g A s H locs) (hl : lv_has ls 6 [(0, .ref (ad 0 0)), (1, .int x1), (2, .int x2), (3, .int x3), (4, .int x4)]) : W p l e (xR 7 201) s m args below meth c H locs 0 0 (vx_MQ below Qc (xXC D yI yO z0 ad g ez A) args s 1 6 A) (F0 m 0 ls []) := by
  obtain ⟨hx, hb, hr, hts, hown, hlocks, hml, hK⟩ := id C
  unfold fC_Court_land at h
  refine lv_iload hx hb dX8_land_0 (lv_at hl 4 rfl) ?_
  refine lv_if_lt (tgt := 12) hx hb dX8_land_2 (by decide) (fun c1 => ?_) (fun c1 => ?_)
  · replace h := mpos c1 h
    exact w_X_Court_land_12 C hlf ht hxs hA h hX (lv_sub hl [0] rfl)
  · replace h := mneg c1 h
    refine lv_iload hx hb dX8_land_5 (lv_at hl 4 rfl) ?_
    refine lv_bipush (v := 30) hx hb dX8_land_7 (by decide) ?_
    refine lv_icmp_le (tgt := 22) hx hb dX8_land_9 (by decide) (fun c2 => ?_) (fun c2 => ?_)
    · replace h := mpos c2 h
      refine lv_aload_n hx hb dX8_land_22 rfl (lv_at hl 0 rfl) ?_
      refine cg_get hx hb hts iC_Court_land_X8 hown hK hX 0 0 rfl rfl rfl 0 (by decide) (hts (.fieldLink RX8 12 "PassageCourt" "lands" "Ljava/util/ArrayList;") (by decide +kernel)) (fun _ h9 => h9) rfl dX8_land_23 ?_
      refine cg_callV (As := []) (rest := []) ⟨hx, hb, hml, hown, hts⟩ 1 0 rfl (ci := 0) rfl rfl (cC_List_size l D yI yO z0 ad g 0 (by decide)) (cwV 0 hts gX8_land_Jx4a65c_size_8abf5 rfl rfl rfl (by decide +kernel) ⟨Nat.le_of_ble_eq_true rfl, Nat.le_of_ble_eq_true rfl⟩) hK hX rfl hl.1 rfl (Nat.le_of_ble_eq_true rfl) dX8_land_26 ⟨Nat.zero_le _, Nat.zero_le _⟩ (fun H locs hX => ?_)
      refine lv_bipush (v := 8) hx hb dX8_land_29 (by decide) ?_
      refine lv_icmp_lt (tgt := 44) hx hb dX8_land_31 (by decide) (fun c3 => ?_) (fun c3 => ?_)
      · replace h := mpos c3 h
        obtain ⟨b4, eb4, h⟩ := mbind h
        obtain ⟨eb4, qb4⟩ := mbo_spec eb4
        obtain ⟨b5, eb5, h⟩ := mbind h
        obtain ⟨eb5, qb5⟩ := mbo_spec eb5
        obtain ⟨b6, eb6, h⟩ := mbind h
        obtain ⟨eb6, qb6⟩ := mbo_spec eb6
        cases h
      · replace h := mneg c3 h
        cases h
        obtain ⟨sa, hsa⟩ := hxs.2.2.1 (54, "there are 8 lands") (by decide +kernel)
        exact vx_throwS hx hb hlf (own := RX8) (cls := "java/lang/IllegalStateException") (text := "there are 8 lands") (names := ["java/lang/RuntimeException", "java/lang/Exception"]) (A := A) hown (by decide +kernel) (by decide +kernel) (hts (.classLink RX8 52 "java/lang/IllegalStateException") (by decide +kernel)) (hts (.initialized "java/lang/IllegalStateException") (by decide +kernel)) hsa (vx_hat (fun w hw => hts w (eC_Court_land_56 w hw)) (B := xB) (by decide +kernel) (fun w hw => va_Nw.use (xB_on w hw) (hxs.2.2.2 w hw))) (by decide +kernel) hxs.1 hxs.2.1 hX.2.2 (hl.1.trans hml.symm) dX8_land_34 dX8_land_37 dX8_land_38 dX8_land_40 dX8_land_43 (fun x hx => (ht x hx).elim) (Nat.le_of_ble_eq_true rfl) (Nat.le_of_ble_eq_true rfl) (Nat.le_of_ble_eq_true rfl) (Nat.le_of_ble_eq_true rfl) hlocks (fun t a1 a2 a3 => xX_post rfl hK hX t a1 a2 a3) hX.2.2.2.2 (Nat.le_refl _) (Nat.le_refl _)
    · replace h := mneg c2 h
      exact w_X_Court_land_12 C hlf ht hxs hA h hX (lv_sub hl [0] rfl)
set_option maxRecDepth 20000 in
theorem cC_Court_land (l : Launch) (D : va_G) (yI yO : ClassId) (z0 : Nat) (ad : Nat → Nat → Nat) {g gz : CS} {rz : Int32} {x1 : Int32} {x2 : Int32} {x3 : Int32} {x4 : Int32} (sz : Nat) (hI : yOK g) (h : fC_Court_land g x1 x2 x3 x4 = some (.inr (rz, gz))) : Met l yX8_land wsX8_land (nR 7 201) (va_Pc [.ref (ad 0 0), .int x1, .int x2, .int x3, .int x4] (yPre D yI yO z0 ad g sz)) (cQN D yI yO z0 ad rz g gz (cA ad g sz)) 20 7700 (cA ad g sz) := by
  refine Met.ofW (cc := cX8_land) (maxL := 6) (ret := (some .int)) (by decide) rfl ?_
  intro p e s m args below meth c s₁ B hml hv
  obtain ⟨hv0, ⟨hw, hK⟩, hsz, hys⟩ := hv
  subst hsz
  have hv1 : args = [.ref (ad 0 0), .int x1, .int x2, .int x3, .int x4].toArray := hv0
  subst hv1
  have C : cC p s m _ meth c cX8_land RX8 (some .int) wsX8_land 6 D yI yO := ⟨B.exec, B.bytes, B.returns, atoms_spec (ws := wsX8_land) B.pre, findClass_of_methodNamed B.named, B.notSynchronized, hml, hK⟩
  have hl := lv_entry ([.ref (ad 0 0), .int x1, .int x2, .int x3, .int x4]) (n := 6) (Nat.le_of_ble_eq_true rfl)
  rw [lg_entry_eq]
  generalize (lg_sl ([.ref (ad 0 0), .int x1, .int x2, .int x3, .int x4]) ++ List.replicate (6 - (lg_sl ([.ref (ad 0 0), .int x1, .int x2, .int x3, .int x4])).length) Slot.unset).toArray = ls at hl ⊢
  have hl : lv_has ls 6 [(0, .ref (ad 0 0)), (1, .int x1), (2, .int x2), (3, .int x3), (4, .int x4)] := hl
  exact w_C_Court_land_0 C hys (fun q h => Or.inr h) h ⟨hw, fun k i hi => Or.inl ⟨k, i, hi, rfl⟩, va_S.rf⟩ hI hl
set_option maxRecDepth 20000 in
theorem cX_Court_land (l : Launch) (hlf : l.stackTraces = false) (D : va_G) (yI yO : ClassId) (z0 : Nat) (ad : Nat → Nat → Nat) {g : CS} {ez : Nat} {x1 : Int32} {x2 : Int32} {x3 : Int32} {x4 : Int32} (sz : Nat) (h : fC_Court_land g x1 x2 x3 x4 = some (.inl ez)) : vx_Met l yX8_land wsX8_land (xR 7 201) (va_Pc [.ref (ad 0 0), .int x1, .int x2, .int x3, .int x4] (xPre D yI yO z0 ad g sz)) (xQ (cA ad g sz)) (xXC D yI yO z0 ad g ez (cA ad g sz)) 1 6 (cA ad g sz) := by
  refine vx_ofW (cc := cX8_land) (maxL := 6) (ret := (some .int)) (by decide) rfl ?_
  intro p e s m args below meth c s₁ B hml ht hv
  obtain ⟨hv0, ⟨hw, hK⟩, hsz, hxs⟩ := hv
  subst hsz
  have hv1 : args = [.ref (ad 0 0), .int x1, .int x2, .int x3, .int x4].toArray := hv0
  subst hv1
  have C : cC p s m _ meth c cX8_land RX8 (some .int) wsX8_land 6 D yI yO := ⟨B.exec, B.bytes, B.returns, atoms_spec (ws := wsX8_land) B.pre, findClass_of_methodNamed B.named, B.notSynchronized, hml, hK⟩
  have hl := lv_entry ([.ref (ad 0 0), .int x1, .int x2, .int x3, .int x4]) (n := 6) (Nat.le_of_ble_eq_true rfl)
  rw [lg_entry_eq]
  generalize (lg_sl ([.ref (ad 0 0), .int x1, .int x2, .int x3, .int x4]) ++ List.replicate (6 - (lg_sl ([.ref (ad 0 0), .int x1, .int x2, .int x3, .int x4])).length) Slot.unset).toArray = ls at hl ⊢
  have hl : lv_has ls 6 [(0, .ref (ad 0 0)), (1, .int x1), (2, .int x2), (3, .int x3), (4, .int x4)] := hl
  exact w_X_Court_land_0 C hlf ht hxs (fun q h => Or.inr h) h ⟨hw, fun k i hi => Or.inl ⟨k, i, hi, rfl⟩, va_S.rf⟩ hl
theorem iC_Court_rule_X8 : ∀ w ∈ wsX80, w ∈ wsX8_rule := by decide +kernel
theorem eC_Court_rule_45 : ∀ w ∈ (vx_atS RX8 45 "java/lang/IllegalArgumentException" ["java/lang/RuntimeException", "java/lang/Exception"]).filter goodWord, w ∈ wsX8_rule := by decide +kernel
theorem eC_Court_rule_56 : ∀ w ∈ (vx_atS RX8 56 "java/lang/IllegalStateException" ["java/lang/RuntimeException", "java/lang/Exception"]).filter goodWord, w ∈ wsX8_rule := by decide +kernel
def fC_Court_rule_38 (g : CS) : Option (Nat ⊕ (Int32 × CS)) :=
  some (.inl 1)
set_option maxRecDepth 20000 in
theorem w_C_Court_rule_38 (C : cC p s m args meth c cX8_rule RX8 (some .int) wsX8_rule 4 D yI yO) (hys : yS z0 A s s.heap) (hA : ∀ q, s.heap.size ≤ q → A q) {gz : CS} {rz : Int32} {g : CS} (h : fC_Court_rule_38 g = some (.inr (rz, gz))) {H : Heap} {locs : List Loc} {ls : Array Slot} (hX : cX D yI yO z0 ad g A s H locs) (hI : yOK g) (hl : lv_has ls 4 [(0, .ref (ad 0 0))]) : W p l e (nR 7 201) s m args below meth c H locs 0 0 (MQ below (cQN D yI yO z0 ad rz g gz A) args s 20 7700 A) (F0 m 38 ls []) := by
  obtain ⟨hx, hb, hr, hts, hown, hlocks, hml, hK⟩ := id C
  unfold fC_Court_rule_38 at h
  cases h
set_option maxRecDepth 20000 in
theorem w_X_Court_rule_38 (C : cC p s m args meth c cX8_rule RX8 (some .int) wsX8_rule 4 D yI yO) {Qc : Array Value → State → Outcome → State → Prop} (hlf : l.stackTraces = false) (ht : ∀ x ∈ c.exceptionTable.toList, False) (hxs : xS A s s.heap) (hA : ∀ q, s.heap.size ≤ q → A q) {ez : Nat} {g : CS} (h : fC_Court_rule_38 g = some (.inl ez)) {H : Heap} {locs : List Loc} {ls : Array Slot} (hX : cX D yI yO z0 ad g A s H locs) (hl : lv_has ls 4 [(0, .ref (ad 0 0))]) : W p l e (xR 7 201) s m args below meth c H locs 0 0 (vx_MQ below Qc (xXC D yI yO z0 ad g ez A) args s 1 6 A) (F0 m 38 ls []) := by
  obtain ⟨hx, hb, hr, hts, hown, hlocks, hml, hK⟩ := id C
  unfold fC_Court_rule_38 at h
  cases h
  obtain ⟨sa, hsa⟩ := hxs.2.2.1 (85, "day, most or window is out of range") (by decide +kernel)
  exact vx_throwS hx hb hlf (own := RX8) (cls := "java/lang/IllegalArgumentException") (text := "day, most or window is out of range") (names := ["java/lang/RuntimeException", "java/lang/Exception"]) (A := A) hown (by decide +kernel) (by decide +kernel) (hts (.classLink RX8 41 "java/lang/IllegalArgumentException") (by decide +kernel)) (hts (.initialized "java/lang/IllegalArgumentException") (by decide +kernel)) hsa (vx_hat (fun w hw => hts w (eC_Court_rule_45 w hw)) (B := xB) (by decide +kernel) (fun w hw => va_Nw.use (xB_on w hw) (hxs.2.2.2 w hw))) (by decide +kernel) hxs.1 hxs.2.1 hX.2.2 (hl.1.trans hml.symm) dX8_rule_38 dX8_rule_41 dX8_rule_42 dX8_rule_44 dX8_rule_47 (fun x hx => (ht x hx).elim) (Nat.le_of_ble_eq_true rfl) (Nat.le_of_ble_eq_true rfl) (Nat.le_of_ble_eq_true rfl) (Nat.le_of_ble_eq_true rfl) hlocks (fun t a1 a2 a3 => xX_post rfl hK hX t a1 a2 a3) hX.2.2.2.2 (Nat.le_refl _) (Nat.le_refl _)
def fC_Court_rule (g : CS) (x1 : Int32) (x2 : Int32) (x3 : Int32) : Option (Nat ⊕ (Int32 × CS)) :=
  if x1 < (sI g 0 0 6) then
    fC_Court_rule_38 g
  else
    if 3600 < x1 then
      fC_Court_rule_38 g
    else
      if x2 < 0 then
        fC_Court_rule_38 g
      else
        if 180 < x2 then
          fC_Court_rule_38 g
        else
          if x3 < 1 then
            fC_Court_rule_38 g
          else
            if x3 ≤ 360 then
              (fC_Court_countRules g).bind fun r7 =>
              if r7 < 10 then
                (fC_Court_countRules (gnew g 4 (LRule x1 x2 x3))).bind fun r9 =>
                some (.inr (r9, (gnew g 4 (LRule x1 x2 x3))))
              else
                some (.inl 2)
            else
              fC_Court_rule_38 g
set_option maxRecDepth 20000 in
theorem w_C_Court_rule_0 (C : cC p s m args meth c cX8_rule RX8 (some .int) wsX8_rule 4 D yI yO) (hys : yS z0 A s s.heap) (hA : ∀ q, s.heap.size ≤ q → A q) {gz : CS} {rz : Int32} {g : CS} {x1 : Int32} {x2 : Int32} {x3 : Int32} (h : fC_Court_rule g x1 x2 x3 = some (.inr (rz, gz))) {H : Heap} {locs : List Loc} {ls : Array Slot} (hX : cX D yI yO z0 ad g A s H locs) (hI : yOK g) (hl : lv_has ls 4 [(0, .ref (ad 0 0)), (1, .int x1), (2, .int x2), (3, .int x3)]) : W p l e (nR 7 201) s m args below meth c H locs 0 0 (MQ below (cQN D yI yO z0 ad rz g gz A) args s 20 7700 A) (F0 m 0 ls []) := by
  obtain ⟨hx, hb, hr, hts, hown, hlocks, hml, hK⟩ := id C
  unfold fC_Court_rule at h
  refine lv_iload_n hx hb dX8_rule_0 rfl (lv_at hl 1 rfl) ?_
  refine lv_aload_n hx hb dX8_rule_1 rfl (lv_at hl 0 rfl) ?_
  refine cg_get hx hb hts iC_Court_rule_X8 hown hK hX 0 0 rfl rfl rfl 6 (by decide) (hts (.fieldLink RX8 37 "PassageCourt" "today" "I") (by decide +kernel)) (fun _ h9 => h9) rfl dX8_rule_2 ?_
  refine lv_icmp_lt (tgt := 38) hx hb dX8_rule_5 (by decide) (fun c1 => ?_) (fun c1 => ?_)
  · replace h := mpos c1 h
    exact w_C_Court_rule_38 C hys hA h hX hI (lv_sub hl [0] rfl)
  · replace h := mneg c1 h
    refine lv_iload_n hx hb dX8_rule_8 rfl (lv_at hl 1 rfl) ?_
    refine lv_sipush (v := 3600) hx hb dX8_rule_9 (by decide) ?_
    refine lv_icmp_gt (tgt := 38) hx hb dX8_rule_12 (by decide) (fun c2 => ?_) (fun c2 => ?_)
    · replace h := mpos c2 h
      exact w_C_Court_rule_38 C hys hA h hX hI (lv_sub hl [0] rfl)
    · replace h := mneg c2 h
      refine lv_iload_n hx hb dX8_rule_15 rfl (lv_at hl 2 rfl) ?_
      refine lv_if_lt (tgt := 38) hx hb dX8_rule_16 (by decide) (fun c3 => ?_) (fun c3 => ?_)
      · replace h := mpos c3 h
        exact w_C_Court_rule_38 C hys hA h hX hI (lv_sub hl [0] rfl)
      · replace h := mneg c3 h
        refine lv_iload_n hx hb dX8_rule_19 rfl (lv_at hl 2 rfl) ?_
        refine lv_sipush (v := 180) hx hb dX8_rule_20 (by decide) ?_
        refine lv_icmp_gt (tgt := 38) hx hb dX8_rule_23 (by decide) (fun c4 => ?_) (fun c4 => ?_)
        · replace h := mpos c4 h
          exact w_C_Court_rule_38 C hys hA h hX hI (lv_sub hl [0] rfl)
        · replace h := mneg c4 h
          refine lv_iload_n hx hb dX8_rule_26 rfl (lv_at hl 3 rfl) ?_
          refine lv_iconst (v := 1) hx hb dX8_rule_27 (by decide) ?_
          refine lv_icmp_lt (tgt := 38) hx hb dX8_rule_28 (by decide) (fun c5 => ?_) (fun c5 => ?_)
          · replace h := mpos c5 h
            exact w_C_Court_rule_38 C hys hA h hX hI (lv_sub hl [0] rfl)
          · replace h := mneg c5 h
            refine lv_iload_n hx hb dX8_rule_31 rfl (lv_at hl 3 rfl) ?_
            refine lv_sipush (v := 360) hx hb dX8_rule_32 (by decide) ?_
            refine lv_icmp_le (tgt := 48) hx hb dX8_rule_35 (by decide) (fun c6 => ?_) (fun c6 => ?_)
            · replace h := mpos c6 h
              refine lv_aload_n hx hb dX8_rule_48 rfl (lv_at hl 0 rfl) ?_
              obtain ⟨r7, er7, h⟩ := mbind h
              refine cg_callV (As := []) (rest := []) ⟨hx, hb, hml, hown, hts⟩ 0 0 rfl (ci := 9) rfl rfl (cC_Court_countRules l D yI yO z0 ad er7) (cwV 0 hts gX8_rule_X8_countRules rfl rfl rfl (by decide +kernel) ⟨Nat.le_of_ble_eq_true rfl, Nat.le_of_ble_eq_true rfl⟩) hK hX rfl hl.1 rfl (Nat.le_of_ble_eq_true rfl) dX8_rule_49 ⟨Nat.zero_le _, Nat.zero_le _⟩ (fun H locs hX => ?_)
              refine lv_bipush (v := 10) hx hb dX8_rule_52 (by decide) ?_
              refine lv_icmp_lt (tgt := 67) hx hb dX8_rule_54 (by decide) (fun c8 => ?_) (fun c8 => ?_)
              · replace h := mpos c8 h
                refine lv_aload_n hx hb dX8_rule_67 rfl (lv_at hl 0 rfl) ?_
                refine cg_get hx hb hts iC_Court_rule_X8 hown hK hX 0 0 rfl rfl rfl 5 (by decide) (hts (.fieldLink RX8 34 "PassageCourt" "laterRules" "Ljava/util/ArrayList;") (by decide +kernel)) (fun _ h9 => h9) rfl dX8_rule_68 ?_
                obtain ⟨r9, er9, h⟩ := mbind h
                cases h
                refine ng_new hx hb hts (by decide +kernel : ∀ w ∈ u_ws RX6 TX6 3, w ∈ wsX8_rule) tyX6 tyX6_ok hown (hts (.classLink RX8 25 RX6) (by decide +kernel)) (hts (.instantiable RX6 3) (by decide +kernel)) (hts (.initialized RX6) (by decide +kernel)) hK (nX_of hX) hA (ci := 7) (fs := [.int 0, .int 0, .int 0]) rfl (fun j hj => by rcases (show j = 0 ∨ j = 1 ∨ j = 2 by omega) with rfl | rfl | rfl <;> rfl) (Nat.le_of_ble_eq_true rfl) (Nat.le_of_ble_eq_true rfl) dX8_rule_71 (fun v H hN => ?_)
                have hN : nX D yI yO z0 ad g A s H locs [(v, .inr (7, [.int 0, .int 0, .int 0]))] := hN
                have hX := hN.1
                refine lv_dup hx hb dX8_rule_74 rfl ?_
                refine lv_iload_n hx hb dX8_rule_75 rfl (lv_at hl 1 rfl) ?_
                refine lv_iload_n hx hb dX8_rule_76 rfl (lv_at hl 2 rfl) ?_
                refine lv_iload_n hx hb dX8_rule_77 rfl (lv_at hl 3 rfl) ?_
                refine ng_init (ws1 := fun u => [(v, .inr (7, [.int x1, .int x2, .int x3]))]) (As := [.int x1, .int x2, .int x3]) (rest := [.ref v, .ref (ad 1 4)]) ⟨hx, hb, hml, hown, hts⟩ (cK_X6 l D yI yO v H.size x1 x2 x3) (cwI 3 hts gX8_rule_X6_init rfl rfl rfl (hts (.initialized RX6) (by decide +kernel)) (hts (.methodLink RX8 27 yX6_init) (by decide +kernel)) (hts (.instanceMethod yX6_init) (by decide +kernel)) rfl (by decide +kernel) ⟨Nat.le_of_ble_eq_true rfl, Nat.le_of_ble_eq_true rfl⟩) hys.2 hK hN hA rfl hl.1 rfl (Nat.le_of_ble_eq_true rfl) dX8_rule_78 ⟨Nat.le_of_ble_eq_true rfl, Nat.le_of_ble_eq_true rfl⟩ (fun u H locs hN => ?_)
                have hN : nX D yI yO z0 ad g A s H locs [(v, .inr (7, [.int x1, .int x2, .int x3]))] := hN
                have hX := hN.1
                refine ng_addR (j := 4) (rest := []) (i0 := 0) ⟨hx, hb, hml, hown, hts⟩ (by decide) rfl (by decide) rfl (cwV 1 hts gX8_rule_Jx4a65c_add_9ea2d rfl rfl rfl (by decide +kernel) ⟨Nat.le_of_ble_eq_true rfl, Nat.le_of_ble_eq_true rfl⟩) hys.1 hK hN hA rfl (hI.2 4 (by decide)) hl.1 rfl (Nat.le_of_ble_eq_true rfl) dX8_rule_81 ⟨Nat.le_of_ble_eq_true rfl, Nat.le_of_ble_eq_true rfl⟩ (fun a2 H1 locs1 hR => ?_)
                have hX := cX_new (by decide) hI.1 hN hA (i0 := 0) rfl ixRule (naRule v u) (LRule x1 x2 x3) rfl (fun a2 k hk => nwRule yI yO ad g v u x1 x2 x3 a2 k hk) ixRule_inj hR
                have hext := aext_new ad g a2 (naRule v u) (j := 4) (by decide)
                have ev : v = anew ad g 4 a2 (naRule v u) 3 (lix 4 (sN g 4)) := (anew_new ad a2 (naRule v u) (by decide) (k := 3) (by decide)).symm
                have hlv : clvb (gnew g 4 (LRule x1 x2 x3)) 3 (lix 4 (sN g 4)) = true := (clvb_new g (by decide) _ 3 _).mpr (Or.inr (Or.inl ⟨by decide, rfl⟩))
                generalize anew ad g 4 a2 (naRule v u) = ad1 at hX hext ev
                clear hN hR
                generalize H1 = H at hX ⊢
                generalize locs1 = locs at hX ⊢
                refine lv_pop hx hb dX8_rule_84 rfl ?_
                refine lv_aload_n hx hb dX8_rule_85 rfl (lv_at hl 0 rfl) ?_
                refine W.eq (g2 := F0 m 86 ls [.ref (ad1 0 0)]) (by rw [hext 0 0 rfl (by decide)]) ?_
                refine cg_callV (As := []) (rest := []) ⟨hx, hb, hml, hown, hts⟩ 0 0 rfl (ci := 9) rfl rfl (cC_Court_countRules l D yI yO z0 ad1 er9) (cwV 0 hts gX8_rule_X8_countRules rfl rfl rfl (by decide +kernel) ⟨Nat.le_of_ble_eq_true rfl, Nat.le_of_ble_eq_true rfl⟩) hK hX rfl hl.1 rfl (Nat.le_of_ble_eq_true rfl) dX8_rule_86 ⟨Nat.le_of_ble_eq_true rfl, Nat.le_of_ble_eq_true rfl⟩ (fun H locs hX => ?_)
                refine W.widen (k := 20) (n := 7700) (Nat.le_of_ble_eq_true rfl) (Nat.le_of_ble_eq_true rfl) ?_
                exact W.iret hx hb hr (fun t ht hW => ⟨⟨_, ad1, rfl, rfl, hext, by rw [ht]; exact hX.1, va_K.moved hW.alike hK, hX.2.1⟩, hX.2.2.F ht⟩) hX.2.2.2.2 dX8_rule_89 hlocks
              · replace h := mneg c8 h
                cases h
            · replace h := mneg c6 h
              exact w_C_Court_rule_38 C hys hA h hX hI (lv_sub hl [0] rfl)
set_option maxRecDepth 20000 in
theorem w_X_Court_rule_0 (C : cC p s m args meth c cX8_rule RX8 (some .int) wsX8_rule 4 D yI yO) {Qc : Array Value → State → Outcome → State → Prop} (hlf : l.stackTraces = false) (ht : ∀ x ∈ c.exceptionTable.toList, False) (hxs : xS A s s.heap) (hA : ∀ q, s.heap.size ≤ q → A q) {ez : Nat} {g : CS} {x1 : Int32} {x2 : Int32} {x3 : Int32} (h : fC_Court_rule g x1 x2 x3 = some (.inl ez)) {H : Heap} {locs : List Loc} {ls : Array Slot} (hX : cX D yI yO z0 ad g A s H locs) (hl : lv_has ls 4 [(0, .ref (ad 0 0)), (1, .int x1), (2, .int x2), (3, .int x3)]) : W p l e (xR 7 201) s m args below meth c H locs 0 0 (vx_MQ below Qc (xXC D yI yO z0 ad g ez A) args s 1 6 A) (F0 m 0 ls []) := by
  obtain ⟨hx, hb, hr, hts, hown, hlocks, hml, hK⟩ := id C
  unfold fC_Court_rule at h
  refine lv_iload_n hx hb dX8_rule_0 rfl (lv_at hl 1 rfl) ?_
  refine lv_aload_n hx hb dX8_rule_1 rfl (lv_at hl 0 rfl) ?_
  refine cg_get hx hb hts iC_Court_rule_X8 hown hK hX 0 0 rfl rfl rfl 6 (by decide) (hts (.fieldLink RX8 37 "PassageCourt" "today" "I") (by decide +kernel)) (fun _ h9 => h9) rfl dX8_rule_2 ?_
  refine lv_icmp_lt (tgt := 38) hx hb dX8_rule_5 (by decide) (fun c1 => ?_) (fun c1 => ?_)
  · replace h := mpos c1 h
    exact w_X_Court_rule_38 C hlf ht hxs hA h hX (lv_sub hl [0] rfl)
  · replace h := mneg c1 h
    refine lv_iload_n hx hb dX8_rule_8 rfl (lv_at hl 1 rfl) ?_
    refine lv_sipush (v := 3600) hx hb dX8_rule_9 (by decide) ?_
    refine lv_icmp_gt (tgt := 38) hx hb dX8_rule_12 (by decide) (fun c2 => ?_) (fun c2 => ?_)
    · replace h := mpos c2 h
      exact w_X_Court_rule_38 C hlf ht hxs hA h hX (lv_sub hl [0] rfl)
    · replace h := mneg c2 h
      refine lv_iload_n hx hb dX8_rule_15 rfl (lv_at hl 2 rfl) ?_
      refine lv_if_lt (tgt := 38) hx hb dX8_rule_16 (by decide) (fun c3 => ?_) (fun c3 => ?_)
      · replace h := mpos c3 h
        exact w_X_Court_rule_38 C hlf ht hxs hA h hX (lv_sub hl [0] rfl)
      · replace h := mneg c3 h
        refine lv_iload_n hx hb dX8_rule_19 rfl (lv_at hl 2 rfl) ?_
        refine lv_sipush (v := 180) hx hb dX8_rule_20 (by decide) ?_
        refine lv_icmp_gt (tgt := 38) hx hb dX8_rule_23 (by decide) (fun c4 => ?_) (fun c4 => ?_)
        · replace h := mpos c4 h
          exact w_X_Court_rule_38 C hlf ht hxs hA h hX (lv_sub hl [0] rfl)
        · replace h := mneg c4 h
          refine lv_iload_n hx hb dX8_rule_26 rfl (lv_at hl 3 rfl) ?_
          refine lv_iconst (v := 1) hx hb dX8_rule_27 (by decide) ?_
          refine lv_icmp_lt (tgt := 38) hx hb dX8_rule_28 (by decide) (fun c5 => ?_) (fun c5 => ?_)
          · replace h := mpos c5 h
            exact w_X_Court_rule_38 C hlf ht hxs hA h hX (lv_sub hl [0] rfl)
          · replace h := mneg c5 h
            refine lv_iload_n hx hb dX8_rule_31 rfl (lv_at hl 3 rfl) ?_
            refine lv_sipush (v := 360) hx hb dX8_rule_32 (by decide) ?_
            refine lv_icmp_le (tgt := 48) hx hb dX8_rule_35 (by decide) (fun c6 => ?_) (fun c6 => ?_)
            · replace h := mpos c6 h
              refine lv_aload_n hx hb dX8_rule_48 rfl (lv_at hl 0 rfl) ?_
              obtain ⟨r7, er7, h⟩ := mbind h
              refine cg_callV (As := []) (rest := []) ⟨hx, hb, hml, hown, hts⟩ 0 0 rfl (ci := 9) rfl rfl (cC_Court_countRules l D yI yO z0 ad er7) (cwV 0 hts gX8_rule_X8_countRules rfl rfl rfl (by decide +kernel) ⟨Nat.le_of_ble_eq_true rfl, Nat.le_of_ble_eq_true rfl⟩) hK hX rfl hl.1 rfl (Nat.le_of_ble_eq_true rfl) dX8_rule_49 ⟨Nat.zero_le _, Nat.zero_le _⟩ (fun H locs hX => ?_)
              refine lv_bipush (v := 10) hx hb dX8_rule_52 (by decide) ?_
              refine lv_icmp_lt (tgt := 67) hx hb dX8_rule_54 (by decide) (fun c8 => ?_) (fun c8 => ?_)
              · replace h := mpos c8 h
                refine lv_aload_n hx hb dX8_rule_67 rfl (lv_at hl 0 rfl) ?_
                refine cg_get hx hb hts iC_Court_rule_X8 hown hK hX 0 0 rfl rfl rfl 5 (by decide) (hts (.fieldLink RX8 34 "PassageCourt" "laterRules" "Ljava/util/ArrayList;") (by decide +kernel)) (fun _ h9 => h9) rfl dX8_rule_68 ?_
                obtain ⟨r9, er9, h⟩ := mbind h
                cases h
              · replace h := mneg c8 h
                cases h
                obtain ⟨sa, hsa⟩ := hxs.2.2.1 (90, "there are 10 rules") (by decide +kernel)
                exact vx_throwS hx hb hlf (own := RX8) (cls := "java/lang/IllegalStateException") (text := "there are 10 rules") (names := ["java/lang/RuntimeException", "java/lang/Exception"]) (A := A) hown (by decide +kernel) (by decide +kernel) (hts (.classLink RX8 52 "java/lang/IllegalStateException") (by decide +kernel)) (hts (.initialized "java/lang/IllegalStateException") (by decide +kernel)) hsa (vx_hat (fun w hw => hts w (eC_Court_rule_56 w hw)) (B := xB) (by decide +kernel) (fun w hw => va_Nw.use (xB_on w hw) (hxs.2.2.2 w hw))) (by decide +kernel) hxs.1 hxs.2.1 hX.2.2 (hl.1.trans hml.symm) dX8_rule_57 dX8_rule_60 dX8_rule_61 dX8_rule_63 dX8_rule_66 (fun x hx => (ht x hx).elim) (Nat.le_of_ble_eq_true rfl) (Nat.le_of_ble_eq_true rfl) (Nat.le_of_ble_eq_true rfl) (Nat.le_of_ble_eq_true rfl) hlocks (fun t a1 a2 a3 => xX_post rfl hK hX t a1 a2 a3) hX.2.2.2.2 (Nat.le_refl _) (Nat.le_refl _)
            · replace h := mneg c6 h
              exact w_X_Court_rule_38 C hlf ht hxs hA h hX (lv_sub hl [0] rfl)
set_option maxRecDepth 20000 in
theorem cC_Court_rule (l : Launch) (D : va_G) (yI yO : ClassId) (z0 : Nat) (ad : Nat → Nat → Nat) {g gz : CS} {rz : Int32} {x1 : Int32} {x2 : Int32} {x3 : Int32} (sz : Nat) (hI : yOK g) (h : fC_Court_rule g x1 x2 x3 = some (.inr (rz, gz))) : Met l yX8_rule wsX8_rule (nR 7 201) (va_Pc [.ref (ad 0 0), .int x1, .int x2, .int x3] (yPre D yI yO z0 ad g sz)) (cQN D yI yO z0 ad rz g gz (cA ad g sz)) 20 7700 (cA ad g sz) := by
  refine Met.ofW (cc := cX8_rule) (maxL := 4) (ret := (some .int)) (by decide) rfl ?_
  intro p e s m args below meth c s₁ B hml hv
  obtain ⟨hv0, ⟨hw, hK⟩, hsz, hys⟩ := hv
  subst hsz
  have hv1 : args = [.ref (ad 0 0), .int x1, .int x2, .int x3].toArray := hv0
  subst hv1
  have C : cC p s m _ meth c cX8_rule RX8 (some .int) wsX8_rule 4 D yI yO := ⟨B.exec, B.bytes, B.returns, atoms_spec (ws := wsX8_rule) B.pre, findClass_of_methodNamed B.named, B.notSynchronized, hml, hK⟩
  have hl := lv_entry ([.ref (ad 0 0), .int x1, .int x2, .int x3]) (n := 4) (Nat.le_of_ble_eq_true rfl)
  rw [lg_entry_eq]
  generalize (lg_sl ([.ref (ad 0 0), .int x1, .int x2, .int x3]) ++ List.replicate (4 - (lg_sl ([.ref (ad 0 0), .int x1, .int x2, .int x3])).length) Slot.unset).toArray = ls at hl ⊢
  have hl : lv_has ls 4 [(0, .ref (ad 0 0)), (1, .int x1), (2, .int x2), (3, .int x3)] := hl
  exact w_C_Court_rule_0 C hys (fun q h => Or.inr h) h ⟨hw, fun k i hi => Or.inl ⟨k, i, hi, rfl⟩, va_S.rf⟩ hI hl
set_option maxRecDepth 20000 in
theorem cX_Court_rule (l : Launch) (hlf : l.stackTraces = false) (D : va_G) (yI yO : ClassId) (z0 : Nat) (ad : Nat → Nat → Nat) {g : CS} {ez : Nat} {x1 : Int32} {x2 : Int32} {x3 : Int32} (sz : Nat) (h : fC_Court_rule g x1 x2 x3 = some (.inl ez)) : vx_Met l yX8_rule wsX8_rule (xR 7 201) (va_Pc [.ref (ad 0 0), .int x1, .int x2, .int x3] (xPre D yI yO z0 ad g sz)) (xQ (cA ad g sz)) (xXC D yI yO z0 ad g ez (cA ad g sz)) 1 6 (cA ad g sz) := by
  refine vx_ofW (cc := cX8_rule) (maxL := 4) (ret := (some .int)) (by decide) rfl ?_
  intro p e s m args below meth c s₁ B hml ht hv
  obtain ⟨hv0, ⟨hw, hK⟩, hsz, hxs⟩ := hv
  subst hsz
  have hv1 : args = [.ref (ad 0 0), .int x1, .int x2, .int x3].toArray := hv0
  subst hv1
  have C : cC p s m _ meth c cX8_rule RX8 (some .int) wsX8_rule 4 D yI yO := ⟨B.exec, B.bytes, B.returns, atoms_spec (ws := wsX8_rule) B.pre, findClass_of_methodNamed B.named, B.notSynchronized, hml, hK⟩
  have hl := lv_entry ([.ref (ad 0 0), .int x1, .int x2, .int x3]) (n := 4) (Nat.le_of_ble_eq_true rfl)
  rw [lg_entry_eq]
  generalize (lg_sl ([.ref (ad 0 0), .int x1, .int x2, .int x3]) ++ List.replicate (4 - (lg_sl ([.ref (ad 0 0), .int x1, .int x2, .int x3])).length) Slot.unset).toArray = ls at hl ⊢
  have hl : lv_has ls 4 [(0, .ref (ad 0 0)), (1, .int x1), (2, .int x2), (3, .int x3)] := hl
  exact w_X_Court_rule_0 C hlf ht hxs (fun q h => Or.inr h) h ⟨hw, fun k i hi => Or.inl ⟨k, i, hi, rfl⟩, va_S.rf⟩ hl
theorem iC_Court_visa_X3 : ∀ w ∈ wsX30, w ∈ wsX8_visa := by decide +kernel
theorem iC_Court_visa_X7 : ∀ w ∈ wsX70, w ∈ wsX8_visa := by decide +kernel
theorem iC_Court_visa_X8 : ∀ w ∈ wsX80, w ∈ wsX8_visa := by decide +kernel
theorem eC_Court_visa_45 : ∀ w ∈ (vx_atS RX8 45 "java/lang/IllegalArgumentException" ["java/lang/RuntimeException", "java/lang/Exception"]).filter goodWord, w ∈ wsX8_visa := by decide +kernel
theorem eC_Court_visa_56 : ∀ w ∈ (vx_atS RX8 56 "java/lang/IllegalStateException" ["java/lang/RuntimeException", "java/lang/Exception"]).filter goodWord, w ∈ wsX8_visa := by decide +kernel
def fC_Court_visa_43 (g : CS) : Option (Nat ⊕ (Int32 × CS)) :=
  some (.inl 1)
set_option maxRecDepth 20000 in
theorem w_C_Court_visa_43 (C : cC p s m args meth c cX8_visa RX8 (some .int) wsX8_visa 10 D yI yO) (hys : yS z0 A s s.heap) (hA : ∀ q, s.heap.size ≤ q → A q) {gz : CS} {rz : Int32} {g : CS} (h : fC_Court_visa_43 g = some (.inr (rz, gz))) {H : Heap} {locs : List Loc} {ls : Array Slot} (hX : cX D yI yO z0 ad g A s H locs) (hI : yOK g) (hl : lv_has ls 10 [(0, .ref (ad 0 0))]) : W p l e (nR 7 201) s m args below meth c H locs 0 0 (MQ below (cQN D yI yO z0 ad rz g gz A) args s 20 7700 A) (F0 m 43 ls []) := by
  obtain ⟨hx, hb, hr, hts, hown, hlocks, hml, hK⟩ := id C
  unfold fC_Court_visa_43 at h
  cases h
set_option maxRecDepth 20000 in
theorem w_X_Court_visa_43 (C : cC p s m args meth c cX8_visa RX8 (some .int) wsX8_visa 10 D yI yO) {Qc : Array Value → State → Outcome → State → Prop} (hlf : l.stackTraces = false) (ht : ∀ x ∈ c.exceptionTable.toList, False) (hxs : xS A s s.heap) (hA : ∀ q, s.heap.size ≤ q → A q) {ez : Nat} {g : CS} (h : fC_Court_visa_43 g = some (.inl ez)) {H : Heap} {locs : List Loc} {ls : Array Slot} (hX : cX D yI yO z0 ad g A s H locs) (hl : lv_has ls 10 [(0, .ref (ad 0 0))]) : W p l e (xR 7 201) s m args below meth c H locs 0 0 (vx_MQ below Qc (xXC D yI yO z0 ad g ez A) args s 1 6 A) (F0 m 43 ls []) := by
  obtain ⟨hx, hb, hr, hts, hown, hlocks, hml, hK⟩ := id C
  unfold fC_Court_visa_43 at h
  cases h
  obtain ⟨sa, hsa⟩ := hxs.2.2.1 (127, "first or last is out of range") (by decide +kernel)
  exact vx_throwS hx hb hlf (own := RX8) (cls := "java/lang/IllegalArgumentException") (text := "first or last is out of range") (names := ["java/lang/RuntimeException", "java/lang/Exception"]) (A := A) hown (by decide +kernel) (by decide +kernel) (hts (.classLink RX8 41 "java/lang/IllegalArgumentException") (by decide +kernel)) (hts (.initialized "java/lang/IllegalArgumentException") (by decide +kernel)) hsa (vx_hat (fun w hw => hts w (eC_Court_visa_45 w hw)) (B := xB) (by decide +kernel) (fun w hw => va_Nw.use (xB_on w hw) (hxs.2.2.2 w hw))) (by decide +kernel) hxs.1 hxs.2.1 hX.2.2 (hl.1.trans hml.symm) dX8_visa_43 dX8_visa_46 dX8_visa_47 dX8_visa_49 dX8_visa_52 (fun x hx => (ht x hx).elim) (Nat.le_of_ble_eq_true rfl) (Nat.le_of_ble_eq_true rfl) (Nat.le_of_ble_eq_true rfl) (Nat.le_of_ble_eq_true rfl) hlocks (fun t a1 a2 a3 => xX_post rfl hK hX t a1 a2 a3) hX.2.2.2.2 (Nat.le_refl _) (Nat.le_refl _)
def fC_Court_visa_79 (g : CS) : Option (Nat ⊕ (Int32 × CS)) :=
  some (.inl 1)
set_option maxRecDepth 20000 in
theorem w_C_Court_visa_79 (C : cC p s m args meth c cX8_visa RX8 (some .int) wsX8_visa 10 D yI yO) (hys : yS z0 A s s.heap) (hA : ∀ q, s.heap.size ≤ q → A q) {gz : CS} {rz : Int32} {g : CS} (h : fC_Court_visa_79 g = some (.inr (rz, gz))) {H : Heap} {locs : List Loc} {ls : Array Slot} (hX : cX D yI yO z0 ad g A s H locs) (hI : yOK g) (hl : lv_has ls 10 [(0, .ref (ad 0 0))]) : W p l e (nR 7 201) s m args below meth c H locs 0 0 (MQ below (cQN D yI yO z0 ad rz g gz A) args s 20 7700 A) (F0 m 79 ls []) := by
  obtain ⟨hx, hb, hr, hts, hown, hlocks, hml, hK⟩ := id C
  unfold fC_Court_visa_79 at h
  cases h
set_option maxRecDepth 20000 in
theorem w_X_Court_visa_79 (C : cC p s m args meth c cX8_visa RX8 (some .int) wsX8_visa 10 D yI yO) {Qc : Array Value → State → Outcome → State → Prop} (hlf : l.stackTraces = false) (ht : ∀ x ∈ c.exceptionTable.toList, False) (hxs : xS A s s.heap) (hA : ∀ q, s.heap.size ≤ q → A q) {ez : Nat} {g : CS} (h : fC_Court_visa_79 g = some (.inl ez)) {H : Heap} {locs : List Loc} {ls : Array Slot} (hX : cX D yI yO z0 ad g A s H locs) (hl : lv_has ls 10 [(0, .ref (ad 0 0))]) : W p l e (xR 7 201) s m args below meth c H locs 0 0 (vx_MQ below Qc (xXC D yI yO z0 ad g ez A) args s 1 6 A) (F0 m 79 ls []) := by
  obtain ⟨hx, hb, hr, hts, hown, hlocks, hml, hK⟩ := id C
  unfold fC_Court_visa_79 at h
  cases h
  obtain ⟨sa, hsa⟩ := hxs.2.2.1 (129, "entries or days is out of range") (by decide +kernel)
  exact vx_throwS hx hb hlf (own := RX8) (cls := "java/lang/IllegalArgumentException") (text := "entries or days is out of range") (names := ["java/lang/RuntimeException", "java/lang/Exception"]) (A := A) hown (by decide +kernel) (by decide +kernel) (hts (.classLink RX8 41 "java/lang/IllegalArgumentException") (by decide +kernel)) (hts (.initialized "java/lang/IllegalArgumentException") (by decide +kernel)) hsa (vx_hat (fun w hw => hts w (eC_Court_visa_45 w hw)) (B := xB) (by decide +kernel) (fun w hw => va_Nw.use (xB_on w hw) (hxs.2.2.2 w hw))) (by decide +kernel) hxs.1 hxs.2.1 hX.2.2 (hl.1.trans hml.symm) dX8_visa_79 dX8_visa_82 dX8_visa_83 dX8_visa_85 dX8_visa_88 (fun x hx => (ht x hx).elim) (Nat.le_of_ble_eq_true rfl) (Nat.le_of_ble_eq_true rfl) (Nat.le_of_ble_eq_true rfl) (Nat.le_of_ble_eq_true rfl) hlocks (fun t a1 a2 a3 => xX_post rfl hK hX t a1 a2 a3) hX.2.2.2.2 (Nat.le_refl _) (Nat.le_refl _)
def fC_Court_visa (g : CS) (x1 : Int32) (x2 : Int32) (x3 : Int32) (x4 : Int32) (x5 : Int32) (x6 : Int32) : Option (Nat ⊕ (Int32 × CS)) :=
  xb (fC_Court_personAt g x1) fun v1 =>
  xb (fC_Court_landAt g x2) fun v3 =>
  if x3 < (sI g 0 0 6) then
    fC_Court_visa_43 g
  else
    if 3600 < x3 then
      fC_Court_visa_43 g
    else
      if x4 < x3 then
        fC_Court_visa_43 g
      else
        if x4 ≤ 3600 then
          if x5 < 1 then
            fC_Court_visa_79 g
          else
            if 9 < x5 then
              fC_Court_visa_79 g
            else
              if x6 < 1 then
                fC_Court_visa_79 g
              else
                if x6 ≤ 90 then
                  if (nI (sN g 2)) < 60 then
                    (ck g 5 v1).bind fun _ =>
                    (ck g 4 v3).bind fun _ =>
                    some (.inr (sI ((gnew g 2 (LVisa (nI (sN g 2)) (sI g 5 v1 0) v3 x3 x4 x5 x6))) 6 ((lix 2 (sN g 2))) 0, (gnew g 2 (LVisa (nI (sN g 2)) (sI g 5 v1 0) v3 x3 x4 x5 x6))))
                  else
                    some (.inl 2)
                else
                  fC_Court_visa_79 g
        else
          fC_Court_visa_43 g
set_option maxRecDepth 20000 in
theorem w_C_Court_visa_0 (C : cC p s m args meth c cX8_visa RX8 (some .int) wsX8_visa 10 D yI yO) (hys : yS z0 A s s.heap) (hA : ∀ q, s.heap.size ≤ q → A q) {gz : CS} {rz : Int32} {g : CS} {x1 : Int32} {x2 : Int32} {x3 : Int32} {x4 : Int32} {x5 : Int32} {x6 : Int32} (h : fC_Court_visa g x1 x2 x3 x4 x5 x6 = some (.inr (rz, gz))) {H : Heap} {locs : List Loc} {ls : Array Slot} (hX : cX D yI yO z0 ad g A s H locs) (hI : yOK g) (hl : lv_has ls 10 [(0, .ref (ad 0 0)), (1, .int x1), (2, .int x2), (3, .int x3), (4, .int x4), (5, .int x5), (6, .int x6)]) : W p l e (nR 7 201) s m args below meth c H locs 0 0 (MQ below (cQN D yI yO z0 ad rz g gz A) args s 20 7700 A) (F0 m 0 ls []) := by
  obtain ⟨hx, hb, hr, hts, hown, hlocks, hml, hK⟩ := id C
  unfold fC_Court_visa at h
  refine lv_aload_n hx hb dX8_visa_0 rfl (lv_at hl 0 rfl) ?_
  refine lv_iload_n hx hb dX8_visa_1 rfl (lv_at hl 1 rfl) ?_
  obtain ⟨v1, et2, h⟩ := xb_ret h
  refine cg_callVq (As := [.int x1]) (rest := []) ⟨hx, hb, hml, hown, hts⟩ 0 0 rfl (ci := 9) rfl rfl (cC_Court_personAt l D yI yO z0 ad et2) (cwV 1 hts gX8_visa_X8_personAt rfl rfl rfl (by decide +kernel) ⟨Nat.le_of_ble_eq_true rfl, Nat.le_of_ble_eq_true rfl⟩) hK hX rfl hl.1 rfl (Nat.le_of_ble_eq_true rfl) dX8_visa_2 ⟨Nat.zero_le _, Nat.zero_le _⟩ (fun H locs hX => ?_)
  refine W.eq (g2 := F0 m 5 ls [.ref (ad 5 v1)]) rfl ?_
  refine lv_astore (lv' := [(7, .ref (ad 5 v1)), (0, .ref (ad 0 0)), (1, .int x1), (2, .int x2), (3, .int x3), (4, .int x4), (5, .int x5), (6, .int x6)]) hx hb dX8_visa_5 hl (by decide) rfl (fun ls hl => ?_)
  refine lv_aload_n hx hb dX8_visa_7 rfl (lv_at hl 1 rfl) ?_
  refine lv_iload_n hx hb dX8_visa_8 rfl (lv_at hl 3 rfl) ?_
  obtain ⟨v3, et4, h⟩ := xb_ret h
  refine cg_callVq (As := [.int x2]) (rest := []) ⟨hx, hb, hml, hown, hts⟩ 0 0 rfl (ci := 9) rfl rfl (cC_Court_landAt l D yI yO z0 ad et4) (cwV 1 hts gX8_visa_X8_landAt rfl rfl rfl (by decide +kernel) ⟨Nat.le_of_ble_eq_true rfl, Nat.le_of_ble_eq_true rfl⟩) hK hX rfl hl.1 rfl (Nat.le_of_ble_eq_true rfl) dX8_visa_9 ⟨Nat.zero_le _, Nat.zero_le _⟩ (fun H locs hX => ?_)
  refine W.eq (g2 := F0 m 12 ls [.ref (ad 4 v3)]) rfl ?_
  refine lv_astore (lv' := [(8, .ref (ad 4 v3)), (7, .ref (ad 5 v1)), (0, .ref (ad 0 0)), (1, .int x1), (2, .int x2), (3, .int x3), (4, .int x4), (5, .int x5), (6, .int x6)]) hx hb dX8_visa_12 hl (by decide) rfl (fun ls hl => ?_)
  refine lv_iload_n hx hb dX8_visa_14 rfl (lv_at hl 5 rfl) ?_
  refine lv_aload_n hx hb dX8_visa_15 rfl (lv_at hl 2 rfl) ?_
  refine cg_get hx hb hts iC_Court_visa_X8 hown hK hX 0 0 rfl rfl rfl 6 (by decide) (hts (.fieldLink RX8 37 "PassageCourt" "today" "I") (by decide +kernel)) (fun _ h9 => h9) rfl dX8_visa_16 ?_
  refine lv_icmp_lt (tgt := 43) hx hb dX8_visa_19 (by decide) (fun c5 => ?_) (fun c5 => ?_)
  · replace h := mpos c5 h
    exact w_C_Court_visa_43 C hys hA h hX hI (lv_sub hl [2] rfl)
  · replace h := mneg c5 h
    refine lv_iload_n hx hb dX8_visa_22 rfl (lv_at hl 5 rfl) ?_
    refine lv_sipush (v := 3600) hx hb dX8_visa_23 (by decide) ?_
    refine lv_icmp_gt (tgt := 43) hx hb dX8_visa_26 (by decide) (fun c6 => ?_) (fun c6 => ?_)
    · replace h := mpos c6 h
      exact w_C_Court_visa_43 C hys hA h hX hI (lv_sub hl [2] rfl)
    · replace h := mneg c6 h
      refine lv_iload hx hb dX8_visa_29 (lv_at hl 6 rfl) ?_
      refine lv_iload_n hx hb dX8_visa_31 rfl (lv_at hl 5 rfl) ?_
      refine lv_icmp_lt (tgt := 43) hx hb dX8_visa_32 (by decide) (fun c7 => ?_) (fun c7 => ?_)
      · replace h := mpos c7 h
        exact w_C_Court_visa_43 C hys hA h hX hI (lv_sub hl [2] rfl)
      · replace h := mneg c7 h
        refine lv_iload hx hb dX8_visa_35 (lv_at hl 6 rfl) ?_
        refine lv_sipush (v := 3600) hx hb dX8_visa_37 (by decide) ?_
        refine lv_icmp_le (tgt := 53) hx hb dX8_visa_40 (by decide) (fun c8 => ?_) (fun c8 => ?_)
        · replace h := mpos c8 h
          refine lv_iload hx hb dX8_visa_53 (lv_at hl 7 rfl) ?_
          refine lv_iconst (v := 1) hx hb dX8_visa_55 (by decide) ?_
          refine lv_icmp_lt (tgt := 79) hx hb dX8_visa_56 (by decide) (fun c9 => ?_) (fun c9 => ?_)
          · replace h := mpos c9 h
            exact w_C_Court_visa_79 C hys hA h hX hI (lv_sub hl [2] rfl)
          · replace h := mneg c9 h
            refine lv_iload hx hb dX8_visa_59 (lv_at hl 7 rfl) ?_
            refine lv_bipush (v := 9) hx hb dX8_visa_61 (by decide) ?_
            refine lv_icmp_gt (tgt := 79) hx hb dX8_visa_63 (by decide) (fun c10 => ?_) (fun c10 => ?_)
            · replace h := mpos c10 h
              exact w_C_Court_visa_79 C hys hA h hX hI (lv_sub hl [2] rfl)
            · replace h := mneg c10 h
              refine lv_iload hx hb dX8_visa_66 (lv_at hl 8 rfl) ?_
              refine lv_iconst (v := 1) hx hb dX8_visa_68 (by decide) ?_
              refine lv_icmp_lt (tgt := 79) hx hb dX8_visa_69 (by decide) (fun c11 => ?_) (fun c11 => ?_)
              · replace h := mpos c11 h
                exact w_C_Court_visa_79 C hys hA h hX hI (lv_sub hl [2] rfl)
              · replace h := mneg c11 h
                refine lv_iload hx hb dX8_visa_72 (lv_at hl 8 rfl) ?_
                refine lv_bipush (v := 90) hx hb dX8_visa_74 (by decide) ?_
                refine lv_icmp_le (tgt := 89) hx hb dX8_visa_76 (by decide) (fun c12 => ?_) (fun c12 => ?_)
                · replace h := mpos c12 h
                  refine lv_aload_n hx hb dX8_visa_89 rfl (lv_at hl 2 rfl) ?_
                  refine cg_get hx hb hts iC_Court_visa_X8 hown hK hX 0 0 rfl rfl rfl 2 (by decide) (hts (.fieldLink RX8 19 "PassageCourt" "visas" "Ljava/util/ArrayList;") (by decide +kernel)) (fun _ h9 => h9) rfl dX8_visa_90 ?_
                  refine cg_callV (As := []) (rest := []) ⟨hx, hb, hml, hown, hts⟩ 1 2 rfl (ci := 0) rfl rfl (cC_List_size l D yI yO z0 ad g 2 (by decide)) (cwV 0 hts gX8_visa_Jx4a65c_size_8abf5 rfl rfl rfl (by decide +kernel) ⟨Nat.le_of_ble_eq_true rfl, Nat.le_of_ble_eq_true rfl⟩) hK hX rfl hl.1 rfl (Nat.le_of_ble_eq_true rfl) dX8_visa_93 ⟨Nat.zero_le _, Nat.zero_le _⟩ (fun H locs hX => ?_)
                  refine lv_bipush (v := 60) hx hb dX8_visa_96 (by decide) ?_
                  refine lv_icmp_lt (tgt := 111) hx hb dX8_visa_98 (by decide) (fun c13 => ?_) (fun c13 => ?_)
                  · replace h := mpos c13 h
                    obtain ⟨_, hv14, h⟩ := mbind h
                    replace hv14 := ck_spec hv14
                    obtain ⟨_, hv15, h⟩ := mbind h
                    replace hv15 := ck_spec hv15
                    cases h
                    refine ng_new hx hb hts (by decide +kernel : ∀ w ∈ u_ws RX7 TX7 8, w ∈ wsX8_visa) tyX7 tyX7_ok hown (hts (.classLink RX8 133 RX7) (by decide +kernel)) (hts (.instantiable RX7 8) (by decide +kernel)) (hts (.initialized RX7) (by decide +kernel)) hK (nX_of hX) hA (ci := 8) (fs := [.int 0, .int 0, .null, .int 0, .int 0, .int 0, .int 0, .int 0]) rfl (fun j hj => by rcases (show j = 0 ∨ j = 1 ∨ j = 2 ∨ j = 3 ∨ j = 4 ∨ j = 5 ∨ j = 6 ∨ j = 7 by omega) with rfl | rfl | rfl | rfl | rfl | rfl | rfl | rfl <;> rfl) (Nat.le_of_ble_eq_true rfl) (Nat.le_of_ble_eq_true rfl) dX8_visa_111 (fun v H hN => ?_)
                    have hN : nX D yI yO z0 ad g A s H locs [(v, .inr (8, [.int 0, .int 0, .null, .int 0, .int 0, .int 0, .int 0, .int 0]))] := hN
                    have hX := hN.1
                    refine lv_dup hx hb dX8_visa_114 rfl ?_
                    refine lv_aload_n hx hb dX8_visa_115 rfl (lv_at hl 2 rfl) ?_
                    refine cg_get hx hb hts iC_Court_visa_X8 hown hK hX 0 0 rfl rfl rfl 2 (by decide) (hts (.fieldLink RX8 19 "PassageCourt" "visas" "Ljava/util/ArrayList;") (by decide +kernel)) (fun _ h9 => h9) rfl dX8_visa_116 ?_
                    refine ng_callV (As := []) (rest := [.ref v, .ref v]) ⟨hx, hb, hml, hown, hts⟩ 1 2 rfl (ci := 0) rfl rfl (cC_List_size l D yI yO z0 ad g 2 (by decide)) (cwV 0 hts gX8_visa_Jx4a65c_size_8abf5 rfl rfl rfl (by decide +kernel) ⟨Nat.le_of_ble_eq_true rfl, Nat.le_of_ble_eq_true rfl⟩) hK hN rfl hl.1 rfl (Nat.le_of_ble_eq_true rfl) dX8_visa_119 ⟨Nat.le_of_ble_eq_true rfl, Nat.le_of_ble_eq_true rfl⟩ (fun H locs hN => ?_)
                    have hX := hN.1
                    refine lv_aload hx hb dX8_visa_122 (lv_at hl 1 rfl) ?_
                    refine cg_get hx hb hts iC_Court_visa_X3 hown hK hX 5 v1 hv14 rfl rfl 0 (by decide) (hts (.fieldLink RX8 101 "PassageCourt$Person" "number" "I") (by decide +kernel)) (fun _ h9 => h9) rfl dX8_visa_124 ?_
                    refine lv_aload hx hb dX8_visa_127 (lv_at hl 0 rfl) ?_
                    refine lv_iload_n hx hb dX8_visa_129 rfl (lv_at hl 5 rfl) ?_
                    refine lv_iload hx hb dX8_visa_130 (lv_at hl 6 rfl) ?_
                    refine ng_init (ws1 := fun u => [(v, .inr (8, [.int (nI (sN g 2)), .int (sI g 5 v1 0), .ref (ad 4 v3), .int x3, .int x4, .int 0, .int 0, .int (-1)]))]) (As := [.int (nI (sN g 2)), .int (sI g 5 v1 0), .ref (ad 4 v3), .int x3, .int x4]) (rest := [.ref v]) ⟨hx, hb, hml, hown, hts⟩ (cK_X7 l D yI yO v H.size (nI (sN g 2)) (sI g 5 v1 0) (ad 4 v3) x3 x4) (cwI 5 hts gX8_visa_X7_init rfl rfl rfl (hts (.initialized RX7) (by decide +kernel)) (hts (.methodLink RX8 135 yX7_init) (by decide +kernel)) (hts (.instanceMethod yX7_init) (by decide +kernel)) rfl (by decide +kernel) ⟨Nat.le_of_ble_eq_true rfl, Nat.le_of_ble_eq_true rfl⟩) hys.2 hK hN hA rfl hl.1 rfl (Nat.le_of_ble_eq_true rfl) dX8_visa_132 ⟨Nat.le_of_ble_eq_true rfl, Nat.le_of_ble_eq_true rfl⟩ (fun u H locs hN => ?_)
                    have hN : nX D yI yO z0 ad g A s H locs [(v, .inr (8, [.int (nI (sN g 2)), .int (sI g 5 v1 0), .ref (ad 4 v3), .int x3, .int x4, .int 0, .int 0, .int (-1)]))] := hN
                    have hX := hN.1
                    refine lv_astore (lv' := [(9, .ref v), (8, .ref (ad 4 v3)), (7, .ref (ad 5 v1)), (0, .ref (ad 0 0)), (1, .int x1), (2, .int x2), (3, .int x3), (4, .int x4), (5, .int x5), (6, .int x6)]) hx hb dX8_visa_135 hl (by decide) rfl (fun ls hl => ?_)
                    refine lv_aload hx hb dX8_visa_137 (lv_at hl 0 rfl) ?_
                    refine lv_iload hx hb dX8_visa_139 (lv_at hl 8 rfl) ?_
                    refine ng_put hx hb hts iC_Court_visa_X7 tyX7 tyX7_ok nmX7 hown hK hN 0 rfl rfl 5 (by decide) (hts (.fieldLink RX8 138 "PassageCourt$Visa" "entries" "I") (by decide +kernel)) (fun _ h9 => h9) rfl (by decide +kernel) rfl rfl (ty := .int) (Nat.le_of_ble_eq_true rfl) dX8_visa_141 (fun H locs hN => ?_)
                    have hN : nX D yI yO z0 ad g A s H locs [(v, .inr (8, [.int (nI (sN g 2)), .int (sI g 5 v1 0), .ref (ad 4 v3), .int x3, .int x4, .int x5, .int 0, .int (-1)]))] := hN
                    have hX := hN.1
                    refine lv_aload hx hb dX8_visa_144 (lv_at hl 0 rfl) ?_
                    refine lv_iload hx hb dX8_visa_146 (lv_at hl 9 rfl) ?_
                    refine ng_put hx hb hts iC_Court_visa_X7 tyX7 tyX7_ok nmX7 hown hK hN 0 rfl rfl 6 (by decide) (hts (.fieldLink RX8 141 "PassageCourt$Visa" "days" "I") (by decide +kernel)) (fun _ h9 => h9) rfl (by decide +kernel) rfl rfl (ty := .int) (Nat.le_of_ble_eq_true rfl) dX8_visa_148 (fun H locs hN => ?_)
                    have hN : nX D yI yO z0 ad g A s H locs [(v, .inr (8, [.int (nI (sN g 2)), .int (sI g 5 v1 0), .ref (ad 4 v3), .int x3, .int x4, .int x5, .int x6, .int (-1)]))] := hN
                    have hX := hN.1
                    refine lv_aload_n hx hb dX8_visa_151 rfl (lv_at hl 3 rfl) ?_
                    refine cg_get hx hb hts iC_Court_visa_X8 hown hK hX 0 0 rfl rfl rfl 2 (by decide) (hts (.fieldLink RX8 19 "PassageCourt" "visas" "Ljava/util/ArrayList;") (by decide +kernel)) (fun _ h9 => h9) rfl dX8_visa_152 ?_
                    refine lv_aload hx hb dX8_visa_155 (lv_at hl 0 rfl) ?_
                    refine ng_addR (j := 2) (rest := []) (i0 := 0) ⟨hx, hb, hml, hown, hts⟩ (by decide) rfl (by decide) rfl (cwV 1 hts gX8_visa_Jx4a65c_add_9ea2d rfl rfl rfl (by decide +kernel) ⟨Nat.le_of_ble_eq_true rfl, Nat.le_of_ble_eq_true rfl⟩) hys.1 hK hN hA rfl (hI.2 2 (by decide)) hl.1 rfl (Nat.le_of_ble_eq_true rfl) dX8_visa_157 ⟨Nat.le_of_ble_eq_true rfl, Nat.le_of_ble_eq_true rfl⟩ (fun a2 H1 locs1 hR => ?_)
                    have hland : v3 < sN g 0 := of_decide_eq_true hv15
                    have hX := cX_new (by decide) hI.1 hN hA (i0 := 0) rfl ixVisa (naVisa v u) (LVisa (nI (sN g 2)) (sI g 5 v1 0) v3 x3 x4 x5 x6) rfl (fun a2 k hk => nwVisa yI yO ad g v u (nI (sN g 2)) (sI g 5 v1 0) v3 x3 x4 x5 x6 ⟨hland, Nat.le_trans (hI.2 0 (by decide)).1 (hI.2 0 (by decide)).2⟩ a2 k hk) ixVisa_inj hR
                    have hext := aext_new ad g a2 (naVisa v u) (j := 2) (by decide)
                    have ev : v = anew ad g 2 a2 (naVisa v u) 6 (lix 2 (sN g 2)) := (anew_new ad a2 (naVisa v u) (by decide) (k := 6) (by decide)).symm
                    have hlv : clvb (gnew g 2 (LVisa (nI (sN g 2)) (sI g 5 v1 0) v3 x3 x4 x5 x6)) 6 (lix 2 (sN g 2)) = true := (clvb_new g (by decide) _ 6 _).mpr (Or.inr (Or.inl ⟨by decide, rfl⟩))
                    generalize anew ad g 2 a2 (naVisa v u) = ad1 at hX hext ev
                    clear hN hR
                    generalize H1 = H at hX ⊢
                    generalize locs1 = locs at hX ⊢
                    refine lv_pop hx hb dX8_visa_160 rfl ?_
                    refine lv_aload hx hb dX8_visa_161 (lv_at hl 0 rfl) ?_
                    refine W.eq (g2 := F0 m 163 ls [.ref (ad1 6 ((lix 2 (sN g 2))))]) (by rw [ev]) ?_
                    refine cg_get hx hb hts iC_Court_visa_X7 hown hK hX 6 ((lix 2 (sN g 2))) hlv rfl rfl 0 (by decide) (hts (.fieldLink RX8 144 "PassageCourt$Visa" "number" "I") (by decide +kernel)) (fun _ h9 => h9) rfl dX8_visa_163 ?_
                    refine W.widen (k := 20) (n := 7700) (Nat.le_of_ble_eq_true rfl) (Nat.le_of_ble_eq_true rfl) ?_
                    exact W.iret hx hb hr (fun t ht hW => ⟨⟨_, ad1, rfl, rfl, hext, by rw [ht]; exact hX.1, va_K.moved hW.alike hK, hX.2.1⟩, hX.2.2.F ht⟩) hX.2.2.2.2 dX8_visa_166 hlocks
                  · replace h := mneg c13 h
                    cases h
                · replace h := mneg c12 h
                  exact w_C_Court_visa_79 C hys hA h hX hI (lv_sub hl [2] rfl)
        · replace h := mneg c8 h
          exact w_C_Court_visa_43 C hys hA h hX hI (lv_sub hl [2] rfl)
set_option maxRecDepth 20000 in
theorem w_X_Court_visa_0 (C : cC p s m args meth c cX8_visa RX8 (some .int) wsX8_visa 10 D yI yO) {Qc : Array Value → State → Outcome → State → Prop} (hlf : l.stackTraces = false) (ht : ∀ x ∈ c.exceptionTable.toList, False) (hxs : xS A s s.heap) (hA : ∀ q, s.heap.size ≤ q → A q) {ez : Nat} {g : CS} {x1 : Int32} {x2 : Int32} {x3 : Int32} {x4 : Int32} {x5 : Int32} {x6 : Int32} (h : fC_Court_visa g x1 x2 x3 x4 x5 x6 = some (.inl ez)) {H : Heap} {locs : List Loc} {ls : Array Slot} (hX : cX D yI yO z0 ad g A s H locs) (hl : lv_has ls 10 [(0, .ref (ad 0 0)), (1, .int x1), (2, .int x2), (3, .int x3), (4, .int x4), (5, .int x5), (6, .int x6)]) : W p l e (xR 7 201) s m args below meth c H locs 0 0 (vx_MQ below Qc (xXC D yI yO z0 ad g ez A) args s 1 6 A) (F0 m 0 ls []) := by
  obtain ⟨hx, hb, hr, hts, hown, hlocks, hml, hK⟩ := id C
  unfold fC_Court_visa at h
  refine lv_aload_n hx hb dX8_visa_0 rfl (lv_at hl 0 rfl) ?_
  refine lv_iload_n hx hb dX8_visa_1 rfl (lv_at hl 1 rfl) ?_
  rcases xb_thr h with et2 | ⟨v1, et2, h⟩
  · exact xg_callV (As := [.int x1]) (rest := []) ⟨hx, hb, hml, hown, hts⟩ 0 0 rfl (ci := 9) rfl rfl (cX_Court_personAt l hlf D yI yO z0 ad H.size et2) (cwV 1 hts gX8_visa_X8_personAt rfl rfl rfl (by decide +kernel) ⟨Nat.le_of_ble_eq_true rfl, Nat.le_of_ble_eq_true rfl⟩) hK hX hA hxs ht hlocks rfl hl.1 rfl (Nat.le_of_ble_eq_true rfl) dX8_visa_2 ⟨Nat.le_refl _, Nat.le_refl _⟩
  refine cg_callVq (As := [.int x1]) (rest := []) ⟨hx, hb, hml, hown, hts⟩ 0 0 rfl (ci := 9) rfl rfl (cC_Court_personAt l D yI yO z0 ad et2) (cwV 1 hts gX8_visa_X8_personAt rfl rfl rfl (by decide +kernel) ⟨Nat.le_of_ble_eq_true rfl, Nat.le_of_ble_eq_true rfl⟩) hK hX rfl hl.1 rfl (Nat.le_of_ble_eq_true rfl) dX8_visa_2 ⟨Nat.zero_le _, Nat.zero_le _⟩ (fun H locs hX => ?_)
  refine W.eq (g2 := F0 m 5 ls [.ref (ad 5 v1)]) rfl ?_
  refine lv_astore (lv' := [(7, .ref (ad 5 v1)), (0, .ref (ad 0 0)), (1, .int x1), (2, .int x2), (3, .int x3), (4, .int x4), (5, .int x5), (6, .int x6)]) hx hb dX8_visa_5 hl (by decide) rfl (fun ls hl => ?_)
  refine lv_aload_n hx hb dX8_visa_7 rfl (lv_at hl 1 rfl) ?_
  refine lv_iload_n hx hb dX8_visa_8 rfl (lv_at hl 3 rfl) ?_
  rcases xb_thr h with et4 | ⟨v3, et4, h⟩
  · exact xg_callV (As := [.int x2]) (rest := []) ⟨hx, hb, hml, hown, hts⟩ 0 0 rfl (ci := 9) rfl rfl (cX_Court_landAt l hlf D yI yO z0 ad H.size et4) (cwV 1 hts gX8_visa_X8_landAt rfl rfl rfl (by decide +kernel) ⟨Nat.le_of_ble_eq_true rfl, Nat.le_of_ble_eq_true rfl⟩) hK hX hA hxs ht hlocks rfl hl.1 rfl (Nat.le_of_ble_eq_true rfl) dX8_visa_9 ⟨Nat.le_refl _, Nat.le_refl _⟩
  refine cg_callVq (As := [.int x2]) (rest := []) ⟨hx, hb, hml, hown, hts⟩ 0 0 rfl (ci := 9) rfl rfl (cC_Court_landAt l D yI yO z0 ad et4) (cwV 1 hts gX8_visa_X8_landAt rfl rfl rfl (by decide +kernel) ⟨Nat.le_of_ble_eq_true rfl, Nat.le_of_ble_eq_true rfl⟩) hK hX rfl hl.1 rfl (Nat.le_of_ble_eq_true rfl) dX8_visa_9 ⟨Nat.zero_le _, Nat.zero_le _⟩ (fun H locs hX => ?_)
  refine W.eq (g2 := F0 m 12 ls [.ref (ad 4 v3)]) rfl ?_
  refine lv_astore (lv' := [(8, .ref (ad 4 v3)), (7, .ref (ad 5 v1)), (0, .ref (ad 0 0)), (1, .int x1), (2, .int x2), (3, .int x3), (4, .int x4), (5, .int x5), (6, .int x6)]) hx hb dX8_visa_12 hl (by decide) rfl (fun ls hl => ?_)
  refine lv_iload_n hx hb dX8_visa_14 rfl (lv_at hl 5 rfl) ?_
  refine lv_aload_n hx hb dX8_visa_15 rfl (lv_at hl 2 rfl) ?_
  refine cg_get hx hb hts iC_Court_visa_X8 hown hK hX 0 0 rfl rfl rfl 6 (by decide) (hts (.fieldLink RX8 37 "PassageCourt" "today" "I") (by decide +kernel)) (fun _ h9 => h9) rfl dX8_visa_16 ?_
  refine lv_icmp_lt (tgt := 43) hx hb dX8_visa_19 (by decide) (fun c5 => ?_) (fun c5 => ?_)
  · replace h := mpos c5 h
    exact w_X_Court_visa_43 C hlf ht hxs hA h hX (lv_sub hl [2] rfl)
  · replace h := mneg c5 h
    refine lv_iload_n hx hb dX8_visa_22 rfl (lv_at hl 5 rfl) ?_
    refine lv_sipush (v := 3600) hx hb dX8_visa_23 (by decide) ?_
    refine lv_icmp_gt (tgt := 43) hx hb dX8_visa_26 (by decide) (fun c6 => ?_) (fun c6 => ?_)
    · replace h := mpos c6 h
      exact w_X_Court_visa_43 C hlf ht hxs hA h hX (lv_sub hl [2] rfl)
    · replace h := mneg c6 h
      refine lv_iload hx hb dX8_visa_29 (lv_at hl 6 rfl) ?_
      refine lv_iload_n hx hb dX8_visa_31 rfl (lv_at hl 5 rfl) ?_
      refine lv_icmp_lt (tgt := 43) hx hb dX8_visa_32 (by decide) (fun c7 => ?_) (fun c7 => ?_)
      · replace h := mpos c7 h
        exact w_X_Court_visa_43 C hlf ht hxs hA h hX (lv_sub hl [2] rfl)
      · replace h := mneg c7 h
        refine lv_iload hx hb dX8_visa_35 (lv_at hl 6 rfl) ?_
        refine lv_sipush (v := 3600) hx hb dX8_visa_37 (by decide) ?_
        refine lv_icmp_le (tgt := 53) hx hb dX8_visa_40 (by decide) (fun c8 => ?_) (fun c8 => ?_)
        · replace h := mpos c8 h
          refine lv_iload hx hb dX8_visa_53 (lv_at hl 7 rfl) ?_
          refine lv_iconst (v := 1) hx hb dX8_visa_55 (by decide) ?_
          refine lv_icmp_lt (tgt := 79) hx hb dX8_visa_56 (by decide) (fun c9 => ?_) (fun c9 => ?_)
          · replace h := mpos c9 h
            exact w_X_Court_visa_79 C hlf ht hxs hA h hX (lv_sub hl [2] rfl)
          · replace h := mneg c9 h
            refine lv_iload hx hb dX8_visa_59 (lv_at hl 7 rfl) ?_
            refine lv_bipush (v := 9) hx hb dX8_visa_61 (by decide) ?_
            refine lv_icmp_gt (tgt := 79) hx hb dX8_visa_63 (by decide) (fun c10 => ?_) (fun c10 => ?_)
            · replace h := mpos c10 h
              exact w_X_Court_visa_79 C hlf ht hxs hA h hX (lv_sub hl [2] rfl)
            · replace h := mneg c10 h
              refine lv_iload hx hb dX8_visa_66 (lv_at hl 8 rfl) ?_
              refine lv_iconst (v := 1) hx hb dX8_visa_68 (by decide) ?_
              refine lv_icmp_lt (tgt := 79) hx hb dX8_visa_69 (by decide) (fun c11 => ?_) (fun c11 => ?_)
              · replace h := mpos c11 h
                exact w_X_Court_visa_79 C hlf ht hxs hA h hX (lv_sub hl [2] rfl)
              · replace h := mneg c11 h
                refine lv_iload hx hb dX8_visa_72 (lv_at hl 8 rfl) ?_
                refine lv_bipush (v := 90) hx hb dX8_visa_74 (by decide) ?_
                refine lv_icmp_le (tgt := 89) hx hb dX8_visa_76 (by decide) (fun c12 => ?_) (fun c12 => ?_)
                · replace h := mpos c12 h
                  refine lv_aload_n hx hb dX8_visa_89 rfl (lv_at hl 2 rfl) ?_
                  refine cg_get hx hb hts iC_Court_visa_X8 hown hK hX 0 0 rfl rfl rfl 2 (by decide) (hts (.fieldLink RX8 19 "PassageCourt" "visas" "Ljava/util/ArrayList;") (by decide +kernel)) (fun _ h9 => h9) rfl dX8_visa_90 ?_
                  refine cg_callV (As := []) (rest := []) ⟨hx, hb, hml, hown, hts⟩ 1 2 rfl (ci := 0) rfl rfl (cC_List_size l D yI yO z0 ad g 2 (by decide)) (cwV 0 hts gX8_visa_Jx4a65c_size_8abf5 rfl rfl rfl (by decide +kernel) ⟨Nat.le_of_ble_eq_true rfl, Nat.le_of_ble_eq_true rfl⟩) hK hX rfl hl.1 rfl (Nat.le_of_ble_eq_true rfl) dX8_visa_93 ⟨Nat.zero_le _, Nat.zero_le _⟩ (fun H locs hX => ?_)
                  refine lv_bipush (v := 60) hx hb dX8_visa_96 (by decide) ?_
                  refine lv_icmp_lt (tgt := 111) hx hb dX8_visa_98 (by decide) (fun c13 => ?_) (fun c13 => ?_)
                  · replace h := mpos c13 h
                    obtain ⟨_, hv14, h⟩ := mbind h
                    replace hv14 := ck_spec hv14
                    obtain ⟨_, hv15, h⟩ := mbind h
                    replace hv15 := ck_spec hv15
                    cases h
                  · replace h := mneg c13 h
                    cases h
                    obtain ⟨sa, hsa⟩ := hxs.2.2.1 (131, "there are 60 visas") (by decide +kernel)
                    exact vx_throwS hx hb hlf (own := RX8) (cls := "java/lang/IllegalStateException") (text := "there are 60 visas") (names := ["java/lang/RuntimeException", "java/lang/Exception"]) (A := A) hown (by decide +kernel) (by decide +kernel) (hts (.classLink RX8 52 "java/lang/IllegalStateException") (by decide +kernel)) (hts (.initialized "java/lang/IllegalStateException") (by decide +kernel)) hsa (vx_hat (fun w hw => hts w (eC_Court_visa_56 w hw)) (B := xB) (by decide +kernel) (fun w hw => va_Nw.use (xB_on w hw) (hxs.2.2.2 w hw))) (by decide +kernel) hxs.1 hxs.2.1 hX.2.2 (hl.1.trans hml.symm) dX8_visa_101 dX8_visa_104 dX8_visa_105 dX8_visa_107 dX8_visa_110 (fun x hx => (ht x hx).elim) (Nat.le_of_ble_eq_true rfl) (Nat.le_of_ble_eq_true rfl) (Nat.le_of_ble_eq_true rfl) (Nat.le_of_ble_eq_true rfl) hlocks (fun t a1 a2 a3 => xX_post rfl hK hX t a1 a2 a3) hX.2.2.2.2 (Nat.le_refl _) (Nat.le_refl _)
                · replace h := mneg c12 h
                  exact w_X_Court_visa_79 C hlf ht hxs hA h hX (lv_sub hl [2] rfl)
        · replace h := mneg c8 h
          exact w_X_Court_visa_43 C hlf ht hxs hA h hX (lv_sub hl [2] rfl)
set_option maxRecDepth 20000 in
theorem cC_Court_visa (l : Launch) (D : va_G) (yI yO : ClassId) (z0 : Nat) (ad : Nat → Nat → Nat) {g gz : CS} {rz : Int32} {x1 : Int32} {x2 : Int32} {x3 : Int32} {x4 : Int32} {x5 : Int32} {x6 : Int32} (sz : Nat) (hI : yOK g) (h : fC_Court_visa g x1 x2 x3 x4 x5 x6 = some (.inr (rz, gz))) : Met l yX8_visa wsX8_visa (nR 7 201) (va_Pc [.ref (ad 0 0), .int x1, .int x2, .int x3, .int x4, .int x5, .int x6] (yPre D yI yO z0 ad g sz)) (cQN D yI yO z0 ad rz g gz (cA ad g sz)) 20 7700 (cA ad g sz) := by
  refine Met.ofW (cc := cX8_visa) (maxL := 10) (ret := (some .int)) (by decide) rfl ?_
  intro p e s m args below meth c s₁ B hml hv
  obtain ⟨hv0, ⟨hw, hK⟩, hsz, hys⟩ := hv
  subst hsz
  have hv1 : args = [.ref (ad 0 0), .int x1, .int x2, .int x3, .int x4, .int x5, .int x6].toArray := hv0
  subst hv1
  have C : cC p s m _ meth c cX8_visa RX8 (some .int) wsX8_visa 10 D yI yO := ⟨B.exec, B.bytes, B.returns, atoms_spec (ws := wsX8_visa) B.pre, findClass_of_methodNamed B.named, B.notSynchronized, hml, hK⟩
  have hl := lv_entry ([.ref (ad 0 0), .int x1, .int x2, .int x3, .int x4, .int x5, .int x6]) (n := 10) (Nat.le_of_ble_eq_true rfl)
  rw [lg_entry_eq]
  generalize (lg_sl ([.ref (ad 0 0), .int x1, .int x2, .int x3, .int x4, .int x5, .int x6]) ++ List.replicate (10 - (lg_sl ([.ref (ad 0 0), .int x1, .int x2, .int x3, .int x4, .int x5, .int x6])).length) Slot.unset).toArray = ls at hl ⊢
  have hl : lv_has ls 10 [(0, .ref (ad 0 0)), (1, .int x1), (2, .int x2), (3, .int x3), (4, .int x4), (5, .int x5), (6, .int x6)] := hl
  exact w_C_Court_visa_0 C hys (fun q h => Or.inr h) h ⟨hw, fun k i hi => Or.inl ⟨k, i, hi, rfl⟩, va_S.rf⟩ hI hl
set_option maxRecDepth 20000 in
theorem cX_Court_visa (l : Launch) (hlf : l.stackTraces = false) (D : va_G) (yI yO : ClassId) (z0 : Nat) (ad : Nat → Nat → Nat) {g : CS} {ez : Nat} {x1 : Int32} {x2 : Int32} {x3 : Int32} {x4 : Int32} {x5 : Int32} {x6 : Int32} (sz : Nat) (h : fC_Court_visa g x1 x2 x3 x4 x5 x6 = some (.inl ez)) : vx_Met l yX8_visa wsX8_visa (xR 7 201) (va_Pc [.ref (ad 0 0), .int x1, .int x2, .int x3, .int x4, .int x5, .int x6] (xPre D yI yO z0 ad g sz)) (xQ (cA ad g sz)) (xXC D yI yO z0 ad g ez (cA ad g sz)) 1 6 (cA ad g sz) := by
  refine vx_ofW (cc := cX8_visa) (maxL := 10) (ret := (some .int)) (by decide) rfl ?_
  intro p e s m args below meth c s₁ B hml ht hv
  obtain ⟨hv0, ⟨hw, hK⟩, hsz, hxs⟩ := hv
  subst hsz
  have hv1 : args = [.ref (ad 0 0), .int x1, .int x2, .int x3, .int x4, .int x5, .int x6].toArray := hv0
  subst hv1
  have C : cC p s m _ meth c cX8_visa RX8 (some .int) wsX8_visa 10 D yI yO := ⟨B.exec, B.bytes, B.returns, atoms_spec (ws := wsX8_visa) B.pre, findClass_of_methodNamed B.named, B.notSynchronized, hml, hK⟩
  have hl := lv_entry ([.ref (ad 0 0), .int x1, .int x2, .int x3, .int x4, .int x5, .int x6]) (n := 10) (Nat.le_of_ble_eq_true rfl)
  rw [lg_entry_eq]
  generalize (lg_sl ([.ref (ad 0 0), .int x1, .int x2, .int x3, .int x4, .int x5, .int x6]) ++ List.replicate (10 - (lg_sl ([.ref (ad 0 0), .int x1, .int x2, .int x3, .int x4, .int x5, .int x6])).length) Slot.unset).toArray = ls at hl ⊢
  have hl : lv_has ls 10 [(0, .ref (ad 0 0)), (1, .int x1), (2, .int x2), (3, .int x3), (4, .int x4), (5, .int x5), (6, .int x6)] := hl
  exact w_X_Court_visa_0 C hlf ht hxs (fun q h => Or.inr h) h ⟨hw, fun k i hi => Or.inl ⟨k, i, hi, rfl⟩, va_S.rf⟩ hl
theorem iC_Court_ask_X1 : ∀ w ∈ wsX10, w ∈ wsX8_ask := by decide +kernel
theorem iC_Court_ask_X3 : ∀ w ∈ wsX30, w ∈ wsX8_ask := by decide +kernel
theorem iC_Court_ask_X4 : ∀ w ∈ wsX40, w ∈ wsX8_ask := by decide +kernel
theorem iC_Court_ask_X8 : ∀ w ∈ wsX80, w ∈ wsX8_ask := by decide +kernel
theorem eC_Court_ask_45 : ∀ w ∈ (vx_atS RX8 45 "java/lang/IllegalArgumentException" ["java/lang/RuntimeException", "java/lang/Exception"]).filter goodWord, w ∈ wsX8_ask := by decide +kernel
theorem eC_Court_ask_56 : ∀ w ∈ (vx_atS RX8 56 "java/lang/IllegalStateException" ["java/lang/RuntimeException", "java/lang/Exception"]).filter goodWord, w ∈ wsX8_ask := by decide +kernel
def fC_Court_ask_23 (g : CS) : Option (Nat ⊕ (Int32 × CS)) :=
  some (.inl 1)
set_option maxRecDepth 20000 in
theorem w_C_Court_ask_23 (C : cC p s m args meth c cX8_ask RX8 (some .int) wsX8_ask 7 D yI yO) (hys : yS z0 A s s.heap) (hA : ∀ q, s.heap.size ≤ q → A q) {gz : CS} {rz : Int32} {g : CS} (h : fC_Court_ask_23 g = some (.inr (rz, gz))) {H : Heap} {locs : List Loc} {ls : Array Slot} (hX : cX D yI yO z0 ad g A s H locs) (hI : yOK g) (hl : lv_has ls 7 [(0, .ref (ad 0 0))]) : W p l e (nR 7 201) s m args below meth c H locs 0 0 (MQ below (cQN D yI yO z0 ad rz g gz A) args s 20 7700 A) (F0 m 23 ls []) := by
  obtain ⟨hx, hb, hr, hts, hown, hlocks, hml, hK⟩ := id C
  unfold fC_Court_ask_23 at h
  cases h
set_option maxRecDepth 20000 in
theorem w_X_Court_ask_23 (C : cC p s m args meth c cX8_ask RX8 (some .int) wsX8_ask 7 D yI yO) {Qc : Array Value → State → Outcome → State → Prop} (hlf : l.stackTraces = false) (ht : ∀ x ∈ c.exceptionTable.toList, False) (hxs : xS A s s.heap) (hA : ∀ q, s.heap.size ≤ q → A q) {ez : Nat} {g : CS} (h : fC_Court_ask_23 g = some (.inl ez)) {H : Heap} {locs : List Loc} {ls : Array Slot} (hX : cX D yI yO z0 ad g A s H locs) (hl : lv_has ls 7 [(0, .ref (ad 0 0))]) : W p l e (xR 7 201) s m args below meth c H locs 0 0 (vx_MQ below Qc (xXC D yI yO z0 ad g ez A) args s 1 6 A) (F0 m 23 ls []) := by
  obtain ⟨hx, hb, hr, hts, hown, hlocks, hml, hK⟩ := id C
  unfold fC_Court_ask_23 at h
  cases h
  obtain ⟨sa, hsa⟩ := hxs.2.2.1 (227, "type is out of range") (by decide +kernel)
  exact vx_throwS hx hb hlf (own := RX8) (cls := "java/lang/IllegalArgumentException") (text := "type is out of range") (names := ["java/lang/RuntimeException", "java/lang/Exception"]) (A := A) hown (by decide +kernel) (by decide +kernel) (hts (.classLink RX8 41 "java/lang/IllegalArgumentException") (by decide +kernel)) (hts (.initialized "java/lang/IllegalArgumentException") (by decide +kernel)) hsa (vx_hat (fun w hw => hts w (eC_Court_ask_45 w hw)) (B := xB) (by decide +kernel) (fun w hw => va_Nw.use (xB_on w hw) (hxs.2.2.2 w hw))) (by decide +kernel) hxs.1 hxs.2.1 hX.2.2 (hl.1.trans hml.symm) dX8_ask_23 dX8_ask_26 dX8_ask_27 dX8_ask_29 dX8_ask_32 (fun x hx => (ht x hx).elim) (Nat.le_of_ble_eq_true rfl) (Nat.le_of_ble_eq_true rfl) (Nat.le_of_ble_eq_true rfl) (Nat.le_of_ble_eq_true rfl) hlocks (fun t a1 a2 a3 => xX_post rfl hK hX t a1 a2 a3) hX.2.2.2.2 (Nat.le_refl _) (Nat.le_refl _)
def fC_Court_ask_66 (g : CS) : Option (Nat ⊕ (Int32 × CS)) :=
  some (.inl 2)
set_option maxRecDepth 20000 in
theorem w_C_Court_ask_66 (C : cC p s m args meth c cX8_ask RX8 (some .int) wsX8_ask 7 D yI yO) (hys : yS z0 A s s.heap) (hA : ∀ q, s.heap.size ≤ q → A q) {gz : CS} {rz : Int32} {g : CS} (h : fC_Court_ask_66 g = some (.inr (rz, gz))) {H : Heap} {locs : List Loc} {ls : Array Slot} (hX : cX D yI yO z0 ad g A s H locs) (hI : yOK g) (hl : lv_has ls 7 [(0, .ref (ad 0 0))]) : W p l e (nR 7 201) s m args below meth c H locs 0 0 (MQ below (cQN D yI yO z0 ad rz g gz A) args s 20 7700 A) (F0 m 66 ls []) := by
  obtain ⟨hx, hb, hr, hts, hown, hlocks, hml, hK⟩ := id C
  unfold fC_Court_ask_66 at h
  cases h
set_option maxRecDepth 20000 in
theorem w_X_Court_ask_66 (C : cC p s m args meth c cX8_ask RX8 (some .int) wsX8_ask 7 D yI yO) {Qc : Array Value → State → Outcome → State → Prop} (hlf : l.stackTraces = false) (ht : ∀ x ∈ c.exceptionTable.toList, False) (hxs : xS A s s.heap) (hA : ∀ q, s.heap.size ≤ q → A q) {ez : Nat} {g : CS} (h : fC_Court_ask_66 g = some (.inl ez)) {H : Heap} {locs : List Loc} {ls : Array Slot} (hX : cX D yI yO z0 ad g A s H locs) (hl : lv_has ls 7 [(0, .ref (ad 0 0))]) : W p l e (xR 7 201) s m args below meth c H locs 0 0 (vx_MQ below Qc (xXC D yI yO z0 ad g ez A) args s 1 6 A) (F0 m 66 ls []) := by
  obtain ⟨hx, hb, hr, hts, hown, hlocks, hml, hK⟩ := id C
  unfold fC_Court_ask_66 at h
  cases h
  obtain ⟨sa, hsa⟩ := hxs.2.2.1 (236, "there are 40, it is of that nation, or has one that is open") (by decide +kernel)
  exact vx_throwS hx hb hlf (own := RX8) (cls := "java/lang/IllegalStateException") (text := "there are 40, it is of that nation, or has one that is open") (names := ["java/lang/RuntimeException", "java/lang/Exception"]) (A := A) hown (by decide +kernel) (by decide +kernel) (hts (.classLink RX8 52 "java/lang/IllegalStateException") (by decide +kernel)) (hts (.initialized "java/lang/IllegalStateException") (by decide +kernel)) hsa (vx_hat (fun w hw => hts w (eC_Court_ask_56 w hw)) (B := xB) (by decide +kernel) (fun w hw => va_Nw.use (xB_on w hw) (hxs.2.2.2 w hw))) (by decide +kernel) hxs.1 hxs.2.1 hX.2.2 (hl.1.trans hml.symm) dX8_ask_66 dX8_ask_69 dX8_ask_70 dX8_ask_72 dX8_ask_75 (fun x hx => (ht x hx).elim) (Nat.le_of_ble_eq_true rfl) (Nat.le_of_ble_eq_true rfl) (Nat.le_of_ble_eq_true rfl) (Nat.le_of_ble_eq_true rfl) hlocks (fun t a1 a2 a3 => xX_post rfl hK hX t a1 a2 a3) hX.2.2.2.2 (Nat.le_refl _) (Nat.le_refl _)
def fC_Court_ask (g : CS) (x1 : Int32) (x2 : Int32) (x3 : Int32) : Option (Nat ⊕ (Int32 × CS)) :=
  xb (fC_Court_personAt g x1) fun v1 =>
  xb (fC_Court_landAt g x2) fun v3 =>
  if x3 < 0 then
    fC_Court_ask_23 g
  else
    if x3 < 3 then
      if 40 ≤ (nI (sN g 3)) then
        fC_Court_ask_66 g
      else
        (ck g 5 v1).bind fun _ =>
        (fC_Person_isOf v1 g v3).bind fun r9 =>
        if r9 = 0 then
          (fC_Court_hasOpenRequest g v1 v3).bind fun r11 =>
          if r11 = 0 then
            (ck g 4 v3).bind fun _ =>
            some (.inr (sI ((gnew g 3 (LReq (nI (sN g 3)) (sI g 5 v1 0) (sI g 4 v3 0) x3 (sI g 0 0 6)))) 7 ((lix 3 (sN g 3))) 0, (gnew g 3 (LReq (nI (sN g 3)) (sI g 5 v1 0) (sI g 4 v3 0) x3 (sI g 0 0 6)))))
          else
            fC_Court_ask_66 g
        else
          fC_Court_ask_66 g
    else
      fC_Court_ask_23 g
set_option maxRecDepth 20000 in
theorem w_C_Court_ask_0 (C : cC p s m args meth c cX8_ask RX8 (some .int) wsX8_ask 7 D yI yO) (hys : yS z0 A s s.heap) (hA : ∀ q, s.heap.size ≤ q → A q) {gz : CS} {rz : Int32} {g : CS} {x1 : Int32} {x2 : Int32} {x3 : Int32} (h : fC_Court_ask g x1 x2 x3 = some (.inr (rz, gz))) {H : Heap} {locs : List Loc} {ls : Array Slot} (hX : cX D yI yO z0 ad g A s H locs) (hI : yOK g) (hl : lv_has ls 7 [(0, .ref (ad 0 0)), (1, .int x1), (2, .int x2), (3, .int x3)]) : W p l e (nR 7 201) s m args below meth c H locs 0 0 (MQ below (cQN D yI yO z0 ad rz g gz A) args s 20 7700 A) (F0 m 0 ls []) := by
  obtain ⟨hx, hb, hr, hts, hown, hlocks, hml, hK⟩ := id C
  unfold fC_Court_ask at h
  refine lv_aload_n hx hb dX8_ask_0 rfl (lv_at hl 0 rfl) ?_
  refine lv_iload_n hx hb dX8_ask_1 rfl (lv_at hl 1 rfl) ?_
  obtain ⟨v1, et2, h⟩ := xb_ret h
  refine cg_callVq (As := [.int x1]) (rest := []) ⟨hx, hb, hml, hown, hts⟩ 0 0 rfl (ci := 9) rfl rfl (cC_Court_personAt l D yI yO z0 ad et2) (cwV 1 hts gX8_ask_X8_personAt rfl rfl rfl (by decide +kernel) ⟨Nat.le_of_ble_eq_true rfl, Nat.le_of_ble_eq_true rfl⟩) hK hX rfl hl.1 rfl (Nat.le_of_ble_eq_true rfl) dX8_ask_2 ⟨Nat.zero_le _, Nat.zero_le _⟩ (fun H locs hX => ?_)
  refine W.eq (g2 := F0 m 5 ls [.ref (ad 5 v1)]) rfl ?_
  refine lv_astore (lv' := [(4, .ref (ad 5 v1)), (0, .ref (ad 0 0)), (1, .int x1), (2, .int x2), (3, .int x3)]) hx hb dX8_ask_5 hl (by decide) rfl (fun ls hl => ?_)
  refine lv_aload_n hx hb dX8_ask_7 rfl (lv_at hl 1 rfl) ?_
  refine lv_iload_n hx hb dX8_ask_8 rfl (lv_at hl 3 rfl) ?_
  obtain ⟨v3, et4, h⟩ := xb_ret h
  refine cg_callVq (As := [.int x2]) (rest := []) ⟨hx, hb, hml, hown, hts⟩ 0 0 rfl (ci := 9) rfl rfl (cC_Court_landAt l D yI yO z0 ad et4) (cwV 1 hts gX8_ask_X8_landAt rfl rfl rfl (by decide +kernel) ⟨Nat.le_of_ble_eq_true rfl, Nat.le_of_ble_eq_true rfl⟩) hK hX rfl hl.1 rfl (Nat.le_of_ble_eq_true rfl) dX8_ask_9 ⟨Nat.zero_le _, Nat.zero_le _⟩ (fun H locs hX => ?_)
  refine W.eq (g2 := F0 m 12 ls [.ref (ad 4 v3)]) rfl ?_
  refine lv_astore (lv' := [(5, .ref (ad 4 v3)), (4, .ref (ad 5 v1)), (0, .ref (ad 0 0)), (1, .int x1), (2, .int x2), (3, .int x3)]) hx hb dX8_ask_12 hl (by decide) rfl (fun ls hl => ?_)
  refine lv_iload_n hx hb dX8_ask_14 rfl (lv_at hl 5 rfl) ?_
  refine lv_if_lt (tgt := 23) hx hb dX8_ask_15 (by decide) (fun c5 => ?_) (fun c5 => ?_)
  · replace h := mpos c5 h
    exact w_C_Court_ask_23 C hys hA h hX hI (lv_sub hl [2] rfl)
  · replace h := mneg c5 h
    refine lv_iload_n hx hb dX8_ask_18 rfl (lv_at hl 5 rfl) ?_
    refine lv_iconst (v := 3) hx hb dX8_ask_19 (by decide) ?_
    refine lv_icmp_lt (tgt := 33) hx hb dX8_ask_20 (by decide) (fun c6 => ?_) (fun c6 => ?_)
    · replace h := mpos c6 h
      refine lv_aload_n hx hb dX8_ask_33 rfl (lv_at hl 2 rfl) ?_
      refine cg_get hx hb hts iC_Court_ask_X8 hown hK hX 0 0 rfl rfl rfl 3 (by decide) (hts (.fieldLink RX8 22 "PassageCourt" "requests" "Ljava/util/ArrayList;") (by decide +kernel)) (fun _ h9 => h9) rfl dX8_ask_34 ?_
      refine cg_callV (As := []) (rest := []) ⟨hx, hb, hml, hown, hts⟩ 1 3 rfl (ci := 0) rfl rfl (cC_List_size l D yI yO z0 ad g 3 (by decide)) (cwV 0 hts gX8_ask_Jx4a65c_size_8abf5 rfl rfl rfl (by decide +kernel) ⟨Nat.le_of_ble_eq_true rfl, Nat.le_of_ble_eq_true rfl⟩) hK hX rfl hl.1 rfl (Nat.le_of_ble_eq_true rfl) dX8_ask_37 ⟨Nat.zero_le _, Nat.zero_le _⟩ (fun H locs hX => ?_)
      refine lv_bipush (v := 40) hx hb dX8_ask_40 (by decide) ?_
      refine lv_icmp_ge (tgt := 66) hx hb dX8_ask_42 (by decide) (fun c7 => ?_) (fun c7 => ?_)
      · replace h := mpos c7 h
        exact w_C_Court_ask_66 C hys hA h hX hI (lv_sub hl [2] rfl)
      · replace h := mneg c7 h
        refine lv_aload hx hb dX8_ask_45 (lv_at hl 1 rfl) ?_
        refine lv_aload hx hb dX8_ask_47 (lv_at hl 0 rfl) ?_
        obtain ⟨_, hv8, h⟩ := mbind h
        replace hv8 := ck_spec hv8
        obtain ⟨r9, er9, h⟩ := mbind h
        refine cg_callV (As := [.ref (ad 4 v3)]) (rest := []) ⟨hx, hb, hml, hown, hts⟩ 5 v1 hv8 (ci := 4) rfl rfl (cC_Person_isOf l D yI yO z0 ad er9) (cwV 1 hts gX8_ask_X3_isOf rfl rfl rfl (by decide +kernel) ⟨Nat.le_of_ble_eq_true rfl, Nat.le_of_ble_eq_true rfl⟩) hK hX rfl hl.1 rfl (Nat.le_of_ble_eq_true rfl) dX8_ask_49 ⟨Nat.zero_le _, Nat.zero_le _⟩ (fun H locs hX => ?_)
        refine lv_if_ne (tgt := 66) hx hb dX8_ask_52 (by decide) (fun c10 => ?_) (fun c10 => ?_)
        · replace h := mneg c10 h
          exact w_C_Court_ask_66 C hys hA h hX hI (lv_sub hl [2] rfl)
        · replace h := mpos c10 h
          refine lv_aload_n hx hb dX8_ask_55 rfl (lv_at hl 2 rfl) ?_
          refine lv_aload hx hb dX8_ask_56 (lv_at hl 1 rfl) ?_
          refine lv_aload hx hb dX8_ask_58 (lv_at hl 0 rfl) ?_
          obtain ⟨r11, er11, h⟩ := mbind h
          refine cg_callV (As := [.ref (ad 5 v1), .ref (ad 4 v3)]) (rest := []) ⟨hx, hb, hml, hown, hts⟩ 0 0 rfl (ci := 9) rfl rfl (cC_Court_hasOpenRequest l D yI yO z0 ad er11) (cwV 2 hts gX8_ask_X8_hasOpenRequest rfl rfl rfl (by decide +kernel) ⟨Nat.le_of_ble_eq_true rfl, Nat.le_of_ble_eq_true rfl⟩) hK hX rfl hl.1 rfl (Nat.le_of_ble_eq_true rfl) dX8_ask_60 ⟨Nat.zero_le _, Nat.zero_le _⟩ (fun H locs hX => ?_)
          refine lv_if_eq (tgt := 76) hx hb dX8_ask_63 (by decide) (fun c12 => ?_) (fun c12 => ?_)
          · replace h := mpos c12 h
            obtain ⟨_, hv13, h⟩ := mbind h
            replace hv13 := ck_spec hv13
            cases h
            refine ng_new hx hb hts (by decide +kernel : ∀ w ∈ u_ws RX4 TX4 8, w ∈ wsX8_ask) tyX4 tyX4_ok hown (hts (.classLink RX8 238 RX4) (by decide +kernel)) (hts (.instantiable RX4 8) (by decide +kernel)) (hts (.initialized RX4) (by decide +kernel)) hK (nX_of hX) hA (ci := 5) (fs := [.int 0, .int 0, .int 0, .int 0, .int 0, .int 0, .int 0, .int 0]) rfl (fun j hj => by rcases (show j = 0 ∨ j = 1 ∨ j = 2 ∨ j = 3 ∨ j = 4 ∨ j = 5 ∨ j = 6 ∨ j = 7 by omega) with rfl | rfl | rfl | rfl | rfl | rfl | rfl | rfl <;> rfl) (Nat.le_of_ble_eq_true rfl) (Nat.le_of_ble_eq_true rfl) dX8_ask_76 (fun v H hN => ?_)
            have hN : nX D yI yO z0 ad g A s H locs [(v, .inr (5, [.int 0, .int 0, .int 0, .int 0, .int 0, .int 0, .int 0, .int 0]))] := hN
            have hX := hN.1
            refine lv_dup hx hb dX8_ask_79 rfl ?_
            refine lv_aload_n hx hb dX8_ask_80 rfl (lv_at hl 2 rfl) ?_
            refine cg_get hx hb hts iC_Court_ask_X8 hown hK hX 0 0 rfl rfl rfl 3 (by decide) (hts (.fieldLink RX8 22 "PassageCourt" "requests" "Ljava/util/ArrayList;") (by decide +kernel)) (fun _ h9 => h9) rfl dX8_ask_81 ?_
            refine ng_callV (As := []) (rest := [.ref v, .ref v]) ⟨hx, hb, hml, hown, hts⟩ 1 3 rfl (ci := 0) rfl rfl (cC_List_size l D yI yO z0 ad g 3 (by decide)) (cwV 0 hts gX8_ask_Jx4a65c_size_8abf5 rfl rfl rfl (by decide +kernel) ⟨Nat.le_of_ble_eq_true rfl, Nat.le_of_ble_eq_true rfl⟩) hK hN rfl hl.1 rfl (Nat.le_of_ble_eq_true rfl) dX8_ask_84 ⟨Nat.le_of_ble_eq_true rfl, Nat.le_of_ble_eq_true rfl⟩ (fun H locs hN => ?_)
            have hX := hN.1
            refine lv_aload hx hb dX8_ask_87 (lv_at hl 1 rfl) ?_
            refine cg_get hx hb hts iC_Court_ask_X3 hown hK hX 5 v1 hv8 rfl rfl 0 (by decide) (hts (.fieldLink RX8 101 "PassageCourt$Person" "number" "I") (by decide +kernel)) (fun _ h9 => h9) rfl dX8_ask_89 ?_
            refine lv_aload hx hb dX8_ask_92 (lv_at hl 0 rfl) ?_
            refine cg_get hx hb hts iC_Court_ask_X1 hown hK hX 4 v3 hv13 rfl rfl 0 (by decide) (hts (.fieldLink RX8 66 "PassageCourt$Land" "number" "I") (by decide +kernel)) (fun _ h9 => h9) rfl dX8_ask_94 ?_
            refine lv_iload_n hx hb dX8_ask_97 rfl (lv_at hl 5 rfl) ?_
            refine lv_aload_n hx hb dX8_ask_98 rfl (lv_at hl 2 rfl) ?_
            refine cg_get hx hb hts iC_Court_ask_X8 hown hK hX 0 0 rfl rfl rfl 6 (by decide) (hts (.fieldLink RX8 37 "PassageCourt" "today" "I") (by decide +kernel)) (fun _ h9 => h9) rfl dX8_ask_99 ?_
            refine ng_init (ws1 := fun u => [(v, .inr (5, [.int (nI (sN g 3)), .int (sI g 5 v1 0), .int (sI g 4 v3 0), .int x3, .int (sI g 0 0 6), .int 0, .int 0, .int 0]))]) (As := [.int (nI (sN g 3)), .int (sI g 5 v1 0), .int (sI g 4 v3 0), .int x3, .int (sI g 0 0 6)]) (rest := [.ref v]) ⟨hx, hb, hml, hown, hts⟩ (cK_X4 l D yI yO v H.size (nI (sN g 3)) (sI g 5 v1 0) (sI g 4 v3 0) x3 (sI g 0 0 6)) (cwI 5 hts gX8_ask_X4_init rfl rfl rfl (hts (.initialized RX4) (by decide +kernel)) (hts (.methodLink RX8 240 yX4_init) (by decide +kernel)) (hts (.instanceMethod yX4_init) (by decide +kernel)) rfl (by decide +kernel) ⟨Nat.le_of_ble_eq_true rfl, Nat.le_of_ble_eq_true rfl⟩) hys.2 hK hN hA rfl hl.1 rfl (Nat.le_of_ble_eq_true rfl) dX8_ask_102 ⟨Nat.le_of_ble_eq_true rfl, Nat.le_of_ble_eq_true rfl⟩ (fun u H locs hN => ?_)
            have hN : nX D yI yO z0 ad g A s H locs [(v, .inr (5, [.int (nI (sN g 3)), .int (sI g 5 v1 0), .int (sI g 4 v3 0), .int x3, .int (sI g 0 0 6), .int 0, .int 0, .int 0]))] := hN
            have hX := hN.1
            refine lv_astore (lv' := [(6, .ref v), (5, .ref (ad 4 v3)), (4, .ref (ad 5 v1)), (0, .ref (ad 0 0)), (1, .int x1), (2, .int x2), (3, .int x3)]) hx hb dX8_ask_105 hl (by decide) rfl (fun ls hl => ?_)
            refine lv_aload_n hx hb dX8_ask_107 rfl (lv_at hl 3 rfl) ?_
            refine cg_get hx hb hts iC_Court_ask_X8 hown hK hX 0 0 rfl rfl rfl 3 (by decide) (hts (.fieldLink RX8 22 "PassageCourt" "requests" "Ljava/util/ArrayList;") (by decide +kernel)) (fun _ h9 => h9) rfl dX8_ask_108 ?_
            refine lv_aload hx hb dX8_ask_111 (lv_at hl 0 rfl) ?_
            refine ng_addR (j := 3) (rest := []) (i0 := 0) ⟨hx, hb, hml, hown, hts⟩ (by decide) rfl (by decide) rfl (cwV 1 hts gX8_ask_Jx4a65c_add_9ea2d rfl rfl rfl (by decide +kernel) ⟨Nat.le_of_ble_eq_true rfl, Nat.le_of_ble_eq_true rfl⟩) hys.1 hK hN hA rfl (hI.2 3 (by decide)) hl.1 rfl (Nat.le_of_ble_eq_true rfl) dX8_ask_113 ⟨Nat.le_of_ble_eq_true rfl, Nat.le_of_ble_eq_true rfl⟩ (fun a2 H1 locs1 hR => ?_)
            have hX := cX_new (by decide) hI.1 hN hA (i0 := 0) rfl ixReq (naReq v u) (LReq (nI (sN g 3)) (sI g 5 v1 0) (sI g 4 v3 0) x3 (sI g 0 0 6)) rfl (fun a2 k hk => nwReq yI yO ad g v u (nI (sN g 3)) (sI g 5 v1 0) (sI g 4 v3 0) x3 (sI g 0 0 6) a2 k hk) ixReq_inj hR
            have hext := aext_new ad g a2 (naReq v u) (j := 3) (by decide)
            have ev : v = anew ad g 3 a2 (naReq v u) 7 (lix 3 (sN g 3)) := (anew_new ad a2 (naReq v u) (by decide) (k := 7) (by decide)).symm
            have hlv : clvb (gnew g 3 (LReq (nI (sN g 3)) (sI g 5 v1 0) (sI g 4 v3 0) x3 (sI g 0 0 6))) 7 (lix 3 (sN g 3)) = true := (clvb_new g (by decide) _ 7 _).mpr (Or.inr (Or.inl ⟨by decide, rfl⟩))
            generalize anew ad g 3 a2 (naReq v u) = ad1 at hX hext ev
            clear hN hR
            generalize H1 = H at hX ⊢
            generalize locs1 = locs at hX ⊢
            refine lv_pop hx hb dX8_ask_116 rfl ?_
            refine lv_aload hx hb dX8_ask_117 (lv_at hl 0 rfl) ?_
            refine W.eq (g2 := F0 m 119 ls [.ref (ad1 7 ((lix 3 (sN g 3))))]) (by rw [ev]) ?_
            refine cg_get hx hb hts iC_Court_ask_X4 hown hK hX 7 ((lix 3 (sN g 3))) hlv rfl rfl 0 (by decide) (hts (.fieldLink RX8 243 "PassageCourt$Request" "number" "I") (by decide +kernel)) (fun _ h9 => h9) rfl dX8_ask_119 ?_
            refine W.widen (k := 20) (n := 7700) (Nat.le_of_ble_eq_true rfl) (Nat.le_of_ble_eq_true rfl) ?_
            exact W.iret hx hb hr (fun t ht hW => ⟨⟨_, ad1, rfl, rfl, hext, by rw [ht]; exact hX.1, va_K.moved hW.alike hK, hX.2.1⟩, hX.2.2.F ht⟩) hX.2.2.2.2 dX8_ask_122 hlocks
          · replace h := mneg c12 h
            exact w_C_Court_ask_66 C hys hA h hX hI (lv_sub hl [2] rfl)
    · replace h := mneg c6 h
      exact w_C_Court_ask_23 C hys hA h hX hI (lv_sub hl [2] rfl)
set_option maxRecDepth 20000 in
theorem w_X_Court_ask_0 (C : cC p s m args meth c cX8_ask RX8 (some .int) wsX8_ask 7 D yI yO) {Qc : Array Value → State → Outcome → State → Prop} (hlf : l.stackTraces = false) (ht : ∀ x ∈ c.exceptionTable.toList, False) (hxs : xS A s s.heap) (hA : ∀ q, s.heap.size ≤ q → A q) {ez : Nat} {g : CS} {x1 : Int32} {x2 : Int32} {x3 : Int32} (h : fC_Court_ask g x1 x2 x3 = some (.inl ez)) {H : Heap} {locs : List Loc} {ls : Array Slot} (hX : cX D yI yO z0 ad g A s H locs) (hl : lv_has ls 7 [(0, .ref (ad 0 0)), (1, .int x1), (2, .int x2), (3, .int x3)]) : W p l e (xR 7 201) s m args below meth c H locs 0 0 (vx_MQ below Qc (xXC D yI yO z0 ad g ez A) args s 1 6 A) (F0 m 0 ls []) := by
  obtain ⟨hx, hb, hr, hts, hown, hlocks, hml, hK⟩ := id C
  unfold fC_Court_ask at h
  refine lv_aload_n hx hb dX8_ask_0 rfl (lv_at hl 0 rfl) ?_
  refine lv_iload_n hx hb dX8_ask_1 rfl (lv_at hl 1 rfl) ?_
  rcases xb_thr h with et2 | ⟨v1, et2, h⟩
  · exact xg_callV (As := [.int x1]) (rest := []) ⟨hx, hb, hml, hown, hts⟩ 0 0 rfl (ci := 9) rfl rfl (cX_Court_personAt l hlf D yI yO z0 ad H.size et2) (cwV 1 hts gX8_ask_X8_personAt rfl rfl rfl (by decide +kernel) ⟨Nat.le_of_ble_eq_true rfl, Nat.le_of_ble_eq_true rfl⟩) hK hX hA hxs ht hlocks rfl hl.1 rfl (Nat.le_of_ble_eq_true rfl) dX8_ask_2 ⟨Nat.le_refl _, Nat.le_refl _⟩
  refine cg_callVq (As := [.int x1]) (rest := []) ⟨hx, hb, hml, hown, hts⟩ 0 0 rfl (ci := 9) rfl rfl (cC_Court_personAt l D yI yO z0 ad et2) (cwV 1 hts gX8_ask_X8_personAt rfl rfl rfl (by decide +kernel) ⟨Nat.le_of_ble_eq_true rfl, Nat.le_of_ble_eq_true rfl⟩) hK hX rfl hl.1 rfl (Nat.le_of_ble_eq_true rfl) dX8_ask_2 ⟨Nat.zero_le _, Nat.zero_le _⟩ (fun H locs hX => ?_)
  refine W.eq (g2 := F0 m 5 ls [.ref (ad 5 v1)]) rfl ?_
  refine lv_astore (lv' := [(4, .ref (ad 5 v1)), (0, .ref (ad 0 0)), (1, .int x1), (2, .int x2), (3, .int x3)]) hx hb dX8_ask_5 hl (by decide) rfl (fun ls hl => ?_)
  refine lv_aload_n hx hb dX8_ask_7 rfl (lv_at hl 1 rfl) ?_
  refine lv_iload_n hx hb dX8_ask_8 rfl (lv_at hl 3 rfl) ?_
  rcases xb_thr h with et4 | ⟨v3, et4, h⟩
  · exact xg_callV (As := [.int x2]) (rest := []) ⟨hx, hb, hml, hown, hts⟩ 0 0 rfl (ci := 9) rfl rfl (cX_Court_landAt l hlf D yI yO z0 ad H.size et4) (cwV 1 hts gX8_ask_X8_landAt rfl rfl rfl (by decide +kernel) ⟨Nat.le_of_ble_eq_true rfl, Nat.le_of_ble_eq_true rfl⟩) hK hX hA hxs ht hlocks rfl hl.1 rfl (Nat.le_of_ble_eq_true rfl) dX8_ask_9 ⟨Nat.le_refl _, Nat.le_refl _⟩
  refine cg_callVq (As := [.int x2]) (rest := []) ⟨hx, hb, hml, hown, hts⟩ 0 0 rfl (ci := 9) rfl rfl (cC_Court_landAt l D yI yO z0 ad et4) (cwV 1 hts gX8_ask_X8_landAt rfl rfl rfl (by decide +kernel) ⟨Nat.le_of_ble_eq_true rfl, Nat.le_of_ble_eq_true rfl⟩) hK hX rfl hl.1 rfl (Nat.le_of_ble_eq_true rfl) dX8_ask_9 ⟨Nat.zero_le _, Nat.zero_le _⟩ (fun H locs hX => ?_)
  refine W.eq (g2 := F0 m 12 ls [.ref (ad 4 v3)]) rfl ?_
  refine lv_astore (lv' := [(5, .ref (ad 4 v3)), (4, .ref (ad 5 v1)), (0, .ref (ad 0 0)), (1, .int x1), (2, .int x2), (3, .int x3)]) hx hb dX8_ask_12 hl (by decide) rfl (fun ls hl => ?_)
  refine lv_iload_n hx hb dX8_ask_14 rfl (lv_at hl 5 rfl) ?_
  refine lv_if_lt (tgt := 23) hx hb dX8_ask_15 (by decide) (fun c5 => ?_) (fun c5 => ?_)
  · replace h := mpos c5 h
    exact w_X_Court_ask_23 C hlf ht hxs hA h hX (lv_sub hl [2] rfl)
  · replace h := mneg c5 h
    refine lv_iload_n hx hb dX8_ask_18 rfl (lv_at hl 5 rfl) ?_
    refine lv_iconst (v := 3) hx hb dX8_ask_19 (by decide) ?_
    refine lv_icmp_lt (tgt := 33) hx hb dX8_ask_20 (by decide) (fun c6 => ?_) (fun c6 => ?_)
    · replace h := mpos c6 h
      refine lv_aload_n hx hb dX8_ask_33 rfl (lv_at hl 2 rfl) ?_
      refine cg_get hx hb hts iC_Court_ask_X8 hown hK hX 0 0 rfl rfl rfl 3 (by decide) (hts (.fieldLink RX8 22 "PassageCourt" "requests" "Ljava/util/ArrayList;") (by decide +kernel)) (fun _ h9 => h9) rfl dX8_ask_34 ?_
      refine cg_callV (As := []) (rest := []) ⟨hx, hb, hml, hown, hts⟩ 1 3 rfl (ci := 0) rfl rfl (cC_List_size l D yI yO z0 ad g 3 (by decide)) (cwV 0 hts gX8_ask_Jx4a65c_size_8abf5 rfl rfl rfl (by decide +kernel) ⟨Nat.le_of_ble_eq_true rfl, Nat.le_of_ble_eq_true rfl⟩) hK hX rfl hl.1 rfl (Nat.le_of_ble_eq_true rfl) dX8_ask_37 ⟨Nat.zero_le _, Nat.zero_le _⟩ (fun H locs hX => ?_)
      refine lv_bipush (v := 40) hx hb dX8_ask_40 (by decide) ?_
      refine lv_icmp_ge (tgt := 66) hx hb dX8_ask_42 (by decide) (fun c7 => ?_) (fun c7 => ?_)
      · replace h := mpos c7 h
        exact w_X_Court_ask_66 C hlf ht hxs hA h hX (lv_sub hl [2] rfl)
      · replace h := mneg c7 h
        refine lv_aload hx hb dX8_ask_45 (lv_at hl 1 rfl) ?_
        refine lv_aload hx hb dX8_ask_47 (lv_at hl 0 rfl) ?_
        obtain ⟨_, hv8, h⟩ := mbind h
        replace hv8 := ck_spec hv8
        obtain ⟨r9, er9, h⟩ := mbind h
        refine cg_callV (As := [.ref (ad 4 v3)]) (rest := []) ⟨hx, hb, hml, hown, hts⟩ 5 v1 hv8 (ci := 4) rfl rfl (cC_Person_isOf l D yI yO z0 ad er9) (cwV 1 hts gX8_ask_X3_isOf rfl rfl rfl (by decide +kernel) ⟨Nat.le_of_ble_eq_true rfl, Nat.le_of_ble_eq_true rfl⟩) hK hX rfl hl.1 rfl (Nat.le_of_ble_eq_true rfl) dX8_ask_49 ⟨Nat.zero_le _, Nat.zero_le _⟩ (fun H locs hX => ?_)
        refine lv_if_ne (tgt := 66) hx hb dX8_ask_52 (by decide) (fun c10 => ?_) (fun c10 => ?_)
        · replace h := mneg c10 h
          exact w_X_Court_ask_66 C hlf ht hxs hA h hX (lv_sub hl [2] rfl)
        · replace h := mpos c10 h
          refine lv_aload_n hx hb dX8_ask_55 rfl (lv_at hl 2 rfl) ?_
          refine lv_aload hx hb dX8_ask_56 (lv_at hl 1 rfl) ?_
          refine lv_aload hx hb dX8_ask_58 (lv_at hl 0 rfl) ?_
          obtain ⟨r11, er11, h⟩ := mbind h
          refine cg_callV (As := [.ref (ad 5 v1), .ref (ad 4 v3)]) (rest := []) ⟨hx, hb, hml, hown, hts⟩ 0 0 rfl (ci := 9) rfl rfl (cC_Court_hasOpenRequest l D yI yO z0 ad er11) (cwV 2 hts gX8_ask_X8_hasOpenRequest rfl rfl rfl (by decide +kernel) ⟨Nat.le_of_ble_eq_true rfl, Nat.le_of_ble_eq_true rfl⟩) hK hX rfl hl.1 rfl (Nat.le_of_ble_eq_true rfl) dX8_ask_60 ⟨Nat.zero_le _, Nat.zero_le _⟩ (fun H locs hX => ?_)
          refine lv_if_eq (tgt := 76) hx hb dX8_ask_63 (by decide) (fun c12 => ?_) (fun c12 => ?_)
          · replace h := mpos c12 h
            obtain ⟨_, hv13, h⟩ := mbind h
            replace hv13 := ck_spec hv13
            cases h
          · replace h := mneg c12 h
            exact w_X_Court_ask_66 C hlf ht hxs hA h hX (lv_sub hl [2] rfl)
    · replace h := mneg c6 h
      exact w_X_Court_ask_23 C hlf ht hxs hA h hX (lv_sub hl [2] rfl)
set_option maxRecDepth 20000 in
theorem cC_Court_ask (l : Launch) (D : va_G) (yI yO : ClassId) (z0 : Nat) (ad : Nat → Nat → Nat) {g gz : CS} {rz : Int32} {x1 : Int32} {x2 : Int32} {x3 : Int32} (sz : Nat) (hI : yOK g) (h : fC_Court_ask g x1 x2 x3 = some (.inr (rz, gz))) : Met l yX8_ask wsX8_ask (nR 7 201) (va_Pc [.ref (ad 0 0), .int x1, .int x2, .int x3] (yPre D yI yO z0 ad g sz)) (cQN D yI yO z0 ad rz g gz (cA ad g sz)) 20 7700 (cA ad g sz) := by
  refine Met.ofW (cc := cX8_ask) (maxL := 7) (ret := (some .int)) (by decide) rfl ?_
  intro p e s m args below meth c s₁ B hml hv
  obtain ⟨hv0, ⟨hw, hK⟩, hsz, hys⟩ := hv
  subst hsz
  have hv1 : args = [.ref (ad 0 0), .int x1, .int x2, .int x3].toArray := hv0
  subst hv1
  have C : cC p s m _ meth c cX8_ask RX8 (some .int) wsX8_ask 7 D yI yO := ⟨B.exec, B.bytes, B.returns, atoms_spec (ws := wsX8_ask) B.pre, findClass_of_methodNamed B.named, B.notSynchronized, hml, hK⟩
  have hl := lv_entry ([.ref (ad 0 0), .int x1, .int x2, .int x3]) (n := 7) (Nat.le_of_ble_eq_true rfl)
  rw [lg_entry_eq]
  generalize (lg_sl ([.ref (ad 0 0), .int x1, .int x2, .int x3]) ++ List.replicate (7 - (lg_sl ([.ref (ad 0 0), .int x1, .int x2, .int x3])).length) Slot.unset).toArray = ls at hl ⊢
  have hl : lv_has ls 7 [(0, .ref (ad 0 0)), (1, .int x1), (2, .int x2), (3, .int x3)] := hl
  exact w_C_Court_ask_0 C hys (fun q h => Or.inr h) h ⟨hw, fun k i hi => Or.inl ⟨k, i, hi, rfl⟩, va_S.rf⟩ hI hl
set_option maxRecDepth 20000 in
theorem cX_Court_ask (l : Launch) (hlf : l.stackTraces = false) (D : va_G) (yI yO : ClassId) (z0 : Nat) (ad : Nat → Nat → Nat) {g : CS} {ez : Nat} {x1 : Int32} {x2 : Int32} {x3 : Int32} (sz : Nat) (h : fC_Court_ask g x1 x2 x3 = some (.inl ez)) : vx_Met l yX8_ask wsX8_ask (xR 7 201) (va_Pc [.ref (ad 0 0), .int x1, .int x2, .int x3] (xPre D yI yO z0 ad g sz)) (xQ (cA ad g sz)) (xXC D yI yO z0 ad g ez (cA ad g sz)) 1 6 (cA ad g sz) := by
  refine vx_ofW (cc := cX8_ask) (maxL := 7) (ret := (some .int)) (by decide) rfl ?_
  intro p e s m args below meth c s₁ B hml ht hv
  obtain ⟨hv0, ⟨hw, hK⟩, hsz, hxs⟩ := hv
  subst hsz
  have hv1 : args = [.ref (ad 0 0), .int x1, .int x2, .int x3].toArray := hv0
  subst hv1
  have C : cC p s m _ meth c cX8_ask RX8 (some .int) wsX8_ask 7 D yI yO := ⟨B.exec, B.bytes, B.returns, atoms_spec (ws := wsX8_ask) B.pre, findClass_of_methodNamed B.named, B.notSynchronized, hml, hK⟩
  have hl := lv_entry ([.ref (ad 0 0), .int x1, .int x2, .int x3]) (n := 7) (Nat.le_of_ble_eq_true rfl)
  rw [lg_entry_eq]
  generalize (lg_sl ([.ref (ad 0 0), .int x1, .int x2, .int x3]) ++ List.replicate (7 - (lg_sl ([.ref (ad 0 0), .int x1, .int x2, .int x3])).length) Slot.unset).toArray = ls at hl ⊢
  have hl : lv_has ls 7 [(0, .ref (ad 0 0)), (1, .int x1), (2, .int x2), (3, .int x3)] := hl
  exact w_X_Court_ask_0 C hlf ht hxs (fun q h => Or.inr h) h ⟨hw, fun k i hi => Or.inl ⟨k, i, hi, rfl⟩, va_S.rf⟩ hl
end GM0
