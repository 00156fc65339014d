section GM3
variable {p : Program} {l : Launch} {e : Env} {s : State} {m : MethodId} {args : Array Value} {below : List Frame} {meth : Method} {c : Code} {D : va_G} {cI cZ : ClassId} {q : Nat → Nat}
theorem iM_ban : ∀ w ∈ wsX90, w ∈ wsX9_ban := by decide +kernel
def fM_ban_77 (u : MS) (y0 : Int32) : Option (Int32 × MS) :=
  some (y0, u)
set_option maxRecDepth 20000 in
theorem w_M_ban_77 (C : mC p s m args meth c cX9_ban (some .int) wsX9_ban 5 D cI cZ) {uz : MS} {rz : Int32} {u : MS} {y0 : Int32} (h : fM_ban_77 u y0 = some (rz, uz)) {H : Heap} {locs : List Loc} {ls : Array Slot} (hI : mI D cI cZ q u s H locs) (hl : lv_has ls 5 [(0, .ref (q 0))]) : W p l e (mR 2 43) s m args below meth c H locs 0 0 (MQ below (mQ D cI cZ q rz uz) args s 0 0 (mF q)) (F0 m 77 ls [.int y0]) := by
  obtain ⟨hx, hb, hr, hts, hown, hlocks, hml, hK⟩ := id C
  unfold fM_ban_77 at h
  cases h
  exact mg_reti hx hb hr hlocks hK hI dX9_ban_77
def fM_ban_49 (u : MS) (x1 x2 x3 y0 : Int32) : Option (Int32 × MS) :=
  mb2 (fM_goesWell u y0) fun r2 u1 =>
  if r2 = 0 then
    fM_ban_77 u1 0
  else
    mb2 (fM_makeBan u1 x1 x2 (u1 1 0) (((u1 1 0) + x3) - 1)) fun r5 u4 =>
    fM_ban_77 u4 r5
set_option maxRecDepth 20000 in
theorem w_M_ban_49 (C : mC p s m args meth c cX9_ban (some .int) wsX9_ban 5 D cI cZ) {uz : MS} {rz : Int32} {u : MS} {x1 x2 x3 y0 : Int32} (h : fM_ban_49 u x1 x2 x3 y0 = some (rz, uz)) {H : Heap} {locs : List Loc} {ls : Array Slot} (hI : mI D cI cZ q u s H locs) (hl : lv_has ls 5 [(0, .ref (q 0)), (1, .int x1), (2, .int x2), (3, .int x3)]) : W p l e (mR 2 43) s m args below meth c H locs 0 0 (MQ below (mQ D cI cZ q rz uz) args s 0 0 (mF q)) (F0 m 49 ls [.int y0, .ref (q 0)]) := by
  obtain ⟨hx, hb, hr, hts, hown, hlocks, hml, hK⟩ := id C
  unfold fM_ban_49 at h
  obtain ⟨r2, u1, eu1, h⟩ := mb2_spec h
  refine mg_callV (As := [.int y0]) (rest := []) ⟨hx, hb, hml, hown, hts⟩ (cM_goesWell l D cI cZ q eu1) (cwV 1 hts gX9_ban_X9_goesWell rfl rfl rfl (by decide +kernel) ⟨Nat.le_of_ble_eq_true rfl, Nat.le_of_ble_eq_true rfl⟩) hK hI rfl hl.1 rfl (Nat.le_of_ble_eq_true rfl) dX9_ban_49 ⟨Nat.le_refl _, Nat.le_refl _⟩ (fun H locs hI => ?_)
  refine lv_if_eq (tgt := 76) hx hb dX9_ban_52 (by decide) (fun c3 => ?_) (fun c3 => ?_)
  · replace h := mpos c3 h
    refine lv_iconst (v := 0) hx hb dX9_ban_76 (by decide) ?_
    exact w_M_ban_77 C h hI (lv_sub hl [0] rfl)
  · replace h := mneg c3 h
    refine lv_aload_n hx hb dX9_ban_55 rfl (lv_at hl 0 rfl) ?_
    refine lv_iload_n hx hb dX9_ban_56 rfl (lv_at hl 1 rfl) ?_
    refine lv_iload_n hx hb dX9_ban_57 rfl (lv_at hl 2 rfl) ?_
    refine lv_aload_n hx hb dX9_ban_58 rfl (lv_at hl 0 rfl) ?_
    refine mg_get hx hb hts iM_ban hown hK hI 1 (by decide) (hts (.fieldLink RX9 153 "PassageCourtModel" "today" "I") (by decide +kernel)) rfl dX9_ban_59 ?_
    refine lv_aload_n hx hb dX9_ban_62 rfl (lv_at hl 0 rfl) ?_
    refine mg_get hx hb hts iM_ban hown hK hI 1 (by decide) (hts (.fieldLink RX9 153 "PassageCourtModel" "today" "I") (by decide +kernel)) rfl dX9_ban_63 ?_
    refine lv_iload_n hx hb dX9_ban_66 rfl (lv_at hl 3 rfl) ?_
    refine lv_iadd hx hb dX9_ban_67 ?_
    refine lv_iconst (v := 1) hx hb dX9_ban_68 (by decide) ?_
    refine lv_isub hx hb dX9_ban_69 ?_
    obtain ⟨r5, u4, eu4, h⟩ := mb2_spec h
    refine mg_callV (As := [.int x1, .int x2, .int (u1 1 0), .int (((u1 1 0) + x3) - 1)]) (rest := []) ⟨hx, hb, hml, hown, hts⟩ (cM_makeBan l D cI cZ q eu4) (cwV 4 hts gX9_ban_X9_makeBan rfl rfl rfl (by decide +kernel) ⟨Nat.le_of_ble_eq_true rfl, Nat.le_of_ble_eq_true rfl⟩) hK hI rfl hl.1 rfl (Nat.le_of_ble_eq_true rfl) dX9_ban_70 ⟨Nat.le_refl _, Nat.le_refl _⟩ (fun H locs hI => ?_)
    refine lv_goto (tgt := 77) hx hb dX9_ban_73 (by decide) ?_
    exact w_M_ban_77 C h hI (lv_sub hl [0] rfl)
def fM_ban_21 (u : MS) (x1 x2 x3 y0 : Int32) : Option (Int32 × MS) :=
  if y0 = 0 then
    fM_ban_49 u x1 x2 x3 1
  else
    mb2 (fM_in u x3 1 720) fun r8 u7 =>
    if r8 = 0 then
      fM_ban_49 u7 x1 x2 x3 2
    else
      fM_ban_49 u7 x1 x2 x3 0
set_option maxRecDepth 20000 in
theorem w_M_ban_21 (C : mC p s m args meth c cX9_ban (some .int) wsX9_ban 5 D cI cZ) {uz : MS} {rz : Int32} {u : MS} {x1 x2 x3 y0 : Int32} (h : fM_ban_21 u x1 x2 x3 y0 = some (rz, uz)) {H : Heap} {locs : List Loc} {ls : Array Slot} (hI : mI D cI cZ q u s H locs) (hl : lv_has ls 5 [(0, .ref (q 0)), (1, .int x1), (2, .int x2), (3, .int x3)]) : W p l e (mR 2 43) s m args below meth c H locs 0 0 (MQ below (mQ D cI cZ q rz uz) args s 0 0 (mF q)) (F0 m 21 ls [.int y0]) := by
  obtain ⟨hx, hb, hr, hts, hown, hlocks, hml, hK⟩ := id C
  unfold fM_ban_21 at h
  refine lv_istore (lv' := [(4, .int y0), (0, .ref (q 0)), (1, .int x1), (2, .int x2), (3, .int x3)]) hx hb dX9_ban_21 hl (by decide) rfl (fun ls hl => ?_)
  refine lv_aload_n hx hb dX9_ban_23 rfl (lv_at hl 1 rfl) ?_
  refine lv_iload hx hb dX9_ban_24 (lv_at hl 0 rfl) ?_
  refine lv_if_ne (tgt := 33) hx hb dX9_ban_26 (by decide) (fun c6 => ?_) (fun c6 => ?_)
  · replace h := mneg c6 h
    refine lv_iload_n hx hb dX9_ban_33 rfl (lv_at hl 4 rfl) ?_
    refine lv_iconst (v := 1) hx hb dX9_ban_34 (by decide) ?_
    refine lv_sipush (v := 720) hx hb dX9_ban_35 (by decide) ?_
    obtain ⟨r8, u7, eu7, h⟩ := mb2_spec h
    refine mg_callS (As := [.int x3, .int 1, .int 720]) (rest := [.ref (q 0)]) ⟨hx, hb, hml, hown, hts⟩ (cM_in l D cI cZ q eu7) (va_cwS 3 hts gX9_ban_X9_in rfl rfl rfl (by decide +kernel) ⟨Nat.le_of_ble_eq_true rfl, Nat.le_of_ble_eq_true rfl⟩) hK hI rfl hl.1 rfl (Nat.le_of_ble_eq_true rfl) dX9_ban_38 ⟨Nat.le_refl _, Nat.le_refl _⟩ (fun H locs hI => ?_)
    refine lv_if_eq (tgt := 48) hx hb dX9_ban_41 (by decide) (fun c9 => ?_) (fun c9 => ?_)
    · replace h := mpos c9 h
      refine lv_iconst (v := 2) hx hb dX9_ban_48 (by decide) ?_
      exact w_M_ban_49 C h hI (lv_sub hl [1, 2, 3, 4] rfl)
    · replace h := mneg c9 h
      refine lv_iconst (v := 0) hx hb dX9_ban_44 (by decide) ?_
      refine lv_goto (tgt := 49) hx hb dX9_ban_45 (by decide) ?_
      exact w_M_ban_49 C h hI (lv_sub hl [1, 2, 3, 4] rfl)
  · replace h := mpos c6 h
    refine lv_iconst (v := 1) hx hb dX9_ban_29 (by decide) ?_
    refine lv_goto (tgt := 49) hx hb dX9_ban_30 (by decide) ?_
    exact w_M_ban_49 C h hI (lv_sub hl [1, 2, 3, 4] rfl)
def fM_ban_20 (u : MS) (x1 x2 x3 : Int32) : Option (Int32 × MS) :=
  fM_ban_21 u x1 x2 x3 0
set_option maxRecDepth 20000 in
theorem w_M_ban_20 (C : mC p s m args meth c cX9_ban (some .int) wsX9_ban 5 D cI cZ) {uz : MS} {rz : Int32} {u : MS} {x1 x2 x3 : Int32} (h : fM_ban_20 u x1 x2 x3 = some (rz, uz)) {H : Heap} {locs : List Loc} {ls : Array Slot} (hI : mI D cI cZ q u s H locs) (hl : lv_has ls 5 [(0, .ref (q 0)), (1, .int x1), (2, .int x2), (3, .int x3)]) : W p l e (mR 2 43) s m args below meth c H locs 0 0 (MQ below (mQ D cI cZ q rz uz) args s 0 0 (mF q)) (F0 m 20 ls []) := by
  obtain ⟨hx, hb, hr, hts, hown, hlocks, hml, hK⟩ := id C
  unfold fM_ban_20 at h
  refine lv_iconst (v := 0) hx hb dX9_ban_20 (by decide) ?_
  exact w_M_ban_21 C h hI (lv_sub hl [0, 1, 2, 3] rfl)
def fM_ban (u : MS) (x1 x2 x3 : Int32) : Option (Int32 × MS) :=
  mb2 (fM_isLand u x1) fun r11 u10 =>
  if r11 = 0 then
    fM_ban_20 u10 x1 x2 x3
  else
    mb2 (fM_isPerson u10 x2) fun r14 u13 =>
    if r14 = 0 then
      fM_ban_20 u13 x1 x2 x3
    else
      fM_ban_21 u13 x1 x2 x3 1
set_option maxRecDepth 20000 in
theorem w_M_ban_0 (C : mC p s m args meth c cX9_ban (some .int) wsX9_ban 5 D cI cZ) {uz : MS} {rz : Int32} {u : MS} {x1 x2 x3 : Int32} (h : fM_ban u x1 x2 x3 = some (rz, uz)) {H : Heap} {locs : List Loc} {ls : Array Slot} (hI : mI D cI cZ q u s H locs) (hl : lv_has ls 5 [(0, .ref (q 0)), (1, .int x1), (2, .int x2), (3, .int x3)]) : W p l e (mR 2 43) s m args below meth c H locs 0 0 (MQ below (mQ D cI cZ q rz uz) args s 0 0 (mF q)) (F0 m 0 ls []) := by
  obtain ⟨hx, hb, hr, hts, hown, hlocks, hml, hK⟩ := id C
  unfold fM_ban at h
  refine lv_aload_n hx hb dX9_ban_0 rfl (lv_at hl 0 rfl) ?_
  refine lv_iload_n hx hb dX9_ban_1 rfl (lv_at hl 1 rfl) ?_
  obtain ⟨r11, u10, eu10, h⟩ := mb2_spec h
  refine mg_callV (As := [.int x1]) (rest := []) ⟨hx, hb, hml, hown, hts⟩ (cM_isLand l D cI cZ q eu10) (cwV 1 hts gX9_ban_X9_isLand rfl rfl rfl (by decide +kernel) ⟨Nat.le_of_ble_eq_true rfl, Nat.le_of_ble_eq_true rfl⟩) hK hI rfl hl.1 rfl (Nat.le_of_ble_eq_true rfl) dX9_ban_2 ⟨Nat.le_refl _, Nat.le_refl _⟩ (fun H locs hI => ?_)
  refine lv_if_eq (tgt := 20) hx hb dX9_ban_5 (by decide) (fun c12 => ?_) (fun c12 => ?_)
  · replace h := mpos c12 h
    exact w_M_ban_20 C h hI (lv_sub hl [0, 1, 2, 3] rfl)
  · replace h := mneg c12 h
    refine lv_aload_n hx hb dX9_ban_8 rfl (lv_at hl 0 rfl) ?_
    refine lv_iload_n hx hb dX9_ban_9 rfl (lv_at hl 2 rfl) ?_
    obtain ⟨r14, u13, eu13, h⟩ := mb2_spec h
    refine mg_callV (As := [.int x2]) (rest := []) ⟨hx, hb, hml, hown, hts⟩ (cM_isPerson l D cI cZ q eu13) (cwV 1 hts gX9_ban_X9_isPerson rfl rfl rfl (by decide +kernel) ⟨Nat.le_of_ble_eq_true rfl, Nat.le_of_ble_eq_true rfl⟩) hK hI rfl hl.1 rfl (Nat.le_of_ble_eq_true rfl) dX9_ban_10 ⟨Nat.le_refl _, Nat.le_refl _⟩ (fun H locs hI => ?_)
    refine lv_if_eq (tgt := 20) hx hb dX9_ban_13 (by decide) (fun c15 => ?_) (fun c15 => ?_)
    · replace h := mpos c15 h
      exact w_M_ban_20 C h hI (lv_sub hl [0, 1, 2, 3] rfl)
    · replace h := mneg c15 h
      refine lv_iconst (v := 1) hx hb dX9_ban_16 (by decide) ?_
      refine lv_goto (tgt := 21) hx hb dX9_ban_17 (by decide) ?_
      exact w_M_ban_21 C h hI (lv_sub hl [0, 1, 2, 3] rfl)
set_option maxRecDepth 20000 in
theorem cM_ban (l : Launch) (D : va_G) (cI cZ : ClassId) (q : Nat → Nat) {u uz : MS} {rz : Int32} {x1 x2 x3 : Int32} (h : fM_ban u x1 x2 x3 = some (rz, uz)) : Met l yX9_ban wsX9_ban (mR 2 43) (va_Pc [.ref (q 0), .int x1, .int x2, .int x3] (mPre D cI cZ q u)) (mQ D cI cZ q rz uz) 0 0 (mF q) := by
  refine Met.ofW (cc := cX9_ban) (maxL := 5) (ret := (some .int)) (by decide) rfl ?_
  intro p e s m args below meth c s₁ B hml hv
  obtain ⟨rfl, hw, hK⟩ := hv
  have C : mC p s m _ meth c cX9_ban (some .int) wsX9_ban 5 D cI cZ := ⟨B.exec, B.bytes, B.returns, atoms_spec (ws := wsX9_ban) B.pre, findClass_of_methodNamed B.named, B.notSynchronized, hml, hK⟩
  have hl := lv_entry ([.ref (q 0), .int x1, .int x2, .int x3]) (n := 5) (Nat.le_of_ble_eq_true rfl)
  rw [lg_entry_eq]
  generalize (lg_sl ([.ref (q 0), .int x1, .int x2, .int x3]) ++ List.replicate (5 - (lg_sl ([.ref (q 0), .int x1, .int x2, .int x3])).length) Slot.unset).toArray = ls at hl ⊢
  have hl : lv_has ls 5 [(0, .ref (q 0)), (1, .int x1), (2, .int x2), (3, .int x3)] := hl
  exact w_M_ban_0 C h ⟨hw, va_S.rf⟩ hl
theorem iM_lift : ∀ w ∈ wsX90, w ∈ wsX9_lift := by decide +kernel
def fM_lift_53 (u : MS) (x1 x2 y0 : Int32) : Option (Int32 × MS) :=
  (mst u 25 ((8 * x2) + x1) ((-1))).bind fun u1 =>
  (mbo y0).bind fun b2 => some (b2, u1)
set_option maxRecDepth 20000 in
theorem w_M_lift_53 (C : mC p s m args meth c cX9_lift (some .boolean) wsX9_lift 4 D cI cZ) {uz : MS} {rz : Int32} {u : MS} {x1 x2 y0 : Int32} (h : fM_lift_53 u x1 x2 y0 = some (rz, uz)) {H : Heap} {locs : List Loc} {ls : Array Slot} (hI : mI D cI cZ q u s H locs) (hl : lv_has ls 4 [(0, .ref (q 0)), (1, .int x1), (2, .int x2)]) : W p l e (mR 2 43) s m args below meth c H locs 0 0 (MQ below (mQ D cI cZ q rz uz) args s 0 0 (mF q)) (F0 m 53 ls [.int y0]) := by
  obtain ⟨hx, hb, hr, hts, hown, hlocks, hml, hK⟩ := id C
  unfold fM_lift_53 at h
  refine lv_istore_n (lv' := [(3, .int y0), (0, .ref (q 0)), (1, .int x1), (2, .int x2)]) hx hb dX9_lift_53 rfl hl (by decide) rfl (fun ls hl => ?_)
  refine lv_aload_n hx hb dX9_lift_54 rfl (lv_at hl 1 rfl) ?_
  refine mg_get hx hb hts iM_lift hown hK hI 25 (by decide) (hts (.fieldLink RX9 76 "PassageCourtModel" "banTo" "[I") (by decide +kernel)) rfl dX9_lift_55 ?_
  refine lv_bipush (v := 8) hx hb dX9_lift_58 (by decide) ?_
  refine lv_iload_n hx hb dX9_lift_60 rfl (lv_at hl 3 rfl) ?_
  refine lv_imul hx hb dX9_lift_61 ?_
  refine lv_iload_n hx hb dX9_lift_62 rfl (lv_at hl 2 rfl) ?_
  refine lv_iadd hx hb dX9_lift_63 ?_
  refine lv_iconst (v := -1) hx hb dX9_lift_64 (by decide) ?_
  obtain ⟨u1, eu1, h⟩ := mbind h
  refine mg_ast hx hb hK hI 25 rfl (by decide) eu1 dX9_lift_65 (fun H locs hI => ?_)
  refine lv_iload_n hx hb dX9_lift_66 rfl (lv_at hl 0 rfl) ?_
  obtain ⟨b2, eb2, h⟩ := mbind h
  cases h
  exact mg_retz hx hb hr hlocks hK hI dX9_lift_67 eb2
def fM_lift_22 (u : MS) (x1 x2 y0 : Int32) : Option (Int32 × MS) :=
  mb2 (fM_goesWell u y0) fun r4 u3 =>
  if r4 = 0 then
    (mbo 0).bind fun b8 => some (b8, u3)
  else
    (mld u3 25 ((8 * x2) + x1)).bind fun r6 =>
    if r6 < (u3 1 0) then
      fM_lift_53 u3 x1 x2 0
    else
      fM_lift_53 u3 x1 x2 1
set_option maxRecDepth 20000 in
theorem w_M_lift_22 (C : mC p s m args meth c cX9_lift (some .boolean) wsX9_lift 4 D cI cZ) {uz : MS} {rz : Int32} {u : MS} {x1 x2 y0 : Int32} (h : fM_lift_22 u x1 x2 y0 = some (rz, uz)) {H : Heap} {locs : List Loc} {ls : Array Slot} (hI : mI D cI cZ q u s H locs) (hl : lv_has ls 4 [(0, .ref (q 0)), (1, .int x1), (2, .int x2)]) : W p l e (mR 2 43) s m args below meth c H locs 0 0 (MQ below (mQ D cI cZ q rz uz) args s 0 0 (mF q)) (F0 m 22 ls [.int y0, .ref (q 0)]) := by
  obtain ⟨hx, hb, hr, hts, hown, hlocks, hml, hK⟩ := id C
  unfold fM_lift_22 at h
  obtain ⟨r4, u3, eu3, h⟩ := mb2_spec h
  refine mg_callV (As := [.int y0]) (rest := []) ⟨hx, hb, hml, hown, hts⟩ (cM_goesWell l D cI cZ q eu3) (cwV 1 hts gX9_lift_X9_goesWell rfl rfl rfl (by decide +kernel) ⟨Nat.le_of_ble_eq_true rfl, Nat.le_of_ble_eq_true rfl⟩) hK hI rfl hl.1 rfl (Nat.le_of_ble_eq_true rfl) dX9_lift_22 ⟨Nat.le_refl _, Nat.le_refl _⟩ (fun H locs hI => ?_)
  refine lv_if_ne (tgt := 30) hx hb dX9_lift_25 (by decide) (fun c5 => ?_) (fun c5 => ?_)
  · replace h := mneg c5 h
    refine lv_aload_n hx hb dX9_lift_30 rfl (lv_at hl 0 rfl) ?_
    refine mg_get hx hb hts iM_lift hown hK hI 25 (by decide) (hts (.fieldLink RX9 76 "PassageCourtModel" "banTo" "[I") (by decide +kernel)) rfl dX9_lift_31 ?_
    refine lv_bipush (v := 8) hx hb dX9_lift_34 (by decide) ?_
    refine lv_iload_n hx hb dX9_lift_36 rfl (lv_at hl 2 rfl) ?_
    refine lv_imul hx hb dX9_lift_37 ?_
    refine lv_iload_n hx hb dX9_lift_38 rfl (lv_at hl 1 rfl) ?_
    refine lv_iadd hx hb dX9_lift_39 ?_
    obtain ⟨r6, er6, h⟩ := mbind h
    refine mg_ald hx hb hK hI 25 rfl (by decide) er6 dX9_lift_40 ?_
    refine lv_aload_n hx hb dX9_lift_41 rfl (lv_at hl 0 rfl) ?_
    refine mg_get hx hb hts iM_lift hown hK hI 1 (by decide) (hts (.fieldLink RX9 153 "PassageCourtModel" "today" "I") (by decide +kernel)) rfl dX9_lift_42 ?_
    refine lv_icmp_lt (tgt := 52) hx hb dX9_lift_45 (by decide) (fun c7 => ?_) (fun c7 => ?_)
    · replace h := mpos c7 h
      refine lv_iconst (v := 0) hx hb dX9_lift_52 (by decide) ?_
      exact w_M_lift_53 C h hI (lv_sub hl [0, 1, 2] rfl)
    · replace h := mneg c7 h
      refine lv_iconst (v := 1) hx hb dX9_lift_48 (by decide) ?_
      refine lv_goto (tgt := 53) hx hb dX9_lift_49 (by decide) ?_
      exact w_M_lift_53 C h hI (lv_sub hl [0, 1, 2] rfl)
  · replace h := mpos c5 h
    refine lv_iconst (v := 0) hx hb dX9_lift_28 (by decide) ?_
    obtain ⟨b8, eb8, h⟩ := mbind h
    cases h
    exact mg_retz hx hb hr hlocks hK hI dX9_lift_29 eb8
def fM_lift_21 (u : MS) (x1 x2 : Int32) : Option (Int32 × MS) :=
  fM_lift_22 u x1 x2 1
set_option maxRecDepth 20000 in
theorem w_M_lift_21 (C : mC p s m args meth c cX9_lift (some .boolean) wsX9_lift 4 D cI cZ) {uz : MS} {rz : Int32} {u : MS} {x1 x2 : Int32} (h : fM_lift_21 u x1 x2 = some (rz, uz)) {H : Heap} {locs : List Loc} {ls : Array Slot} (hI : mI D cI cZ q u s H locs) (hl : lv_has ls 4 [(0, .ref (q 0)), (1, .int x1), (2, .int x2)]) : W p l e (mR 2 43) s m args below meth c H locs 0 0 (MQ below (mQ D cI cZ q rz uz) args s 0 0 (mF q)) (F0 m 21 ls [.ref (q 0)]) := by
  obtain ⟨hx, hb, hr, hts, hown, hlocks, hml, hK⟩ := id C
  unfold fM_lift_21 at h
  refine lv_iconst (v := 1) hx hb dX9_lift_21 (by decide) ?_
  exact w_M_lift_22 C h hI (lv_sub hl [0, 1, 2] rfl)
def fM_lift (u : MS) (x1 x2 : Int32) : Option (Int32 × MS) :=
  mb2 (fM_isLand u x1) fun r10 u9 =>
  if r10 = 0 then
    fM_lift_21 u9 x1 x2
  else
    mb2 (fM_isPerson u9 x2) fun r13 u12 =>
    if r13 = 0 then
      fM_lift_21 u12 x1 x2
    else
      fM_lift_22 u12 x1 x2 0
set_option maxRecDepth 20000 in
theorem w_M_lift_0 (C : mC p s m args meth c cX9_lift (some .boolean) wsX9_lift 4 D cI cZ) {uz : MS} {rz : Int32} {u : MS} {x1 x2 : Int32} (h : fM_lift u x1 x2 = some (rz, uz)) {H : Heap} {locs : List Loc} {ls : Array Slot} (hI : mI D cI cZ q u s H locs) (hl : lv_has ls 4 [(0, .ref (q 0)), (1, .int x1), (2, .int x2)]) : W p l e (mR 2 43) s m args below meth c H locs 0 0 (MQ below (mQ D cI cZ q rz uz) args s 0 0 (mF q)) (F0 m 0 ls []) := by
  obtain ⟨hx, hb, hr, hts, hown, hlocks, hml, hK⟩ := id C
  unfold fM_lift at h
  refine lv_aload_n hx hb dX9_lift_0 rfl (lv_at hl 0 rfl) ?_
  refine lv_aload_n hx hb dX9_lift_1 rfl (lv_at hl 0 rfl) ?_
  refine lv_iload_n hx hb dX9_lift_2 rfl (lv_at hl 1 rfl) ?_
  obtain ⟨r10, u9, eu9, h⟩ := mb2_spec h
  refine mg_callV (As := [.int x1]) (rest := [.ref (q 0)]) ⟨hx, hb, hml, hown, hts⟩ (cM_isLand l D cI cZ q eu9) (cwV 1 hts gX9_lift_X9_isLand rfl rfl rfl (by decide +kernel) ⟨Nat.le_of_ble_eq_true rfl, Nat.le_of_ble_eq_true rfl⟩) hK hI rfl hl.1 rfl (Nat.le_of_ble_eq_true rfl) dX9_lift_3 ⟨Nat.le_refl _, Nat.le_refl _⟩ (fun H locs hI => ?_)
  refine lv_if_eq (tgt := 21) hx hb dX9_lift_6 (by decide) (fun c11 => ?_) (fun c11 => ?_)
  · replace h := mpos c11 h
    exact w_M_lift_21 C h hI (lv_sub hl [0, 1, 2] rfl)
  · replace h := mneg c11 h
    refine lv_aload_n hx hb dX9_lift_9 rfl (lv_at hl 0 rfl) ?_
    refine lv_iload_n hx hb dX9_lift_10 rfl (lv_at hl 2 rfl) ?_
    obtain ⟨r13, u12, eu12, h⟩ := mb2_spec h
    refine mg_callV (As := [.int x2]) (rest := [.ref (q 0)]) ⟨hx, hb, hml, hown, hts⟩ (cM_isPerson l D cI cZ q eu12) (cwV 1 hts gX9_lift_X9_isPerson rfl rfl rfl (by decide +kernel) ⟨Nat.le_of_ble_eq_true rfl, Nat.le_of_ble_eq_true rfl⟩) hK hI rfl hl.1 rfl (Nat.le_of_ble_eq_true rfl) dX9_lift_11 ⟨Nat.le_refl _, Nat.le_refl _⟩ (fun H locs hI => ?_)
    refine lv_if_eq (tgt := 21) hx hb dX9_lift_14 (by decide) (fun c14 => ?_) (fun c14 => ?_)
    · replace h := mpos c14 h
      exact w_M_lift_21 C h hI (lv_sub hl [0, 1, 2] rfl)
    · replace h := mneg c14 h
      refine lv_iconst (v := 0) hx hb dX9_lift_17 (by decide) ?_
      refine lv_goto (tgt := 22) hx hb dX9_lift_18 (by decide) ?_
      exact w_M_lift_22 C h hI (lv_sub hl [0, 1, 2] rfl)
set_option maxRecDepth 20000 in
theorem cM_lift (l : Launch) (D : va_G) (cI cZ : ClassId) (q : Nat → Nat) {u uz : MS} {rz : Int32} {x1 x2 : Int32} (h : fM_lift u x1 x2 = some (rz, uz)) : Met l yX9_lift wsX9_lift (mR 2 43) (va_Pc [.ref (q 0), .int x1, .int x2] (mPre D cI cZ q u)) (mQ D cI cZ q rz uz) 0 0 (mF q) := by
  refine Met.ofW (cc := cX9_lift) (maxL := 4) (ret := (some .boolean)) (by decide) rfl ?_
  intro p e s m args below meth c s₁ B hml hv
  obtain ⟨rfl, hw, hK⟩ := hv
  have C : mC p s m _ meth c cX9_lift (some .boolean) wsX9_lift 4 D cI cZ := ⟨B.exec, B.bytes, B.returns, atoms_spec (ws := wsX9_lift) B.pre, findClass_of_methodNamed B.named, B.notSynchronized, hml, hK⟩
  have hl := lv_entry ([.ref (q 0), .int x1, .int x2]) (n := 4) (Nat.le_of_ble_eq_true rfl)
  rw [lg_entry_eq]
  generalize (lg_sl ([.ref (q 0), .int x1, .int x2]) ++ List.replicate (4 - (lg_sl ([.ref (q 0), .int x1, .int x2])).length) Slot.unset).toArray = ls at hl ⊢
  have hl : lv_has ls 4 [(0, .ref (q 0)), (1, .int x1), (2, .int x2)] := hl
  exact w_M_lift_0 C h ⟨hw, va_S.rf⟩ hl
theorem iM_quota : ∀ w ∈ wsX90, w ∈ wsX9_quota := by decide +kernel
def fM_quota_41 (u : MS) (x1 x2 x3 y0 : Int32) : Option (Int32 × MS) :=
  mb2 (fM_goesWell u y0) fun r2 u1 =>
  if r2 = 0 then
    some (0, u1)
  else
    (mld u1 8 ((3 * x1) + x2)).bind fun r4 =>
    (mst u1 8 ((3 * x1) + x2) x3).bind fun u5 =>
    some (r4, u5)
set_option maxRecDepth 20000 in
theorem w_M_quota_41 (C : mC p s m args meth c cX9_quota (some .int) wsX9_quota 6 D cI cZ) {uz : MS} {rz : Int32} {u : MS} {x1 x2 x3 y0 : Int32} (h : fM_quota_41 u x1 x2 x3 y0 = some (rz, uz)) {H : Heap} {locs : List Loc} {ls : Array Slot} (hI : mI D cI cZ q u s H locs) (hl : lv_has ls 6 [(0, .ref (q 0)), (1, .int x1), (2, .int x2), (3, .int x3)]) : W p l e (mR 2 43) s m args below meth c H locs 0 0 (MQ below (mQ D cI cZ q rz uz) args s 0 0 (mF q)) (F0 m 41 ls [.int y0, .ref (q 0)]) := by
  obtain ⟨hx, hb, hr, hts, hown, hlocks, hml, hK⟩ := id C
  unfold fM_quota_41 at h
  obtain ⟨r2, u1, eu1, h⟩ := mb2_spec h
  refine mg_callV (As := [.int y0]) (rest := []) ⟨hx, hb, hml, hown, hts⟩ (cM_goesWell l D cI cZ q eu1) (cwV 1 hts gX9_quota_X9_goesWell rfl rfl rfl (by decide +kernel) ⟨Nat.le_of_ble_eq_true rfl, Nat.le_of_ble_eq_true rfl⟩) hK hI rfl hl.1 rfl (Nat.le_of_ble_eq_true rfl) dX9_quota_41 ⟨Nat.le_refl _, Nat.le_refl _⟩ (fun H locs hI => ?_)
  refine lv_if_ne (tgt := 49) hx hb dX9_quota_44 (by decide) (fun c3 => ?_) (fun c3 => ?_)
  · replace h := mneg c3 h
    refine lv_aload_n hx hb dX9_quota_49 rfl (lv_at hl 0 rfl) ?_
    refine mg_get hx hb hts iM_quota hown hK hI 8 (by decide) (hts (.fieldLink RX9 26 "PassageCourtModel" "quota" "[I") (by decide +kernel)) rfl dX9_quota_50 ?_
    refine lv_iconst (v := 3) hx hb dX9_quota_53 (by decide) ?_
    refine lv_iload_n hx hb dX9_quota_54 rfl (lv_at hl 1 rfl) ?_
    refine lv_imul hx hb dX9_quota_55 ?_
    refine lv_iload_n hx hb dX9_quota_56 rfl (lv_at hl 2 rfl) ?_
    refine lv_iadd hx hb dX9_quota_57 ?_
    obtain ⟨r4, er4, h⟩ := mbind h
    refine mg_ald hx hb hK hI 8 rfl (by decide) er4 dX9_quota_58 ?_
    refine lv_istore (lv' := [(5, .int r4), (0, .ref (q 0)), (1, .int x1), (2, .int x2), (3, .int x3)]) hx hb dX9_quota_59 hl (by decide) rfl (fun ls hl => ?_)
    refine lv_aload_n hx hb dX9_quota_61 rfl (lv_at hl 1 rfl) ?_
    refine mg_get hx hb hts iM_quota hown hK hI 8 (by decide) (hts (.fieldLink RX9 26 "PassageCourtModel" "quota" "[I") (by decide +kernel)) rfl dX9_quota_62 ?_
    refine lv_iconst (v := 3) hx hb dX9_quota_65 (by decide) ?_
    refine lv_iload_n hx hb dX9_quota_66 rfl (lv_at hl 2 rfl) ?_
    refine lv_imul hx hb dX9_quota_67 ?_
    refine lv_iload_n hx hb dX9_quota_68 rfl (lv_at hl 3 rfl) ?_
    refine lv_iadd hx hb dX9_quota_69 ?_
    refine lv_iload_n hx hb dX9_quota_70 rfl (lv_at hl 4 rfl) ?_
    obtain ⟨u5, eu5, h⟩ := mbind h
    refine mg_ast hx hb hK hI 8 rfl (by decide) eu5 dX9_quota_71 (fun H locs hI => ?_)
    refine lv_iload hx hb dX9_quota_72 (lv_at hl 0 rfl) ?_
    cases h
    exact mg_reti hx hb hr hlocks hK hI dX9_quota_74
  · replace h := mpos c3 h
    refine lv_iconst (v := 0) hx hb dX9_quota_47 (by decide) ?_
    cases h
    exact mg_reti hx hb hr hlocks hK hI dX9_quota_48
def fM_quota_40 (u : MS) (x1 x2 x3 : Int32) : Option (Int32 × MS) :=
  fM_quota_41 u x1 x2 x3 2
set_option maxRecDepth 20000 in
theorem w_M_quota_40 (C : mC p s m args meth c cX9_quota (some .int) wsX9_quota 6 D cI cZ) {uz : MS} {rz : Int32} {u : MS} {x1 x2 x3 : Int32} (h : fM_quota_40 u x1 x2 x3 = some (rz, uz)) {H : Heap} {locs : List Loc} {ls : Array Slot} (hI : mI D cI cZ q u s H locs) (hl : lv_has ls 6 [(0, .ref (q 0)), (1, .int x1), (2, .int x2), (3, .int x3)]) : W p l e (mR 2 43) s m args below meth c H locs 0 0 (MQ below (mQ D cI cZ q rz uz) args s 0 0 (mF q)) (F0 m 40 ls [.ref (q 0)]) := by
  obtain ⟨hx, hb, hr, hts, hown, hlocks, hml, hK⟩ := id C
  unfold fM_quota_40 at h
  refine lv_iconst (v := 2) hx hb dX9_quota_40 (by decide) ?_
  exact w_M_quota_41 C h hI (lv_sub hl [0, 1, 2, 3] rfl)
def fM_quota (u : MS) (x1 x2 x3 : Int32) : Option (Int32 × MS) :=
  mb2 (fM_isLand u x1) fun r7 u6 =>
  if r7 = 0 then
    fM_quota_41 u6 x1 x2 x3 1
  else
    mb2 (fM_in u6 x2 0 2) fun r10 u9 =>
    if r10 = 0 then
      fM_quota_40 u9 x1 x2 x3
    else
      mb2 (fM_in u9 x3 0 9) fun r13 u12 =>
      if r13 = 0 then
        fM_quota_40 u12 x1 x2 x3
      else
        fM_quota_41 u12 x1 x2 x3 0
set_option maxRecDepth 20000 in
theorem w_M_quota_0 (C : mC p s m args meth c cX9_quota (some .int) wsX9_quota 6 D cI cZ) {uz : MS} {rz : Int32} {u : MS} {x1 x2 x3 : Int32} (h : fM_quota u x1 x2 x3 = some (rz, uz)) {H : Heap} {locs : List Loc} {ls : Array Slot} (hI : mI D cI cZ q u s H locs) (hl : lv_has ls 6 [(0, .ref (q 0)), (1, .int x1), (2, .int x2), (3, .int x3)]) : W p l e (mR 2 43) s m args below meth c H locs 0 0 (MQ below (mQ D cI cZ q rz uz) args s 0 0 (mF q)) (F0 m 0 ls []) := by
  obtain ⟨hx, hb, hr, hts, hown, hlocks, hml, hK⟩ := id C
  unfold fM_quota at h
  refine lv_aload_n hx hb dX9_quota_0 rfl (lv_at hl 0 rfl) ?_
  refine lv_iload_n hx hb dX9_quota_1 rfl (lv_at hl 1 rfl) ?_
  obtain ⟨r7, u6, eu6, h⟩ := mb2_spec h
  refine mg_callV (As := [.int x1]) (rest := []) ⟨hx, hb, hml, hown, hts⟩ (cM_isLand l D cI cZ q eu6) (cwV 1 hts gX9_quota_X9_isLand rfl rfl rfl (by decide +kernel) ⟨Nat.le_of_ble_eq_true rfl, Nat.le_of_ble_eq_true rfl⟩) hK hI rfl hl.1 rfl (Nat.le_of_ble_eq_true rfl) dX9_quota_2 ⟨Nat.le_refl _, Nat.le_refl _⟩ (fun H locs hI => ?_)
  refine lv_istore (lv' := [(4, .int r7), (0, .ref (q 0)), (1, .int x1), (2, .int x2), (3, .int x3)]) hx hb dX9_quota_5 hl (by decide) rfl (fun ls hl => ?_)
  refine lv_aload_n hx hb dX9_quota_7 rfl (lv_at hl 1 rfl) ?_
  refine lv_iload hx hb dX9_quota_8 (lv_at hl 0 rfl) ?_
  refine lv_if_ne (tgt := 17) hx hb dX9_quota_10 (by decide) (fun c8 => ?_) (fun c8 => ?_)
  · replace h := mneg c8 h
    refine lv_iload_n hx hb dX9_quota_17 rfl (lv_at hl 3 rfl) ?_
    refine lv_iconst (v := 0) hx hb dX9_quota_18 (by decide) ?_
    refine lv_iconst (v := 2) hx hb dX9_quota_19 (by decide) ?_
    obtain ⟨r10, u9, eu9, h⟩ := mb2_spec h
    refine mg_callS (As := [.int x2, .int 0, .int 2]) (rest := [.ref (q 0)]) ⟨hx, hb, hml, hown, hts⟩ (cM_in l D cI cZ q eu9) (va_cwS 3 hts gX9_quota_X9_in rfl rfl rfl (by decide +kernel) ⟨Nat.le_of_ble_eq_true rfl, Nat.le_of_ble_eq_true rfl⟩) hK hI rfl hl.1 rfl (Nat.le_of_ble_eq_true rfl) dX9_quota_20 ⟨Nat.le_refl _, Nat.le_refl _⟩ (fun H locs hI => ?_)
    refine lv_if_eq (tgt := 40) hx hb dX9_quota_23 (by decide) (fun c11 => ?_) (fun c11 => ?_)
    · replace h := mpos c11 h
      exact w_M_quota_40 C h hI (lv_sub hl [1, 2, 3, 4] rfl)
    · replace h := mneg c11 h
      refine lv_iload_n hx hb dX9_quota_26 rfl (lv_at hl 4 rfl) ?_
      refine lv_iconst (v := 0) hx hb dX9_quota_27 (by decide) ?_
      refine lv_bipush (v := 9) hx hb dX9_quota_28 (by decide) ?_
      obtain ⟨r13, u12, eu12, h⟩ := mb2_spec h
      refine mg_callS (As := [.int x3, .int 0, .int 9]) (rest := [.ref (q 0)]) ⟨hx, hb, hml, hown, hts⟩ (cM_in l D cI cZ q eu12) (va_cwS 3 hts gX9_quota_X9_in rfl rfl rfl (by decide +kernel) ⟨Nat.le_of_ble_eq_true rfl, Nat.le_of_ble_eq_true rfl⟩) hK hI rfl hl.1 rfl (Nat.le_of_ble_eq_true rfl) dX9_quota_30 ⟨Nat.le_refl _, Nat.le_refl _⟩ (fun H locs hI => ?_)
      refine lv_if_eq (tgt := 40) hx hb dX9_quota_33 (by decide) (fun c14 => ?_) (fun c14 => ?_)
      · replace h := mpos c14 h
        exact w_M_quota_40 C h hI (lv_sub hl [1, 2, 3, 4] rfl)
      · replace h := mneg c14 h
        refine lv_iconst (v := 0) hx hb dX9_quota_36 (by decide) ?_
        refine lv_goto (tgt := 41) hx hb dX9_quota_37 (by decide) ?_
        exact w_M_quota_41 C h hI (lv_sub hl [1, 2, 3, 4] rfl)
  · replace h := mpos c8 h
    refine lv_iconst (v := 1) hx hb dX9_quota_13 (by decide) ?_
    refine lv_goto (tgt := 41) hx hb dX9_quota_14 (by decide) ?_
    exact w_M_quota_41 C h hI (lv_sub hl [1, 2, 3, 4] rfl)
set_option maxRecDepth 20000 in
theorem cM_quota (l : Launch) (D : va_G) (cI cZ : ClassId) (q : Nat → Nat) {u uz : MS} {rz : Int32} {x1 x2 x3 : Int32} (h : fM_quota u x1 x2 x3 = some (rz, uz)) : Met l yX9_quota wsX9_quota (mR 2 43) (va_Pc [.ref (q 0), .int x1, .int x2, .int x3] (mPre D cI cZ q u)) (mQ D cI cZ q rz uz) 0 0 (mF q) := by
  refine Met.ofW (cc := cX9_quota) (maxL := 6) (ret := (some .int)) (by decide) rfl ?_
  intro p e s m args below meth c s₁ B hml hv
  obtain ⟨rfl, hw, hK⟩ := hv
  have C : mC p s m _ meth c cX9_quota (some .int) wsX9_quota 6 D cI cZ := ⟨B.exec, B.bytes, B.returns, atoms_spec (ws := wsX9_quota) B.pre, findClass_of_methodNamed B.named, B.notSynchronized, hml, hK⟩
  have hl := lv_entry ([.ref (q 0), .int x1, .int x2, .int x3]) (n := 6) (Nat.le_of_ble_eq_true rfl)
  rw [lg_entry_eq]
  generalize (lg_sl ([.ref (q 0), .int x1, .int x2, .int x3]) ++ List.replicate (6 - (lg_sl ([.ref (q 0), .int x1, .int x2, .int x3])).length) Slot.unset).toArray = ls at hl ⊢
  have hl : lv_has ls 6 [(0, .ref (q 0)), (1, .int x1), (2, .int x2), (3, .int x3)] := hl
  exact w_M_quota_0 C h ⟨hw, va_S.rf⟩ hl
theorem iM_hasOpen : ∀ w ∈ wsX90, w ∈ wsX9_hasOpen := by decide +kernel
def fM_hasOpen_77 (rec5 : MS → Int32 → Int32 → Int32 → Int32 → Option (Int32 × MS)) (u : MS) (x1 x2 x4 y0 : Int32) : Option (Int32 × MS) :=
  rec5 u x1 x2 y0 (x4 + 1)
set_option maxRecDepth 20000 in
theorem w_M_hasOpen_77 (C : mC p s m args meth c cX9_hasOpen (some .boolean) wsX9_hasOpen 5 D cI cZ) {uz : MS} {rz : Int32} {rec5 : MS → Int32 → Int32 → Int32 → Int32 → Option (Int32 × MS)} (hrec5 : ∀ {u : MS} {x1 x2 x3 x4 : Int32} (_ : rec5 u x1 x2 x3 x4 = some (rz, uz)) {H : Heap} {locs : List Loc} {ls : Array Slot} (_ : mI D cI cZ q u s H locs) (_ : lv_has ls 5 [(0, .ref (q 0)), (1, .int x1), (2, .int x2), (3, .int x3), (4, .int x4)]), W p l e (mR 0 0) s m args below meth c H locs 0 0 (MQ below (mQ D cI cZ q rz uz) args s 0 0 (mF q)) (F0 m 5 ls [])) {u : MS} {x1 x2 x4 y0 : Int32} (h : fM_hasOpen_77 rec5 u x1 x2 x4 y0 = some (rz, uz)) {H : Heap} {locs : List Loc} {ls : Array Slot} (hI : mI D cI cZ q u s H locs) (hl : lv_has ls 5 [(0, .ref (q 0)), (1, .int x1), (2, .int x2), (4, .int x4)]) : W p l e (mR 0 0) s m args below meth c H locs 0 0 (MQ below (mQ D cI cZ q rz uz) args s 0 0 (mF q)) (F0 m 77 ls [.int y0]) := by
  obtain ⟨hx, hb, hr, hts, hown, hlocks, hml, hK⟩ := id C
  unfold fM_hasOpen_77 at h
  refine lv_istore_n (lv' := [(3, .int y0), (0, .ref (q 0)), (1, .int x1), (2, .int x2), (4, .int x4)]) hx hb dX9_hasOpen_77 rfl hl (by decide) rfl (fun ls hl => ?_)
  refine lv_iinc (v := x4 + 1) (lv' := [(4, .int (x4 + 1)), (3, .int y0), (0, .ref (q 0)), (1, .int x1), (2, .int x2)]) hx hb dX9_hasOpen_78 hl (k := 4) rfl rfl (by decide) rfl (fun ls hl => ?_)
  refine lv_goto (tgt := 5) hx hb dX9_hasOpen_81 (by decide) ?_
  exact hrec5 h hI (lv_sub hl [2, 3, 4, 1, 0] rfl)
def fM_hasOpen_72 (rec5 : MS → Int32 → Int32 → Int32 → Int32 → Option (Int32 × MS)) (u : MS) (x1 x2 x4 : Int32) : Option (Int32 × MS) :=
  fM_hasOpen_77 rec5 u x1 x2 x4 1
set_option maxRecDepth 20000 in
theorem w_M_hasOpen_72 (C : mC p s m args meth c cX9_hasOpen (some .boolean) wsX9_hasOpen 5 D cI cZ) {uz : MS} {rz : Int32} {rec5 : MS → Int32 → Int32 → Int32 → Int32 → Option (Int32 × MS)} (hrec5 : ∀ {u : MS} {x1 x2 x3 x4 : Int32} (_ : rec5 u x1 x2 x3 x4 = some (rz, uz)) {H : Heap} {locs : List Loc} {ls : Array Slot} (_ : mI D cI cZ q u s H locs) (_ : lv_has ls 5 [(0, .ref (q 0)), (1, .int x1), (2, .int x2), (3, .int x3), (4, .int x4)]), W p l e (mR 0 0) s m args below meth c H locs 0 0 (MQ below (mQ D cI cZ q rz uz) args s 0 0 (mF q)) (F0 m 5 ls [])) {u : MS} {x1 x2 x4 : Int32} (h : fM_hasOpen_72 rec5 u x1 x2 x4 = some (rz, uz)) {H : Heap} {locs : List Loc} {ls : Array Slot} (hI : mI D cI cZ q u s H locs) (hl : lv_has ls 5 [(0, .ref (q 0)), (1, .int x1), (2, .int x2), (4, .int x4)]) : W p l e (mR 0 0) s m args below meth c H locs 0 0 (MQ below (mQ D cI cZ q rz uz) args s 0 0 (mF q)) (F0 m 72 ls []) := by
  obtain ⟨hx, hb, hr, hts, hown, hlocks, hml, hK⟩ := id C
  unfold fM_hasOpen_72 at h
  refine lv_iconst (v := 1) hx hb dX9_hasOpen_72 (by decide) ?_
  refine lv_goto (tgt := 77) hx hb dX9_hasOpen_73 (by decide) ?_
  exact w_M_hasOpen_77 C hrec5 h hI (lv_sub hl [0, 1, 2, 3] rfl)
def fM_hasOpen_76 (rec5 : MS → Int32 → Int32 → Int32 → Int32 → Option (Int32 × MS)) (u : MS) (x1 x2 x4 : Int32) : Option (Int32 × MS) :=
  fM_hasOpen_77 rec5 u x1 x2 x4 0
set_option maxRecDepth 20000 in
theorem w_M_hasOpen_76 (C : mC p s m args meth c cX9_hasOpen (some .boolean) wsX9_hasOpen 5 D cI cZ) {uz : MS} {rz : Int32} {rec5 : MS → Int32 → Int32 → Int32 → Int32 → Option (Int32 × MS)} (hrec5 : ∀ {u : MS} {x1 x2 x3 x4 : Int32} (_ : rec5 u x1 x2 x3 x4 = some (rz, uz)) {H : Heap} {locs : List Loc} {ls : Array Slot} (_ : mI D cI cZ q u s H locs) (_ : lv_has ls 5 [(0, .ref (q 0)), (1, .int x1), (2, .int x2), (3, .int x3), (4, .int x4)]), W p l e (mR 0 0) s m args below meth c H locs 0 0 (MQ below (mQ D cI cZ q rz uz) args s 0 0 (mF q)) (F0 m 5 ls [])) {u : MS} {x1 x2 x4 : Int32} (h : fM_hasOpen_76 rec5 u x1 x2 x4 = some (rz, uz)) {H : Heap} {locs : List Loc} {ls : Array Slot} (hI : mI D cI cZ q u s H locs) (hl : lv_has ls 5 [(0, .ref (q 0)), (1, .int x1), (2, .int x2), (4, .int x4)]) : W p l e (mR 0 0) s m args below meth c H locs 0 0 (MQ below (mQ D cI cZ q rz uz) args s 0 0 (mF q)) (F0 m 76 ls []) := by
  obtain ⟨hx, hb, hr, hts, hown, hlocks, hml, hK⟩ := id C
  unfold fM_hasOpen_76 at h
  refine lv_iconst (v := 0) hx hb dX9_hasOpen_76 (by decide) ?_
  exact w_M_hasOpen_77 C hrec5 h hI (lv_sub hl [0, 1, 2, 3] rfl)
def fM_hasOpen_5 : Nat → MS → Int32 → Int32 → Int32 → Int32 → Option (Int32 × MS)
  | 0, _, _, _, _, _ => none
  | n + 1, u, x1, x2, x3, x4 =>
    if (u 36 0) ≤ x4 then
      (mbo x3).bind fun b2 => some (b2, u)
    else
      if x3 = 0 then
        (mld u 37 x4).bind fun r4 =>
        if r4 = x1 then
          (mld u 38 x4).bind fun r6 =>
          if r6 = x2 then
            (mld u 41 x4).bind fun r8 =>
            if r8 = 0 then
              fM_hasOpen_72 (fM_hasOpen_5 n) u x1 x2 x4
            else
              (mld u 41 x4).bind fun r10 =>
              if r10 = 2 then
                fM_hasOpen_72 (fM_hasOpen_5 n) u x1 x2 x4
              else
                (mld u 41 x4).bind fun r12 =>
                if r12 = 3 then
                  fM_hasOpen_72 (fM_hasOpen_5 n) u x1 x2 x4
                else
                  fM_hasOpen_76 (fM_hasOpen_5 n) u x1 x2 x4
          else
            fM_hasOpen_76 (fM_hasOpen_5 n) u x1 x2 x4
        else
          fM_hasOpen_76 (fM_hasOpen_5 n) u x1 x2 x4
      else
        fM_hasOpen_72 (fM_hasOpen_5 n) u x1 x2 x4
set_option maxRecDepth 20000 in
theorem w_M_hasOpen_5 (C : mC p s m args meth c cX9_hasOpen (some .boolean) wsX9_hasOpen 5 D cI cZ) {uz : MS} {rz : Int32} : ∀ (n : Nat) {u : MS} {x1 x2 x3 x4 : Int32} (h : fM_hasOpen_5 n u x1 x2 x3 x4 = some (rz, uz)) {H : Heap} {locs : List Loc} {ls : Array Slot} (hI : mI D cI cZ q u s H locs) (hl : lv_has ls 5 [(0, .ref (q 0)), (1, .int x1), (2, .int x2), (3, .int x3), (4, .int x4)]), W p l e (mR 0 0) s m args below meth c H locs 0 0 (MQ below (mQ D cI cZ q rz uz) args s 0 0 (mF q)) (F0 m 5 ls []) := by
  obtain ⟨hx, hb, hr, hts, hown, hlocks, hml, hK⟩ := id C
  intro n
  induction n with
  | zero =>
    intro u x1 x2 x3 x4 h
    cases (show (none : Option _) = _ from h)
  | succ n ih =>
    intro u x1 x2 x3 x4 h H locs ls hI hl
    rw [fM_hasOpen_5] at h
    refine lv_iload hx hb dX9_hasOpen_5 (lv_at hl 4 rfl) ?_
    refine lv_aload_n hx hb dX9_hasOpen_7 rfl (lv_at hl 0 rfl) ?_
    refine mg_get hx hb hts iM_hasOpen hown hK hI 36 (by decide) (hts (.fieldLink RX9 143 "PassageCourtModel" "requests" "I") (by decide +kernel)) rfl dX9_hasOpen_8 ?_
    refine lv_icmp_ge (tgt := 84) hx hb dX9_hasOpen_11 (by decide) (fun c1 => ?_) (fun c1 => ?_)
    · replace h := mpos c1 h
      refine lv_iload_n hx hb dX9_hasOpen_84 rfl (lv_at hl 3 rfl) ?_
      obtain ⟨b2, eb2, h⟩ := mbind h
      cases h
      exact mg_retz hx hb hr hlocks hK hI dX9_hasOpen_85 eb2
    · replace h := mneg c1 h
      refine lv_iload_n hx hb dX9_hasOpen_14 rfl (lv_at hl 3 rfl) ?_
      refine lv_if_ne (tgt := 72) hx hb dX9_hasOpen_15 (by decide) (fun c3 => ?_) (fun c3 => ?_)
      · replace h := mneg c3 h
        exact w_M_hasOpen_72 C ih h hI (lv_sub hl [0, 1, 2, 4] rfl)
      · replace h := mpos c3 h
        refine lv_aload_n hx hb dX9_hasOpen_18 rfl (lv_at hl 0 rfl) ?_
        refine mg_get hx hb hts iM_hasOpen hown hK hI 37 (by decide) (hts (.fieldLink RX9 106 "PassageCourtModel" "askedBy" "[I") (by decide +kernel)) rfl dX9_hasOpen_19 ?_
        refine lv_iload hx hb dX9_hasOpen_22 (lv_at hl 4 rfl) ?_
        obtain ⟨r4, er4, h⟩ := mbind h
        refine mg_ald hx hb hK hI 37 rfl (by decide) er4 dX9_hasOpen_24 ?_
        refine lv_iload_n hx hb dX9_hasOpen_25 rfl (lv_at hl 1 rfl) ?_
        refine lv_icmp_ne (tgt := 76) hx hb dX9_hasOpen_26 (by decide) (fun c5 => ?_) (fun c5 => ?_)
        · replace h := mneg c5 h
          exact w_M_hasOpen_76 C ih h hI (lv_sub hl [0, 1, 2, 4] rfl)
        · replace h := mpos c5 h
          refine lv_aload_n hx hb dX9_hasOpen_29 rfl (lv_at hl 0 rfl) ?_
          refine mg_get hx hb hts iM_hasOpen hown hK hI 38 (by decide) (hts (.fieldLink RX9 109 "PassageCourtModel" "askedLand" "[I") (by decide +kernel)) rfl dX9_hasOpen_30 ?_
          refine lv_iload hx hb dX9_hasOpen_33 (lv_at hl 4 rfl) ?_
          obtain ⟨r6, er6, h⟩ := mbind h
          refine mg_ald hx hb hK hI 38 rfl (by decide) er6 dX9_hasOpen_35 ?_
          refine lv_iload_n hx hb dX9_hasOpen_36 rfl (lv_at hl 2 rfl) ?_
          refine lv_icmp_ne (tgt := 76) hx hb dX9_hasOpen_37 (by decide) (fun c7 => ?_) (fun c7 => ?_)
          · replace h := mneg c7 h
            exact w_M_hasOpen_76 C ih h hI (lv_sub hl [0, 1, 2, 4] rfl)
          · replace h := mpos c7 h
            refine lv_aload_n hx hb dX9_hasOpen_40 rfl (lv_at hl 0 rfl) ?_
            refine mg_get hx hb hts iM_hasOpen hown hK hI 41 (by decide) (hts (.fieldLink RX9 118 "PassageCourtModel" "state" "[I") (by decide +kernel)) rfl dX9_hasOpen_41 ?_
            refine lv_iload hx hb dX9_hasOpen_44 (lv_at hl 4 rfl) ?_
            obtain ⟨r8, er8, h⟩ := mbind h
            refine mg_ald hx hb hK hI 41 rfl (by decide) er8 dX9_hasOpen_46 ?_
            refine lv_if_eq (tgt := 72) hx hb dX9_hasOpen_47 (by decide) (fun c9 => ?_) (fun c9 => ?_)
            · replace h := mpos c9 h
              exact w_M_hasOpen_72 C ih h hI (lv_sub hl [0, 1, 2, 4] rfl)
            · replace h := mneg c9 h
              refine lv_aload_n hx hb dX9_hasOpen_50 rfl (lv_at hl 0 rfl) ?_
              refine mg_get hx hb hts iM_hasOpen hown hK hI 41 (by decide) (hts (.fieldLink RX9 118 "PassageCourtModel" "state" "[I") (by decide +kernel)) rfl dX9_hasOpen_51 ?_
              refine lv_iload hx hb dX9_hasOpen_54 (lv_at hl 4 rfl) ?_
              obtain ⟨r10, er10, h⟩ := mbind h
              refine mg_ald hx hb hK hI 41 rfl (by decide) er10 dX9_hasOpen_56 ?_
              refine lv_iconst (v := 2) hx hb dX9_hasOpen_57 (by decide) ?_
              refine lv_icmp_eq (tgt := 72) hx hb dX9_hasOpen_58 (by decide) (fun c11 => ?_) (fun c11 => ?_)
              · replace h := mpos c11 h
                exact w_M_hasOpen_72 C ih h hI (lv_sub hl [0, 1, 2, 4] rfl)
              · replace h := mneg c11 h
                refine lv_aload_n hx hb dX9_hasOpen_61 rfl (lv_at hl 0 rfl) ?_
                refine mg_get hx hb hts iM_hasOpen hown hK hI 41 (by decide) (hts (.fieldLink RX9 118 "PassageCourtModel" "state" "[I") (by decide +kernel)) rfl dX9_hasOpen_62 ?_
                refine lv_iload hx hb dX9_hasOpen_65 (lv_at hl 4 rfl) ?_
                obtain ⟨r12, er12, h⟩ := mbind h
                refine mg_ald hx hb hK hI 41 rfl (by decide) er12 dX9_hasOpen_67 ?_
                refine lv_iconst (v := 3) hx hb dX9_hasOpen_68 (by decide) ?_
                refine lv_icmp_ne (tgt := 76) hx hb dX9_hasOpen_69 (by decide) (fun c13 => ?_) (fun c13 => ?_)
                · replace h := mneg c13 h
                  exact w_M_hasOpen_76 C ih h hI (lv_sub hl [0, 1, 2, 4] rfl)
                · replace h := mpos c13 h
                  exact w_M_hasOpen_72 C ih h hI (lv_sub hl [0, 1, 2, 4] rfl)
def fM_hasOpen (u : MS) (x1 x2 : Int32) : Option (Int32 × MS) :=
  fM_hasOpen_5 4096 u x1 x2 0 0
set_option maxRecDepth 20000 in
theorem w_M_hasOpen_0 (C : mC p s m args meth c cX9_hasOpen (some .boolean) wsX9_hasOpen 5 D cI cZ) {uz : MS} {rz : Int32} {u : MS} {x1 x2 : Int32} (h : fM_hasOpen u x1 x2 = some (rz, uz)) {H : Heap} {locs : List Loc} {ls : Array Slot} (hI : mI D cI cZ q u s H locs) (hl : lv_has ls 5 [(0, .ref (q 0)), (1, .int x1), (2, .int x2)]) : W p l e (mR 0 0) s m args below meth c H locs 0 0 (MQ below (mQ D cI cZ q rz uz) args s 0 0 (mF q)) (F0 m 0 ls []) := by
  obtain ⟨hx, hb, hr, hts, hown, hlocks, hml, hK⟩ := id C
  unfold fM_hasOpen at h
  refine lv_iconst (v := 0) hx hb dX9_hasOpen_0 (by decide) ?_
  refine lv_istore_n (lv' := [(3, .int 0), (0, .ref (q 0)), (1, .int x1), (2, .int x2)]) hx hb dX9_hasOpen_1 rfl hl (by decide) rfl (fun ls hl => ?_)
  refine lv_iconst (v := 0) hx hb dX9_hasOpen_2 (by decide) ?_
  refine lv_istore (lv' := [(4, .int 0), (3, .int 0), (0, .ref (q 0)), (1, .int x1), (2, .int x2)]) hx hb dX9_hasOpen_3 hl (by decide) rfl (fun ls hl => ?_)
  exact w_M_hasOpen_5 C 4096 h hI (lv_sub hl [2, 3, 4, 1, 0] rfl)
set_option maxRecDepth 20000 in
theorem cM_hasOpen (l : Launch) (D : va_G) (cI cZ : ClassId) (q : Nat → Nat) {u uz : MS} {rz : Int32} {x1 x2 : Int32} (h : fM_hasOpen u x1 x2 = some (rz, uz)) : Met l yX9_hasOpen wsX9_hasOpen (mR 0 0) (va_Pc [.ref (q 0), .int x1, .int x2] (mPre D cI cZ q u)) (mQ D cI cZ q rz uz) 0 0 (mF q) := by
  refine Met.ofW (cc := cX9_hasOpen) (maxL := 5) (ret := (some .boolean)) (by decide) rfl ?_
  intro p e s m args below meth c s₁ B hml hv
  obtain ⟨rfl, hw, hK⟩ := hv
  have C : mC p s m _ meth c cX9_hasOpen (some .boolean) wsX9_hasOpen 5 D cI cZ := ⟨B.exec, B.bytes, B.returns, atoms_spec (ws := wsX9_hasOpen) B.pre, findClass_of_methodNamed B.named, B.notSynchronized, hml, hK⟩
  have hl := lv_entry ([.ref (q 0), .int x1, .int x2]) (n := 5) (Nat.le_of_ble_eq_true rfl)
  rw [lg_entry_eq]
  generalize (lg_sl ([.ref (q 0), .int x1, .int x2]) ++ List.replicate (5 - (lg_sl ([.ref (q 0), .int x1, .int x2])).length) Slot.unset).toArray = ls at hl ⊢
  have hl : lv_has ls 5 [(0, .ref (q 0)), (1, .int x1), (2, .int x2)] := hl
  exact w_M_hasOpen_0 C h ⟨hw, va_S.rf⟩ hl
theorem iM_ask : ∀ w ∈ wsX90, w ∈ wsX9_ask := by decide +kernel
def fM_ask_99 (u : MS) (x1 x2 x3 y0 : Int32) : Option (Int32 × MS) :=
  mb2 (fM_goesWell u y0) fun r2 u1 =>
  if r2 = 0 then
    some (0, u1)
  else
    (mst u1 37 (u1 36 0) x1).bind fun u4 =>
    (mst u4 38 (u4 36 0) x2).bind fun u5 =>
    (mst u5 39 (u5 36 0) x3).bind fun u6 =>
    (mst u6 40 (u6 36 0) (u6 1 0)).bind fun u7 =>
    (some (mup u7 36 0 ((u7 36 0) + 1))).bind fun u8 =>
    some ((u8 36 0) - 1, u8)
set_option maxRecDepth 20000 in
theorem w_M_ask_99 (C : mC p s m args meth c cX9_ask (some .int) wsX9_ask 6 D cI cZ) {uz : MS} {rz : Int32} {u : MS} {x1 x2 x3 y0 : Int32} (h : fM_ask_99 u x1 x2 x3 y0 = some (rz, uz)) {H : Heap} {locs : List Loc} {ls : Array Slot} (hI : mI D cI cZ q u s H locs) (hl : lv_has ls 6 [(0, .ref (q 0)), (1, .int x1), (2, .int x2), (3, .int x3)]) : W p l e (mR 2 43) s m args below meth c H locs 0 0 (MQ below (mQ D cI cZ q rz uz) args s 0 0 (mF q)) (F0 m 99 ls [.int y0, .ref (q 0)]) := by
  obtain ⟨hx, hb, hr, hts, hown, hlocks, hml, hK⟩ := id C
  unfold fM_ask_99 at h
  obtain ⟨r2, u1, eu1, h⟩ := mb2_spec h
  refine mg_callV (As := [.int y0]) (rest := []) ⟨hx, hb, hml, hown, hts⟩ (cM_goesWell l D cI cZ q eu1) (cwV 1 hts gX9_ask_X9_goesWell rfl rfl rfl (by decide +kernel) ⟨Nat.le_of_ble_eq_true rfl, Nat.le_of_ble_eq_true rfl⟩) hK hI rfl hl.1 rfl (Nat.le_of_ble_eq_true rfl) dX9_ask_99 ⟨Nat.le_refl _, Nat.le_refl _⟩ (fun H locs hI => ?_)
  refine lv_if_ne (tgt := 107) hx hb dX9_ask_102 (by decide) (fun c3 => ?_) (fun c3 => ?_)
  · replace h := mneg c3 h
    refine lv_aload_n hx hb dX9_ask_107 rfl (lv_at hl 0 rfl) ?_
    refine mg_get hx hb hts iM_ask hown hK hI 37 (by decide) (hts (.fieldLink RX9 106 "PassageCourtModel" "askedBy" "[I") (by decide +kernel)) rfl dX9_ask_108 ?_
    refine lv_aload_n hx hb dX9_ask_111 rfl (lv_at hl 0 rfl) ?_
    refine mg_get hx hb hts iM_ask hown hK hI 36 (by decide) (hts (.fieldLink RX9 143 "PassageCourtModel" "requests" "I") (by decide +kernel)) rfl dX9_ask_112 ?_
    refine lv_iload_n hx hb dX9_ask_115 rfl (lv_at hl 1 rfl) ?_
    obtain ⟨u4, eu4, h⟩ := mbind h
    refine mg_ast hx hb hK hI 37 rfl (by decide) eu4 dX9_ask_116 (fun H locs hI => ?_)
    refine lv_aload_n hx hb dX9_ask_117 rfl (lv_at hl 0 rfl) ?_
    refine mg_get hx hb hts iM_ask hown hK hI 38 (by decide) (hts (.fieldLink RX9 109 "PassageCourtModel" "askedLand" "[I") (by decide +kernel)) rfl dX9_ask_118 ?_
    refine lv_aload_n hx hb dX9_ask_121 rfl (lv_at hl 0 rfl) ?_
    refine mg_get hx hb hts iM_ask hown hK hI 36 (by decide) (hts (.fieldLink RX9 143 "PassageCourtModel" "requests" "I") (by decide +kernel)) rfl dX9_ask_122 ?_
    refine lv_iload_n hx hb dX9_ask_125 rfl (lv_at hl 2 rfl) ?_
    obtain ⟨u5, eu5, h⟩ := mbind h
    refine mg_ast hx hb hK hI 38 rfl (by decide) eu5 dX9_ask_126 (fun H locs hI => ?_)
    refine lv_aload_n hx hb dX9_ask_127 rfl (lv_at hl 0 rfl) ?_
    refine mg_get hx hb hts iM_ask hown hK hI 39 (by decide) (hts (.fieldLink RX9 112 "PassageCourtModel" "askedClass" "[I") (by decide +kernel)) rfl dX9_ask_128 ?_
    refine lv_aload_n hx hb dX9_ask_131 rfl (lv_at hl 0 rfl) ?_
    refine mg_get hx hb hts iM_ask hown hK hI 36 (by decide) (hts (.fieldLink RX9 143 "PassageCourtModel" "requests" "I") (by decide +kernel)) rfl dX9_ask_132 ?_
    refine lv_iload_n hx hb dX9_ask_135 rfl (lv_at hl 3 rfl) ?_
    obtain ⟨u6, eu6, h⟩ := mbind h
    refine mg_ast hx hb hK hI 39 rfl (by decide) eu6 dX9_ask_136 (fun H locs hI => ?_)
    refine lv_aload_n hx hb dX9_ask_137 rfl (lv_at hl 0 rfl) ?_
    refine mg_get hx hb hts iM_ask hown hK hI 40 (by decide) (hts (.fieldLink RX9 115 "PassageCourtModel" "date" "[I") (by decide +kernel)) rfl dX9_ask_138 ?_
    refine lv_aload_n hx hb dX9_ask_141 rfl (lv_at hl 0 rfl) ?_
    refine mg_get hx hb hts iM_ask hown hK hI 36 (by decide) (hts (.fieldLink RX9 143 "PassageCourtModel" "requests" "I") (by decide +kernel)) rfl dX9_ask_142 ?_
    refine lv_aload_n hx hb dX9_ask_145 rfl (lv_at hl 0 rfl) ?_
    refine mg_get hx hb hts iM_ask hown hK hI 1 (by decide) (hts (.fieldLink RX9 153 "PassageCourtModel" "today" "I") (by decide +kernel)) rfl dX9_ask_146 ?_
    obtain ⟨u7, eu7, h⟩ := mbind h
    refine mg_ast hx hb hK hI 40 rfl (by decide) eu7 dX9_ask_149 (fun H locs hI => ?_)
    refine lv_aload_n hx hb dX9_ask_150 rfl (lv_at hl 0 rfl) ?_
    refine lv_dup hx hb dX9_ask_151 rfl ?_
    refine mg_get hx hb hts iM_ask hown hK hI 36 (by decide) (hts (.fieldLink RX9 143 "PassageCourtModel" "requests" "I") (by decide +kernel)) rfl dX9_ask_152 ?_
    refine lv_iconst (v := 1) hx hb dX9_ask_155 (by decide) ?_
    refine lv_iadd hx hb dX9_ask_156 ?_
    obtain ⟨u8, eu8, h⟩ := mbind h
    refine mg_put hx hb hts iM_ask hown hK hI 36 (by decide) (hts (.fieldLink RX9 143 "PassageCourtModel" "requests" "I") (by decide +kernel)) rfl (by decide +kernel) rfl rfl dX9_ask_157 (fun H locs hI => ?_)
    have eu8 := Option.some.inj eu8
    rw [eu8] at hI
    refine lv_aload_n hx hb dX9_ask_160 rfl (lv_at hl 0 rfl) ?_
    refine mg_get hx hb hts iM_ask hown hK hI 36 (by decide) (hts (.fieldLink RX9 143 "PassageCourtModel" "requests" "I") (by decide +kernel)) rfl dX9_ask_161 ?_
    refine lv_iconst (v := 1) hx hb dX9_ask_164 (by decide) ?_
    refine lv_isub hx hb dX9_ask_165 ?_
    cases h
    exact mg_reti hx hb hr hlocks hK hI dX9_ask_166
  · replace h := mpos c3 h
    refine lv_iconst (v := 0) hx hb dX9_ask_105 (by decide) ?_
    cases h
    exact mg_reti hx hb hr hlocks hK hI dX9_ask_106
def fM_ask_64 (u : MS) (x1 x2 x3 x4 y0 : Int32) : Option (Int32 × MS) :=
  if x4 = 0 then
    fM_ask_99 u x1 x2 x3 1
  else
    mb2 (fM_in u x3 0 2) fun r11 u10 =>
    if r11 = 0 then
      fM_ask_99 u10 x1 x2 x3 2
    else
      if y0 = 0 then
        fM_ask_99 u10 x1 x2 x3 3
      else
        fM_ask_99 u10 x1 x2 x3 0
set_option maxRecDepth 20000 in
theorem w_M_ask_64 (C : mC p s m args meth c cX9_ask (some .int) wsX9_ask 6 D cI cZ) {uz : MS} {rz : Int32} {u : MS} {x1 x2 x3 x4 y0 : Int32} (h : fM_ask_64 u x1 x2 x3 x4 y0 = some (rz, uz)) {H : Heap} {locs : List Loc} {ls : Array Slot} (hI : mI D cI cZ q u s H locs) (hl : lv_has ls 6 [(0, .ref (q 0)), (1, .int x1), (2, .int x2), (3, .int x3), (4, .int x4)]) : W p l e (mR 2 43) s m args below meth c H locs 0 0 (MQ below (mQ D cI cZ q rz uz) args s 0 0 (mF q)) (F0 m 64 ls [.int y0]) := by
  obtain ⟨hx, hb, hr, hts, hown, hlocks, hml, hK⟩ := id C
  unfold fM_ask_64 at h
  refine lv_istore (lv' := [(5, .int y0), (0, .ref (q 0)), (1, .int x1), (2, .int x2), (3, .int x3), (4, .int x4)]) hx hb dX9_ask_64 hl (by decide) rfl (fun ls hl => ?_)
  refine lv_aload_n hx hb dX9_ask_66 rfl (lv_at hl 1 rfl) ?_
  refine lv_iload hx hb dX9_ask_67 (lv_at hl 5 rfl) ?_
  refine lv_if_ne (tgt := 76) hx hb dX9_ask_69 (by decide) (fun c9 => ?_) (fun c9 => ?_)
  · replace h := mneg c9 h
    refine lv_iload_n hx hb dX9_ask_76 rfl (lv_at hl 4 rfl) ?_
    refine lv_iconst (v := 0) hx hb dX9_ask_77 (by decide) ?_
    refine lv_iconst (v := 2) hx hb dX9_ask_78 (by decide) ?_
    obtain ⟨r11, u10, eu10, h⟩ := mb2_spec h
    refine mg_callS (As := [.int x3, .int 0, .int 2]) (rest := [.ref (q 0)]) ⟨hx, hb, hml, hown, hts⟩ (cM_in l D cI cZ q eu10) (va_cwS 3 hts gX9_ask_X9_in rfl rfl rfl (by decide +kernel) ⟨Nat.le_of_ble_eq_true rfl, Nat.le_of_ble_eq_true rfl⟩) hK hI rfl hl.1 rfl (Nat.le_of_ble_eq_true rfl) dX9_ask_79 ⟨Nat.le_refl _, Nat.le_refl _⟩ (fun H locs hI => ?_)
    refine lv_if_ne (tgt := 89) hx hb dX9_ask_82 (by decide) (fun c12 => ?_) (fun c12 => ?_)
    · replace h := mneg c12 h
      refine lv_iload hx hb dX9_ask_89 (lv_at hl 0 rfl) ?_
      refine lv_if_eq (tgt := 98) hx hb dX9_ask_91 (by decide) (fun c13 => ?_) (fun c13 => ?_)
      · replace h := mpos c13 h
        refine lv_iconst (v := 3) hx hb dX9_ask_98 (by decide) ?_
        exact w_M_ask_99 C h hI (lv_sub hl [1, 2, 3, 4] rfl)
      · replace h := mneg c13 h
        refine lv_iconst (v := 0) hx hb dX9_ask_94 (by decide) ?_
        refine lv_goto (tgt := 99) hx hb dX9_ask_95 (by decide) ?_
        exact w_M_ask_99 C h hI (lv_sub hl [1, 2, 3, 4] rfl)
    · replace h := mpos c12 h
      refine lv_iconst (v := 2) hx hb dX9_ask_85 (by decide) ?_
      refine lv_goto (tgt := 99) hx hb dX9_ask_86 (by decide) ?_
      exact w_M_ask_99 C h hI (lv_sub hl [1, 2, 3, 4] rfl)
  · replace h := mpos c9 h
    refine lv_iconst (v := 1) hx hb dX9_ask_72 (by decide) ?_
    refine lv_goto (tgt := 99) hx hb dX9_ask_73 (by decide) ?_
    exact w_M_ask_99 C h hI (lv_sub hl [1, 2, 3, 4] rfl)
def fM_ask_63 (u : MS) (x1 x2 x3 x4 : Int32) : Option (Int32 × MS) :=
  fM_ask_64 u x1 x2 x3 x4 0
set_option maxRecDepth 20000 in
theorem w_M_ask_63 (C : mC p s m args meth c cX9_ask (some .int) wsX9_ask 6 D cI cZ) {uz : MS} {rz : Int32} {u : MS} {x1 x2 x3 x4 : Int32} (h : fM_ask_63 u x1 x2 x3 x4 = some (rz, uz)) {H : Heap} {locs : List Loc} {ls : Array Slot} (hI : mI D cI cZ q u s H locs) (hl : lv_has ls 6 [(0, .ref (q 0)), (1, .int x1), (2, .int x2), (3, .int x3), (4, .int x4)]) : W p l e (mR 2 43) s m args below meth c H locs 0 0 (MQ below (mQ D cI cZ q rz uz) args s 0 0 (mF q)) (F0 m 63 ls []) := by
  obtain ⟨hx, hb, hr, hts, hown, hlocks, hml, hK⟩ := id C
  unfold fM_ask_63 at h
  refine lv_iconst (v := 0) hx hb dX9_ask_63 (by decide) ?_
  exact w_M_ask_64 C h hI (lv_sub hl [0, 1, 2, 3, 4] rfl)
def fM_ask_21 (u : MS) (x1 x2 x3 y0 : Int32) : Option (Int32 × MS) :=
  if y0 = 0 then
    fM_ask_63 u x1 x2 x3 y0
  else
    if 40 ≤ (u 36 0) then
      fM_ask_63 u x1 x2 x3 y0
    else
      (mld u 15 x1).bind fun r16 =>
      mb2 (fM_has u r16 x2) fun r18 u17 =>
      if r18 = 0 then
        mb2 (fM_hasOpen u17 x1 x2) fun r21 u20 =>
        if r21 = 0 then
          fM_ask_64 u20 x1 x2 x3 y0 1
        else
          fM_ask_63 u20 x1 x2 x3 y0
      else
        fM_ask_63 u17 x1 x2 x3 y0
set_option maxRecDepth 20000 in
theorem w_M_ask_21 (C : mC p s m args meth c cX9_ask (some .int) wsX9_ask 6 D cI cZ) {uz : MS} {rz : Int32} {u : MS} {x1 x2 x3 y0 : Int32} (h : fM_ask_21 u x1 x2 x3 y0 = some (rz, uz)) {H : Heap} {locs : List Loc} {ls : Array Slot} (hI : mI D cI cZ q u s H locs) (hl : lv_has ls 6 [(0, .ref (q 0)), (1, .int x1), (2, .int x2), (3, .int x3)]) : W p l e (mR 2 43) s m args below meth c H locs 0 0 (MQ below (mQ D cI cZ q rz uz) args s 0 0 (mF q)) (F0 m 21 ls [.int y0]) := by
  obtain ⟨hx, hb, hr, hts, hown, hlocks, hml, hK⟩ := id C
  unfold fM_ask_21 at h
  refine lv_istore (lv' := [(4, .int y0), (0, .ref (q 0)), (1, .int x1), (2, .int x2), (3, .int x3)]) hx hb dX9_ask_21 hl (by decide) rfl (fun ls hl => ?_)
  refine lv_iload hx hb dX9_ask_23 (lv_at hl 0 rfl) ?_
  refine lv_if_eq (tgt := 63) hx hb dX9_ask_25 (by decide) (fun c14 => ?_) (fun c14 => ?_)
  · replace h := mpos c14 h
    exact w_M_ask_63 C h hI (lv_sub hl [1, 2, 3, 4, 0] rfl)
  · replace h := mneg c14 h
    refine lv_aload_n hx hb dX9_ask_28 rfl (lv_at hl 1 rfl) ?_
    refine mg_get hx hb hts iM_ask hown hK hI 36 (by decide) (hts (.fieldLink RX9 143 "PassageCourtModel" "requests" "I") (by decide +kernel)) rfl dX9_ask_29 ?_
    refine lv_bipush (v := 40) hx hb dX9_ask_32 (by decide) ?_
    refine lv_icmp_ge (tgt := 63) hx hb dX9_ask_34 (by decide) (fun c15 => ?_) (fun c15 => ?_)
    · replace h := mpos c15 h
      exact w_M_ask_63 C h hI (lv_sub hl [1, 2, 3, 4, 0] rfl)
    · replace h := mneg c15 h
      refine lv_aload_n hx hb dX9_ask_37 rfl (lv_at hl 1 rfl) ?_
      refine mg_get hx hb hts iM_ask hown hK hI 15 (by decide) (hts (.fieldLink RX9 45 "PassageCourtModel" "nations" "[I") (by decide +kernel)) rfl dX9_ask_38 ?_
      refine lv_iload_n hx hb dX9_ask_41 rfl (lv_at hl 2 rfl) ?_
      obtain ⟨r16, er16, h⟩ := mbind h
      refine mg_ald hx hb hK hI 15 rfl (by decide) er16 dX9_ask_42 ?_
      refine lv_iload_n hx hb dX9_ask_43 rfl (lv_at hl 3 rfl) ?_
      obtain ⟨r18, u17, eu17, h⟩ := mb2_spec h
      refine mg_callS (As := [.int r16, .int x2]) (rest := []) ⟨hx, hb, hml, hown, hts⟩ (cM_has l D cI cZ q eu17) (va_cwS 2 hts gX9_ask_X9_has rfl rfl rfl (by decide +kernel) ⟨Nat.le_of_ble_eq_true rfl, Nat.le_of_ble_eq_true rfl⟩) hK hI rfl hl.1 rfl (Nat.le_of_ble_eq_true rfl) dX9_ask_44 ⟨Nat.le_refl _, Nat.le_refl _⟩ (fun H locs hI => ?_)
      refine lv_if_ne (tgt := 63) hx hb dX9_ask_47 (by decide) (fun c19 => ?_) (fun c19 => ?_)
      · replace h := mneg c19 h
        exact w_M_ask_63 C h hI (lv_sub hl [1, 2, 3, 4, 0] rfl)
      · replace h := mpos c19 h
        refine lv_aload_n hx hb dX9_ask_50 rfl (lv_at hl 1 rfl) ?_
        refine lv_iload_n hx hb dX9_ask_51 rfl (lv_at hl 2 rfl) ?_
        refine lv_iload_n hx hb dX9_ask_52 rfl (lv_at hl 3 rfl) ?_
        obtain ⟨r21, u20, eu20, h⟩ := mb2_spec h
        refine mg_callV (As := [.int x1, .int x2]) (rest := []) ⟨hx, hb, hml, hown, hts⟩ (cM_hasOpen l D cI cZ q eu20) (cwV 2 hts gX9_ask_X9_hasOpen rfl rfl rfl (by decide +kernel) ⟨Nat.le_of_ble_eq_true rfl, Nat.le_of_ble_eq_true rfl⟩) hK hI rfl hl.1 rfl (Nat.le_of_ble_eq_true rfl) dX9_ask_53 ⟨Nat.le_refl _, Nat.le_refl _⟩ (fun H locs hI => ?_)
        refine lv_if_ne (tgt := 63) hx hb dX9_ask_56 (by decide) (fun c22 => ?_) (fun c22 => ?_)
        · replace h := mneg c22 h
          exact w_M_ask_63 C h hI (lv_sub hl [1, 2, 3, 4, 0] rfl)
        · replace h := mpos c22 h
          refine lv_iconst (v := 1) hx hb dX9_ask_59 (by decide) ?_
          refine lv_goto (tgt := 64) hx hb dX9_ask_60 (by decide) ?_
          exact w_M_ask_64 C h hI (lv_sub hl [1, 2, 3, 4, 0] rfl)
def fM_ask_20 (u : MS) (x1 x2 x3 : Int32) : Option (Int32 × MS) :=
  fM_ask_21 u x1 x2 x3 0
set_option maxRecDepth 20000 in
theorem w_M_ask_20 (C : mC p s m args meth c cX9_ask (some .int) wsX9_ask 6 D cI cZ) {uz : MS} {rz : Int32} {u : MS} {x1 x2 x3 : Int32} (h : fM_ask_20 u x1 x2 x3 = some (rz, uz)) {H : Heap} {locs : List Loc} {ls : Array Slot} (hI : mI D cI cZ q u s H locs) (hl : lv_has ls 6 [(0, .ref (q 0)), (1, .int x1), (2, .int x2), (3, .int x3)]) : W p l e (mR 2 43) s m args below meth c H locs 0 0 (MQ below (mQ D cI cZ q rz uz) args s 0 0 (mF q)) (F0 m 20 ls []) := by
  obtain ⟨hx, hb, hr, hts, hown, hlocks, hml, hK⟩ := id C
  unfold fM_ask_20 at h
  refine lv_iconst (v := 0) hx hb dX9_ask_20 (by decide) ?_
  exact w_M_ask_21 C h hI (lv_sub hl [0, 1, 2, 3] rfl)
def fM_ask (u : MS) (x1 x2 x3 : Int32) : Option (Int32 × MS) :=
  mb2 (fM_isPerson u x1) fun r24 u23 =>
  if r24 = 0 then
    fM_ask_20 u23 x1 x2 x3
  else
    mb2 (fM_isLand u23 x2) fun r27 u26 =>
    if r27 = 0 then
      fM_ask_20 u26 x1 x2 x3
    else
      fM_ask_21 u26 x1 x2 x3 1
set_option maxRecDepth 20000 in
theorem w_M_ask_0 (C : mC p s m args meth c cX9_ask (some .int) wsX9_ask 6 D cI cZ) {uz : MS} {rz : Int32} {u : MS} {x1 x2 x3 : Int32} (h : fM_ask u x1 x2 x3 = some (rz, uz)) {H : Heap} {locs : List Loc} {ls : Array Slot} (hI : mI D cI cZ q u s H locs) (hl : lv_has ls 6 [(0, .ref (q 0)), (1, .int x1), (2, .int x2), (3, .int x3)]) : W p l e (mR 2 43) s m args below meth c H locs 0 0 (MQ below (mQ D cI cZ q rz uz) args s 0 0 (mF q)) (F0 m 0 ls []) := by
  obtain ⟨hx, hb, hr, hts, hown, hlocks, hml, hK⟩ := id C
  unfold fM_ask at h
  refine lv_aload_n hx hb dX9_ask_0 rfl (lv_at hl 0 rfl) ?_
  refine lv_iload_n hx hb dX9_ask_1 rfl (lv_at hl 1 rfl) ?_
  obtain ⟨r24, u23, eu23, h⟩ := mb2_spec h
  refine mg_callV (As := [.int x1]) (rest := []) ⟨hx, hb, hml, hown, hts⟩ (cM_isPerson l D cI cZ q eu23) (cwV 1 hts gX9_ask_X9_isPerson rfl rfl rfl (by decide +kernel) ⟨Nat.le_of_ble_eq_true rfl, Nat.le_of_ble_eq_true rfl⟩) hK hI rfl hl.1 rfl (Nat.le_of_ble_eq_true rfl) dX9_ask_2 ⟨Nat.le_refl _, Nat.le_refl _⟩ (fun H locs hI => ?_)
  refine lv_if_eq (tgt := 20) hx hb dX9_ask_5 (by decide) (fun c25 => ?_) (fun c25 => ?_)
  · replace h := mpos c25 h
    exact w_M_ask_20 C h hI (lv_sub hl [0, 1, 2, 3] rfl)
  · replace h := mneg c25 h
    refine lv_aload_n hx hb dX9_ask_8 rfl (lv_at hl 0 rfl) ?_
    refine lv_iload_n hx hb dX9_ask_9 rfl (lv_at hl 2 rfl) ?_
    obtain ⟨r27, u26, eu26, h⟩ := mb2_spec h
    refine mg_callV (As := [.int x2]) (rest := []) ⟨hx, hb, hml, hown, hts⟩ (cM_isLand l D cI cZ q eu26) (cwV 1 hts gX9_ask_X9_isLand rfl rfl rfl (by decide +kernel) ⟨Nat.le_of_ble_eq_true rfl, Nat.le_of_ble_eq_true rfl⟩) hK hI rfl hl.1 rfl (Nat.le_of_ble_eq_true rfl) dX9_ask_10 ⟨Nat.le_refl _, Nat.le_refl _⟩ (fun H locs hI => ?_)
    refine lv_if_eq (tgt := 20) hx hb dX9_ask_13 (by decide) (fun c28 => ?_) (fun c28 => ?_)
    · replace h := mpos c28 h
      exact w_M_ask_20 C h hI (lv_sub hl [0, 1, 2, 3] rfl)
    · replace h := mneg c28 h
      refine lv_iconst (v := 1) hx hb dX9_ask_16 (by decide) ?_
      refine lv_goto (tgt := 21) hx hb dX9_ask_17 (by decide) ?_
      exact w_M_ask_21 C h hI (lv_sub hl [0, 1, 2, 3] rfl)
set_option maxRecDepth 20000 in
theorem cM_ask (l : Launch) (D : va_G) (cI cZ : ClassId) (q : Nat → Nat) {u uz : MS} {rz : Int32} {x1 x2 x3 : Int32} (h : fM_ask u x1 x2 x3 = some (rz, uz)) : Met l yX9_ask wsX9_ask (mR 2 43) (va_Pc [.ref (q 0), .int x1, .int x2, .int x3] (mPre D cI cZ q u)) (mQ D cI cZ q rz uz) 0 0 (mF q) := by
  refine Met.ofW (cc := cX9_ask) (maxL := 6) (ret := (some .int)) (by decide) rfl ?_
  intro p e s m args below meth c s₁ B hml hv
  obtain ⟨rfl, hw, hK⟩ := hv
  have C : mC p s m _ meth c cX9_ask (some .int) wsX9_ask 6 D cI cZ := ⟨B.exec, B.bytes, B.returns, atoms_spec (ws := wsX9_ask) B.pre, findClass_of_methodNamed B.named, B.notSynchronized, hml, hK⟩
  have hl := lv_entry ([.ref (q 0), .int x1, .int x2, .int x3]) (n := 6) (Nat.le_of_ble_eq_true rfl)
  rw [lg_entry_eq]
  generalize (lg_sl ([.ref (q 0), .int x1, .int x2, .int x3]) ++ List.replicate (6 - (lg_sl ([.ref (q 0), .int x1, .int x2, .int x3])).length) Slot.unset).toArray = ls at hl ⊢
  have hl : lv_has ls 6 [(0, .ref (q 0)), (1, .int x1), (2, .int x2), (3, .int x3)] := hl
  exact w_M_ask_0 C h ⟨hw, va_S.rf⟩ hl
theorem iM_mayJoin : ∀ w ∈ wsX90, w ∈ wsX9_mayJoin := by decide +kernel
def fM_mayJoin_150 (u : MS) (y0 : Int32) : Option (Int32 × MS) :=
  (mbo y0).bind fun b1 => some (b1, u)
set_option maxRecDepth 20000 in
theorem w_M_mayJoin_150 (C : mC p s m args meth c cX9_mayJoin (some .boolean) wsX9_mayJoin 5 D cI cZ) {uz : MS} {rz : Int32} {u : MS} {y0 : Int32} (h : fM_mayJoin_150 u y0 = some (rz, uz)) {H : Heap} {locs : List Loc} {ls : Array Slot} (hI : mI D cI cZ q u s H locs) (hl : lv_has ls 5 [(0, .ref (q 0))]) : W p l e (mR 0 0) s m args below meth c H locs 0 0 (MQ below (mQ D cI cZ q rz uz) args s 0 0 (mF q)) (F0 m 150 ls [.int y0]) := by
  obtain ⟨hx, hb, hr, hts, hown, hlocks, hml, hK⟩ := id C
  unfold fM_mayJoin_150 at h
  obtain ⟨b1, eb1, h⟩ := mbind h
  cases h
  exact mg_retz hx hb hr hlocks hK hI dX9_mayJoin_150 eb1
def fM_mayJoin_149 (u : MS) : Option (Int32 × MS) :=
  fM_mayJoin_150 u 0
set_option maxRecDepth 20000 in
theorem w_M_mayJoin_149 (C : mC p s m args meth c cX9_mayJoin (some .boolean) wsX9_mayJoin 5 D cI cZ) {uz : MS} {rz : Int32} {u : MS} (h : fM_mayJoin_149 u = some (rz, uz)) {H : Heap} {locs : List Loc} {ls : Array Slot} (hI : mI D cI cZ q u s H locs) (hl : lv_has ls 5 [(0, .ref (q 0))]) : W p l e (mR 0 0) s m args below meth c H locs 0 0 (MQ below (mQ D cI cZ q rz uz) args s 0 0 (mF q)) (F0 m 149 ls []) := by
  obtain ⟨hx, hb, hr, hts, hown, hlocks, hml, hK⟩ := id C
  unfold fM_mayJoin_149 at h
  refine lv_iconst (v := 0) hx hb dX9_mayJoin_149 (by decide) ?_
  exact w_M_mayJoin_150 C h hI (lv_sub hl [0] rfl)
def fM_mayJoin_145 (u : MS) : Option (Int32 × MS) :=
  fM_mayJoin_150 u 1
set_option maxRecDepth 20000 in
theorem w_M_mayJoin_145 (C : mC p s m args meth c cX9_mayJoin (some .boolean) wsX9_mayJoin 5 D cI cZ) {uz : MS} {rz : Int32} {u : MS} (h : fM_mayJoin_145 u = some (rz, uz)) {H : Heap} {locs : List Loc} {ls : Array Slot} (hI : mI D cI cZ q u s H locs) (hl : lv_has ls 5 [(0, .ref (q 0))]) : W p l e (mR 0 0) s m args below meth c H locs 0 0 (MQ below (mQ D cI cZ q rz uz) args s 0 0 (mF q)) (F0 m 145 ls []) := by
  obtain ⟨hx, hb, hr, hts, hown, hlocks, hml, hK⟩ := id C
  unfold fM_mayJoin_145 at h
  refine lv_iconst (v := 1) hx hb dX9_mayJoin_145 (by decide) ?_
  refine lv_goto (tgt := 150) hx hb dX9_mayJoin_146 (by decide) ?_
  exact w_M_mayJoin_150 C h hI (lv_sub hl [0] rfl)
def fM_mayJoin_115 (u : MS) (x1 x2 x3 y0 : Int32) : Option (Int32 × MS) :=
  if x3 = 0 then
    fM_mayJoin_149 u
  else
    if y0 = 0 then
      fM_mayJoin_145 u
    else
      (mld u 40 x1).bind fun r4 =>
      (mld u 14 x2).bind fun r5 =>
      if 6480 ≤ (r4 - r5) then
        fM_mayJoin_149 u
      else
        fM_mayJoin_145 u
set_option maxRecDepth 20000 in
theorem w_M_mayJoin_115 (C : mC p s m args meth c cX9_mayJoin (some .boolean) wsX9_mayJoin 5 D cI cZ) {uz : MS} {rz : Int32} {u : MS} {x1 x2 x3 y0 : Int32} (h : fM_mayJoin_115 u x1 x2 x3 y0 = some (rz, uz)) {H : Heap} {locs : List Loc} {ls : Array Slot} (hI : mI D cI cZ q u s H locs) (hl : lv_has ls 5 [(0, .ref (q 0)), (1, .int x1), (2, .int x2), (3, .int x3)]) : W p l e (mR 0 0) s m args below meth c H locs 0 0 (MQ below (mQ D cI cZ q rz uz) args s 0 0 (mF q)) (F0 m 115 ls [.int y0]) := by
  obtain ⟨hx, hb, hr, hts, hown, hlocks, hml, hK⟩ := id C
  unfold fM_mayJoin_115 at h
  refine lv_istore (lv' := [(4, .int y0), (0, .ref (q 0)), (1, .int x1), (2, .int x2), (3, .int x3)]) hx hb dX9_mayJoin_115 hl (by decide) rfl (fun ls hl => ?_)
  refine lv_iload_n hx hb dX9_mayJoin_117 rfl (lv_at hl 4 rfl) ?_
  refine lv_if_eq (tgt := 149) hx hb dX9_mayJoin_118 (by decide) (fun c2 => ?_) (fun c2 => ?_)
  · replace h := mpos c2 h
    exact w_M_mayJoin_149 C h hI (lv_sub hl [1] rfl)
  · replace h := mneg c2 h
    refine lv_iload hx hb dX9_mayJoin_121 (lv_at hl 0 rfl) ?_
    refine lv_if_eq (tgt := 145) hx hb dX9_mayJoin_123 (by decide) (fun c3 => ?_) (fun c3 => ?_)
    · replace h := mpos c3 h
      exact w_M_mayJoin_145 C h hI (lv_sub hl [1] rfl)
    · replace h := mneg c3 h
      refine lv_aload_n hx hb dX9_mayJoin_126 rfl (lv_at hl 1 rfl) ?_
      refine mg_get hx hb hts iM_mayJoin hown hK hI 40 (by decide) (hts (.fieldLink RX9 115 "PassageCourtModel" "date" "[I") (by decide +kernel)) rfl dX9_mayJoin_127 ?_
      refine lv_iload_n hx hb dX9_mayJoin_130 rfl (lv_at hl 2 rfl) ?_
      obtain ⟨r4, er4, h⟩ := mbind h
      refine mg_ald hx hb hK hI 40 rfl (by decide) er4 dX9_mayJoin_131 ?_
      refine lv_aload_n hx hb dX9_mayJoin_132 rfl (lv_at hl 1 rfl) ?_
      refine mg_get hx hb hts iM_mayJoin hown hK hI 14 (by decide) (hts (.fieldLink RX9 42 "PassageCourtModel" "born" "[I") (by decide +kernel)) rfl dX9_mayJoin_133 ?_
      refine lv_iload_n hx hb dX9_mayJoin_136 rfl (lv_at hl 3 rfl) ?_
      obtain ⟨r5, er5, h⟩ := mbind h
      refine mg_ald hx hb hK hI 14 rfl (by decide) er5 dX9_mayJoin_137 ?_
      refine lv_isub hx hb dX9_mayJoin_138 ?_
      refine lv_sipush (v := 6480) hx hb dX9_mayJoin_139 (by decide) ?_
      refine lv_icmp_ge (tgt := 149) hx hb dX9_mayJoin_142 (by decide) (fun c6 => ?_) (fun c6 => ?_)
      · replace h := mpos c6 h
        exact w_M_mayJoin_149 C h hI (lv_sub hl [1] rfl)
      · replace h := mneg c6 h
        exact w_M_mayJoin_145 C h hI (lv_sub hl [1] rfl)
def fM_mayJoin_110 (u : MS) (x1 x2 x3 : Int32) : Option (Int32 × MS) :=
  fM_mayJoin_115 u x1 x2 x3 1
set_option maxRecDepth 20000 in
theorem w_M_mayJoin_110 (C : mC p s m args meth c cX9_mayJoin (some .boolean) wsX9_mayJoin 5 D cI cZ) {uz : MS} {rz : Int32} {u : MS} {x1 x2 x3 : Int32} (h : fM_mayJoin_110 u x1 x2 x3 = some (rz, uz)) {H : Heap} {locs : List Loc} {ls : Array Slot} (hI : mI D cI cZ q u s H locs) (hl : lv_has ls 5 [(0, .ref (q 0)), (1, .int x1), (2, .int x2), (3, .int x3)]) : W p l e (mR 0 0) s m args below meth c H locs 0 0 (MQ below (mQ D cI cZ q rz uz) args s 0 0 (mF q)) (F0 m 110 ls []) := by
  obtain ⟨hx, hb, hr, hts, hown, hlocks, hml, hK⟩ := id C
  unfold fM_mayJoin_110 at h
  refine lv_iconst (v := 1) hx hb dX9_mayJoin_110 (by decide) ?_
  refine lv_goto (tgt := 115) hx hb dX9_mayJoin_111 (by decide) ?_
  exact w_M_mayJoin_115 C h hI (lv_sub hl [0, 1, 2, 3] rfl)
def fM_mayJoin_73 (rec38 : MS → Int32 → Int32 → Int32 → Int32 → Option (Int32 × MS)) (u : MS) (x1 x2 x4 y0 : Int32) : Option (Int32 × MS) :=
  rec38 u x1 x2 y0 (x4 + 1)
set_option maxRecDepth 20000 in
theorem w_M_mayJoin_73 (C : mC p s m args meth c cX9_mayJoin (some .boolean) wsX9_mayJoin 5 D cI cZ) {uz : MS} {rz : Int32} {rec38 : MS → Int32 → Int32 → Int32 → Int32 → Option (Int32 × MS)} (hrec38 : ∀ {u : MS} {x1 x2 x3 x4 : Int32} (_ : rec38 u x1 x2 x3 x4 = some (rz, uz)) {H : Heap} {locs : List Loc} {ls : Array Slot} (_ : mI D cI cZ q u s H locs) (_ : lv_has ls 5 [(0, .ref (q 0)), (1, .int x1), (2, .int x2), (3, .int x3), (4, .int x4)]), W p l e (mR 0 0) s m args below meth c H locs 0 0 (MQ below (mQ D cI cZ q rz uz) args s 0 0 (mF q)) (F0 m 38 ls [])) {u : MS} {x1 x2 x4 y0 : Int32} (h : fM_mayJoin_73 rec38 u x1 x2 x4 y0 = some (rz, uz)) {H : Heap} {locs : List Loc} {ls : Array Slot} (hI : mI D cI cZ q u s H locs) (hl : lv_has ls 5 [(0, .ref (q 0)), (1, .int x1), (2, .int x2), (4, .int x4)]) : W p l e (mR 0 0) s m args below meth c H locs 0 0 (MQ below (mQ D cI cZ q rz uz) args s 0 0 (mF q)) (F0 m 73 ls [.int y0]) := by
  obtain ⟨hx, hb, hr, hts, hown, hlocks, hml, hK⟩ := id C
  unfold fM_mayJoin_73 at h
  refine lv_istore_n (lv' := [(3, .int y0), (0, .ref (q 0)), (1, .int x1), (2, .int x2), (4, .int x4)]) hx hb dX9_mayJoin_73 rfl hl (by decide) rfl (fun ls hl => ?_)
  refine lv_iinc (v := x4 + 1) (lv' := [(4, .int (x4 + 1)), (3, .int y0), (0, .ref (q 0)), (1, .int x1), (2, .int x2)]) hx hb dX9_mayJoin_74 hl (k := 4) rfl rfl (by decide) rfl (fun ls hl => ?_)
  refine lv_goto (tgt := 38) hx hb dX9_mayJoin_77 (by decide) ?_
  exact hrec38 h hI (lv_sub hl [2, 3, 4, 1, 0] rfl)
def fM_mayJoin_72 (rec38 : MS → Int32 → Int32 → Int32 → Int32 → Option (Int32 × MS)) (u : MS) (x1 x2 x4 : Int32) : Option (Int32 × MS) :=
  fM_mayJoin_73 rec38 u x1 x2 x4 0
set_option maxRecDepth 20000 in
theorem w_M_mayJoin_72 (C : mC p s m args meth c cX9_mayJoin (some .boolean) wsX9_mayJoin 5 D cI cZ) {uz : MS} {rz : Int32} {rec38 : MS → Int32 → Int32 → Int32 → Int32 → Option (Int32 × MS)} (hrec38 : ∀ {u : MS} {x1 x2 x3 x4 : Int32} (_ : rec38 u x1 x2 x3 x4 = some (rz, uz)) {H : Heap} {locs : List Loc} {ls : Array Slot} (_ : mI D cI cZ q u s H locs) (_ : lv_has ls 5 [(0, .ref (q 0)), (1, .int x1), (2, .int x2), (3, .int x3), (4, .int x4)]), W p l e (mR 0 0) s m args below meth c H locs 0 0 (MQ below (mQ D cI cZ q rz uz) args s 0 0 (mF q)) (F0 m 38 ls [])) {u : MS} {x1 x2 x4 : Int32} (h : fM_mayJoin_72 rec38 u x1 x2 x4 = some (rz, uz)) {H : Heap} {locs : List Loc} {ls : Array Slot} (hI : mI D cI cZ q u s H locs) (hl : lv_has ls 5 [(0, .ref (q 0)), (1, .int x1), (2, .int x2), (4, .int x4)]) : W p l e (mR 0 0) s m args below meth c H locs 0 0 (MQ below (mQ D cI cZ q rz uz) args s 0 0 (mF q)) (F0 m 72 ls []) := by
  obtain ⟨hx, hb, hr, hts, hown, hlocks, hml, hK⟩ := id C
  unfold fM_mayJoin_72 at h
  refine lv_iconst (v := 0) hx hb dX9_mayJoin_72 (by decide) ?_
  exact w_M_mayJoin_73 C hrec38 h hI (lv_sub hl [0, 1, 2, 3] rfl)
def fM_mayJoin_38 : Nat → MS → Int32 → Int32 → Int32 → Int32 → Option (Int32 × MS)
  | 0, _, _, _, _, _ => none
  | n + 1, u, x1, x2, x3, x4 =>
    (mld u 43 x1).bind fun r7 =>
    if r7 ≤ x4 then
      (mld u 16 x2).bind fun r9 =>
      (mld u 37 x1).bind fun r10 =>
      if r9 = r10 then
        fM_mayJoin_110 u x1 x2 x3
      else
        (mld u 17 x2).bind fun r12 =>
        (mld u 37 x1).bind fun r13 =>
        if r12 = r13 then
          fM_mayJoin_110 u x1 x2 x3
        else
          fM_mayJoin_115 u x1 x2 x3 0
    else
      if x3 = 0 then
        fM_mayJoin_72 (fM_mayJoin_38 n) u x1 x2 x4
      else
        (mld u 44 ((3 * x1) + x4)).bind fun r16 =>
        if r16 = x2 then
          fM_mayJoin_72 (fM_mayJoin_38 n) u x1 x2 x4
        else
          fM_mayJoin_73 (fM_mayJoin_38 n) u x1 x2 x4 1
set_option maxRecDepth 20000 in
theorem w_M_mayJoin_38 (C : mC p s m args meth c cX9_mayJoin (some .boolean) wsX9_mayJoin 5 D cI cZ) {uz : MS} {rz : Int32} : ∀ (n : Nat) {u : MS} {x1 x2 x3 x4 : Int32} (h : fM_mayJoin_38 n u x1 x2 x3 x4 = some (rz, uz)) {H : Heap} {locs : List Loc} {ls : Array Slot} (hI : mI D cI cZ q u s H locs) (hl : lv_has ls 5 [(0, .ref (q 0)), (1, .int x1), (2, .int x2), (3, .int x3), (4, .int x4)]), W p l e (mR 0 0) s m args below meth c H locs 0 0 (MQ below (mQ D cI cZ q rz uz) args s 0 0 (mF q)) (F0 m 38 ls []) := by
  obtain ⟨hx, hb, hr, hts, hown, hlocks, hml, hK⟩ := id C
  intro n
  induction n with
  | zero =>
    intro u x1 x2 x3 x4 h
    cases (show (none : Option _) = _ from h)
  | succ n ih =>
    intro u x1 x2 x3 x4 h H locs ls hI hl
    rw [fM_mayJoin_38] at h
    refine lv_iload hx hb dX9_mayJoin_38 (lv_at hl 4 rfl) ?_
    refine lv_aload_n hx hb dX9_mayJoin_40 rfl (lv_at hl 0 rfl) ?_
    refine mg_get hx hb hts iM_mayJoin hown hK hI 43 (by decide) (hts (.fieldLink RX9 124 "PassageCourtModel" "many" "[I") (by decide +kernel)) rfl dX9_mayJoin_41 ?_
    refine lv_iload_n hx hb dX9_mayJoin_44 rfl (lv_at hl 1 rfl) ?_
    obtain ⟨r7, er7, h⟩ := mbind h
    refine mg_ald hx hb hK hI 43 rfl (by decide) er7 dX9_mayJoin_45 ?_
    refine lv_icmp_ge (tgt := 80) hx hb dX9_mayJoin_46 (by decide) (fun c8 => ?_) (fun c8 => ?_)
    · replace h := mpos c8 h
      refine lv_aload_n hx hb dX9_mayJoin_80 rfl (lv_at hl 0 rfl) ?_
      refine mg_get hx hb hts iM_mayJoin hown hK hI 16 (by decide) (hts (.fieldLink RX9 48 "PassageCourtModel" "mother" "[I") (by decide +kernel)) rfl dX9_mayJoin_81 ?_
      refine lv_iload_n hx hb dX9_mayJoin_84 rfl (lv_at hl 2 rfl) ?_
      obtain ⟨r9, er9, h⟩ := mbind h
      refine mg_ald hx hb hK hI 16 rfl (by decide) er9 dX9_mayJoin_85 ?_
      refine lv_aload_n hx hb dX9_mayJoin_86 rfl (lv_at hl 0 rfl) ?_
      refine mg_get hx hb hts iM_mayJoin hown hK hI 37 (by decide) (hts (.fieldLink RX9 106 "PassageCourtModel" "askedBy" "[I") (by decide +kernel)) rfl dX9_mayJoin_87 ?_
      refine lv_iload_n hx hb dX9_mayJoin_90 rfl (lv_at hl 1 rfl) ?_
      obtain ⟨r10, er10, h⟩ := mbind h
      refine mg_ald hx hb hK hI 37 rfl (by decide) er10 dX9_mayJoin_91 ?_
      refine lv_icmp_eq (tgt := 110) hx hb dX9_mayJoin_92 (by decide) (fun c11 => ?_) (fun c11 => ?_)
      · replace h := mpos c11 h
        exact w_M_mayJoin_110 C h hI (lv_sub hl [0, 1, 2, 3] rfl)
      · replace h := mneg c11 h
        refine lv_aload_n hx hb dX9_mayJoin_95 rfl (lv_at hl 0 rfl) ?_
        refine mg_get hx hb hts iM_mayJoin hown hK hI 17 (by decide) (hts (.fieldLink RX9 51 "PassageCourtModel" "father" "[I") (by decide +kernel)) rfl dX9_mayJoin_96 ?_
        refine lv_iload_n hx hb dX9_mayJoin_99 rfl (lv_at hl 2 rfl) ?_
        obtain ⟨r12, er12, h⟩ := mbind h
        refine mg_ald hx hb hK hI 17 rfl (by decide) er12 dX9_mayJoin_100 ?_
        refine lv_aload_n hx hb dX9_mayJoin_101 rfl (lv_at hl 0 rfl) ?_
        refine mg_get hx hb hts iM_mayJoin hown hK hI 37 (by decide) (hts (.fieldLink RX9 106 "PassageCourtModel" "askedBy" "[I") (by decide +kernel)) rfl dX9_mayJoin_102 ?_
        refine lv_iload_n hx hb dX9_mayJoin_105 rfl (lv_at hl 1 rfl) ?_
        obtain ⟨r13, er13, h⟩ := mbind h
        refine mg_ald hx hb hK hI 37 rfl (by decide) er13 dX9_mayJoin_106 ?_
        refine lv_icmp_ne (tgt := 114) hx hb dX9_mayJoin_107 (by decide) (fun c14 => ?_) (fun c14 => ?_)
        · replace h := mneg c14 h
          refine lv_iconst (v := 0) hx hb dX9_mayJoin_114 (by decide) ?_
          exact w_M_mayJoin_115 C h hI (lv_sub hl [0, 1, 2, 3] rfl)
        · replace h := mpos c14 h
          exact w_M_mayJoin_110 C h hI (lv_sub hl [0, 1, 2, 3] rfl)
    · replace h := mneg c8 h
      refine lv_iload_n hx hb dX9_mayJoin_49 rfl (lv_at hl 3 rfl) ?_
      refine lv_if_eq (tgt := 72) hx hb dX9_mayJoin_50 (by decide) (fun c15 => ?_) (fun c15 => ?_)
      · replace h := mpos c15 h
        exact w_M_mayJoin_72 C ih h hI (lv_sub hl [0, 1, 2, 4] rfl)
      · replace h := mneg c15 h
        refine lv_aload_n hx hb dX9_mayJoin_53 rfl (lv_at hl 0 rfl) ?_
        refine mg_get hx hb hts iM_mayJoin hown hK hI 44 (by decide) (hts (.fieldLink RX9 127 "PassageCourtModel" "follower" "[I") (by decide +kernel)) rfl dX9_mayJoin_54 ?_
        refine lv_iconst (v := 3) hx hb dX9_mayJoin_57 (by decide) ?_
        refine lv_iload_n hx hb dX9_mayJoin_58 rfl (lv_at hl 1 rfl) ?_
        refine lv_imul hx hb dX9_mayJoin_59 ?_
        refine lv_iload hx hb dX9_mayJoin_60 (lv_at hl 4 rfl) ?_
        refine lv_iadd hx hb dX9_mayJoin_62 ?_
        obtain ⟨r16, er16, h⟩ := mbind h
        refine mg_ald hx hb hK hI 44 rfl (by decide) er16 dX9_mayJoin_63 ?_
        refine lv_iload_n hx hb dX9_mayJoin_64 rfl (lv_at hl 2 rfl) ?_
        refine lv_icmp_eq (tgt := 72) hx hb dX9_mayJoin_65 (by decide) (fun c17 => ?_) (fun c17 => ?_)
        · replace h := mpos c17 h
          exact w_M_mayJoin_72 C ih h hI (lv_sub hl [0, 1, 2, 4] rfl)
        · replace h := mneg c17 h
          refine lv_iconst (v := 1) hx hb dX9_mayJoin_68 (by decide) ?_
          refine lv_goto (tgt := 73) hx hb dX9_mayJoin_69 (by decide) ?_
          exact w_M_mayJoin_73 C ih h hI (lv_sub hl [0, 1, 2, 4] rfl)
def fM_mayJoin_34 (u : MS) (x1 x2 y0 : Int32) : Option (Int32 × MS) :=
  fM_mayJoin_38 4096 u x1 x2 y0 0
set_option maxRecDepth 20000 in
theorem w_M_mayJoin_34 (C : mC p s m args meth c cX9_mayJoin (some .boolean) wsX9_mayJoin 5 D cI cZ) {uz : MS} {rz : Int32} {u : MS} {x1 x2 y0 : Int32} (h : fM_mayJoin_34 u x1 x2 y0 = some (rz, uz)) {H : Heap} {locs : List Loc} {ls : Array Slot} (hI : mI D cI cZ q u s H locs) (hl : lv_has ls 5 [(0, .ref (q 0)), (1, .int x1), (2, .int x2)]) : W p l e (mR 0 0) s m args below meth c H locs 0 0 (MQ below (mQ D cI cZ q rz uz) args s 0 0 (mF q)) (F0 m 34 ls [.int y0]) := by
  obtain ⟨hx, hb, hr, hts, hown, hlocks, hml, hK⟩ := id C
  unfold fM_mayJoin_34 at h
  refine lv_istore_n (lv' := [(3, .int y0), (0, .ref (q 0)), (1, .int x1), (2, .int x2)]) hx hb dX9_mayJoin_34 rfl hl (by decide) rfl (fun ls hl => ?_)
  refine lv_iconst (v := 0) hx hb dX9_mayJoin_35 (by decide) ?_
  refine lv_istore (lv' := [(4, .int 0), (3, .int y0), (0, .ref (q 0)), (1, .int x1), (2, .int x2)]) hx hb dX9_mayJoin_36 hl (by decide) rfl (fun ls hl => ?_)
  exact w_M_mayJoin_38 C 4096 h hI (lv_sub hl [2, 3, 4, 1, 0] rfl)
def fM_mayJoin_33 (u : MS) (x1 x2 : Int32) : Option (Int32 × MS) :=
  fM_mayJoin_34 u x1 x2 0
set_option maxRecDepth 20000 in
theorem w_M_mayJoin_33 (C : mC p s m args meth c cX9_mayJoin (some .boolean) wsX9_mayJoin 5 D cI cZ) {uz : MS} {rz : Int32} {u : MS} {x1 x2 : Int32} (h : fM_mayJoin_33 u x1 x2 = some (rz, uz)) {H : Heap} {locs : List Loc} {ls : Array Slot} (hI : mI D cI cZ q u s H locs) (hl : lv_has ls 5 [(0, .ref (q 0)), (1, .int x1), (2, .int x2)]) : W p l e (mR 0 0) s m args below meth c H locs 0 0 (MQ below (mQ D cI cZ q rz uz) args s 0 0 (mF q)) (F0 m 33 ls []) := by
  obtain ⟨hx, hb, hr, hts, hown, hlocks, hml, hK⟩ := id C
  unfold fM_mayJoin_33 at h
  refine lv_iconst (v := 0) hx hb dX9_mayJoin_33 (by decide) ?_
  exact w_M_mayJoin_34 C h hI (lv_sub hl [0, 1, 2] rfl)
def fM_mayJoin (u : MS) (x1 x2 : Int32) : Option (Int32 × MS) :=
  (mld u 41 x1).bind fun r18 =>
  if r18 = 0 then
    (mld u 37 x1).bind fun r20 =>
    if x2 = r20 then
      fM_mayJoin_33 u x1 x2
    else
      (mld u 43 x1).bind fun r22 =>
      if 3 ≤ r22 then
        fM_mayJoin_33 u x1 x2
      else
        fM_mayJoin_34 u x1 x2 1
  else
    fM_mayJoin_33 u x1 x2
set_option maxRecDepth 20000 in
theorem w_M_mayJoin_0 (C : mC p s m args meth c cX9_mayJoin (some .boolean) wsX9_mayJoin 5 D cI cZ) {uz : MS} {rz : Int32} {u : MS} {x1 x2 : Int32} (h : fM_mayJoin u x1 x2 = some (rz, uz)) {H : Heap} {locs : List Loc} {ls : Array Slot} (hI : mI D cI cZ q u s H locs) (hl : lv_has ls 5 [(0, .ref (q 0)), (1, .int x1), (2, .int x2)]) : W p l e (mR 0 0) s m args below meth c H locs 0 0 (MQ below (mQ D cI cZ q rz uz) args s 0 0 (mF q)) (F0 m 0 ls []) := by
  obtain ⟨hx, hb, hr, hts, hown, hlocks, hml, hK⟩ := id C
  unfold fM_mayJoin at h
  refine lv_aload_n hx hb dX9_mayJoin_0 rfl (lv_at hl 0 rfl) ?_
  refine mg_get hx hb hts iM_mayJoin hown hK hI 41 (by decide) (hts (.fieldLink RX9 118 "PassageCourtModel" "state" "[I") (by decide +kernel)) rfl dX9_mayJoin_1 ?_
  refine lv_iload_n hx hb dX9_mayJoin_4 rfl (lv_at hl 1 rfl) ?_
  obtain ⟨r18, er18, h⟩ := mbind h
  refine mg_ald hx hb hK hI 41 rfl (by decide) er18 dX9_mayJoin_5 ?_
  refine lv_if_ne (tgt := 33) hx hb dX9_mayJoin_6 (by decide) (fun c19 => ?_) (fun c19 => ?_)
  · replace h := mneg c19 h
    exact w_M_mayJoin_33 C h hI (lv_sub hl [0, 1, 2] rfl)
  · replace h := mpos c19 h
    refine lv_iload_n hx hb dX9_mayJoin_9 rfl (lv_at hl 2 rfl) ?_
    refine lv_aload_n hx hb dX9_mayJoin_10 rfl (lv_at hl 0 rfl) ?_
    refine mg_get hx hb hts iM_mayJoin hown hK hI 37 (by decide) (hts (.fieldLink RX9 106 "PassageCourtModel" "askedBy" "[I") (by decide +kernel)) rfl dX9_mayJoin_11 ?_
    refine lv_iload_n hx hb dX9_mayJoin_14 rfl (lv_at hl 1 rfl) ?_
    obtain ⟨r20, er20, h⟩ := mbind h
    refine mg_ald hx hb hK hI 37 rfl (by decide) er20 dX9_mayJoin_15 ?_
    refine lv_icmp_eq (tgt := 33) hx hb dX9_mayJoin_16 (by decide) (fun c21 => ?_) (fun c21 => ?_)
    · replace h := mpos c21 h
      exact w_M_mayJoin_33 C h hI (lv_sub hl [0, 1, 2] rfl)
    · replace h := mneg c21 h
      refine lv_aload_n hx hb dX9_mayJoin_19 rfl (lv_at hl 0 rfl) ?_
      refine mg_get hx hb hts iM_mayJoin hown hK hI 43 (by decide) (hts (.fieldLink RX9 124 "PassageCourtModel" "many" "[I") (by decide +kernel)) rfl dX9_mayJoin_20 ?_
      refine lv_iload_n hx hb dX9_mayJoin_23 rfl (lv_at hl 1 rfl) ?_
      obtain ⟨r22, er22, h⟩ := mbind h
      refine mg_ald hx hb hK hI 43 rfl (by decide) er22 dX9_mayJoin_24 ?_
      refine lv_iconst (v := 3) hx hb dX9_mayJoin_25 (by decide) ?_
      refine lv_icmp_ge (tgt := 33) hx hb dX9_mayJoin_26 (by decide) (fun c23 => ?_) (fun c23 => ?_)
      · replace h := mpos c23 h
        exact w_M_mayJoin_33 C h hI (lv_sub hl [0, 1, 2] rfl)
      · replace h := mneg c23 h
        refine lv_iconst (v := 1) hx hb dX9_mayJoin_29 (by decide) ?_
        refine lv_goto (tgt := 34) hx hb dX9_mayJoin_30 (by decide) ?_
        exact w_M_mayJoin_34 C h hI (lv_sub hl [0, 1, 2] rfl)
set_option maxRecDepth 20000 in
theorem cM_mayJoin (l : Launch) (D : va_G) (cI cZ : ClassId) (q : Nat → Nat) {u uz : MS} {rz : Int32} {x1 x2 : Int32} (h : fM_mayJoin u x1 x2 = some (rz, uz)) : Met l yX9_mayJoin wsX9_mayJoin (mR 0 0) (va_Pc [.ref (q 0), .int x1, .int x2] (mPre D cI cZ q u)) (mQ D cI cZ q rz uz) 0 0 (mF q) := by
  refine Met.ofW (cc := cX9_mayJoin) (maxL := 5) (ret := (some .boolean)) (by decide) rfl ?_
  intro p e s m args below meth c s₁ B hml hv
  obtain ⟨rfl, hw, hK⟩ := hv
  have C : mC p s m _ meth c cX9_mayJoin (some .boolean) wsX9_mayJoin 5 D cI cZ := ⟨B.exec, B.bytes, B.returns, atoms_spec (ws := wsX9_mayJoin) B.pre, findClass_of_methodNamed B.named, B.notSynchronized, hml, hK⟩
  have hl := lv_entry ([.ref (q 0), .int x1, .int x2]) (n := 5) (Nat.le_of_ble_eq_true rfl)
  rw [lg_entry_eq]
  generalize (lg_sl ([.ref (q 0), .int x1, .int x2]) ++ List.replicate (5 - (lg_sl ([.ref (q 0), .int x1, .int x2])).length) Slot.unset).toArray = ls at hl ⊢
  have hl : lv_has ls 5 [(0, .ref (q 0)), (1, .int x1), (2, .int x2)] := hl
  exact w_M_mayJoin_0 C h ⟨hw, va_S.rf⟩ hl
theorem iM_join : ∀ w ∈ wsX90, w ∈ wsX9_join := by decide +kernel
def fM_join_45 (u : MS) (x1 x2 y0 : Int32) : Option (Int32 × MS) :=
  mb2 (fM_goesWell u y0) fun r2 u1 =>
  if r2 = 0 then
    some (0, u1)
  else
    (mld u1 43 x1).bind fun r4 =>
    (mst u1 44 ((3 * x1) + r4) x2).bind fun u5 =>
    (mld u5 43 x1).bind fun r6 =>
    (mst u5 43 x1 (r6 + 1)).bind fun u7 =>
    (mld u7 43 x1).bind fun r8 =>
    some (r8, u7)
set_option maxRecDepth 20000 in
theorem w_M_join_45 (C : mC p s m args meth c cX9_join (some .int) wsX9_join 4 D cI cZ) {uz : MS} {rz : Int32} {u : MS} {x1 x2 y0 : Int32} (h : fM_join_45 u x1 x2 y0 = some (rz, uz)) {H : Heap} {locs : List Loc} {ls : Array Slot} (hI : mI D cI cZ q u s H locs) (hl : lv_has ls 4 [(0, .ref (q 0)), (1, .int x1), (2, .int x2)]) : W p l e (mR 2 43) s m args below meth c H locs 0 0 (MQ below (mQ D cI cZ q rz uz) args s 0 0 (mF q)) (F0 m 45 ls [.int y0, .ref (q 0)]) := by
  obtain ⟨hx, hb, hr, hts, hown, hlocks, hml, hK⟩ := id C
  unfold fM_join_45 at h
  obtain ⟨r2, u1, eu1, h⟩ := mb2_spec h
  refine mg_callV (As := [.int y0]) (rest := []) ⟨hx, hb, hml, hown, hts⟩ (cM_goesWell l D cI cZ q eu1) (cwV 1 hts gX9_join_X9_goesWell rfl rfl rfl (by decide +kernel) ⟨Nat.le_of_ble_eq_true rfl, Nat.le_of_ble_eq_true rfl⟩) hK hI rfl hl.1 rfl (Nat.le_of_ble_eq_true rfl) dX9_join_45 ⟨Nat.le_refl _, Nat.le_refl _⟩ (fun H locs hI => ?_)
  refine lv_if_ne (tgt := 53) hx hb dX9_join_48 (by decide) (fun c3 => ?_) (fun c3 => ?_)
  · replace h := mneg c3 h
    refine lv_aload_n hx hb dX9_join_53 rfl (lv_at hl 0 rfl) ?_
    refine mg_get hx hb hts iM_join hown hK hI 44 (by decide) (hts (.fieldLink RX9 127 "PassageCourtModel" "follower" "[I") (by decide +kernel)) rfl dX9_join_54 ?_
    refine lv_iconst (v := 3) hx hb dX9_join_57 (by decide) ?_
    refine lv_iload_n hx hb dX9_join_58 rfl (lv_at hl 1 rfl) ?_
    refine lv_imul hx hb dX9_join_59 ?_
    refine lv_aload_n hx hb dX9_join_60 rfl (lv_at hl 0 rfl) ?_
    refine mg_get hx hb hts iM_join hown hK hI 43 (by decide) (hts (.fieldLink RX9 124 "PassageCourtModel" "many" "[I") (by decide +kernel)) rfl dX9_join_61 ?_
    refine lv_iload_n hx hb dX9_join_64 rfl (lv_at hl 1 rfl) ?_
    obtain ⟨r4, er4, h⟩ := mbind h
    refine mg_ald hx hb hK hI 43 rfl (by decide) er4 dX9_join_65 ?_
    refine lv_iadd hx hb dX9_join_66 ?_
    refine lv_iload_n hx hb dX9_join_67 rfl (lv_at hl 2 rfl) ?_
    obtain ⟨u5, eu5, h⟩ := mbind h
    refine mg_ast hx hb hK hI 44 rfl (by decide) eu5 dX9_join_68 (fun H locs hI => ?_)
    refine lv_aload_n hx hb dX9_join_69 rfl (lv_at hl 0 rfl) ?_
    refine mg_get hx hb hts iM_join hown hK hI 43 (by decide) (hts (.fieldLink RX9 124 "PassageCourtModel" "many" "[I") (by decide +kernel)) rfl dX9_join_70 ?_
    refine lv_iload_n hx hb dX9_join_73 rfl (lv_at hl 1 rfl) ?_
    refine lv_dup2_11 hx hb dX9_join_74 rfl rfl ?_
    obtain ⟨r6, er6, h⟩ := mbind h
    refine mg_ald hx hb hK hI 43 rfl (by decide) er6 dX9_join_75 ?_
    refine lv_iconst (v := 1) hx hb dX9_join_76 (by decide) ?_
    refine lv_iadd hx hb dX9_join_77 ?_
    obtain ⟨u7, eu7, h⟩ := mbind h
    refine mg_ast hx hb hK hI 43 rfl (by decide) eu7 dX9_join_78 (fun H locs hI => ?_)
    refine lv_aload_n hx hb dX9_join_79 rfl (lv_at hl 0 rfl) ?_
    refine mg_get hx hb hts iM_join hown hK hI 43 (by decide) (hts (.fieldLink RX9 124 "PassageCourtModel" "many" "[I") (by decide +kernel)) rfl dX9_join_80 ?_
    refine lv_iload_n hx hb dX9_join_83 rfl (lv_at hl 1 rfl) ?_
    obtain ⟨r8, er8, h⟩ := mbind h
    refine mg_ald hx hb hK hI 43 rfl (by decide) er8 dX9_join_84 ?_
    cases h
    exact mg_reti hx hb hr hlocks hK hI dX9_join_85
  · replace h := mpos c3 h
    refine lv_iconst (v := 0) hx hb dX9_join_51 (by decide) ?_
    cases h
    exact mg_reti hx hb hr hlocks hK hI dX9_join_52
def fM_join_21 (u : MS) (x1 x2 y0 : Int32) : Option (Int32 × MS) :=
  if y0 = 0 then
    fM_join_45 u x1 x2 1
  else
    mb2 (fM_mayJoin u x1 x2) fun r11 u10 =>
    if r11 = 0 then
      fM_join_45 u10 x1 x2 2
    else
      fM_join_45 u10 x1 x2 0
set_option maxRecDepth 20000 in
theorem w_M_join_21 (C : mC p s m args meth c cX9_join (some .int) wsX9_join 4 D cI cZ) {uz : MS} {rz : Int32} {u : MS} {x1 x2 y0 : Int32} (h : fM_join_21 u x1 x2 y0 = some (rz, uz)) {H : Heap} {locs : List Loc} {ls : Array Slot} (hI : mI D cI cZ q u s H locs) (hl : lv_has ls 4 [(0, .ref (q 0)), (1, .int x1), (2, .int x2)]) : W p l e (mR 2 43) s m args below meth c H locs 0 0 (MQ below (mQ D cI cZ q rz uz) args s 0 0 (mF q)) (F0 m 21 ls [.int y0]) := by
  obtain ⟨hx, hb, hr, hts, hown, hlocks, hml, hK⟩ := id C
  unfold fM_join_21 at h
  refine lv_istore_n (lv' := [(3, .int y0), (0, .ref (q 0)), (1, .int x1), (2, .int x2)]) hx hb dX9_join_21 rfl hl (by decide) rfl (fun ls hl => ?_)
  refine lv_aload_n hx hb dX9_join_22 rfl (lv_at hl 1 rfl) ?_
  refine lv_iload_n hx hb dX9_join_23 rfl (lv_at hl 0 rfl) ?_
  refine lv_if_ne (tgt := 31) hx hb dX9_join_24 (by decide) (fun c9 => ?_) (fun c9 => ?_)
  · replace h := mneg c9 h
    refine lv_aload_n hx hb dX9_join_31 rfl (lv_at hl 1 rfl) ?_
    refine lv_iload_n hx hb dX9_join_32 rfl (lv_at hl 2 rfl) ?_
    refine lv_iload_n hx hb dX9_join_33 rfl (lv_at hl 3 rfl) ?_
    obtain ⟨r11, u10, eu10, h⟩ := mb2_spec h
    refine mg_callV (As := [.int x1, .int x2]) (rest := [.ref (q 0)]) ⟨hx, hb, hml, hown, hts⟩ (cM_mayJoin l D cI cZ q eu10) (cwV 2 hts gX9_join_X9_mayJoin rfl rfl rfl (by decide +kernel) ⟨Nat.le_of_ble_eq_true rfl, Nat.le_of_ble_eq_true rfl⟩) hK hI rfl hl.1 rfl (Nat.le_of_ble_eq_true rfl) dX9_join_34 ⟨Nat.le_refl _, Nat.le_refl _⟩ (fun H locs hI => ?_)
    refine lv_if_eq (tgt := 44) hx hb dX9_join_37 (by decide) (fun c12 => ?_) (fun c12 => ?_)
    · replace h := mpos c12 h
      refine lv_iconst (v := 2) hx hb dX9_join_44 (by decide) ?_
      exact w_M_join_45 C h hI (lv_sub hl [1, 2, 3] rfl)
    · replace h := mneg c12 h
      refine lv_iconst (v := 0) hx hb dX9_join_40 (by decide) ?_
      refine lv_goto (tgt := 45) hx hb dX9_join_41 (by decide) ?_
      exact w_M_join_45 C h hI (lv_sub hl [1, 2, 3] rfl)
  · replace h := mpos c9 h
    refine lv_iconst (v := 1) hx hb dX9_join_27 (by decide) ?_
    refine lv_goto (tgt := 45) hx hb dX9_join_28 (by decide) ?_
    exact w_M_join_45 C h hI (lv_sub hl [1, 2, 3] rfl)
def fM_join_20 (u : MS) (x1 x2 : Int32) : Option (Int32 × MS) :=
  fM_join_21 u x1 x2 0
set_option maxRecDepth 20000 in
theorem w_M_join_20 (C : mC p s m args meth c cX9_join (some .int) wsX9_join 4 D cI cZ) {uz : MS} {rz : Int32} {u : MS} {x1 x2 : Int32} (h : fM_join_20 u x1 x2 = some (rz, uz)) {H : Heap} {locs : List Loc} {ls : Array Slot} (hI : mI D cI cZ q u s H locs) (hl : lv_has ls 4 [(0, .ref (q 0)), (1, .int x1), (2, .int x2)]) : W p l e (mR 2 43) s m args below meth c H locs 0 0 (MQ below (mQ D cI cZ q rz uz) args s 0 0 (mF q)) (F0 m 20 ls []) := by
  obtain ⟨hx, hb, hr, hts, hown, hlocks, hml, hK⟩ := id C
  unfold fM_join_20 at h
  refine lv_iconst (v := 0) hx hb dX9_join_20 (by decide) ?_
  exact w_M_join_21 C h hI (lv_sub hl [0, 1, 2] rfl)
def fM_join (u : MS) (x1 x2 : Int32) : Option (Int32 × MS) :=
  mb2 (fM_isRequest u x1) fun r14 u13 =>
  if r14 = 0 then
    fM_join_20 u13 x1 x2
  else
    mb2 (fM_isPerson u13 x2) fun r17 u16 =>
    if r17 = 0 then
      fM_join_20 u16 x1 x2
    else
      fM_join_21 u16 x1 x2 1
set_option maxRecDepth 20000 in
theorem w_M_join_0 (C : mC p s m args meth c cX9_join (some .int) wsX9_join 4 D cI cZ) {uz : MS} {rz : Int32} {u : MS} {x1 x2 : Int32} (h : fM_join u x1 x2 = some (rz, uz)) {H : Heap} {locs : List Loc} {ls : Array Slot} (hI : mI D cI cZ q u s H locs) (hl : lv_has ls 4 [(0, .ref (q 0)), (1, .int x1), (2, .int x2)]) : W p l e (mR 2 43) s m args below meth c H locs 0 0 (MQ below (mQ D cI cZ q rz uz) args s 0 0 (mF q)) (F0 m 0 ls []) := by
  obtain ⟨hx, hb, hr, hts, hown, hlocks, hml, hK⟩ := id C
  unfold fM_join at h
  refine lv_aload_n hx hb dX9_join_0 rfl (lv_at hl 0 rfl) ?_
  refine lv_iload_n hx hb dX9_join_1 rfl (lv_at hl 1 rfl) ?_
  obtain ⟨r14, u13, eu13, h⟩ := mb2_spec h
  refine mg_callV (As := [.int x1]) (rest := []) ⟨hx, hb, hml, hown, hts⟩ (cM_isRequest l D cI cZ q eu13) (cwV 1 hts gX9_join_X9_isRequest rfl rfl rfl (by decide +kernel) ⟨Nat.le_of_ble_eq_true rfl, Nat.le_of_ble_eq_true rfl⟩) hK hI rfl hl.1 rfl (Nat.le_of_ble_eq_true rfl) dX9_join_2 ⟨Nat.le_refl _, Nat.le_refl _⟩ (fun H locs hI => ?_)
  refine lv_if_eq (tgt := 20) hx hb dX9_join_5 (by decide) (fun c15 => ?_) (fun c15 => ?_)
  · replace h := mpos c15 h
    exact w_M_join_20 C h hI (lv_sub hl [0, 1, 2] rfl)
  · replace h := mneg c15 h
    refine lv_aload_n hx hb dX9_join_8 rfl (lv_at hl 0 rfl) ?_
    refine lv_iload_n hx hb dX9_join_9 rfl (lv_at hl 2 rfl) ?_
    obtain ⟨r17, u16, eu16, h⟩ := mb2_spec h
    refine mg_callV (As := [.int x2]) (rest := []) ⟨hx, hb, hml, hown, hts⟩ (cM_isPerson l D cI cZ q eu16) (cwV 1 hts gX9_join_X9_isPerson rfl rfl rfl (by decide +kernel) ⟨Nat.le_of_ble_eq_true rfl, Nat.le_of_ble_eq_true rfl⟩) hK hI rfl hl.1 rfl (Nat.le_of_ble_eq_true rfl) dX9_join_10 ⟨Nat.le_refl _, Nat.le_refl _⟩ (fun H locs hI => ?_)
    refine lv_if_eq (tgt := 20) hx hb dX9_join_13 (by decide) (fun c18 => ?_) (fun c18 => ?_)
    · replace h := mpos c18 h
      exact w_M_join_20 C h hI (lv_sub hl [0, 1, 2] rfl)
    · replace h := mneg c18 h
      refine lv_iconst (v := 1) hx hb dX9_join_16 (by decide) ?_
      refine lv_goto (tgt := 21) hx hb dX9_join_17 (by decide) ?_
      exact w_M_join_21 C h hI (lv_sub hl [0, 1, 2] rfl)
set_option maxRecDepth 20000 in
theorem cM_join (l : Launch) (D : va_G) (cI cZ : ClassId) (q : Nat → Nat) {u uz : MS} {rz : Int32} {x1 x2 : Int32} (h : fM_join u x1 x2 = some (rz, uz)) : Met l yX9_join wsX9_join (mR 2 43) (va_Pc [.ref (q 0), .int x1, .int x2] (mPre D cI cZ q u)) (mQ D cI cZ q rz uz) 0 0 (mF q) := by
  refine Met.ofW (cc := cX9_join) (maxL := 4) (ret := (some .int)) (by decide) rfl ?_
  intro p e s m args below meth c s₁ B hml hv
  obtain ⟨rfl, hw, hK⟩ := hv
  have C : mC p s m _ meth c cX9_join (some .int) wsX9_join 4 D cI cZ := ⟨B.exec, B.bytes, B.returns, atoms_spec (ws := wsX9_join) B.pre, findClass_of_methodNamed B.named, B.notSynchronized, hml, hK⟩
  have hl := lv_entry ([.ref (q 0), .int x1, .int x2]) (n := 4) (Nat.le_of_ble_eq_true rfl)
  rw [lg_entry_eq]
  generalize (lg_sl ([.ref (q 0), .int x1, .int x2]) ++ List.replicate (4 - (lg_sl ([.ref (q 0), .int x1, .int x2])).length) Slot.unset).toArray = ls at hl ⊢
  have hl : lv_has ls 4 [(0, .ref (q 0)), (1, .int x1), (2, .int x2)] := hl
  exact w_M_join_0 C h ⟨hw, va_S.rf⟩ hl
theorem iM_turn : ∀ w ∈ wsX90, w ∈ wsX9_turn := by decide +kernel
def fM_turn_32 (u : MS) (x1 x3 x4 y0 : Int32) : Option (Int32 × MS) :=
  mb2 (fM_goesWell u y0) fun r2 u1 =>
  if r2 = 0 then
    some (0, u1)
  else
    (mst u1 41 x1 x3).bind fun u4 =>
    (mst u4 42 x1 ((u4 1 0) + x4)).bind fun u5 =>
    (mld u5 42 x1).bind fun r6 =>
    some (r6, u5)
set_option maxRecDepth 20000 in
theorem w_M_turn_32 (C : mC p s m args meth c cX9_turn (some .int) wsX9_turn 6 D cI cZ) {uz : MS} {rz : Int32} {u : MS} {x1 x3 x4 y0 : Int32} (h : fM_turn_32 u x1 x3 x4 y0 = some (rz, uz)) {H : Heap} {locs : List Loc} {ls : Array Slot} (hI : mI D cI cZ q u s H locs) (hl : lv_has ls 6 [(0, .ref (q 0)), (1, .int x1), (3, .int x3), (4, .int x4)]) : W p l e (mR 2 43) s m args below meth c H locs 0 0 (MQ below (mQ D cI cZ q rz uz) args s 0 0 (mF q)) (F0 m 32 ls [.int y0, .ref (q 0)]) := by
  obtain ⟨hx, hb, hr, hts, hown, hlocks, hml, hK⟩ := id C
  unfold fM_turn_32 at h
  obtain ⟨r2, u1, eu1, h⟩ := mb2_spec h
  refine mg_callV (As := [.int y0]) (rest := []) ⟨hx, hb, hml, hown, hts⟩ (cM_goesWell l D cI cZ q eu1) (cwV 1 hts gX9_turn_X9_goesWell rfl rfl rfl (by decide +kernel) ⟨Nat.le_of_ble_eq_true rfl, Nat.le_of_ble_eq_true rfl⟩) hK hI rfl hl.1 rfl (Nat.le_of_ble_eq_true rfl) dX9_turn_32 ⟨Nat.le_refl _, Nat.le_refl _⟩ (fun H locs hI => ?_)
  refine lv_if_ne (tgt := 40) hx hb dX9_turn_35 (by decide) (fun c3 => ?_) (fun c3 => ?_)
  · replace h := mneg c3 h
    refine lv_aload_n hx hb dX9_turn_40 rfl (lv_at hl 0 rfl) ?_
    refine mg_get hx hb hts iM_turn hown hK hI 41 (by decide) (hts (.fieldLink RX9 118 "PassageCourtModel" "state" "[I") (by decide +kernel)) rfl dX9_turn_41 ?_
    refine lv_iload_n hx hb dX9_turn_44 rfl (lv_at hl 1 rfl) ?_
    refine lv_iload_n hx hb dX9_turn_45 rfl (lv_at hl 2 rfl) ?_
    obtain ⟨u4, eu4, h⟩ := mbind h
    refine mg_ast hx hb hK hI 41 rfl (by decide) eu4 dX9_turn_46 (fun H locs hI => ?_)
    refine lv_aload_n hx hb dX9_turn_47 rfl (lv_at hl 0 rfl) ?_
    refine mg_get hx hb hts iM_turn hown hK hI 42 (by decide) (hts (.fieldLink RX9 121 "PassageCourtModel" "until" "[I") (by decide +kernel)) rfl dX9_turn_48 ?_
    refine lv_iload_n hx hb dX9_turn_51 rfl (lv_at hl 1 rfl) ?_
    refine lv_aload_n hx hb dX9_turn_52 rfl (lv_at hl 0 rfl) ?_
    refine mg_get hx hb hts iM_turn hown hK hI 1 (by decide) (hts (.fieldLink RX9 153 "PassageCourtModel" "today" "I") (by decide +kernel)) rfl dX9_turn_53 ?_
    refine lv_iload hx hb dX9_turn_56 (lv_at hl 3 rfl) ?_
    refine lv_iadd hx hb dX9_turn_58 ?_
    obtain ⟨u5, eu5, h⟩ := mbind h
    refine mg_ast hx hb hK hI 42 rfl (by decide) eu5 dX9_turn_59 (fun H locs hI => ?_)
    refine lv_aload_n hx hb dX9_turn_60 rfl (lv_at hl 0 rfl) ?_
    refine mg_get hx hb hts iM_turn hown hK hI 42 (by decide) (hts (.fieldLink RX9 121 "PassageCourtModel" "until" "[I") (by decide +kernel)) rfl dX9_turn_61 ?_
    refine lv_iload_n hx hb dX9_turn_64 rfl (lv_at hl 1 rfl) ?_
    obtain ⟨r6, er6, h⟩ := mbind h
    refine mg_ald hx hb hK hI 42 rfl (by decide) er6 dX9_turn_65 ?_
    cases h
    exact mg_reti hx hb hr hlocks hK hI dX9_turn_66
  · replace h := mpos c3 h
    refine lv_iconst (v := 0) hx hb dX9_turn_38 (by decide) ?_
    cases h
    exact mg_reti hx hb hr hlocks hK hI dX9_turn_39
def fM_turn (u : MS) (x1 x2 x3 x4 : Int32) : Option (Int32 × MS) :=
  mb2 (fM_isRequest u x1) fun r8 u7 =>
  if r8 = 0 then
    fM_turn_32 u7 x1 x3 x4 1
  else
    (mld u7 41 x1).bind fun r10 =>
    if r10 = x2 then
      fM_turn_32 u7 x1 x3 x4 0
    else
      fM_turn_32 u7 x1 x3 x4 2
set_option maxRecDepth 20000 in
theorem w_M_turn_0 (C : mC p s m args meth c cX9_turn (some .int) wsX9_turn 6 D cI cZ) {uz : MS} {rz : Int32} {u : MS} {x1 x2 x3 x4 : Int32} (h : fM_turn u x1 x2 x3 x4 = some (rz, uz)) {H : Heap} {locs : List Loc} {ls : Array Slot} (hI : mI D cI cZ q u s H locs) (hl : lv_has ls 6 [(0, .ref (q 0)), (1, .int x1), (2, .int x2), (3, .int x3), (4, .int x4)]) : W p l e (mR 2 43) s m args below meth c H locs 0 0 (MQ below (mQ D cI cZ q rz uz) args s 0 0 (mF q)) (F0 m 0 ls []) := by
  obtain ⟨hx, hb, hr, hts, hown, hlocks, hml, hK⟩ := id C
  unfold fM_turn at h
  refine lv_aload_n hx hb dX9_turn_0 rfl (lv_at hl 0 rfl) ?_
  refine lv_iload_n hx hb dX9_turn_1 rfl (lv_at hl 1 rfl) ?_
  obtain ⟨r8, u7, eu7, h⟩ := mb2_spec h
  refine mg_callV (As := [.int x1]) (rest := []) ⟨hx, hb, hml, hown, hts⟩ (cM_isRequest l D cI cZ q eu7) (cwV 1 hts gX9_turn_X9_isRequest rfl rfl rfl (by decide +kernel) ⟨Nat.le_of_ble_eq_true rfl, Nat.le_of_ble_eq_true rfl⟩) hK hI rfl hl.1 rfl (Nat.le_of_ble_eq_true rfl) dX9_turn_2 ⟨Nat.le_refl _, Nat.le_refl _⟩ (fun H locs hI => ?_)
  refine lv_istore (lv' := [(5, .int r8), (0, .ref (q 0)), (1, .int x1), (2, .int x2), (3, .int x3), (4, .int x4)]) hx hb dX9_turn_5 hl (by decide) rfl (fun ls hl => ?_)
  refine lv_aload_n hx hb dX9_turn_7 rfl (lv_at hl 1 rfl) ?_
  refine lv_iload hx hb dX9_turn_8 (lv_at hl 0 rfl) ?_
  refine lv_if_ne (tgt := 17) hx hb dX9_turn_10 (by decide) (fun c9 => ?_) (fun c9 => ?_)
  · replace h := mneg c9 h
    refine lv_aload_n hx hb dX9_turn_17 rfl (lv_at hl 1 rfl) ?_
    refine mg_get hx hb hts iM_turn hown hK hI 41 (by decide) (hts (.fieldLink RX9 118 "PassageCourtModel" "state" "[I") (by decide +kernel)) rfl dX9_turn_18 ?_
    refine lv_iload_n hx hb dX9_turn_21 rfl (lv_at hl 2 rfl) ?_
    obtain ⟨r10, er10, h⟩ := mbind h
    refine mg_ald hx hb hK hI 41 rfl (by decide) er10 dX9_turn_22 ?_
    refine lv_iload_n hx hb dX9_turn_23 rfl (lv_at hl 3 rfl) ?_
    refine lv_icmp_ne (tgt := 31) hx hb dX9_turn_24 (by decide) (fun c11 => ?_) (fun c11 => ?_)
    · replace h := mneg c11 h
      refine lv_iconst (v := 2) hx hb dX9_turn_31 (by decide) ?_
      exact w_M_turn_32 C h hI (lv_sub hl [1, 2, 4, 5] rfl)
    · replace h := mpos c11 h
      refine lv_iconst (v := 0) hx hb dX9_turn_27 (by decide) ?_
      refine lv_goto (tgt := 32) hx hb dX9_turn_28 (by decide) ?_
      exact w_M_turn_32 C h hI (lv_sub hl [1, 2, 4, 5] rfl)
  · replace h := mpos c9 h
    refine lv_iconst (v := 1) hx hb dX9_turn_13 (by decide) ?_
    refine lv_goto (tgt := 32) hx hb dX9_turn_14 (by decide) ?_
    exact w_M_turn_32 C h hI (lv_sub hl [1, 2, 4, 5] rfl)
set_option maxRecDepth 20000 in
theorem cM_turn (l : Launch) (D : va_G) (cI cZ : ClassId) (q : Nat → Nat) {u uz : MS} {rz : Int32} {x1 x2 x3 x4 : Int32} (h : fM_turn u x1 x2 x3 x4 = some (rz, uz)) : Met l yX9_turn wsX9_turn (mR 2 43) (va_Pc [.ref (q 0), .int x1, .int x2, .int x3, .int x4] (mPre D cI cZ q u)) (mQ D cI cZ q rz uz) 0 0 (mF q) := by
  refine Met.ofW (cc := cX9_turn) (maxL := 6) (ret := (some .int)) (by decide) rfl ?_
  intro p e s m args below meth c s₁ B hml hv
  obtain ⟨rfl, hw, hK⟩ := hv
  have C : mC p s m _ meth c cX9_turn (some .int) wsX9_turn 6 D cI cZ := ⟨B.exec, B.bytes, B.returns, atoms_spec (ws := wsX9_turn) B.pre, findClass_of_methodNamed B.named, B.notSynchronized, hml, hK⟩
  have hl := lv_entry ([.ref (q 0), .int x1, .int x2, .int x3, .int x4]) (n := 6) (Nat.le_of_ble_eq_true rfl)
  rw [lg_entry_eq]
  generalize (lg_sl ([.ref (q 0), .int x1, .int x2, .int x3, .int x4]) ++ List.replicate (6 - (lg_sl ([.ref (q 0), .int x1, .int x2, .int x3, .int x4])).length) Slot.unset).toArray = ls at hl ⊢
  have hl : lv_has ls 6 [(0, .ref (q 0)), (1, .int x1), (2, .int x2), (3, .int x3), (4, .int x4)] := hl
  exact w_M_turn_0 C h ⟨hw, va_S.rf⟩ hl
theorem iM_refuse : ∀ w ∈ wsX90, w ∈ wsX9_refuse := by decide +kernel
def fM_refuse (u : MS) (x1 : Int32) : Option (Int32 × MS) :=
  mb2 (fM_turn u x1 0 2 30) fun r2 u1 =>
  some (r2, u1)
set_option maxRecDepth 20000 in
theorem w_M_refuse_0 (C : mC p s m args meth c cX9_refuse (some .int) wsX9_refuse 2 D cI cZ) {uz : MS} {rz : Int32} {u : MS} {x1 : Int32} (h : fM_refuse u x1 = some (rz, uz)) {H : Heap} {locs : List Loc} {ls : Array Slot} (hI : mI D cI cZ q u s H locs) (hl : lv_has ls 2 [(0, .ref (q 0)), (1, .int x1)]) : W p l e (mR 3 68) s m args below meth c H locs 0 0 (MQ below (mQ D cI cZ q rz uz) args s 0 0 (mF q)) (F0 m 0 ls []) := by
  obtain ⟨hx, hb, hr, hts, hown, hlocks, hml, hK⟩ := id C
  unfold fM_refuse at h
  refine lv_aload_n hx hb dX9_refuse_0 rfl (lv_at hl 0 rfl) ?_
  refine lv_iload_n hx hb dX9_refuse_1 rfl (lv_at hl 1 rfl) ?_
  refine lv_iconst (v := 0) hx hb dX9_refuse_2 (by decide) ?_
  refine lv_iconst (v := 2) hx hb dX9_refuse_3 (by decide) ?_
  refine lv_bipush (v := 30) hx hb dX9_refuse_4 (by decide) ?_
  obtain ⟨r2, u1, eu1, h⟩ := mb2_spec h
  refine mg_callV (As := [.int x1, .int 0, .int 2, .int 30]) (rest := []) ⟨hx, hb, hml, hown, hts⟩ (cM_turn l D cI cZ q eu1) (cwV 4 hts gX9_refuse_X9_turn rfl rfl rfl (by decide +kernel) ⟨Nat.le_of_ble_eq_true rfl, Nat.le_of_ble_eq_true rfl⟩) hK hI rfl hl.1 rfl (Nat.le_of_ble_eq_true rfl) dX9_refuse_6 ⟨Nat.le_refl _, Nat.le_refl _⟩ (fun H locs hI => ?_)
  cases h
  exact mg_reti hx hb hr hlocks hK hI dX9_refuse_9
set_option maxRecDepth 20000 in
theorem cM_refuse (l : Launch) (D : va_G) (cI cZ : ClassId) (q : Nat → Nat) {u uz : MS} {rz : Int32} {x1 : Int32} (h : fM_refuse u x1 = some (rz, uz)) : Met l yX9_refuse wsX9_refuse (mR 3 68) (va_Pc [.ref (q 0), .int x1] (mPre D cI cZ q u)) (mQ D cI cZ q rz uz) 0 0 (mF q) := by
  refine Met.ofW (cc := cX9_refuse) (maxL := 2) (ret := (some .int)) (by decide) rfl ?_
  intro p e s m args below meth c s₁ B hml hv
  obtain ⟨rfl, hw, hK⟩ := hv
  have C : mC p s m _ meth c cX9_refuse (some .int) wsX9_refuse 2 D cI cZ := ⟨B.exec, B.bytes, B.returns, atoms_spec (ws := wsX9_refuse) B.pre, findClass_of_methodNamed B.named, B.notSynchronized, hml, hK⟩
  have hl := lv_entry ([.ref (q 0), .int x1]) (n := 2) (Nat.le_of_ble_eq_true rfl)
  rw [lg_entry_eq]
  generalize (lg_sl ([.ref (q 0), .int x1]) ++ List.replicate (2 - (lg_sl ([.ref (q 0), .int x1])).length) Slot.unset).toArray = ls at hl ⊢
  have hl : lv_has ls 2 [(0, .ref (q 0)), (1, .int x1)] := hl
  exact w_M_refuse_0 C h ⟨hw, va_S.rf⟩ hl
theorem iM_appeal : ∀ w ∈ wsX90, w ∈ wsX9_appeal := by decide +kernel
def fM_appeal (u : MS) (x1 : Int32) : Option (Int32 × MS) :=
  mb2 (fM_turn u x1 2 3 60) fun r2 u1 =>
  some (r2, u1)
set_option maxRecDepth 20000 in
theorem w_M_appeal_0 (C : mC p s m args meth c cX9_appeal (some .int) wsX9_appeal 2 D cI cZ) {uz : MS} {rz : Int32} {u : MS} {x1 : Int32} (h : fM_appeal u x1 = some (rz, uz)) {H : Heap} {locs : List Loc} {ls : Array Slot} (hI : mI D cI cZ q u s H locs) (hl : lv_has ls 2 [(0, .ref (q 0)), (1, .int x1)]) : W p l e (mR 3 68) s m args below meth c H locs 0 0 (MQ below (mQ D cI cZ q rz uz) args s 0 0 (mF q)) (F0 m 0 ls []) := by
  obtain ⟨hx, hb, hr, hts, hown, hlocks, hml, hK⟩ := id C
  unfold fM_appeal at h
  refine lv_aload_n hx hb dX9_appeal_0 rfl (lv_at hl 0 rfl) ?_
  refine lv_iload_n hx hb dX9_appeal_1 rfl (lv_at hl 1 rfl) ?_
  refine lv_iconst (v := 2) hx hb dX9_appeal_2 (by decide) ?_
  refine lv_iconst (v := 3) hx hb dX9_appeal_3 (by decide) ?_
  refine lv_bipush (v := 60) hx hb dX9_appeal_4 (by decide) ?_
  obtain ⟨r2, u1, eu1, h⟩ := mb2_spec h
  refine mg_callV (As := [.int x1, .int 2, .int 3, .int 60]) (rest := []) ⟨hx, hb, hml, hown, hts⟩ (cM_turn l D cI cZ q eu1) (cwV 4 hts gX9_appeal_X9_turn rfl rfl rfl (by decide +kernel) ⟨Nat.le_of_ble_eq_true rfl, Nat.le_of_ble_eq_true rfl⟩) hK hI rfl hl.1 rfl (Nat.le_of_ble_eq_true rfl) dX9_appeal_6 ⟨Nat.le_refl _, Nat.le_refl _⟩ (fun H locs hI => ?_)
  cases h
  exact mg_reti hx hb hr hlocks hK hI dX9_appeal_9
set_option maxRecDepth 20000 in
theorem cM_appeal (l : Launch) (D : va_G) (cI cZ : ClassId) (q : Nat → Nat) {u uz : MS} {rz : Int32} {x1 : Int32} (h : fM_appeal u x1 = some (rz, uz)) : Met l yX9_appeal wsX9_appeal (mR 3 68) (va_Pc [.ref (q 0), .int x1] (mPre D cI cZ q u)) (mQ D cI cZ q rz uz) 0 0 (mF q) := by
  refine Met.ofW (cc := cX9_appeal) (maxL := 2) (ret := (some .int)) (by decide) rfl ?_
  intro p e s m args below meth c s₁ B hml hv
  obtain ⟨rfl, hw, hK⟩ := hv
  have C : mC p s m _ meth c cX9_appeal (some .int) wsX9_appeal 2 D cI cZ := ⟨B.exec, B.bytes, B.returns, atoms_spec (ws := wsX9_appeal) B.pre, findClass_of_methodNamed B.named, B.notSynchronized, hml, hK⟩
  have hl := lv_entry ([.ref (q 0), .int x1]) (n := 2) (Nat.le_of_ble_eq_true rfl)
  rw [lg_entry_eq]
  generalize (lg_sl ([.ref (q 0), .int x1]) ++ List.replicate (2 - (lg_sl ([.ref (q 0), .int x1])).length) Slot.unset).toArray = ls at hl ⊢
  have hl : lv_has ls 2 [(0, .ref (q 0)), (1, .int x1)] := hl
  exact w_M_appeal_0 C h ⟨hw, va_S.rf⟩ hl
theorem iM_judge : ∀ w ∈ wsX90, w ∈ wsX9_judge := by decide +kernel
def fM_judge_34 (u : MS) (y0 : Int32) : Option (Int32 × MS) :=
  some (y0, u)
set_option maxRecDepth 20000 in
theorem w_M_judge_34 (C : mC p s m args meth c cX9_judge (some .int) wsX9_judge 4 D cI cZ) {uz : MS} {rz : Int32} {u : MS} {y0 : Int32} (h : fM_judge_34 u y0 = some (rz, uz)) {H : Heap} {locs : List Loc} {ls : Array Slot} (hI : mI D cI cZ q u s H locs) (hl : lv_has ls 4 [(0, .ref (q 0))]) : W p l e (mR 3 68) s m args below meth c H locs 0 0 (MQ below (mQ D cI cZ q rz uz) args s 0 0 (mF q)) (F0 m 34 ls [.int y0]) := by
  obtain ⟨hx, hb, hr, hts, hown, hlocks, hml, hK⟩ := id C
  unfold fM_judge_34 at h
  cases h
  exact mg_reti hx hb hr hlocks hK hI dX9_judge_34
def fM_judge_12 (u : MS) (x1 y0 y1 y2 : Int32) : Option (Int32 × MS) :=
  mb2 (fM_turn u y2 y1 y0 0) fun r2 u1 =>
  if (u1 0 0) = 0 then
    (mld u1 41 x1).bind fun r4 =>
    fM_judge_34 u1 r4
  else
    fM_judge_34 u1 0
set_option maxRecDepth 20000 in
theorem w_M_judge_12 (C : mC p s m args meth c cX9_judge (some .int) wsX9_judge 4 D cI cZ) {uz : MS} {rz : Int32} {u : MS} {x1 y0 y1 y2 : Int32} (h : fM_judge_12 u x1 y0 y1 y2 = some (rz, uz)) {H : Heap} {locs : List Loc} {ls : Array Slot} (hI : mI D cI cZ q u s H locs) (hl : lv_has ls 4 [(0, .ref (q 0)), (1, .int x1)]) : W p l e (mR 3 68) s m args below meth c H locs 0 0 (MQ below (mQ D cI cZ q rz uz) args s 0 0 (mF q)) (F0 m 12 ls [.int y0, .int y1, .int y2, .ref (q 0)]) := by
  obtain ⟨hx, hb, hr, hts, hown, hlocks, hml, hK⟩ := id C
  unfold fM_judge_12 at h
  refine lv_iconst (v := 0) hx hb dX9_judge_12 (by decide) ?_
  obtain ⟨r2, u1, eu1, h⟩ := mb2_spec h
  refine mg_callV (As := [.int y2, .int y1, .int y0, .int 0]) (rest := []) ⟨hx, hb, hml, hown, hts⟩ (cM_turn l D cI cZ q eu1) (cwV 4 hts gX9_judge_X9_turn rfl rfl rfl (by decide +kernel) ⟨Nat.le_of_ble_eq_true rfl, Nat.le_of_ble_eq_true rfl⟩) hK hI rfl hl.1 rfl (Nat.le_of_ble_eq_true rfl) dX9_judge_13 ⟨Nat.le_refl _, Nat.le_refl _⟩ (fun H locs hI => ?_)
  refine lv_istore_n (lv' := [(3, .int r2), (0, .ref (q 0)), (1, .int x1)]) hx hb dX9_judge_16 rfl hl (by decide) rfl (fun ls hl => ?_)
  refine lv_aload_n hx hb dX9_judge_17 rfl (lv_at hl 1 rfl) ?_
  refine mg_get hx hb hts iM_judge hown hK hI 0 (by decide) (hts (.fieldLink RX9 130 "PassageCourtModel" "thrown" "I") (by decide +kernel)) rfl dX9_judge_18 ?_
  refine lv_if_ne (tgt := 33) hx hb dX9_judge_21 (by decide) (fun c3 => ?_) (fun c3 => ?_)
  · replace h := mneg c3 h
    refine lv_iconst (v := 0) hx hb dX9_judge_33 (by decide) ?_
    exact w_M_judge_34 C h hI (lv_sub hl [1] rfl)
  · replace h := mpos c3 h
    refine lv_aload_n hx hb dX9_judge_24 rfl (lv_at hl 1 rfl) ?_
    refine mg_get hx hb hts iM_judge hown hK hI 41 (by decide) (hts (.fieldLink RX9 118 "PassageCourtModel" "state" "[I") (by decide +kernel)) rfl dX9_judge_25 ?_
    refine lv_iload_n hx hb dX9_judge_28 rfl (lv_at hl 2 rfl) ?_
    obtain ⟨r4, er4, h⟩ := mbind h
    refine mg_ald hx hb hK hI 41 rfl (by decide) er4 dX9_judge_29 ?_
    refine lv_goto (tgt := 34) hx hb dX9_judge_30 (by decide) ?_
    exact w_M_judge_34 C h hI (lv_sub hl [1] rfl)
def fM_judge (u : MS) (x1 x2 : Int32) : Option (Int32 × MS) :=
  if x2 = 0 then
    fM_judge_12 u x1 4 3 x1
  else
    fM_judge_12 u x1 0 3 x1
set_option maxRecDepth 20000 in
theorem w_M_judge_0 (C : mC p s m args meth c cX9_judge (some .int) wsX9_judge 4 D cI cZ) {uz : MS} {rz : Int32} {u : MS} {x1 x2 : Int32} (h : fM_judge u x1 x2 = some (rz, uz)) {H : Heap} {locs : List Loc} {ls : Array Slot} (hI : mI D cI cZ q u s H locs) (hl : lv_has ls 4 [(0, .ref (q 0)), (1, .int x1), (2, .int x2)]) : W p l e (mR 3 68) s m args below meth c H locs 0 0 (MQ below (mQ D cI cZ q rz uz) args s 0 0 (mF q)) (F0 m 0 ls []) := by
  obtain ⟨hx, hb, hr, hts, hown, hlocks, hml, hK⟩ := id C
  unfold fM_judge at h
  refine lv_aload_n hx hb dX9_judge_0 rfl (lv_at hl 0 rfl) ?_
  refine lv_iload_n hx hb dX9_judge_1 rfl (lv_at hl 1 rfl) ?_
  refine lv_iconst (v := 3) hx hb dX9_judge_2 (by decide) ?_
  refine lv_iload_n hx hb dX9_judge_3 rfl (lv_at hl 2 rfl) ?_
  refine lv_if_eq (tgt := 11) hx hb dX9_judge_4 (by decide) (fun c5 => ?_) (fun c5 => ?_)
  · replace h := mpos c5 h
    refine lv_iconst (v := 4) hx hb dX9_judge_11 (by decide) ?_
    exact w_M_judge_12 C h hI (lv_sub hl [0, 1] rfl)
  · replace h := mneg c5 h
    refine lv_iconst (v := 0) hx hb dX9_judge_7 (by decide) ?_
    refine lv_goto (tgt := 12) hx hb dX9_judge_8 (by decide) ?_
    exact w_M_judge_12 C h hI (lv_sub hl [0, 1] rfl)
set_option maxRecDepth 20000 in
theorem cM_judge (l : Launch) (D : va_G) (cI cZ : ClassId) (q : Nat → Nat) {u uz : MS} {rz : Int32} {x1 x2 : Int32} (h : fM_judge u x1 x2 = some (rz, uz)) : Met l yX9_judge wsX9_judge (mR 3 68) (va_Pc [.ref (q 0), .int x1, .int x2] (mPre D cI cZ q u)) (mQ D cI cZ q rz uz) 0 0 (mF q) := by
  refine Met.ofW (cc := cX9_judge) (maxL := 4) (ret := (some .int)) (by decide) rfl ?_
  intro p e s m args below meth c s₁ B hml hv
  obtain ⟨rfl, hw, hK⟩ := hv
  have C : mC p s m _ meth c cX9_judge (some .int) wsX9_judge 4 D cI cZ := ⟨B.exec, B.bytes, B.returns, atoms_spec (ws := wsX9_judge) B.pre, findClass_of_methodNamed B.named, B.notSynchronized, hml, hK⟩
  have hl := lv_entry ([.ref (q 0), .int x1, .int x2]) (n := 4) (Nat.le_of_ble_eq_true rfl)
  rw [lg_entry_eq]
  generalize (lg_sl ([.ref (q 0), .int x1, .int x2]) ++ List.replicate (4 - (lg_sl ([.ref (q 0), .int x1, .int x2])).length) Slot.unset).toArray = ls at hl ⊢
  have hl : lv_has ls 4 [(0, .ref (q 0)), (1, .int x1), (2, .int x2)] := hl
  exact w_M_judge_0 C h ⟨hw, va_S.rf⟩ hl
theorem iM_withdraw : ∀ w ∈ wsX90, w ∈ wsX9_withdraw := by decide +kernel
def fM_withdraw_31 (u : MS) (y0 : Int32) : Option (Int32 × MS) :=
  some (y0, u)
set_option maxRecDepth 20000 in
theorem w_M_withdraw_31 (C : mC p s m args meth c cX9_withdraw (some .int) wsX9_withdraw 3 D cI cZ) {uz : MS} {rz : Int32} {u : MS} {y0 : Int32} (h : fM_withdraw_31 u y0 = some (rz, uz)) {H : Heap} {locs : List Loc} {ls : Array Slot} (hI : mI D cI cZ q u s H locs) (hl : lv_has ls 3 [(0, .ref (q 0))]) : W p l e (mR 3 68) s m args below meth c H locs 0 0 (MQ below (mQ D cI cZ q rz uz) args s 0 0 (mF q)) (F0 m 31 ls [.int y0]) := by
  obtain ⟨hx, hb, hr, hts, hown, hlocks, hml, hK⟩ := id C
  unfold fM_withdraw_31 at h
  cases h
  exact mg_reti hx hb hr hlocks hK hI dX9_withdraw_31
def fM_withdraw (u : MS) (x1 : Int32) : Option (Int32 × MS) :=
  mb2 (fM_turn u x1 0 4 0) fun r2 u1 =>
  if (u1 0 0) = 0 then
    (mld u1 40 x1).bind fun r4 =>
    fM_withdraw_31 u1 ((u1 1 0) - r4)
  else
    fM_withdraw_31 u1 0
set_option maxRecDepth 20000 in
theorem w_M_withdraw_0 (C : mC p s m args meth c cX9_withdraw (some .int) wsX9_withdraw 3 D cI cZ) {uz : MS} {rz : Int32} {u : MS} {x1 : Int32} (h : fM_withdraw u x1 = some (rz, uz)) {H : Heap} {locs : List Loc} {ls : Array Slot} (hI : mI D cI cZ q u s H locs) (hl : lv_has ls 3 [(0, .ref (q 0)), (1, .int x1)]) : W p l e (mR 3 68) s m args below meth c H locs 0 0 (MQ below (mQ D cI cZ q rz uz) args s 0 0 (mF q)) (F0 m 0 ls []) := by
  obtain ⟨hx, hb, hr, hts, hown, hlocks, hml, hK⟩ := id C
  unfold fM_withdraw at h
  refine lv_aload_n hx hb dX9_withdraw_0 rfl (lv_at hl 0 rfl) ?_
  refine lv_iload_n hx hb dX9_withdraw_1 rfl (lv_at hl 1 rfl) ?_
  refine lv_iconst (v := 0) hx hb dX9_withdraw_2 (by decide) ?_
  refine lv_iconst (v := 4) hx hb dX9_withdraw_3 (by decide) ?_
  refine lv_iconst (v := 0) hx hb dX9_withdraw_4 (by decide) ?_
  obtain ⟨r2, u1, eu1, h⟩ := mb2_spec h
  refine mg_callV (As := [.int x1, .int 0, .int 4, .int 0]) (rest := []) ⟨hx, hb, hml, hown, hts⟩ (cM_turn l D cI cZ q eu1) (cwV 4 hts gX9_withdraw_X9_turn rfl rfl rfl (by decide +kernel) ⟨Nat.le_of_ble_eq_true rfl, Nat.le_of_ble_eq_true rfl⟩) hK hI rfl hl.1 rfl (Nat.le_of_ble_eq_true rfl) dX9_withdraw_5 ⟨Nat.le_refl _, Nat.le_refl _⟩ (fun H locs hI => ?_)
  refine lv_istore_n (lv' := [(2, .int r2), (0, .ref (q 0)), (1, .int x1)]) hx hb dX9_withdraw_8 rfl hl (by decide) rfl (fun ls hl => ?_)
  refine lv_aload_n hx hb dX9_withdraw_9 rfl (lv_at hl 1 rfl) ?_
  refine mg_get hx hb hts iM_withdraw hown hK hI 0 (by decide) (hts (.fieldLink RX9 130 "PassageCourtModel" "thrown" "I") (by decide +kernel)) rfl dX9_withdraw_10 ?_
  refine lv_if_ne (tgt := 30) hx hb dX9_withdraw_13 (by decide) (fun c3 => ?_) (fun c3 => ?_)
  · replace h := mneg c3 h
    refine lv_iconst (v := 0) hx hb dX9_withdraw_30 (by decide) ?_
    exact w_M_withdraw_31 C h hI (lv_sub hl [1] rfl)
  · replace h := mpos c3 h
    refine lv_aload_n hx hb dX9_withdraw_16 rfl (lv_at hl 1 rfl) ?_
    refine mg_get hx hb hts iM_withdraw hown hK hI 1 (by decide) (hts (.fieldLink RX9 153 "PassageCourtModel" "today" "I") (by decide +kernel)) rfl dX9_withdraw_17 ?_
    refine lv_aload_n hx hb dX9_withdraw_20 rfl (lv_at hl 1 rfl) ?_
    refine mg_get hx hb hts iM_withdraw hown hK hI 40 (by decide) (hts (.fieldLink RX9 115 "PassageCourtModel" "date" "[I") (by decide +kernel)) rfl dX9_withdraw_21 ?_
    refine lv_iload_n hx hb dX9_withdraw_24 rfl (lv_at hl 2 rfl) ?_
    obtain ⟨r4, er4, h⟩ := mbind h
    refine mg_ald hx hb hK hI 40 rfl (by decide) er4 dX9_withdraw_25 ?_
    refine lv_isub hx hb dX9_withdraw_26 ?_
    refine lv_goto (tgt := 31) hx hb dX9_withdraw_27 (by decide) ?_
    exact w_M_withdraw_31 C h hI (lv_sub hl [1] rfl)
set_option maxRecDepth 20000 in
theorem cM_withdraw (l : Launch) (D : va_G) (cI cZ : ClassId) (q : Nat → Nat) {u uz : MS} {rz : Int32} {x1 : Int32} (h : fM_withdraw u x1 = some (rz, uz)) : Met l yX9_withdraw wsX9_withdraw (mR 3 68) (va_Pc [.ref (q 0), .int x1] (mPre D cI cZ q u)) (mQ D cI cZ q rz uz) 0 0 (mF q) := by
  refine Met.ofW (cc := cX9_withdraw) (maxL := 3) (ret := (some .int)) (by decide) rfl ?_
  intro p e s m args below meth c s₁ B hml hv
  obtain ⟨rfl, hw, hK⟩ := hv
  have C : mC p s m _ meth c cX9_withdraw (some .int) wsX9_withdraw 3 D cI cZ := ⟨B.exec, B.bytes, B.returns, atoms_spec (ws := wsX9_withdraw) B.pre, findClass_of_methodNamed B.named, B.notSynchronized, hml, hK⟩
  have hl := lv_entry ([.ref (q 0), .int x1]) (n := 3) (Nat.le_of_ble_eq_true rfl)
  rw [lg_entry_eq]
  generalize (lg_sl ([.ref (q 0), .int x1]) ++ List.replicate (3 - (lg_sl ([.ref (q 0), .int x1])).length) Slot.unset).toArray = ls at hl ⊢
  have hl : lv_has ls 3 [(0, .ref (q 0)), (1, .int x1)] := hl
  exact w_M_withdraw_0 C h ⟨hw, va_S.rf⟩ hl
end GM3
