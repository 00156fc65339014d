section GM5
variable {p : Program} {l : Launch} {e : Env} {s : State} {m : MethodId} {args : Array Value} {below : List Frame} {meth : Method} {c : Code} {D : va_G} {cI cZ : ClassId} {q : Nat → Nat}
theorem iM_was : ∀ w ∈ wsX90, w ∈ wsX9_was := by decide +kernel
def fM_was_54 (u : MS) (y0 : Int32) : Option (Int32 × MS) :=
  some (y0, u)
set_option maxRecDepth 20000 in
theorem w_M_was_54 (C : mC p s m args meth c cX9_was (some .int) wsX9_was 4 D cI cZ) {uz : MS} {rz : Int32} {u : MS} {y0 : Int32} (h : fM_was_54 u y0 = some (rz, uz)) {H : Heap} {locs : List Loc} {ls : Array Slot} (hI : mI D cI cZ q u s H locs) (hl : lv_has ls 4 [(0, .ref (q 0))]) : W p l e (mR 2 43) s m args below meth c H locs 0 0 (MQ below (mQ D cI cZ q rz uz) args s 0 0 (mF q)) (F0 m 54 ls [.int y0]) := by
  obtain ⟨hx, hb, hr, hts, hown, hlocks, hml, hK⟩ := id C
  unfold fM_was_54 at h
  cases h
  exact mg_reti hx hb hr hlocks hK hI dX9_was_54
def fM_was_32 (u : MS) (x1 x2 y0 : Int32) : Option (Int32 × MS) :=
  mb2 (fM_goesWell u y0) fun r2 u1 =>
  if r2 = 0 then
    fM_was_54 u1 0
  else
    (mld u1 22 ((3601 * x1) + x2)).bind fun r4 =>
    fM_was_54 u1 r4
set_option maxRecDepth 20000 in
theorem w_M_was_32 (C : mC p s m args meth c cX9_was (some .int) wsX9_was 4 D cI cZ) {uz : MS} {rz : Int32} {u : MS} {x1 x2 y0 : Int32} (h : fM_was_32 u x1 x2 y0 = some (rz, uz)) {H : Heap} {locs : List Loc} {ls : Array Slot} (hI : mI D cI cZ q u s H locs) (hl : lv_has ls 4 [(0, .ref (q 0)), (1, .int x1), (2, .int x2)]) : W p l e (mR 2 43) s m args below meth c H locs 0 0 (MQ below (mQ D cI cZ q rz uz) args s 0 0 (mF q)) (F0 m 32 ls [.int y0, .ref (q 0)]) := by
  obtain ⟨hx, hb, hr, hts, hown, hlocks, hml, hK⟩ := id C
  unfold fM_was_32 at h
  obtain ⟨r2, u1, eu1, h⟩ := mb2_spec h
  refine mg_callV (As := [.int y0]) (rest := []) ⟨hx, hb, hml, hown, hts⟩ (cM_goesWell l D cI cZ q eu1) (cwV 1 hts gX9_was_X9_goesWell rfl rfl rfl (by decide +kernel) ⟨Nat.le_of_ble_eq_true rfl, Nat.le_of_ble_eq_true rfl⟩) hK hI rfl hl.1 rfl (Nat.le_of_ble_eq_true rfl) dX9_was_32 ⟨Nat.le_refl _, Nat.le_refl _⟩ (fun H locs hI => ?_)
  refine lv_if_eq (tgt := 53) hx hb dX9_was_35 (by decide) (fun c3 => ?_) (fun c3 => ?_)
  · replace h := mpos c3 h
    refine lv_iconst (v := 0) hx hb dX9_was_53 (by decide) ?_
    exact w_M_was_54 C h hI (lv_sub hl [0] rfl)
  · replace h := mneg c3 h
    refine lv_aload_n hx hb dX9_was_38 rfl (lv_at hl 0 rfl) ?_
    refine mg_get hx hb hts iM_was hown hK hI 22 (by decide) (hts (.fieldLink RX9 67 "PassageCourtModel" "was" "[I") (by decide +kernel)) rfl dX9_was_39 ?_
    refine lv_sipush (v := 3601) hx hb dX9_was_42 (by decide) ?_
    refine lv_iload_n hx hb dX9_was_45 rfl (lv_at hl 1 rfl) ?_
    refine lv_imul hx hb dX9_was_46 ?_
    refine lv_iload_n hx hb dX9_was_47 rfl (lv_at hl 2 rfl) ?_
    refine lv_iadd hx hb dX9_was_48 ?_
    obtain ⟨r4, er4, h⟩ := mbind h
    refine mg_ald hx hb hK hI 22 rfl (by decide) er4 dX9_was_49 ?_
    refine lv_goto (tgt := 54) hx hb dX9_was_50 (by decide) ?_
    exact w_M_was_54 C h hI (lv_sub hl [0] rfl)
def fM_was (u : MS) (x1 x2 : Int32) : Option (Int32 × MS) :=
  mb2 (fM_isPerson u x1) fun r6 u5 =>
  if r6 = 0 then
    fM_was_32 u5 x1 x2 1
  else
    mb2 (fM_in u5 x2 0 (u5 1 0)) fun r9 u8 =>
    if r9 = 0 then
      fM_was_32 u8 x1 x2 2
    else
      fM_was_32 u8 x1 x2 0
set_option maxRecDepth 20000 in
theorem w_M_was_0 (C : mC p s m args meth c cX9_was (some .int) wsX9_was 4 D cI cZ) {uz : MS} {rz : Int32} {u : MS} {x1 x2 : Int32} (h : fM_was u x1 x2 = some (rz, uz)) {H : Heap} {locs : List Loc} {ls : Array Slot} (hI : mI D cI cZ q u s H locs) (hl : lv_has ls 4 [(0, .ref (q 0)), (1, .int x1), (2, .int x2)]) : W p l e (mR 2 43) s m args below meth c H locs 0 0 (MQ below (mQ D cI cZ q rz uz) args s 0 0 (mF q)) (F0 m 0 ls []) := by
  obtain ⟨hx, hb, hr, hts, hown, hlocks, hml, hK⟩ := id C
  unfold fM_was at h
  refine lv_aload_n hx hb dX9_was_0 rfl (lv_at hl 0 rfl) ?_
  refine lv_iload_n hx hb dX9_was_1 rfl (lv_at hl 1 rfl) ?_
  obtain ⟨r6, u5, eu5, h⟩ := mb2_spec h
  refine mg_callV (As := [.int x1]) (rest := []) ⟨hx, hb, hml, hown, hts⟩ (cM_isPerson l D cI cZ q eu5) (cwV 1 hts gX9_was_X9_isPerson rfl rfl rfl (by decide +kernel) ⟨Nat.le_of_ble_eq_true rfl, Nat.le_of_ble_eq_true rfl⟩) hK hI rfl hl.1 rfl (Nat.le_of_ble_eq_true rfl) dX9_was_2 ⟨Nat.le_refl _, Nat.le_refl _⟩ (fun H locs hI => ?_)
  refine lv_istore_n (lv' := [(3, .int r6), (0, .ref (q 0)), (1, .int x1), (2, .int x2)]) hx hb dX9_was_5 rfl hl (by decide) rfl (fun ls hl => ?_)
  refine lv_aload_n hx hb dX9_was_6 rfl (lv_at hl 1 rfl) ?_
  refine lv_iload_n hx hb dX9_was_7 rfl (lv_at hl 0 rfl) ?_
  refine lv_if_ne (tgt := 15) hx hb dX9_was_8 (by decide) (fun c7 => ?_) (fun c7 => ?_)
  · replace h := mneg c7 h
    refine lv_iload_n hx hb dX9_was_15 rfl (lv_at hl 3 rfl) ?_
    refine lv_iconst (v := 0) hx hb dX9_was_16 (by decide) ?_
    refine lv_aload_n hx hb dX9_was_17 rfl (lv_at hl 1 rfl) ?_
    refine mg_get hx hb hts iM_was hown hK hI 1 (by decide) (hts (.fieldLink RX9 153 "PassageCourtModel" "today" "I") (by decide +kernel)) rfl dX9_was_18 ?_
    obtain ⟨r9, u8, eu8, h⟩ := mb2_spec h
    refine mg_callS (As := [.int x2, .int 0, .int (u5 1 0)]) (rest := [.ref (q 0)]) ⟨hx, hb, hml, hown, hts⟩ (cM_in l D cI cZ q eu8) (va_cwS 3 hts gX9_was_X9_in rfl rfl rfl (by decide +kernel) ⟨Nat.le_of_ble_eq_true rfl, Nat.le_of_ble_eq_true rfl⟩) hK hI rfl hl.1 rfl (Nat.le_of_ble_eq_true rfl) dX9_was_21 ⟨Nat.le_refl _, Nat.le_refl _⟩ (fun H locs hI => ?_)
    refine lv_if_eq (tgt := 31) hx hb dX9_was_24 (by decide) (fun c10 => ?_) (fun c10 => ?_)
    · replace h := mpos c10 h
      refine lv_iconst (v := 2) hx hb dX9_was_31 (by decide) ?_
      exact w_M_was_32 C h hI (lv_sub hl [1, 2, 3] rfl)
    · replace h := mneg c10 h
      refine lv_iconst (v := 0) hx hb dX9_was_27 (by decide) ?_
      refine lv_goto (tgt := 32) hx hb dX9_was_28 (by decide) ?_
      exact w_M_was_32 C h hI (lv_sub hl [1, 2, 3] rfl)
  · replace h := mpos c7 h
    refine lv_iconst (v := 1) hx hb dX9_was_11 (by decide) ?_
    refine lv_goto (tgt := 32) hx hb dX9_was_12 (by decide) ?_
    exact w_M_was_32 C h hI (lv_sub hl [1, 2, 3] rfl)
set_option maxRecDepth 20000 in
theorem cM_was (l : Launch) (D : va_G) (cI cZ : ClassId) (q : Nat → Nat) {u uz : MS} {rz : Int32} {x1 x2 : Int32} (h : fM_was u x1 x2 = some (rz, uz)) : Met l yX9_was wsX9_was (mR 2 43) (va_Pc [.ref (q 0), .int x1, .int x2] (mPre D cI cZ q u)) (mQ D cI cZ q rz uz) 0 0 (mF q) := by
  refine Met.ofW (cc := cX9_was) (maxL := 4) (ret := (some .int)) (by decide) rfl ?_
  intro p e s m args below meth c s₁ B hml hv
  obtain ⟨rfl, hw, hK⟩ := hv
  have C : mC p s m _ meth c cX9_was (some .int) wsX9_was 4 D cI cZ := ⟨B.exec, B.bytes, B.returns, atoms_spec (ws := wsX9_was) B.pre, findClass_of_methodNamed B.named, B.notSynchronized, hml, hK⟩
  have hl := lv_entry ([.ref (q 0), .int x1, .int x2]) (n := 4) (Nat.le_of_ble_eq_true rfl)
  rw [lg_entry_eq]
  generalize (lg_sl ([.ref (q 0), .int x1, .int x2]) ++ List.replicate (4 - (lg_sl ([.ref (q 0), .int x1, .int x2])).length) Slot.unset).toArray = ls at hl ⊢
  have hl : lv_has ls 4 [(0, .ref (q 0)), (1, .int x1), (2, .int x2)] := hl
  exact w_M_was_0 C h ⟨hw, va_S.rf⟩ hl
theorem iM_reason : ∀ w ∈ wsX90, w ∈ wsX9_reason := by decide +kernel
def fM_reason_38 (u : MS) (y0 : Int32) : Option (Int32 × MS) :=
  some (y0, u)
set_option maxRecDepth 20000 in
theorem w_M_reason_38 (C : mC p s m args meth c cX9_reason (some .int) wsX9_reason 3 D cI cZ) {uz : MS} {rz : Int32} {u : MS} {y0 : Int32} (h : fM_reason_38 u y0 = some (rz, uz)) {H : Heap} {locs : List Loc} {ls : Array Slot} (hI : mI D cI cZ q u s H locs) (hl : lv_has ls 3 [(0, .ref (q 0))]) : W p l e (mR 4 94) s m args below meth c H locs 0 0 (MQ below (mQ D cI cZ q rz uz) args s 0 0 (mF q)) (F0 m 38 ls [.int y0]) := by
  obtain ⟨hx, hb, hr, hts, hown, hlocks, hml, hK⟩ := id C
  unfold fM_reason_38 at h
  cases h
  exact mg_reti hx hb hr hlocks hK hI dX9_reason_38
def fM_reason_22 (u : MS) (x1 x2 y0 : Int32) : Option (Int32 × MS) :=
  mb2 (fM_goesWell u y0) fun r2 u1 =>
  if r2 = 0 then
    fM_reason_38 u1 0
  else
    mb2 (fM_reasonOf u1 x1 x2) fun r5 u4 =>
    fM_reason_38 u4 r5
set_option maxRecDepth 20000 in
theorem w_M_reason_22 (C : mC p s m args meth c cX9_reason (some .int) wsX9_reason 3 D cI cZ) {uz : MS} {rz : Int32} {u : MS} {x1 x2 y0 : Int32} (h : fM_reason_22 u x1 x2 y0 = some (rz, uz)) {H : Heap} {locs : List Loc} {ls : Array Slot} (hI : mI D cI cZ q u s H locs) (hl : lv_has ls 3 [(0, .ref (q 0)), (1, .int x1), (2, .int x2)]) : W p l e (mR 4 94) s m args below meth c H locs 0 0 (MQ below (mQ D cI cZ q rz uz) args s 0 0 (mF q)) (F0 m 22 ls [.int y0, .ref (q 0)]) := by
  obtain ⟨hx, hb, hr, hts, hown, hlocks, hml, hK⟩ := id C
  unfold fM_reason_22 at h
  obtain ⟨r2, u1, eu1, h⟩ := mb2_spec h
  refine mg_callV (As := [.int y0]) (rest := []) ⟨hx, hb, hml, hown, hts⟩ (cM_goesWell l D cI cZ q eu1) (cwV 1 hts gX9_reason_X9_goesWell rfl rfl rfl (by decide +kernel) ⟨Nat.le_of_ble_eq_true rfl, Nat.le_of_ble_eq_true rfl⟩) hK hI rfl hl.1 rfl (Nat.le_of_ble_eq_true rfl) dX9_reason_22 ⟨Nat.le_refl _, Nat.le_refl _⟩ (fun H locs hI => ?_)
  refine lv_if_eq (tgt := 37) hx hb dX9_reason_25 (by decide) (fun c3 => ?_) (fun c3 => ?_)
  · replace h := mpos c3 h
    refine lv_iconst (v := 0) hx hb dX9_reason_37 (by decide) ?_
    exact w_M_reason_38 C h hI (lv_sub hl [0] rfl)
  · replace h := mneg c3 h
    refine lv_aload_n hx hb dX9_reason_28 rfl (lv_at hl 0 rfl) ?_
    refine lv_iload_n hx hb dX9_reason_29 rfl (lv_at hl 1 rfl) ?_
    refine lv_iload_n hx hb dX9_reason_30 rfl (lv_at hl 2 rfl) ?_
    obtain ⟨r5, u4, eu4, h⟩ := mb2_spec h
    refine mg_callV (As := [.int x1, .int x2]) (rest := []) ⟨hx, hb, hml, hown, hts⟩ (cM_reasonOf l D cI cZ q eu4) (cwV 2 hts gX9_reason_X9_reasonOf rfl rfl rfl (by decide +kernel) ⟨Nat.le_of_ble_eq_true rfl, Nat.le_of_ble_eq_true rfl⟩) hK hI rfl hl.1 rfl (Nat.le_of_ble_eq_true rfl) dX9_reason_31 ⟨Nat.le_refl _, Nat.le_refl _⟩ (fun H locs hI => ?_)
    refine lv_goto (tgt := 38) hx hb dX9_reason_34 (by decide) ?_
    exact w_M_reason_38 C h hI (lv_sub hl [0] rfl)
def fM_reason_21 (u : MS) (x1 x2 : Int32) : Option (Int32 × MS) :=
  fM_reason_22 u x1 x2 1
set_option maxRecDepth 20000 in
theorem w_M_reason_21 (C : mC p s m args meth c cX9_reason (some .int) wsX9_reason 3 D cI cZ) {uz : MS} {rz : Int32} {u : MS} {x1 x2 : Int32} (h : fM_reason_21 u x1 x2 = some (rz, uz)) {H : Heap} {locs : List Loc} {ls : Array Slot} (hI : mI D cI cZ q u s H locs) (hl : lv_has ls 3 [(0, .ref (q 0)), (1, .int x1), (2, .int x2)]) : W p l e (mR 4 94) s m args below meth c H locs 0 0 (MQ below (mQ D cI cZ q rz uz) args s 0 0 (mF q)) (F0 m 21 ls [.ref (q 0)]) := by
  obtain ⟨hx, hb, hr, hts, hown, hlocks, hml, hK⟩ := id C
  unfold fM_reason_21 at h
  refine lv_iconst (v := 1) hx hb dX9_reason_21 (by decide) ?_
  exact w_M_reason_22 C h hI (lv_sub hl [0, 1, 2] rfl)
def fM_reason (u : MS) (x1 x2 : Int32) : Option (Int32 × MS) :=
  mb2 (fM_isPerson u x1) fun r7 u6 =>
  if r7 = 0 then
    fM_reason_21 u6 x1 x2
  else
    mb2 (fM_isLand u6 x2) fun r10 u9 =>
    if r10 = 0 then
      fM_reason_21 u9 x1 x2
    else
      fM_reason_22 u9 x1 x2 0
set_option maxRecDepth 20000 in
theorem w_M_reason_0 (C : mC p s m args meth c cX9_reason (some .int) wsX9_reason 3 D cI cZ) {uz : MS} {rz : Int32} {u : MS} {x1 x2 : Int32} (h : fM_reason u x1 x2 = some (rz, uz)) {H : Heap} {locs : List Loc} {ls : Array Slot} (hI : mI D cI cZ q u s H locs) (hl : lv_has ls 3 [(0, .ref (q 0)), (1, .int x1), (2, .int x2)]) : W p l e (mR 4 94) s m args below meth c H locs 0 0 (MQ below (mQ D cI cZ q rz uz) args s 0 0 (mF q)) (F0 m 0 ls []) := by
  obtain ⟨hx, hb, hr, hts, hown, hlocks, hml, hK⟩ := id C
  unfold fM_reason at h
  refine lv_aload_n hx hb dX9_reason_0 rfl (lv_at hl 0 rfl) ?_
  refine lv_aload_n hx hb dX9_reason_1 rfl (lv_at hl 0 rfl) ?_
  refine lv_iload_n hx hb dX9_reason_2 rfl (lv_at hl 1 rfl) ?_
  obtain ⟨r7, u6, eu6, h⟩ := mb2_spec h
  refine mg_callV (As := [.int x1]) (rest := [.ref (q 0)]) ⟨hx, hb, hml, hown, hts⟩ (cM_isPerson l D cI cZ q eu6) (cwV 1 hts gX9_reason_X9_isPerson rfl rfl rfl (by decide +kernel) ⟨Nat.le_of_ble_eq_true rfl, Nat.le_of_ble_eq_true rfl⟩) hK hI rfl hl.1 rfl (Nat.le_of_ble_eq_true rfl) dX9_reason_3 ⟨Nat.le_refl _, Nat.le_refl _⟩ (fun H locs hI => ?_)
  refine lv_if_eq (tgt := 21) hx hb dX9_reason_6 (by decide) (fun c8 => ?_) (fun c8 => ?_)
  · replace h := mpos c8 h
    exact w_M_reason_21 C h hI (lv_sub hl [0, 1, 2] rfl)
  · replace h := mneg c8 h
    refine lv_aload_n hx hb dX9_reason_9 rfl (lv_at hl 0 rfl) ?_
    refine lv_iload_n hx hb dX9_reason_10 rfl (lv_at hl 2 rfl) ?_
    obtain ⟨r10, u9, eu9, h⟩ := mb2_spec h
    refine mg_callV (As := [.int x2]) (rest := [.ref (q 0)]) ⟨hx, hb, hml, hown, hts⟩ (cM_isLand l D cI cZ q eu9) (cwV 1 hts gX9_reason_X9_isLand rfl rfl rfl (by decide +kernel) ⟨Nat.le_of_ble_eq_true rfl, Nat.le_of_ble_eq_true rfl⟩) hK hI rfl hl.1 rfl (Nat.le_of_ble_eq_true rfl) dX9_reason_11 ⟨Nat.le_refl _, Nat.le_refl _⟩ (fun H locs hI => ?_)
    refine lv_if_eq (tgt := 21) hx hb dX9_reason_14 (by decide) (fun c11 => ?_) (fun c11 => ?_)
    · replace h := mpos c11 h
      exact w_M_reason_21 C h hI (lv_sub hl [0, 1, 2] rfl)
    · replace h := mneg c11 h
      refine lv_iconst (v := 0) hx hb dX9_reason_17 (by decide) ?_
      refine lv_goto (tgt := 22) hx hb dX9_reason_18 (by decide) ?_
      exact w_M_reason_22 C h hI (lv_sub hl [0, 1, 2] rfl)
set_option maxRecDepth 20000 in
theorem cM_reason (l : Launch) (D : va_G) (cI cZ : ClassId) (q : Nat → Nat) {u uz : MS} {rz : Int32} {x1 x2 : Int32} (h : fM_reason u x1 x2 = some (rz, uz)) : Met l yX9_reason wsX9_reason (mR 4 94) (va_Pc [.ref (q 0), .int x1, .int x2] (mPre D cI cZ q u)) (mQ D cI cZ q rz uz) 0 0 (mF q) := by
  refine Met.ofW (cc := cX9_reason) (maxL := 3) (ret := (some .int)) (by decide) rfl ?_
  intro p e s m args below meth c s₁ B hml hv
  obtain ⟨rfl, hw, hK⟩ := hv
  have C : mC p s m _ meth c cX9_reason (some .int) wsX9_reason 3 D cI cZ := ⟨B.exec, B.bytes, B.returns, atoms_spec (ws := wsX9_reason) B.pre, findClass_of_methodNamed B.named, B.notSynchronized, hml, hK⟩
  have hl := lv_entry ([.ref (q 0), .int x1, .int x2]) (n := 3) (Nat.le_of_ble_eq_true rfl)
  rw [lg_entry_eq]
  generalize (lg_sl ([.ref (q 0), .int x1, .int x2]) ++ List.replicate (3 - (lg_sl ([.ref (q 0), .int x1, .int x2])).length) Slot.unset).toArray = ls at hl ⊢
  have hl : lv_has ls 3 [(0, .ref (q 0)), (1, .int x1), (2, .int x2)] := hl
  exact w_M_reason_0 C h ⟨hw, va_S.rf⟩ hl
theorem iM_banned : ∀ w ∈ wsX90, w ∈ wsX9_banned := by decide +kernel
def fM_banned_63 (u : MS) (y0 : Int32) : Option (Int32 × MS) :=
  some (y0, u)
set_option maxRecDepth 20000 in
theorem w_M_banned_63 (C : mC p s m args meth c cX9_banned (some .int) wsX9_banned 4 D cI cZ) {uz : MS} {rz : Int32} {u : MS} {y0 : Int32} (h : fM_banned_63 u y0 = some (rz, uz)) {H : Heap} {locs : List Loc} {ls : Array Slot} (hI : mI D cI cZ q u s H locs) (hl : lv_has ls 4 [(0, .ref (q 0))]) : W p l e (mR 2 43) s m args below meth c H locs 0 0 (MQ below (mQ D cI cZ q rz uz) args s 0 0 (mF q)) (F0 m 63 ls [.int y0]) := by
  obtain ⟨hx, hb, hr, hts, hown, hlocks, hml, hK⟩ := id C
  unfold fM_banned_63 at h
  cases h
  exact mg_reti hx hb hr hlocks hK hI dX9_banned_63
def fM_banned_30 (u : MS) (x1 x2 x3 y0 : Int32) : Option (Int32 × MS) :=
  mb2 (fM_goesWell u y0) fun r2 u1 =>
  if r2 = 0 then
    some (0, u1)
  else
    mb2 (fM_knows u1 x1 x2 x3) fun r5 u4 =>
    if r5 = 0 then
      fM_banned_63 u4 ((-1))
    else
      (mld u4 25 ((8 * x2) + x1)).bind fun r7 =>
      fM_banned_63 u4 r7
set_option maxRecDepth 20000 in
theorem w_M_banned_30 (C : mC p s m args meth c cX9_banned (some .int) wsX9_banned 4 D cI cZ) {uz : MS} {rz : Int32} {u : MS} {x1 x2 x3 y0 : Int32} (h : fM_banned_30 u x1 x2 x3 y0 = some (rz, uz)) {H : Heap} {locs : List Loc} {ls : Array Slot} (hI : mI D cI cZ q u s H locs) (hl : lv_has ls 4 [(0, .ref (q 0)), (1, .int x1), (2, .int x2), (3, .int x3)]) : W p l e (mR 2 43) s m args below meth c H locs 0 0 (MQ below (mQ D cI cZ q rz uz) args s 0 0 (mF q)) (F0 m 30 ls [.int y0, .ref (q 0)]) := by
  obtain ⟨hx, hb, hr, hts, hown, hlocks, hml, hK⟩ := id C
  unfold fM_banned_30 at h
  obtain ⟨r2, u1, eu1, h⟩ := mb2_spec h
  refine mg_callV (As := [.int y0]) (rest := []) ⟨hx, hb, hml, hown, hts⟩ (cM_goesWell l D cI cZ q eu1) (cwV 1 hts gX9_banned_X9_goesWell rfl rfl rfl (by decide +kernel) ⟨Nat.le_of_ble_eq_true rfl, Nat.le_of_ble_eq_true rfl⟩) hK hI rfl hl.1 rfl (Nat.le_of_ble_eq_true rfl) dX9_banned_30 ⟨Nat.le_refl _, Nat.le_refl _⟩ (fun H locs hI => ?_)
  refine lv_if_ne (tgt := 38) hx hb dX9_banned_33 (by decide) (fun c3 => ?_) (fun c3 => ?_)
  · replace h := mneg c3 h
    refine lv_aload_n hx hb dX9_banned_38 rfl (lv_at hl 0 rfl) ?_
    refine lv_iload_n hx hb dX9_banned_39 rfl (lv_at hl 1 rfl) ?_
    refine lv_iload_n hx hb dX9_banned_40 rfl (lv_at hl 2 rfl) ?_
    refine lv_iload_n hx hb dX9_banned_41 rfl (lv_at hl 3 rfl) ?_
    obtain ⟨r5, u4, eu4, h⟩ := mb2_spec h
    refine mg_callV (As := [.int x1, .int x2, .int x3]) (rest := []) ⟨hx, hb, hml, hown, hts⟩ (cM_knows l D cI cZ q eu4) (cwV 3 hts gX9_banned_X9_knows rfl rfl rfl (by decide +kernel) ⟨Nat.le_of_ble_eq_true rfl, Nat.le_of_ble_eq_true rfl⟩) hK hI rfl hl.1 rfl (Nat.le_of_ble_eq_true rfl) dX9_banned_42 ⟨Nat.le_refl _, Nat.le_refl _⟩ (fun H locs hI => ?_)
    refine lv_if_eq (tgt := 62) hx hb dX9_banned_45 (by decide) (fun c6 => ?_) (fun c6 => ?_)
    · replace h := mpos c6 h
      refine lv_iconst (v := -1) hx hb dX9_banned_62 (by decide) ?_
      exact w_M_banned_63 C h hI (lv_sub hl [0] rfl)
    · replace h := mneg c6 h
      refine lv_aload_n hx hb dX9_banned_48 rfl (lv_at hl 0 rfl) ?_
      refine mg_get hx hb hts iM_banned hown hK hI 25 (by decide) (hts (.fieldLink RX9 76 "PassageCourtModel" "banTo" "[I") (by decide +kernel)) rfl dX9_banned_49 ?_
      refine lv_bipush (v := 8) hx hb dX9_banned_52 (by decide) ?_
      refine lv_iload_n hx hb dX9_banned_54 rfl (lv_at hl 2 rfl) ?_
      refine lv_imul hx hb dX9_banned_55 ?_
      refine lv_iload_n hx hb dX9_banned_56 rfl (lv_at hl 1 rfl) ?_
      refine lv_iadd hx hb dX9_banned_57 ?_
      obtain ⟨r7, er7, h⟩ := mbind h
      refine mg_ald hx hb hK hI 25 rfl (by decide) er7 dX9_banned_58 ?_
      refine lv_goto (tgt := 63) hx hb dX9_banned_59 (by decide) ?_
      exact w_M_banned_63 C h hI (lv_sub hl [0] rfl)
  · replace h := mpos c3 h
    refine lv_iconst (v := 0) hx hb dX9_banned_36 (by decide) ?_
    cases h
    exact mg_reti hx hb hr hlocks hK hI dX9_banned_37
def fM_banned_29 (u : MS) (x1 x2 x3 : Int32) : Option (Int32 × MS) :=
  fM_banned_30 u x1 x2 x3 1
set_option maxRecDepth 20000 in
theorem w_M_banned_29 (C : mC p s m args meth c cX9_banned (some .int) wsX9_banned 4 D cI cZ) {uz : MS} {rz : Int32} {u : MS} {x1 x2 x3 : Int32} (h : fM_banned_29 u x1 x2 x3 = some (rz, uz)) {H : Heap} {locs : List Loc} {ls : Array Slot} (hI : mI D cI cZ q u s H locs) (hl : lv_has ls 4 [(0, .ref (q 0)), (1, .int x1), (2, .int x2), (3, .int x3)]) : W p l e (mR 2 43) s m args below meth c H locs 0 0 (MQ below (mQ D cI cZ q rz uz) args s 0 0 (mF q)) (F0 m 29 ls [.ref (q 0)]) := by
  obtain ⟨hx, hb, hr, hts, hown, hlocks, hml, hK⟩ := id C
  unfold fM_banned_29 at h
  refine lv_iconst (v := 1) hx hb dX9_banned_29 (by decide) ?_
  exact w_M_banned_30 C h hI (lv_sub hl [0, 1, 2, 3] rfl)
def fM_banned (u : MS) (x1 x2 x3 : Int32) : Option (Int32 × MS) :=
  mb2 (fM_isLand u x1) fun r9 u8 =>
  if r9 = 0 then
    fM_banned_29 u8 x1 x2 x3
  else
    mb2 (fM_isPerson u8 x2) fun r12 u11 =>
    if r12 = 0 then
      fM_banned_29 u11 x1 x2 x3
    else
      mb2 (fM_isLand u11 x3) fun r15 u14 =>
      if r15 = 0 then
        fM_banned_29 u14 x1 x2 x3
      else
        fM_banned_30 u14 x1 x2 x3 0
set_option maxRecDepth 20000 in
theorem w_M_banned_0 (C : mC p s m args meth c cX9_banned (some .int) wsX9_banned 4 D cI cZ) {uz : MS} {rz : Int32} {u : MS} {x1 x2 x3 : Int32} (h : fM_banned u x1 x2 x3 = some (rz, uz)) {H : Heap} {locs : List Loc} {ls : Array Slot} (hI : mI D cI cZ q u s H locs) (hl : lv_has ls 4 [(0, .ref (q 0)), (1, .int x1), (2, .int x2), (3, .int x3)]) : W p l e (mR 2 43) s m args below meth c H locs 0 0 (MQ below (mQ D cI cZ q rz uz) args s 0 0 (mF q)) (F0 m 0 ls []) := by
  obtain ⟨hx, hb, hr, hts, hown, hlocks, hml, hK⟩ := id C
  unfold fM_banned at h
  refine lv_aload_n hx hb dX9_banned_0 rfl (lv_at hl 0 rfl) ?_
  refine lv_aload_n hx hb dX9_banned_1 rfl (lv_at hl 0 rfl) ?_
  refine lv_iload_n hx hb dX9_banned_2 rfl (lv_at hl 1 rfl) ?_
  obtain ⟨r9, u8, eu8, h⟩ := mb2_spec h
  refine mg_callV (As := [.int x1]) (rest := [.ref (q 0)]) ⟨hx, hb, hml, hown, hts⟩ (cM_isLand l D cI cZ q eu8) (cwV 1 hts gX9_banned_X9_isLand rfl rfl rfl (by decide +kernel) ⟨Nat.le_of_ble_eq_true rfl, Nat.le_of_ble_eq_true rfl⟩) hK hI rfl hl.1 rfl (Nat.le_of_ble_eq_true rfl) dX9_banned_3 ⟨Nat.le_refl _, Nat.le_refl _⟩ (fun H locs hI => ?_)
  refine lv_if_eq (tgt := 29) hx hb dX9_banned_6 (by decide) (fun c10 => ?_) (fun c10 => ?_)
  · replace h := mpos c10 h
    exact w_M_banned_29 C h hI (lv_sub hl [0, 1, 2, 3] rfl)
  · replace h := mneg c10 h
    refine lv_aload_n hx hb dX9_banned_9 rfl (lv_at hl 0 rfl) ?_
    refine lv_iload_n hx hb dX9_banned_10 rfl (lv_at hl 2 rfl) ?_
    obtain ⟨r12, u11, eu11, h⟩ := mb2_spec h
    refine mg_callV (As := [.int x2]) (rest := [.ref (q 0)]) ⟨hx, hb, hml, hown, hts⟩ (cM_isPerson l D cI cZ q eu11) (cwV 1 hts gX9_banned_X9_isPerson rfl rfl rfl (by decide +kernel) ⟨Nat.le_of_ble_eq_true rfl, Nat.le_of_ble_eq_true rfl⟩) hK hI rfl hl.1 rfl (Nat.le_of_ble_eq_true rfl) dX9_banned_11 ⟨Nat.le_refl _, Nat.le_refl _⟩ (fun H locs hI => ?_)
    refine lv_if_eq (tgt := 29) hx hb dX9_banned_14 (by decide) (fun c13 => ?_) (fun c13 => ?_)
    · replace h := mpos c13 h
      exact w_M_banned_29 C h hI (lv_sub hl [0, 1, 2, 3] rfl)
    · replace h := mneg c13 h
      refine lv_aload_n hx hb dX9_banned_17 rfl (lv_at hl 0 rfl) ?_
      refine lv_iload_n hx hb dX9_banned_18 rfl (lv_at hl 3 rfl) ?_
      obtain ⟨r15, u14, eu14, h⟩ := mb2_spec h
      refine mg_callV (As := [.int x3]) (rest := [.ref (q 0)]) ⟨hx, hb, hml, hown, hts⟩ (cM_isLand l D cI cZ q eu14) (cwV 1 hts gX9_banned_X9_isLand rfl rfl rfl (by decide +kernel) ⟨Nat.le_of_ble_eq_true rfl, Nat.le_of_ble_eq_true rfl⟩) hK hI rfl hl.1 rfl (Nat.le_of_ble_eq_true rfl) dX9_banned_19 ⟨Nat.le_refl _, Nat.le_refl _⟩ (fun H locs hI => ?_)
      refine lv_if_eq (tgt := 29) hx hb dX9_banned_22 (by decide) (fun c16 => ?_) (fun c16 => ?_)
      · replace h := mpos c16 h
        exact w_M_banned_29 C h hI (lv_sub hl [0, 1, 2, 3] rfl)
      · replace h := mneg c16 h
        refine lv_iconst (v := 0) hx hb dX9_banned_25 (by decide) ?_
        refine lv_goto (tgt := 30) hx hb dX9_banned_26 (by decide) ?_
        exact w_M_banned_30 C h hI (lv_sub hl [0, 1, 2, 3] rfl)
set_option maxRecDepth 20000 in
theorem cM_banned (l : Launch) (D : va_G) (cI cZ : ClassId) (q : Nat → Nat) {u uz : MS} {rz : Int32} {x1 x2 x3 : Int32} (h : fM_banned u x1 x2 x3 = some (rz, uz)) : Met l yX9_banned wsX9_banned (mR 2 43) (va_Pc [.ref (q 0), .int x1, .int x2, .int x3] (mPre D cI cZ q u)) (mQ D cI cZ q rz uz) 0 0 (mF q) := by
  refine Met.ofW (cc := cX9_banned) (maxL := 4) (ret := (some .int)) (by decide) rfl ?_
  intro p e s m args below meth c s₁ B hml hv
  obtain ⟨rfl, hw, hK⟩ := hv
  have C : mC p s m _ meth c cX9_banned (some .int) wsX9_banned 4 D cI cZ := ⟨B.exec, B.bytes, B.returns, atoms_spec (ws := wsX9_banned) B.pre, findClass_of_methodNamed B.named, B.notSynchronized, hml, hK⟩
  have hl := lv_entry ([.ref (q 0), .int x1, .int x2, .int x3]) (n := 4) (Nat.le_of_ble_eq_true rfl)
  rw [lg_entry_eq]
  generalize (lg_sl ([.ref (q 0), .int x1, .int x2, .int x3]) ++ List.replicate (4 - (lg_sl ([.ref (q 0), .int x1, .int x2, .int x3])).length) Slot.unset).toArray = ls at hl ⊢
  have hl : lv_has ls 4 [(0, .ref (q 0)), (1, .int x1), (2, .int x2), (3, .int x3)] := hl
  exact w_M_banned_0 C h ⟨hw, va_S.rf⟩ hl
theorem iM_ofVisa : ∀ w ∈ wsX90, w ∈ wsX9_ofVisa := by decide +kernel
def fM_ofVisa_76 (u : MS) (y0 : Int32) : Option (Int32 × MS) :=
  some (y0, u)
set_option maxRecDepth 20000 in
theorem w_M_ofVisa_76 (C : mC p s m args meth c cX9_ofVisa (some .int) wsX9_ofVisa 4 D cI cZ) {uz : MS} {rz : Int32} {u : MS} {y0 : Int32} (h : fM_ofVisa_76 u y0 = some (rz, uz)) {H : Heap} {locs : List Loc} {ls : Array Slot} (hI : mI D cI cZ q u s H locs) (hl : lv_has ls 4 [(0, .ref (q 0))]) : W p l e (mR 1 22) s m args below meth c H locs 0 0 (MQ below (mQ D cI cZ q rz uz) args s 0 0 (mF q)) (F0 m 76 ls [.int y0]) := by
  obtain ⟨hx, hb, hr, hts, hown, hlocks, hml, hK⟩ := id C
  unfold fM_ofVisa_76 at h
  cases h
  exact mg_reti hx hb hr hlocks hK hI dX9_ofVisa_76
def fM_ofVisa_35 (u : MS) (x1 x2 y0 : Int32) : Option (Int32 × MS) :=
  mb2 (fM_goesWell u y0) fun r2 u1 =>
  if r2 = 0 then
    some (0, u1)
  else
    if x2 = 0 then
      (mld u1 33 x1).bind fun r8 =>
      fM_ofVisa_76 u1 r8
    else
      if x2 = 1 then
        (mld u1 34 x1).bind fun r7 =>
        fM_ofVisa_76 u1 r7
      else
        (mld u1 29 x1).bind fun r6 =>
        fM_ofVisa_76 u1 r6
set_option maxRecDepth 20000 in
theorem w_M_ofVisa_35 (C : mC p s m args meth c cX9_ofVisa (some .int) wsX9_ofVisa 4 D cI cZ) {uz : MS} {rz : Int32} {u : MS} {x1 x2 y0 : Int32} (h : fM_ofVisa_35 u x1 x2 y0 = some (rz, uz)) {H : Heap} {locs : List Loc} {ls : Array Slot} (hI : mI D cI cZ q u s H locs) (hl : lv_has ls 4 [(0, .ref (q 0)), (1, .int x1), (2, .int x2)]) : W p l e (mR 1 22) s m args below meth c H locs 0 0 (MQ below (mQ D cI cZ q rz uz) args s 0 0 (mF q)) (F0 m 35 ls [.int y0, .ref (q 0)]) := by
  obtain ⟨hx, hb, hr, hts, hown, hlocks, hml, hK⟩ := id C
  unfold fM_ofVisa_35 at h
  obtain ⟨r2, u1, eu1, h⟩ := mb2_spec h
  refine mg_callV (As := [.int y0]) (rest := []) ⟨hx, hb, hml, hown, hts⟩ (cM_goesWell l D cI cZ q eu1) (cwV 1 hts gX9_ofVisa_X9_goesWell rfl rfl rfl (by decide +kernel) ⟨Nat.le_of_ble_eq_true rfl, Nat.le_of_ble_eq_true rfl⟩) hK hI rfl hl.1 rfl (Nat.le_of_ble_eq_true rfl) dX9_ofVisa_35 ⟨Nat.le_refl _, Nat.le_refl _⟩ (fun H locs hI => ?_)
  refine lv_if_ne (tgt := 43) hx hb dX9_ofVisa_38 (by decide) (fun c3 => ?_) (fun c3 => ?_)
  · replace h := mneg c3 h
    refine lv_iload_n hx hb dX9_ofVisa_43 rfl (lv_at hl 2 rfl) ?_
    refine lv_if_ne (tgt := 56) hx hb dX9_ofVisa_44 (by decide) (fun c4 => ?_) (fun c4 => ?_)
    · replace h := mneg c4 h
      refine lv_iload_n hx hb dX9_ofVisa_56 rfl (lv_at hl 2 rfl) ?_
      refine lv_iconst (v := 1) hx hb dX9_ofVisa_57 (by decide) ?_
      refine lv_icmp_ne (tgt := 70) hx hb dX9_ofVisa_58 (by decide) (fun c5 => ?_) (fun c5 => ?_)
      · replace h := mneg c5 h
        refine lv_aload_n hx hb dX9_ofVisa_70 rfl (lv_at hl 0 rfl) ?_
        refine mg_get hx hb hts iM_ofVisa hown hK hI 29 (by decide) (hts (.fieldLink RX9 85 "PassageCourtModel" "visaOf" "[I") (by decide +kernel)) rfl dX9_ofVisa_71 ?_
        refine lv_iload_n hx hb dX9_ofVisa_74 rfl (lv_at hl 1 rfl) ?_
        obtain ⟨r6, er6, h⟩ := mbind h
        refine mg_ald hx hb hK hI 29 rfl (by decide) er6 dX9_ofVisa_75 ?_
        exact w_M_ofVisa_76 C h hI (lv_sub hl [0] rfl)
      · replace h := mpos c5 h
        refine lv_aload_n hx hb dX9_ofVisa_61 rfl (lv_at hl 0 rfl) ?_
        refine mg_get hx hb hts iM_ofVisa hown hK hI 34 (by decide) (hts (.fieldLink RX9 100 "PassageCourtModel" "daysLeft" "[I") (by decide +kernel)) rfl dX9_ofVisa_62 ?_
        refine lv_iload_n hx hb dX9_ofVisa_65 rfl (lv_at hl 1 rfl) ?_
        obtain ⟨r7, er7, h⟩ := mbind h
        refine mg_ald hx hb hK hI 34 rfl (by decide) er7 dX9_ofVisa_66 ?_
        refine lv_goto (tgt := 76) hx hb dX9_ofVisa_67 (by decide) ?_
        exact w_M_ofVisa_76 C h hI (lv_sub hl [0] rfl)
    · replace h := mpos c4 h
      refine lv_aload_n hx hb dX9_ofVisa_47 rfl (lv_at hl 0 rfl) ?_
      refine mg_get hx hb hts iM_ofVisa hown hK hI 33 (by decide) (hts (.fieldLink RX9 97 "PassageCourtModel" "entries" "[I") (by decide +kernel)) rfl dX9_ofVisa_48 ?_
      refine lv_iload_n hx hb dX9_ofVisa_51 rfl (lv_at hl 1 rfl) ?_
      obtain ⟨r8, er8, h⟩ := mbind h
      refine mg_ald hx hb hK hI 33 rfl (by decide) er8 dX9_ofVisa_52 ?_
      refine lv_goto (tgt := 76) hx hb dX9_ofVisa_53 (by decide) ?_
      exact w_M_ofVisa_76 C h hI (lv_sub hl [0] rfl)
  · replace h := mpos c3 h
    refine lv_iconst (v := 0) hx hb dX9_ofVisa_41 (by decide) ?_
    cases h
    exact mg_reti hx hb hr hlocks hK hI dX9_ofVisa_42
def fM_ofVisa (u : MS) (x1 x2 : Int32) : Option (Int32 × MS) :=
  mb2 (fM_in u x1 0 ((u 28 0) - 1)) fun r10 u9 =>
  if r10 = 0 then
    fM_ofVisa_35 u9 x1 x2 1
  else
    mb2 (fM_in u9 x2 0 2) fun r13 u12 =>
    if r13 = 0 then
      fM_ofVisa_35 u12 x1 x2 2
    else
      fM_ofVisa_35 u12 x1 x2 0
set_option maxRecDepth 20000 in
theorem w_M_ofVisa_0 (C : mC p s m args meth c cX9_ofVisa (some .int) wsX9_ofVisa 4 D cI cZ) {uz : MS} {rz : Int32} {u : MS} {x1 x2 : Int32} (h : fM_ofVisa u x1 x2 = some (rz, uz)) {H : Heap} {locs : List Loc} {ls : Array Slot} (hI : mI D cI cZ q u s H locs) (hl : lv_has ls 4 [(0, .ref (q 0)), (1, .int x1), (2, .int x2)]) : W p l e (mR 1 22) s m args below meth c H locs 0 0 (MQ below (mQ D cI cZ q rz uz) args s 0 0 (mF q)) (F0 m 0 ls []) := by
  obtain ⟨hx, hb, hr, hts, hown, hlocks, hml, hK⟩ := id C
  unfold fM_ofVisa at h
  refine lv_iload_n hx hb dX9_ofVisa_0 rfl (lv_at hl 1 rfl) ?_
  refine lv_iconst (v := 0) hx hb dX9_ofVisa_1 (by decide) ?_
  refine lv_aload_n hx hb dX9_ofVisa_2 rfl (lv_at hl 0 rfl) ?_
  refine mg_get hx hb hts iM_ofVisa hown hK hI 28 (by decide) (hts (.fieldLink RX9 177 "PassageCourtModel" "visas" "I") (by decide +kernel)) rfl dX9_ofVisa_3 ?_
  refine lv_iconst (v := 1) hx hb dX9_ofVisa_6 (by decide) ?_
  refine lv_isub hx hb dX9_ofVisa_7 ?_
  obtain ⟨r10, u9, eu9, h⟩ := mb2_spec h
  refine mg_callS (As := [.int x1, .int 0, .int ((u 28 0) - 1)]) (rest := []) ⟨hx, hb, hml, hown, hts⟩ (cM_in l D cI cZ q eu9) (va_cwS 3 hts gX9_ofVisa_X9_in rfl rfl rfl (by decide +kernel) ⟨Nat.le_of_ble_eq_true rfl, Nat.le_of_ble_eq_true rfl⟩) hK hI rfl hl.1 rfl (Nat.le_of_ble_eq_true rfl) dX9_ofVisa_8 ⟨Nat.le_refl _, Nat.le_refl _⟩ (fun H locs hI => ?_)
  refine lv_istore_n (lv' := [(3, .int r10), (0, .ref (q 0)), (1, .int x1), (2, .int x2)]) hx hb dX9_ofVisa_11 rfl hl (by decide) rfl (fun ls hl => ?_)
  refine lv_aload_n hx hb dX9_ofVisa_12 rfl (lv_at hl 1 rfl) ?_
  refine lv_iload_n hx hb dX9_ofVisa_13 rfl (lv_at hl 0 rfl) ?_
  refine lv_if_ne (tgt := 21) hx hb dX9_ofVisa_14 (by decide) (fun c11 => ?_) (fun c11 => ?_)
  · replace h := mneg c11 h
    refine lv_iload_n hx hb dX9_ofVisa_21 rfl (lv_at hl 3 rfl) ?_
    refine lv_iconst (v := 0) hx hb dX9_ofVisa_22 (by decide) ?_
    refine lv_iconst (v := 2) hx hb dX9_ofVisa_23 (by decide) ?_
    obtain ⟨r13, u12, eu12, h⟩ := mb2_spec h
    refine mg_callS (As := [.int x2, .int 0, .int 2]) (rest := [.ref (q 0)]) ⟨hx, hb, hml, hown, hts⟩ (cM_in l D cI cZ q eu12) (va_cwS 3 hts gX9_ofVisa_X9_in rfl rfl rfl (by decide +kernel) ⟨Nat.le_of_ble_eq_true rfl, Nat.le_of_ble_eq_true rfl⟩) hK hI rfl hl.1 rfl (Nat.le_of_ble_eq_true rfl) dX9_ofVisa_24 ⟨Nat.le_refl _, Nat.le_refl _⟩ (fun H locs hI => ?_)
    refine lv_if_eq (tgt := 34) hx hb dX9_ofVisa_27 (by decide) (fun c14 => ?_) (fun c14 => ?_)
    · replace h := mpos c14 h
      refine lv_iconst (v := 2) hx hb dX9_ofVisa_34 (by decide) ?_
      exact w_M_ofVisa_35 C h hI (lv_sub hl [1, 2, 3] rfl)
    · replace h := mneg c14 h
      refine lv_iconst (v := 0) hx hb dX9_ofVisa_30 (by decide) ?_
      refine lv_goto (tgt := 35) hx hb dX9_ofVisa_31 (by decide) ?_
      exact w_M_ofVisa_35 C h hI (lv_sub hl [1, 2, 3] rfl)
  · replace h := mpos c11 h
    refine lv_iconst (v := 1) hx hb dX9_ofVisa_17 (by decide) ?_
    refine lv_goto (tgt := 35) hx hb dX9_ofVisa_18 (by decide) ?_
    exact w_M_ofVisa_35 C h hI (lv_sub hl [1, 2, 3] rfl)
set_option maxRecDepth 20000 in
theorem cM_ofVisa (l : Launch) (D : va_G) (cI cZ : ClassId) (q : Nat → Nat) {u uz : MS} {rz : Int32} {x1 x2 : Int32} (h : fM_ofVisa u x1 x2 = some (rz, uz)) : Met l yX9_ofVisa wsX9_ofVisa (mR 1 22) (va_Pc [.ref (q 0), .int x1, .int x2] (mPre D cI cZ q u)) (mQ D cI cZ q rz uz) 0 0 (mF q) := by
  refine Met.ofW (cc := cX9_ofVisa) (maxL := 4) (ret := (some .int)) (by decide) rfl ?_
  intro p e s m args below meth c s₁ B hml hv
  obtain ⟨rfl, hw, hK⟩ := hv
  have C : mC p s m _ meth c cX9_ofVisa (some .int) wsX9_ofVisa 4 D cI cZ := ⟨B.exec, B.bytes, B.returns, atoms_spec (ws := wsX9_ofVisa) B.pre, findClass_of_methodNamed B.named, B.notSynchronized, hml, hK⟩
  have hl := lv_entry ([.ref (q 0), .int x1, .int x2]) (n := 4) (Nat.le_of_ble_eq_true rfl)
  rw [lg_entry_eq]
  generalize (lg_sl ([.ref (q 0), .int x1, .int x2]) ++ List.replicate (4 - (lg_sl ([.ref (q 0), .int x1, .int x2])).length) Slot.unset).toArray = ls at hl ⊢
  have hl : lv_has ls 4 [(0, .ref (q 0)), (1, .int x1), (2, .int x2)] := hl
  exact w_M_ofVisa_0 C h ⟨hw, va_S.rf⟩ hl
theorem iM_ofRequest : ∀ w ∈ wsX90, w ∈ wsX9_ofRequest := by decide +kernel
def fM_ofRequest_96 (u : MS) (y0 : Int32) : Option (Int32 × MS) :=
  some (y0, u)
set_option maxRecDepth 20000 in
theorem w_M_ofRequest_96 (C : mC p s m args meth c cX9_ofRequest (some .int) wsX9_ofRequest 4 D cI cZ) {uz : MS} {rz : Int32} {u : MS} {y0 : Int32} (h : fM_ofRequest_96 u y0 = some (rz, uz)) {H : Heap} {locs : List Loc} {ls : Array Slot} (hI : mI D cI cZ q u s H locs) (hl : lv_has ls 4 [(0, .ref (q 0))]) : W p l e (mR 2 43) s m args below meth c H locs 0 0 (MQ below (mQ D cI cZ q rz uz) args s 0 0 (mF q)) (F0 m 96 ls [.int y0]) := by
  obtain ⟨hx, hb, hr, hts, hown, hlocks, hml, hK⟩ := id C
  unfold fM_ofRequest_96 at h
  cases h
  exact mg_reti hx hb hr hlocks hK hI dX9_ofRequest_96
def fM_ofRequest_29 (u : MS) (x1 x2 y0 : Int32) : Option (Int32 × MS) :=
  mb2 (fM_goesWell u y0) fun r2 u1 =>
  if r2 = 0 then
    some (0, u1)
  else
    if x2 = 0 then
      (mld u1 41 x1).bind fun r13 =>
      fM_ofRequest_96 u1 r13
    else
      if x2 = 1 then
        (mld u1 40 x1).bind fun r12 =>
        fM_ofRequest_96 u1 r12
      else
        if x2 = 2 then
          (mld u1 43 x1).bind fun r11 =>
          fM_ofRequest_96 u1 r11
        else
          (mld u1 41 x1).bind fun r7 =>
          if r7 = 0 then
            mb2 (fM_placeOf u1 x1) fun r10 u9 =>
            fM_ofRequest_96 u9 r10
          else
            fM_ofRequest_96 u1 ((-1))
set_option maxRecDepth 20000 in
theorem w_M_ofRequest_29 (C : mC p s m args meth c cX9_ofRequest (some .int) wsX9_ofRequest 4 D cI cZ) {uz : MS} {rz : Int32} {u : MS} {x1 x2 y0 : Int32} (h : fM_ofRequest_29 u x1 x2 y0 = some (rz, uz)) {H : Heap} {locs : List Loc} {ls : Array Slot} (hI : mI D cI cZ q u s H locs) (hl : lv_has ls 4 [(0, .ref (q 0)), (1, .int x1), (2, .int x2)]) : W p l e (mR 2 43) s m args below meth c H locs 0 0 (MQ below (mQ D cI cZ q rz uz) args s 0 0 (mF q)) (F0 m 29 ls [.int y0, .ref (q 0)]) := by
  obtain ⟨hx, hb, hr, hts, hown, hlocks, hml, hK⟩ := id C
  unfold fM_ofRequest_29 at h
  obtain ⟨r2, u1, eu1, h⟩ := mb2_spec h
  refine mg_callV (As := [.int y0]) (rest := []) ⟨hx, hb, hml, hown, hts⟩ (cM_goesWell l D cI cZ q eu1) (cwV 1 hts gX9_ofRequest_X9_goesWell rfl rfl rfl (by decide +kernel) ⟨Nat.le_of_ble_eq_true rfl, Nat.le_of_ble_eq_true rfl⟩) hK hI rfl hl.1 rfl (Nat.le_of_ble_eq_true rfl) dX9_ofRequest_29 ⟨Nat.le_refl _, Nat.le_refl _⟩ (fun H locs hI => ?_)
  refine lv_if_ne (tgt := 37) hx hb dX9_ofRequest_32 (by decide) (fun c3 => ?_) (fun c3 => ?_)
  · replace h := mneg c3 h
    refine lv_iload_n hx hb dX9_ofRequest_37 rfl (lv_at hl 2 rfl) ?_
    refine lv_if_ne (tgt := 50) hx hb dX9_ofRequest_38 (by decide) (fun c4 => ?_) (fun c4 => ?_)
    · replace h := mneg c4 h
      refine lv_iload_n hx hb dX9_ofRequest_50 rfl (lv_at hl 2 rfl) ?_
      refine lv_iconst (v := 1) hx hb dX9_ofRequest_51 (by decide) ?_
      refine lv_icmp_ne (tgt := 64) hx hb dX9_ofRequest_52 (by decide) (fun c5 => ?_) (fun c5 => ?_)
      · replace h := mneg c5 h
        refine lv_iload_n hx hb dX9_ofRequest_64 rfl (lv_at hl 2 rfl) ?_
        refine lv_iconst (v := 2) hx hb dX9_ofRequest_65 (by decide) ?_
        refine lv_icmp_ne (tgt := 78) hx hb dX9_ofRequest_66 (by decide) (fun c6 => ?_) (fun c6 => ?_)
        · replace h := mneg c6 h
          refine lv_aload_n hx hb dX9_ofRequest_78 rfl (lv_at hl 0 rfl) ?_
          refine mg_get hx hb hts iM_ofRequest hown hK hI 41 (by decide) (hts (.fieldLink RX9 118 "PassageCourtModel" "state" "[I") (by decide +kernel)) rfl dX9_ofRequest_79 ?_
          refine lv_iload_n hx hb dX9_ofRequest_82 rfl (lv_at hl 1 rfl) ?_
          obtain ⟨r7, er7, h⟩ := mbind h
          refine mg_ald hx hb hK hI 41 rfl (by decide) er7 dX9_ofRequest_83 ?_
          refine lv_if_ne (tgt := 95) hx hb dX9_ofRequest_84 (by decide) (fun c8 => ?_) (fun c8 => ?_)
          · replace h := mneg c8 h
            refine lv_iconst (v := -1) hx hb dX9_ofRequest_95 (by decide) ?_
            exact w_M_ofRequest_96 C h hI (lv_sub hl [0] rfl)
          · replace h := mpos c8 h
            refine lv_aload_n hx hb dX9_ofRequest_87 rfl (lv_at hl 0 rfl) ?_
            refine lv_iload_n hx hb dX9_ofRequest_88 rfl (lv_at hl 1 rfl) ?_
            obtain ⟨r10, u9, eu9, h⟩ := mb2_spec h
            refine mg_callV (As := [.int x1]) (rest := []) ⟨hx, hb, hml, hown, hts⟩ (cM_placeOf l D cI cZ q eu9) (cwV 1 hts gX9_ofRequest_X9_placeOf rfl rfl rfl (by decide +kernel) ⟨Nat.le_of_ble_eq_true rfl, Nat.le_of_ble_eq_true rfl⟩) hK hI rfl hl.1 rfl (Nat.le_of_ble_eq_true rfl) dX9_ofRequest_89 ⟨Nat.le_refl _, Nat.le_refl _⟩ (fun H locs hI => ?_)
            refine lv_goto (tgt := 96) hx hb dX9_ofRequest_92 (by decide) ?_
            exact w_M_ofRequest_96 C h hI (lv_sub hl [0] rfl)
        · replace h := mpos c6 h
          refine lv_aload_n hx hb dX9_ofRequest_69 rfl (lv_at hl 0 rfl) ?_
          refine mg_get hx hb hts iM_ofRequest hown hK hI 43 (by decide) (hts (.fieldLink RX9 124 "PassageCourtModel" "many" "[I") (by decide +kernel)) rfl dX9_ofRequest_70 ?_
          refine lv_iload_n hx hb dX9_ofRequest_73 rfl (lv_at hl 1 rfl) ?_
          obtain ⟨r11, er11, h⟩ := mbind h
          refine mg_ald hx hb hK hI 43 rfl (by decide) er11 dX9_ofRequest_74 ?_
          refine lv_goto (tgt := 96) hx hb dX9_ofRequest_75 (by decide) ?_
          exact w_M_ofRequest_96 C h hI (lv_sub hl [0] rfl)
      · replace h := mpos c5 h
        refine lv_aload_n hx hb dX9_ofRequest_55 rfl (lv_at hl 0 rfl) ?_
        refine mg_get hx hb hts iM_ofRequest hown hK hI 40 (by decide) (hts (.fieldLink RX9 115 "PassageCourtModel" "date" "[I") (by decide +kernel)) rfl dX9_ofRequest_56 ?_
        refine lv_iload_n hx hb dX9_ofRequest_59 rfl (lv_at hl 1 rfl) ?_
        obtain ⟨r12, er12, h⟩ := mbind h
        refine mg_ald hx hb hK hI 40 rfl (by decide) er12 dX9_ofRequest_60 ?_
        refine lv_goto (tgt := 96) hx hb dX9_ofRequest_61 (by decide) ?_
        exact w_M_ofRequest_96 C h hI (lv_sub hl [0] rfl)
    · replace h := mpos c4 h
      refine lv_aload_n hx hb dX9_ofRequest_41 rfl (lv_at hl 0 rfl) ?_
      refine mg_get hx hb hts iM_ofRequest hown hK hI 41 (by decide) (hts (.fieldLink RX9 118 "PassageCourtModel" "state" "[I") (by decide +kernel)) rfl dX9_ofRequest_42 ?_
      refine lv_iload_n hx hb dX9_ofRequest_45 rfl (lv_at hl 1 rfl) ?_
      obtain ⟨r13, er13, h⟩ := mbind h
      refine mg_ald hx hb hK hI 41 rfl (by decide) er13 dX9_ofRequest_46 ?_
      refine lv_goto (tgt := 96) hx hb dX9_ofRequest_47 (by decide) ?_
      exact w_M_ofRequest_96 C h hI (lv_sub hl [0] rfl)
  · replace h := mpos c3 h
    refine lv_iconst (v := 0) hx hb dX9_ofRequest_35 (by decide) ?_
    cases h
    exact mg_reti hx hb hr hlocks hK hI dX9_ofRequest_36
def fM_ofRequest (u : MS) (x1 x2 : Int32) : Option (Int32 × MS) :=
  mb2 (fM_isRequest u x1) fun r15 u14 =>
  if r15 = 0 then
    fM_ofRequest_29 u14 x1 x2 1
  else
    mb2 (fM_in u14 x2 0 3) fun r18 u17 =>
    if r18 = 0 then
      fM_ofRequest_29 u17 x1 x2 2
    else
      fM_ofRequest_29 u17 x1 x2 0
set_option maxRecDepth 20000 in
theorem w_M_ofRequest_0 (C : mC p s m args meth c cX9_ofRequest (some .int) wsX9_ofRequest 4 D cI cZ) {uz : MS} {rz : Int32} {u : MS} {x1 x2 : Int32} (h : fM_ofRequest u x1 x2 = some (rz, uz)) {H : Heap} {locs : List Loc} {ls : Array Slot} (hI : mI D cI cZ q u s H locs) (hl : lv_has ls 4 [(0, .ref (q 0)), (1, .int x1), (2, .int x2)]) : W p l e (mR 2 43) s m args below meth c H locs 0 0 (MQ below (mQ D cI cZ q rz uz) args s 0 0 (mF q)) (F0 m 0 ls []) := by
  obtain ⟨hx, hb, hr, hts, hown, hlocks, hml, hK⟩ := id C
  unfold fM_ofRequest at h
  refine lv_aload_n hx hb dX9_ofRequest_0 rfl (lv_at hl 0 rfl) ?_
  refine lv_iload_n hx hb dX9_ofRequest_1 rfl (lv_at hl 1 rfl) ?_
  obtain ⟨r15, u14, eu14, h⟩ := mb2_spec h
  refine mg_callV (As := [.int x1]) (rest := []) ⟨hx, hb, hml, hown, hts⟩ (cM_isRequest l D cI cZ q eu14) (cwV 1 hts gX9_ofRequest_X9_isRequest rfl rfl rfl (by decide +kernel) ⟨Nat.le_of_ble_eq_true rfl, Nat.le_of_ble_eq_true rfl⟩) hK hI rfl hl.1 rfl (Nat.le_of_ble_eq_true rfl) dX9_ofRequest_2 ⟨Nat.le_refl _, Nat.le_refl _⟩ (fun H locs hI => ?_)
  refine lv_istore_n (lv' := [(3, .int r15), (0, .ref (q 0)), (1, .int x1), (2, .int x2)]) hx hb dX9_ofRequest_5 rfl hl (by decide) rfl (fun ls hl => ?_)
  refine lv_aload_n hx hb dX9_ofRequest_6 rfl (lv_at hl 1 rfl) ?_
  refine lv_iload_n hx hb dX9_ofRequest_7 rfl (lv_at hl 0 rfl) ?_
  refine lv_if_ne (tgt := 15) hx hb dX9_ofRequest_8 (by decide) (fun c16 => ?_) (fun c16 => ?_)
  · replace h := mneg c16 h
    refine lv_iload_n hx hb dX9_ofRequest_15 rfl (lv_at hl 3 rfl) ?_
    refine lv_iconst (v := 0) hx hb dX9_ofRequest_16 (by decide) ?_
    refine lv_iconst (v := 3) hx hb dX9_ofRequest_17 (by decide) ?_
    obtain ⟨r18, u17, eu17, h⟩ := mb2_spec h
    refine mg_callS (As := [.int x2, .int 0, .int 3]) (rest := [.ref (q 0)]) ⟨hx, hb, hml, hown, hts⟩ (cM_in l D cI cZ q eu17) (va_cwS 3 hts gX9_ofRequest_X9_in rfl rfl rfl (by decide +kernel) ⟨Nat.le_of_ble_eq_true rfl, Nat.le_of_ble_eq_true rfl⟩) hK hI rfl hl.1 rfl (Nat.le_of_ble_eq_true rfl) dX9_ofRequest_18 ⟨Nat.le_refl _, Nat.le_refl _⟩ (fun H locs hI => ?_)
    refine lv_if_eq (tgt := 28) hx hb dX9_ofRequest_21 (by decide) (fun c19 => ?_) (fun c19 => ?_)
    · replace h := mpos c19 h
      refine lv_iconst (v := 2) hx hb dX9_ofRequest_28 (by decide) ?_
      exact w_M_ofRequest_29 C h hI (lv_sub hl [1, 2, 3] rfl)
    · replace h := mneg c19 h
      refine lv_iconst (v := 0) hx hb dX9_ofRequest_24 (by decide) ?_
      refine lv_goto (tgt := 29) hx hb dX9_ofRequest_25 (by decide) ?_
      exact w_M_ofRequest_29 C h hI (lv_sub hl [1, 2, 3] rfl)
  · replace h := mpos c16 h
    refine lv_iconst (v := 1) hx hb dX9_ofRequest_11 (by decide) ?_
    refine lv_goto (tgt := 29) hx hb dX9_ofRequest_12 (by decide) ?_
    exact w_M_ofRequest_29 C h hI (lv_sub hl [1, 2, 3] rfl)
set_option maxRecDepth 20000 in
theorem cM_ofRequest (l : Launch) (D : va_G) (cI cZ : ClassId) (q : Nat → Nat) {u uz : MS} {rz : Int32} {x1 x2 : Int32} (h : fM_ofRequest u x1 x2 = some (rz, uz)) : Met l yX9_ofRequest wsX9_ofRequest (mR 2 43) (va_Pc [.ref (q 0), .int x1, .int x2] (mPre D cI cZ q u)) (mQ D cI cZ q rz uz) 0 0 (mF q) := by
  refine Met.ofW (cc := cX9_ofRequest) (maxL := 4) (ret := (some .int)) (by decide) rfl ?_
  intro p e s m args below meth c s₁ B hml hv
  obtain ⟨rfl, hw, hK⟩ := hv
  have C : mC p s m _ meth c cX9_ofRequest (some .int) wsX9_ofRequest 4 D cI cZ := ⟨B.exec, B.bytes, B.returns, atoms_spec (ws := wsX9_ofRequest) B.pre, findClass_of_methodNamed B.named, B.notSynchronized, hml, hK⟩
  have hl := lv_entry ([.ref (q 0), .int x1, .int x2]) (n := 4) (Nat.le_of_ble_eq_true rfl)
  rw [lg_entry_eq]
  generalize (lg_sl ([.ref (q 0), .int x1, .int x2]) ++ List.replicate (4 - (lg_sl ([.ref (q 0), .int x1, .int x2])).length) Slot.unset).toArray = ls at hl ⊢
  have hl : lv_has ls 4 [(0, .ref (q 0)), (1, .int x1), (2, .int x2)] := hl
  exact w_M_ofRequest_0 C h ⟨hw, va_S.rf⟩ hl
theorem iM_permit : ∀ w ∈ wsX90, w ∈ wsX9_permit := by decide +kernel
def fM_permit_54 (u : MS) (y0 : Int32) : Option (Int32 × MS) :=
  some (y0, u)
set_option maxRecDepth 20000 in
theorem w_M_permit_54 (C : mC p s m args meth c cX9_permit (some .int) wsX9_permit 3 D cI cZ) {uz : MS} {rz : Int32} {u : MS} {y0 : Int32} (h : fM_permit_54 u y0 = some (rz, uz)) {H : Heap} {locs : List Loc} {ls : Array Slot} (hI : mI D cI cZ q u s H locs) (hl : lv_has ls 3 [(0, .ref (q 0))]) : W p l e (mR 2 43) s m args below meth c H locs 0 0 (MQ below (mQ D cI cZ q rz uz) args s 0 0 (mF q)) (F0 m 54 ls [.int y0]) := by
  obtain ⟨hx, hb, hr, hts, hown, hlocks, hml, hK⟩ := id C
  unfold fM_permit_54 at h
  cases h
  exact mg_reti hx hb hr hlocks hK hI dX9_permit_54
def fM_permit_22 (u : MS) (x1 x2 y0 : Int32) : Option (Int32 × MS) :=
  mb2 (fM_goesWell u y0) fun r2 u1 =>
  if r2 = 0 then
    some (0, u1)
  else
    mb2 (fM_hasPermit u1 x1 x2) fun r5 u4 =>
    if r5 = 0 then
      fM_permit_54 u4 ((-1))
    else
      (mld u4 23 ((8 * x1) + x2)).bind fun r7 =>
      fM_permit_54 u4 r7
set_option maxRecDepth 20000 in
theorem w_M_permit_22 (C : mC p s m args meth c cX9_permit (some .int) wsX9_permit 3 D cI cZ) {uz : MS} {rz : Int32} {u : MS} {x1 x2 y0 : Int32} (h : fM_permit_22 u x1 x2 y0 = some (rz, uz)) {H : Heap} {locs : List Loc} {ls : Array Slot} (hI : mI D cI cZ q u s H locs) (hl : lv_has ls 3 [(0, .ref (q 0)), (1, .int x1), (2, .int x2)]) : W p l e (mR 2 43) s m args below meth c H locs 0 0 (MQ below (mQ D cI cZ q rz uz) args s 0 0 (mF q)) (F0 m 22 ls [.int y0, .ref (q 0)]) := by
  obtain ⟨hx, hb, hr, hts, hown, hlocks, hml, hK⟩ := id C
  unfold fM_permit_22 at h
  obtain ⟨r2, u1, eu1, h⟩ := mb2_spec h
  refine mg_callV (As := [.int y0]) (rest := []) ⟨hx, hb, hml, hown, hts⟩ (cM_goesWell l D cI cZ q eu1) (cwV 1 hts gX9_permit_X9_goesWell rfl rfl rfl (by decide +kernel) ⟨Nat.le_of_ble_eq_true rfl, Nat.le_of_ble_eq_true rfl⟩) hK hI rfl hl.1 rfl (Nat.le_of_ble_eq_true rfl) dX9_permit_22 ⟨Nat.le_refl _, Nat.le_refl _⟩ (fun H locs hI => ?_)
  refine lv_if_ne (tgt := 30) hx hb dX9_permit_25 (by decide) (fun c3 => ?_) (fun c3 => ?_)
  · replace h := mneg c3 h
    refine lv_aload_n hx hb dX9_permit_30 rfl (lv_at hl 0 rfl) ?_
    refine lv_iload_n hx hb dX9_permit_31 rfl (lv_at hl 1 rfl) ?_
    refine lv_iload_n hx hb dX9_permit_32 rfl (lv_at hl 2 rfl) ?_
    obtain ⟨r5, u4, eu4, h⟩ := mb2_spec h
    refine mg_callV (As := [.int x1, .int x2]) (rest := []) ⟨hx, hb, hml, hown, hts⟩ (cM_hasPermit l D cI cZ q eu4) (cwV 2 hts gX9_permit_X9_hasPermit rfl rfl rfl (by decide +kernel) ⟨Nat.le_of_ble_eq_true rfl, Nat.le_of_ble_eq_true rfl⟩) hK hI rfl hl.1 rfl (Nat.le_of_ble_eq_true rfl) dX9_permit_33 ⟨Nat.le_refl _, Nat.le_refl _⟩ (fun H locs hI => ?_)
    refine lv_if_eq (tgt := 53) hx hb dX9_permit_36 (by decide) (fun c6 => ?_) (fun c6 => ?_)
    · replace h := mpos c6 h
      refine lv_iconst (v := -1) hx hb dX9_permit_53 (by decide) ?_
      exact w_M_permit_54 C h hI (lv_sub hl [0] rfl)
    · replace h := mneg c6 h
      refine lv_aload_n hx hb dX9_permit_39 rfl (lv_at hl 0 rfl) ?_
      refine mg_get hx hb hts iM_permit hown hK hI 23 (by decide) (hts (.fieldLink RX9 70 "PassageCourtModel" "permitTo" "[I") (by decide +kernel)) rfl dX9_permit_40 ?_
      refine lv_bipush (v := 8) hx hb dX9_permit_43 (by decide) ?_
      refine lv_iload_n hx hb dX9_permit_45 rfl (lv_at hl 1 rfl) ?_
      refine lv_imul hx hb dX9_permit_46 ?_
      refine lv_iload_n hx hb dX9_permit_47 rfl (lv_at hl 2 rfl) ?_
      refine lv_iadd hx hb dX9_permit_48 ?_
      obtain ⟨r7, er7, h⟩ := mbind h
      refine mg_ald hx hb hK hI 23 rfl (by decide) er7 dX9_permit_49 ?_
      refine lv_goto (tgt := 54) hx hb dX9_permit_50 (by decide) ?_
      exact w_M_permit_54 C h hI (lv_sub hl [0] rfl)
  · replace h := mpos c3 h
    refine lv_iconst (v := 0) hx hb dX9_permit_28 (by decide) ?_
    cases h
    exact mg_reti hx hb hr hlocks hK hI dX9_permit_29
def fM_permit_21 (u : MS) (x1 x2 : Int32) : Option (Int32 × MS) :=
  fM_permit_22 u x1 x2 1
set_option maxRecDepth 20000 in
theorem w_M_permit_21 (C : mC p s m args meth c cX9_permit (some .int) wsX9_permit 3 D cI cZ) {uz : MS} {rz : Int32} {u : MS} {x1 x2 : Int32} (h : fM_permit_21 u x1 x2 = some (rz, uz)) {H : Heap} {locs : List Loc} {ls : Array Slot} (hI : mI D cI cZ q u s H locs) (hl : lv_has ls 3 [(0, .ref (q 0)), (1, .int x1), (2, .int x2)]) : W p l e (mR 2 43) s m args below meth c H locs 0 0 (MQ below (mQ D cI cZ q rz uz) args s 0 0 (mF q)) (F0 m 21 ls [.ref (q 0)]) := by
  obtain ⟨hx, hb, hr, hts, hown, hlocks, hml, hK⟩ := id C
  unfold fM_permit_21 at h
  refine lv_iconst (v := 1) hx hb dX9_permit_21 (by decide) ?_
  exact w_M_permit_22 C h hI (lv_sub hl [0, 1, 2] rfl)
def fM_permit (u : MS) (x1 x2 : Int32) : Option (Int32 × MS) :=
  mb2 (fM_isPerson u x1) fun r9 u8 =>
  if r9 = 0 then
    fM_permit_21 u8 x1 x2
  else
    mb2 (fM_isLand u8 x2) fun r12 u11 =>
    if r12 = 0 then
      fM_permit_21 u11 x1 x2
    else
      fM_permit_22 u11 x1 x2 0
set_option maxRecDepth 20000 in
theorem w_M_permit_0 (C : mC p s m args meth c cX9_permit (some .int) wsX9_permit 3 D cI cZ) {uz : MS} {rz : Int32} {u : MS} {x1 x2 : Int32} (h : fM_permit u x1 x2 = some (rz, uz)) {H : Heap} {locs : List Loc} {ls : Array Slot} (hI : mI D cI cZ q u s H locs) (hl : lv_has ls 3 [(0, .ref (q 0)), (1, .int x1), (2, .int x2)]) : W p l e (mR 2 43) s m args below meth c H locs 0 0 (MQ below (mQ D cI cZ q rz uz) args s 0 0 (mF q)) (F0 m 0 ls []) := by
  obtain ⟨hx, hb, hr, hts, hown, hlocks, hml, hK⟩ := id C
  unfold fM_permit at h
  refine lv_aload_n hx hb dX9_permit_0 rfl (lv_at hl 0 rfl) ?_
  refine lv_aload_n hx hb dX9_permit_1 rfl (lv_at hl 0 rfl) ?_
  refine lv_iload_n hx hb dX9_permit_2 rfl (lv_at hl 1 rfl) ?_
  obtain ⟨r9, u8, eu8, h⟩ := mb2_spec h
  refine mg_callV (As := [.int x1]) (rest := [.ref (q 0)]) ⟨hx, hb, hml, hown, hts⟩ (cM_isPerson l D cI cZ q eu8) (cwV 1 hts gX9_permit_X9_isPerson rfl rfl rfl (by decide +kernel) ⟨Nat.le_of_ble_eq_true rfl, Nat.le_of_ble_eq_true rfl⟩) hK hI rfl hl.1 rfl (Nat.le_of_ble_eq_true rfl) dX9_permit_3 ⟨Nat.le_refl _, Nat.le_refl _⟩ (fun H locs hI => ?_)
  refine lv_if_eq (tgt := 21) hx hb dX9_permit_6 (by decide) (fun c10 => ?_) (fun c10 => ?_)
  · replace h := mpos c10 h
    exact w_M_permit_21 C h hI (lv_sub hl [0, 1, 2] rfl)
  · replace h := mneg c10 h
    refine lv_aload_n hx hb dX9_permit_9 rfl (lv_at hl 0 rfl) ?_
    refine lv_iload_n hx hb dX9_permit_10 rfl (lv_at hl 2 rfl) ?_
    obtain ⟨r12, u11, eu11, h⟩ := mb2_spec h
    refine mg_callV (As := [.int x2]) (rest := [.ref (q 0)]) ⟨hx, hb, hml, hown, hts⟩ (cM_isLand l D cI cZ q eu11) (cwV 1 hts gX9_permit_X9_isLand rfl rfl rfl (by decide +kernel) ⟨Nat.le_of_ble_eq_true rfl, Nat.le_of_ble_eq_true rfl⟩) hK hI rfl hl.1 rfl (Nat.le_of_ble_eq_true rfl) dX9_permit_11 ⟨Nat.le_refl _, Nat.le_refl _⟩ (fun H locs hI => ?_)
    refine lv_if_eq (tgt := 21) hx hb dX9_permit_14 (by decide) (fun c13 => ?_) (fun c13 => ?_)
    · replace h := mpos c13 h
      exact w_M_permit_21 C h hI (lv_sub hl [0, 1, 2] rfl)
    · replace h := mneg c13 h
      refine lv_iconst (v := 0) hx hb dX9_permit_17 (by decide) ?_
      refine lv_goto (tgt := 22) hx hb dX9_permit_18 (by decide) ?_
      exact w_M_permit_22 C h hI (lv_sub hl [0, 1, 2] rfl)
set_option maxRecDepth 20000 in
theorem cM_permit (l : Launch) (D : va_G) (cI cZ : ClassId) (q : Nat → Nat) {u uz : MS} {rz : Int32} {x1 x2 : Int32} (h : fM_permit u x1 x2 = some (rz, uz)) : Met l yX9_permit wsX9_permit (mR 2 43) (va_Pc [.ref (q 0), .int x1, .int x2] (mPre D cI cZ q u)) (mQ D cI cZ q rz uz) 0 0 (mF q) := by
  refine Met.ofW (cc := cX9_permit) (maxL := 3) (ret := (some .int)) (by decide) rfl ?_
  intro p e s m args below meth c s₁ B hml hv
  obtain ⟨rfl, hw, hK⟩ := hv
  have C : mC p s m _ meth c cX9_permit (some .int) wsX9_permit 3 D cI cZ := ⟨B.exec, B.bytes, B.returns, atoms_spec (ws := wsX9_permit) B.pre, findClass_of_methodNamed B.named, B.notSynchronized, hml, hK⟩
  have hl := lv_entry ([.ref (q 0), .int x1, .int x2]) (n := 3) (Nat.le_of_ble_eq_true rfl)
  rw [lg_entry_eq]
  generalize (lg_sl ([.ref (q 0), .int x1, .int x2]) ++ List.replicate (3 - (lg_sl ([.ref (q 0), .int x1, .int x2])).length) Slot.unset).toArray = ls at hl ⊢
  have hl : lv_has ls 3 [(0, .ref (q 0)), (1, .int x1), (2, .int x2)] := hl
  exact w_M_permit_0 C h ⟨hw, va_S.rf⟩ hl
end GM5
