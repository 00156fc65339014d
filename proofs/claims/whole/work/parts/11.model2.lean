section GM2
variable {p : Program} {l : Launch} {e : Env} {s : State} {m : MethodId} {args : Array Value} {below : List Frame} {meth : Method} {c : Code} {D : va_G} {cI cZ : ClassId} {q : Nat → Nat}
theorem iM_nation : ∀ w ∈ wsX90, w ∈ wsX9_nation := by decide +kernel
def fM_nation_64 (u : MS) (x1 y0 y1 : Int32) : Option (Int32 × MS) :=
  (mst u 15 y1 y0).bind fun u1 =>
  (mld u1 15 x1).bind fun r2 =>
  some (r2, u1)
set_option maxRecDepth 20000 in
theorem w_M_nation_64 (C : mC p s m args meth c cX9_nation (some .int) wsX9_nation 4 D cI cZ) {uz : MS} {rz : Int32} {u : MS} {x1 y0 y1 : Int32} (h : fM_nation_64 u x1 y0 y1 = some (rz, uz)) {H : Heap} {locs : List Loc} {ls : Array Slot} (hI : mI D cI cZ q u s H locs) (hl : lv_has ls 4 [(0, .ref (q 0)), (1, .int x1)]) : W p l e (mR 2 43) s m args below meth c H locs 0 0 (MQ below (mQ D cI cZ q rz uz) args s 0 0 (mF q)) (F0 m 64 ls [.int y0, .int y1, .ref (q 15)]) := by
  obtain ⟨hx, hb, hr, hts, hown, hlocks, hml, hK⟩ := id C
  unfold fM_nation_64 at h
  obtain ⟨u1, eu1, h⟩ := mbind h
  refine mg_ast hx hb hK hI 15 rfl (by decide) eu1 dX9_nation_64 (fun H locs hI => ?_)
  refine lv_aload_n hx hb dX9_nation_65 rfl (lv_at hl 0 rfl) ?_
  refine mg_get hx hb hts iM_nation hown hK hI 15 (by decide) (hts (.fieldLink RX9 45 "PassageCourtModel" "nations" "[I") (by decide +kernel)) rfl dX9_nation_66 ?_
  refine lv_iload_n hx hb dX9_nation_69 rfl (lv_at hl 1 rfl) ?_
  obtain ⟨r2, er2, h⟩ := mbind h
  refine mg_ald hx hb hK hI 15 rfl (by decide) er2 dX9_nation_70 ?_
  cases h
  exact mg_reti hx hb hr hlocks hK hI dX9_nation_71
def fM_nation_22 (u : MS) (x1 x2 x3 y0 : Int32) : Option (Int32 × MS) :=
  mb2 (fM_goesWell u y0) fun r4 u3 =>
  if r4 = 0 then
    some (0, u3)
  else
    if x3 = 0 then
      (mld u3 15 x1).bind fun r7 =>
      fM_nation_64 u3 x1 (r7 &&& ((1 <<< (x2 &&& 31)) ^^^ ((-1)))) x1
    else
      (mld u3 15 x1).bind fun r8 =>
      fM_nation_64 u3 x1 (r8 ||| (1 <<< (x2 &&& 31))) x1
set_option maxRecDepth 20000 in
theorem w_M_nation_22 (C : mC p s m args meth c cX9_nation (some .int) wsX9_nation 4 D cI cZ) {uz : MS} {rz : Int32} {u : MS} {x1 x2 x3 y0 : Int32} (h : fM_nation_22 u x1 x2 x3 y0 = some (rz, uz)) {H : Heap} {locs : List Loc} {ls : Array Slot} (hI : mI D cI cZ q u s H locs) (hl : lv_has ls 4 [(0, .ref (q 0)), (1, .int x1), (2, .int x2), (3, .int x3)]) : W p l e (mR 2 43) s m args below meth c H locs 0 0 (MQ below (mQ D cI cZ q rz uz) args s 0 0 (mF q)) (F0 m 22 ls [.int y0, .ref (q 0)]) := by
  obtain ⟨hx, hb, hr, hts, hown, hlocks, hml, hK⟩ := id C
  unfold fM_nation_22 at h
  obtain ⟨r4, u3, eu3, h⟩ := mb2_spec h
  refine mg_callV (As := [.int y0]) (rest := []) ⟨hx, hb, hml, hown, hts⟩ (cM_goesWell l D cI cZ q eu3) (cwV 1 hts gX9_nation_X9_goesWell rfl rfl rfl (by decide +kernel) ⟨Nat.le_of_ble_eq_true rfl, Nat.le_of_ble_eq_true rfl⟩) hK hI rfl hl.1 rfl (Nat.le_of_ble_eq_true rfl) dX9_nation_22 ⟨Nat.le_refl _, Nat.le_refl _⟩ (fun H locs hI => ?_)
  refine lv_if_ne (tgt := 30) hx hb dX9_nation_25 (by decide) (fun c5 => ?_) (fun c5 => ?_)
  · replace h := mneg c5 h
    refine lv_aload_n hx hb dX9_nation_30 rfl (lv_at hl 0 rfl) ?_
    refine mg_get hx hb hts iM_nation hown hK hI 15 (by decide) (hts (.fieldLink RX9 45 "PassageCourtModel" "nations" "[I") (by decide +kernel)) rfl dX9_nation_31 ?_
    refine lv_iload_n hx hb dX9_nation_34 rfl (lv_at hl 1 rfl) ?_
    refine lv_iload_n hx hb dX9_nation_35 rfl (lv_at hl 3 rfl) ?_
    refine lv_if_eq (tgt := 52) hx hb dX9_nation_36 (by decide) (fun c6 => ?_) (fun c6 => ?_)
    · replace h := mpos c6 h
      refine lv_aload_n hx hb dX9_nation_52 rfl (lv_at hl 0 rfl) ?_
      refine mg_get hx hb hts iM_nation hown hK hI 15 (by decide) (hts (.fieldLink RX9 45 "PassageCourtModel" "nations" "[I") (by decide +kernel)) rfl dX9_nation_53 ?_
      refine lv_iload_n hx hb dX9_nation_56 rfl (lv_at hl 1 rfl) ?_
      obtain ⟨r7, er7, h⟩ := mbind h
      refine mg_ald hx hb hK hI 15 rfl (by decide) er7 dX9_nation_57 ?_
      refine lv_iconst (v := 1) hx hb dX9_nation_58 (by decide) ?_
      refine lv_iload_n hx hb dX9_nation_59 rfl (lv_at hl 2 rfl) ?_
      refine lv_ishl hx hb dX9_nation_60 ?_
      refine lv_iconst (v := -1) hx hb dX9_nation_61 (by decide) ?_
      refine lv_ixor hx hb dX9_nation_62 ?_
      refine lv_iand hx hb dX9_nation_63 ?_
      exact w_M_nation_64 C h hI (lv_sub hl [0, 1] rfl)
    · replace h := mneg c6 h
      refine lv_aload_n hx hb dX9_nation_39 rfl (lv_at hl 0 rfl) ?_
      refine mg_get hx hb hts iM_nation hown hK hI 15 (by decide) (hts (.fieldLink RX9 45 "PassageCourtModel" "nations" "[I") (by decide +kernel)) rfl dX9_nation_40 ?_
      refine lv_iload_n hx hb dX9_nation_43 rfl (lv_at hl 1 rfl) ?_
      obtain ⟨r8, er8, h⟩ := mbind h
      refine mg_ald hx hb hK hI 15 rfl (by decide) er8 dX9_nation_44 ?_
      refine lv_iconst (v := 1) hx hb dX9_nation_45 (by decide) ?_
      refine lv_iload_n hx hb dX9_nation_46 rfl (lv_at hl 2 rfl) ?_
      refine lv_ishl hx hb dX9_nation_47 ?_
      refine lv_ior hx hb dX9_nation_48 ?_
      refine lv_goto (tgt := 64) hx hb dX9_nation_49 (by decide) ?_
      exact w_M_nation_64 C h hI (lv_sub hl [0, 1] rfl)
  · replace h := mpos c5 h
    refine lv_iconst (v := 0) hx hb dX9_nation_28 (by decide) ?_
    cases h
    exact mg_reti hx hb hr hlocks hK hI dX9_nation_29
def fM_nation_21 (u : MS) (x1 x2 x3 : Int32) : Option (Int32 × MS) :=
  fM_nation_22 u x1 x2 x3 1
set_option maxRecDepth 20000 in
theorem w_M_nation_21 (C : mC p s m args meth c cX9_nation (some .int) wsX9_nation 4 D cI cZ) {uz : MS} {rz : Int32} {u : MS} {x1 x2 x3 : Int32} (h : fM_nation_21 u x1 x2 x3 = some (rz, uz)) {H : Heap} {locs : List Loc} {ls : Array Slot} (hI : mI D cI cZ q u s H locs) (hl : lv_has ls 4 [(0, .ref (q 0)), (1, .int x1), (2, .int x2), (3, .int x3)]) : W p l e (mR 2 43) s m args below meth c H locs 0 0 (MQ below (mQ D cI cZ q rz uz) args s 0 0 (mF q)) (F0 m 21 ls [.ref (q 0)]) := by
  obtain ⟨hx, hb, hr, hts, hown, hlocks, hml, hK⟩ := id C
  unfold fM_nation_21 at h
  refine lv_iconst (v := 1) hx hb dX9_nation_21 (by decide) ?_
  exact w_M_nation_22 C h hI (lv_sub hl [0, 1, 2, 3] rfl)
def fM_nation (u : MS) (x1 x2 x3 : Int32) : Option (Int32 × MS) :=
  mb2 (fM_isPerson u x1) fun r10 u9 =>
  if r10 = 0 then
    fM_nation_21 u9 x1 x2 x3
  else
    mb2 (fM_isLand u9 x2) fun r13 u12 =>
    if r13 = 0 then
      fM_nation_21 u12 x1 x2 x3
    else
      fM_nation_22 u12 x1 x2 x3 0
set_option maxRecDepth 20000 in
theorem w_M_nation_0 (C : mC p s m args meth c cX9_nation (some .int) wsX9_nation 4 D cI cZ) {uz : MS} {rz : Int32} {u : MS} {x1 x2 x3 : Int32} (h : fM_nation u x1 x2 x3 = some (rz, uz)) {H : Heap} {locs : List Loc} {ls : Array Slot} (hI : mI D cI cZ q u s H locs) (hl : lv_has ls 4 [(0, .ref (q 0)), (1, .int x1), (2, .int x2), (3, .int x3)]) : W p l e (mR 2 43) s m args below meth c H locs 0 0 (MQ below (mQ D cI cZ q rz uz) args s 0 0 (mF q)) (F0 m 0 ls []) := by
  obtain ⟨hx, hb, hr, hts, hown, hlocks, hml, hK⟩ := id C
  unfold fM_nation at h
  refine lv_aload_n hx hb dX9_nation_0 rfl (lv_at hl 0 rfl) ?_
  refine lv_aload_n hx hb dX9_nation_1 rfl (lv_at hl 0 rfl) ?_
  refine lv_iload_n hx hb dX9_nation_2 rfl (lv_at hl 1 rfl) ?_
  obtain ⟨r10, u9, eu9, h⟩ := mb2_spec h
  refine mg_callV (As := [.int x1]) (rest := [.ref (q 0)]) ⟨hx, hb, hml, hown, hts⟩ (cM_isPerson l D cI cZ q eu9) (cwV 1 hts gX9_nation_X9_isPerson rfl rfl rfl (by decide +kernel) ⟨Nat.le_of_ble_eq_true rfl, Nat.le_of_ble_eq_true rfl⟩) hK hI rfl hl.1 rfl (Nat.le_of_ble_eq_true rfl) dX9_nation_3 ⟨Nat.le_refl _, Nat.le_refl _⟩ (fun H locs hI => ?_)
  refine lv_if_eq (tgt := 21) hx hb dX9_nation_6 (by decide) (fun c11 => ?_) (fun c11 => ?_)
  · replace h := mpos c11 h
    exact w_M_nation_21 C h hI (lv_sub hl [0, 1, 2, 3] rfl)
  · replace h := mneg c11 h
    refine lv_aload_n hx hb dX9_nation_9 rfl (lv_at hl 0 rfl) ?_
    refine lv_iload_n hx hb dX9_nation_10 rfl (lv_at hl 2 rfl) ?_
    obtain ⟨r13, u12, eu12, h⟩ := mb2_spec h
    refine mg_callV (As := [.int x2]) (rest := [.ref (q 0)]) ⟨hx, hb, hml, hown, hts⟩ (cM_isLand l D cI cZ q eu12) (cwV 1 hts gX9_nation_X9_isLand rfl rfl rfl (by decide +kernel) ⟨Nat.le_of_ble_eq_true rfl, Nat.le_of_ble_eq_true rfl⟩) hK hI rfl hl.1 rfl (Nat.le_of_ble_eq_true rfl) dX9_nation_11 ⟨Nat.le_refl _, Nat.le_refl _⟩ (fun H locs hI => ?_)
    refine lv_if_eq (tgt := 21) hx hb dX9_nation_14 (by decide) (fun c14 => ?_) (fun c14 => ?_)
    · replace h := mpos c14 h
      exact w_M_nation_21 C h hI (lv_sub hl [0, 1, 2, 3] rfl)
    · replace h := mneg c14 h
      refine lv_iconst (v := 0) hx hb dX9_nation_17 (by decide) ?_
      refine lv_goto (tgt := 22) hx hb dX9_nation_18 (by decide) ?_
      exact w_M_nation_22 C h hI (lv_sub hl [0, 1, 2, 3] rfl)
set_option maxRecDepth 20000 in
theorem cM_nation (l : Launch) (D : va_G) (cI cZ : ClassId) (q : Nat → Nat) {u uz : MS} {rz : Int32} {x1 x2 x3 : Int32} (h : fM_nation u x1 x2 x3 = some (rz, uz)) : Met l yX9_nation wsX9_nation (mR 2 43) (va_Pc [.ref (q 0), .int x1, .int x2, .int x3] (mPre D cI cZ q u)) (mQ D cI cZ q rz uz) 0 0 (mF q) := by
  refine Met.ofW (cc := cX9_nation) (maxL := 4) (ret := (some .int)) (by decide) rfl ?_
  intro p e s m args below meth c s₁ B hml hv
  obtain ⟨rfl, hw, hK⟩ := hv
  have C : mC p s m _ meth c cX9_nation (some .int) wsX9_nation 4 D cI cZ := ⟨B.exec, B.bytes, B.returns, atoms_spec (ws := wsX9_nation) B.pre, findClass_of_methodNamed B.named, B.notSynchronized, hml, hK⟩
  have hl := lv_entry ([.ref (q 0), .int x1, .int x2, .int x3]) (n := 4) (Nat.le_of_ble_eq_true rfl)
  rw [lg_entry_eq]
  generalize (lg_sl ([.ref (q 0), .int x1, .int x2, .int x3]) ++ List.replicate (4 - (lg_sl ([.ref (q 0), .int x1, .int x2, .int x3])).length) Slot.unset).toArray = ls at hl ⊢
  have hl : lv_has ls 4 [(0, .ref (q 0)), (1, .int x1), (2, .int x2), (3, .int x3)] := hl
  exact w_M_nation_0 C h ⟨hw, va_S.rf⟩ hl
theorem iM_visa : ∀ w ∈ wsX90, w ∈ wsX9_visa := by decide +kernel
def fM_visa_111 (u : MS) (x1 x2 x3 x4 x5 x6 y0 : Int32) : Option (Int32 × MS) :=
  mb2 (fM_goesWell u y0) fun r2 u1 =>
  if r2 = 0 then
    some (0, u1)
  else
    (mst u1 29 (u1 28 0) x1).bind fun u4 =>
    (mst u4 30 (u4 28 0) x2).bind fun u5 =>
    (mst u5 31 (u5 28 0) x3).bind fun u6 =>
    (mst u6 32 (u6 28 0) x4).bind fun u7 =>
    (mst u7 33 (u7 28 0) x5).bind fun u8 =>
    (mst u8 34 (u8 28 0) x6).bind fun u9 =>
    (mst u9 35 (u9 28 0) ((-1))).bind fun u10 =>
    (some (mup u10 28 0 ((u10 28 0) + 1))).bind fun u11 =>
    some ((u11 28 0) - 1, u11)
set_option maxRecDepth 20000 in
theorem w_M_visa_111 (C : mC p s m args meth c cX9_visa (some .int) wsX9_visa 9 D cI cZ) {uz : MS} {rz : Int32} {u : MS} {x1 x2 x3 x4 x5 x6 y0 : Int32} (h : fM_visa_111 u x1 x2 x3 x4 x5 x6 y0 = some (rz, uz)) {H : Heap} {locs : List Loc} {ls : Array Slot} (hI : mI D cI cZ q u s H locs) (hl : lv_has ls 9 [(0, .ref (q 0)), (1, .int x1), (2, .int x2), (3, .int x3), (4, .int x4), (5, .int x5), (6, .int x6)]) : W p l e (mR 2 43) s m args below meth c H locs 0 0 (MQ below (mQ D cI cZ q rz uz) args s 0 0 (mF q)) (F0 m 111 ls [.int y0, .ref (q 0)]) := by
  obtain ⟨hx, hb, hr, hts, hown, hlocks, hml, hK⟩ := id C
  unfold fM_visa_111 at h
  obtain ⟨r2, u1, eu1, h⟩ := mb2_spec h
  refine mg_callV (As := [.int y0]) (rest := []) ⟨hx, hb, hml, hown, hts⟩ (cM_goesWell l D cI cZ q eu1) (cwV 1 hts gX9_visa_X9_goesWell rfl rfl rfl (by decide +kernel) ⟨Nat.le_of_ble_eq_true rfl, Nat.le_of_ble_eq_true rfl⟩) hK hI rfl hl.1 rfl (Nat.le_of_ble_eq_true rfl) dX9_visa_111 ⟨Nat.le_refl _, Nat.le_refl _⟩ (fun H locs hI => ?_)
  refine lv_if_ne (tgt := 119) hx hb dX9_visa_114 (by decide) (fun c3 => ?_) (fun c3 => ?_)
  · replace h := mneg c3 h
    refine lv_aload_n hx hb dX9_visa_119 rfl (lv_at hl 0 rfl) ?_
    refine mg_get hx hb hts iM_visa hown hK hI 29 (by decide) (hts (.fieldLink RX9 85 "PassageCourtModel" "visaOf" "[I") (by decide +kernel)) rfl dX9_visa_120 ?_
    refine lv_aload_n hx hb dX9_visa_123 rfl (lv_at hl 0 rfl) ?_
    refine mg_get hx hb hts iM_visa hown hK hI 28 (by decide) (hts (.fieldLink RX9 177 "PassageCourtModel" "visas" "I") (by decide +kernel)) rfl dX9_visa_124 ?_
    refine lv_iload_n hx hb dX9_visa_127 rfl (lv_at hl 1 rfl) ?_
    obtain ⟨u4, eu4, h⟩ := mbind h
    refine mg_ast hx hb hK hI 29 rfl (by decide) eu4 dX9_visa_128 (fun H locs hI => ?_)
    refine lv_aload_n hx hb dX9_visa_129 rfl (lv_at hl 0 rfl) ?_
    refine mg_get hx hb hts iM_visa hown hK hI 30 (by decide) (hts (.fieldLink RX9 88 "PassageCourtModel" "visaLand" "[I") (by decide +kernel)) rfl dX9_visa_130 ?_
    refine lv_aload_n hx hb dX9_visa_133 rfl (lv_at hl 0 rfl) ?_
    refine mg_get hx hb hts iM_visa hown hK hI 28 (by decide) (hts (.fieldLink RX9 177 "PassageCourtModel" "visas" "I") (by decide +kernel)) rfl dX9_visa_134 ?_
    refine lv_iload_n hx hb dX9_visa_137 rfl (lv_at hl 2 rfl) ?_
    obtain ⟨u5, eu5, h⟩ := mbind h
    refine mg_ast hx hb hK hI 30 rfl (by decide) eu5 dX9_visa_138 (fun H locs hI => ?_)
    refine lv_aload_n hx hb dX9_visa_139 rfl (lv_at hl 0 rfl) ?_
    refine mg_get hx hb hts iM_visa hown hK hI 31 (by decide) (hts (.fieldLink RX9 91 "PassageCourtModel" "visaFirst" "[I") (by decide +kernel)) rfl dX9_visa_140 ?_
    refine lv_aload_n hx hb dX9_visa_143 rfl (lv_at hl 0 rfl) ?_
    refine mg_get hx hb hts iM_visa hown hK hI 28 (by decide) (hts (.fieldLink RX9 177 "PassageCourtModel" "visas" "I") (by decide +kernel)) rfl dX9_visa_144 ?_
    refine lv_iload_n hx hb dX9_visa_147 rfl (lv_at hl 3 rfl) ?_
    obtain ⟨u6, eu6, h⟩ := mbind h
    refine mg_ast hx hb hK hI 31 rfl (by decide) eu6 dX9_visa_148 (fun H locs hI => ?_)
    refine lv_aload_n hx hb dX9_visa_149 rfl (lv_at hl 0 rfl) ?_
    refine mg_get hx hb hts iM_visa hown hK hI 32 (by decide) (hts (.fieldLink RX9 94 "PassageCourtModel" "visaLast" "[I") (by decide +kernel)) rfl dX9_visa_150 ?_
    refine lv_aload_n hx hb dX9_visa_153 rfl (lv_at hl 0 rfl) ?_
    refine mg_get hx hb hts iM_visa hown hK hI 28 (by decide) (hts (.fieldLink RX9 177 "PassageCourtModel" "visas" "I") (by decide +kernel)) rfl dX9_visa_154 ?_
    refine lv_iload hx hb dX9_visa_157 (lv_at hl 4 rfl) ?_
    obtain ⟨u7, eu7, h⟩ := mbind h
    refine mg_ast hx hb hK hI 32 rfl (by decide) eu7 dX9_visa_159 (fun H locs hI => ?_)
    refine lv_aload_n hx hb dX9_visa_160 rfl (lv_at hl 0 rfl) ?_
    refine mg_get hx hb hts iM_visa hown hK hI 33 (by decide) (hts (.fieldLink RX9 97 "PassageCourtModel" "entries" "[I") (by decide +kernel)) rfl dX9_visa_161 ?_
    refine lv_aload_n hx hb dX9_visa_164 rfl (lv_at hl 0 rfl) ?_
    refine mg_get hx hb hts iM_visa hown hK hI 28 (by decide) (hts (.fieldLink RX9 177 "PassageCourtModel" "visas" "I") (by decide +kernel)) rfl dX9_visa_165 ?_
    refine lv_iload hx hb dX9_visa_168 (lv_at hl 5 rfl) ?_
    obtain ⟨u8, eu8, h⟩ := mbind h
    refine mg_ast hx hb hK hI 33 rfl (by decide) eu8 dX9_visa_170 (fun H locs hI => ?_)
    refine lv_aload_n hx hb dX9_visa_171 rfl (lv_at hl 0 rfl) ?_
    refine mg_get hx hb hts iM_visa hown hK hI 34 (by decide) (hts (.fieldLink RX9 100 "PassageCourtModel" "daysLeft" "[I") (by decide +kernel)) rfl dX9_visa_172 ?_
    refine lv_aload_n hx hb dX9_visa_175 rfl (lv_at hl 0 rfl) ?_
    refine mg_get hx hb hts iM_visa hown hK hI 28 (by decide) (hts (.fieldLink RX9 177 "PassageCourtModel" "visas" "I") (by decide +kernel)) rfl dX9_visa_176 ?_
    refine lv_iload hx hb dX9_visa_179 (lv_at hl 6 rfl) ?_
    obtain ⟨u9, eu9, h⟩ := mbind h
    refine mg_ast hx hb hK hI 34 rfl (by decide) eu9 dX9_visa_181 (fun H locs hI => ?_)
    refine lv_aload_n hx hb dX9_visa_182 rfl (lv_at hl 0 rfl) ?_
    refine mg_get hx hb hts iM_visa hown hK hI 35 (by decide) (hts (.fieldLink RX9 103 "PassageCourtModel" "counted" "[I") (by decide +kernel)) rfl dX9_visa_183 ?_
    refine lv_aload_n hx hb dX9_visa_186 rfl (lv_at hl 0 rfl) ?_
    refine mg_get hx hb hts iM_visa hown hK hI 28 (by decide) (hts (.fieldLink RX9 177 "PassageCourtModel" "visas" "I") (by decide +kernel)) rfl dX9_visa_187 ?_
    refine lv_iconst (v := -1) hx hb dX9_visa_190 (by decide) ?_
    obtain ⟨u10, eu10, h⟩ := mbind h
    refine mg_ast hx hb hK hI 35 rfl (by decide) eu10 dX9_visa_191 (fun H locs hI => ?_)
    refine lv_aload_n hx hb dX9_visa_192 rfl (lv_at hl 0 rfl) ?_
    refine lv_dup hx hb dX9_visa_193 rfl ?_
    refine mg_get hx hb hts iM_visa hown hK hI 28 (by decide) (hts (.fieldLink RX9 177 "PassageCourtModel" "visas" "I") (by decide +kernel)) rfl dX9_visa_194 ?_
    refine lv_iconst (v := 1) hx hb dX9_visa_197 (by decide) ?_
    refine lv_iadd hx hb dX9_visa_198 ?_
    obtain ⟨u11, eu11, h⟩ := mbind h
    refine mg_put hx hb hts iM_visa hown hK hI 28 (by decide) (hts (.fieldLink RX9 177 "PassageCourtModel" "visas" "I") (by decide +kernel)) rfl (by decide +kernel) rfl rfl dX9_visa_199 (fun H locs hI => ?_)
    have eu11 := Option.some.inj eu11
    rw [eu11] at hI
    refine lv_aload_n hx hb dX9_visa_202 rfl (lv_at hl 0 rfl) ?_
    refine mg_get hx hb hts iM_visa hown hK hI 28 (by decide) (hts (.fieldLink RX9 177 "PassageCourtModel" "visas" "I") (by decide +kernel)) rfl dX9_visa_203 ?_
    refine lv_iconst (v := 1) hx hb dX9_visa_206 (by decide) ?_
    refine lv_isub hx hb dX9_visa_207 ?_
    cases h
    exact mg_reti hx hb hr hlocks hK hI dX9_visa_208
  · replace h := mpos c3 h
    refine lv_iconst (v := 0) hx hb dX9_visa_117 (by decide) ?_
    cases h
    exact mg_reti hx hb hr hlocks hK hI dX9_visa_118
def fM_visa_76 (u : MS) (x1 x2 x3 x4 x5 x6 x7 y0 : Int32) : Option (Int32 × MS) :=
  if x7 = 0 then
    fM_visa_111 u x1 x2 x3 x4 x5 x6 1
  else
    if y0 = 0 then
      fM_visa_111 u x1 x2 x3 x4 x5 x6 2
    else
      if (u 28 0) = 60 then
        fM_visa_111 u x1 x2 x3 x4 x5 x6 3
      else
        fM_visa_111 u x1 x2 x3 x4 x5 x6 0
set_option maxRecDepth 20000 in
theorem w_M_visa_76 (C : mC p s m args meth c cX9_visa (some .int) wsX9_visa 9 D cI cZ) {uz : MS} {rz : Int32} {u : MS} {x1 x2 x3 x4 x5 x6 x7 y0 : Int32} (h : fM_visa_76 u x1 x2 x3 x4 x5 x6 x7 y0 = some (rz, uz)) {H : Heap} {locs : List Loc} {ls : Array Slot} (hI : mI D cI cZ q u s H locs) (hl : lv_has ls 9 [(0, .ref (q 0)), (1, .int x1), (2, .int x2), (3, .int x3), (4, .int x4), (5, .int x5), (6, .int x6), (7, .int x7)]) : W p l e (mR 2 43) s m args below meth c H locs 0 0 (MQ below (mQ D cI cZ q rz uz) args s 0 0 (mF q)) (F0 m 76 ls [.int y0]) := by
  obtain ⟨hx, hb, hr, hts, hown, hlocks, hml, hK⟩ := id C
  unfold fM_visa_76 at h
  refine lv_istore (lv' := [(8, .int y0), (0, .ref (q 0)), (1, .int x1), (2, .int x2), (3, .int x3), (4, .int x4), (5, .int x5), (6, .int x6), (7, .int x7)]) hx hb dX9_visa_76 hl (by decide) rfl (fun ls hl => ?_)
  refine lv_aload_n hx hb dX9_visa_78 rfl (lv_at hl 1 rfl) ?_
  refine lv_iload hx hb dX9_visa_79 (lv_at hl 8 rfl) ?_
  refine lv_if_ne (tgt := 88) hx hb dX9_visa_81 (by decide) (fun c12 => ?_) (fun c12 => ?_)
  · replace h := mneg c12 h
    refine lv_iload hx hb dX9_visa_88 (lv_at hl 0 rfl) ?_
    refine lv_if_ne (tgt := 97) hx hb dX9_visa_90 (by decide) (fun c13 => ?_) (fun c13 => ?_)
    · replace h := mneg c13 h
      refine lv_aload_n hx hb dX9_visa_97 rfl (lv_at hl 1 rfl) ?_
      refine mg_get hx hb hts iM_visa hown hK hI 28 (by decide) (hts (.fieldLink RX9 177 "PassageCourtModel" "visas" "I") (by decide +kernel)) rfl dX9_visa_98 ?_
      refine lv_bipush (v := 60) hx hb dX9_visa_101 (by decide) ?_
      refine lv_icmp_ne (tgt := 110) hx hb dX9_visa_103 (by decide) (fun c14 => ?_) (fun c14 => ?_)
      · replace h := mneg c14 h
        refine lv_iconst (v := 0) hx hb dX9_visa_110 (by decide) ?_
        exact w_M_visa_111 C h hI (lv_sub hl [1, 2, 3, 4, 5, 6, 7] rfl)
      · replace h := mpos c14 h
        refine lv_iconst (v := 3) hx hb dX9_visa_106 (by decide) ?_
        refine lv_goto (tgt := 111) hx hb dX9_visa_107 (by decide) ?_
        exact w_M_visa_111 C h hI (lv_sub hl [1, 2, 3, 4, 5, 6, 7] rfl)
    · replace h := mpos c13 h
      refine lv_iconst (v := 2) hx hb dX9_visa_93 (by decide) ?_
      refine lv_goto (tgt := 111) hx hb dX9_visa_94 (by decide) ?_
      exact w_M_visa_111 C h hI (lv_sub hl [1, 2, 3, 4, 5, 6, 7] rfl)
  · replace h := mpos c12 h
    refine lv_iconst (v := 1) hx hb dX9_visa_84 (by decide) ?_
    refine lv_goto (tgt := 111) hx hb dX9_visa_85 (by decide) ?_
    exact w_M_visa_111 C h hI (lv_sub hl [1, 2, 3, 4, 5, 6, 7] rfl)
def fM_visa_75 (u : MS) (x1 x2 x3 x4 x5 x6 x7 : Int32) : Option (Int32 × MS) :=
  fM_visa_76 u x1 x2 x3 x4 x5 x6 x7 0
set_option maxRecDepth 20000 in
theorem w_M_visa_75 (C : mC p s m args meth c cX9_visa (some .int) wsX9_visa 9 D cI cZ) {uz : MS} {rz : Int32} {u : MS} {x1 x2 x3 x4 x5 x6 x7 : Int32} (h : fM_visa_75 u x1 x2 x3 x4 x5 x6 x7 = some (rz, uz)) {H : Heap} {locs : List Loc} {ls : Array Slot} (hI : mI D cI cZ q u s H locs) (hl : lv_has ls 9 [(0, .ref (q 0)), (1, .int x1), (2, .int x2), (3, .int x3), (4, .int x4), (5, .int x5), (6, .int x6), (7, .int x7)]) : W p l e (mR 2 43) s m args below meth c H locs 0 0 (MQ below (mQ D cI cZ q rz uz) args s 0 0 (mF q)) (F0 m 75 ls []) := by
  obtain ⟨hx, hb, hr, hts, hown, hlocks, hml, hK⟩ := id C
  unfold fM_visa_75 at h
  refine lv_iconst (v := 0) hx hb dX9_visa_75 (by decide) ?_
  exact w_M_visa_76 C h hI (lv_sub hl [0, 1, 2, 3, 4, 5, 6, 7] rfl)
def fM_visa_21 (u : MS) (x1 x2 x3 x4 x5 x6 y0 : Int32) : Option (Int32 × MS) :=
  mb2 (fM_in u x3 (u 1 0) 3600) fun r16 u15 =>
  if r16 = 0 then
    fM_visa_75 u15 x1 x2 x3 x4 x5 x6 y0
  else
    mb2 (fM_in u15 x4 x3 3600) fun r19 u18 =>
    if r19 = 0 then
      fM_visa_75 u18 x1 x2 x3 x4 x5 x6 y0
    else
      mb2 (fM_in u18 x5 1 9) fun r22 u21 =>
      if r22 = 0 then
        fM_visa_75 u21 x1 x2 x3 x4 x5 x6 y0
      else
        mb2 (fM_in u21 x6 1 90) fun r25 u24 =>
        if r25 = 0 then
          fM_visa_75 u24 x1 x2 x3 x4 x5 x6 y0
        else
          fM_visa_76 u24 x1 x2 x3 x4 x5 x6 y0 1
set_option maxRecDepth 20000 in
theorem w_M_visa_21 (C : mC p s m args meth c cX9_visa (some .int) wsX9_visa 9 D cI cZ) {uz : MS} {rz : Int32} {u : MS} {x1 x2 x3 x4 x5 x6 y0 : Int32} (h : fM_visa_21 u x1 x2 x3 x4 x5 x6 y0 = some (rz, uz)) {H : Heap} {locs : List Loc} {ls : Array Slot} (hI : mI D cI cZ q u s H locs) (hl : lv_has ls 9 [(0, .ref (q 0)), (1, .int x1), (2, .int x2), (3, .int x3), (4, .int x4), (5, .int x5), (6, .int x6)]) : W p l e (mR 2 43) s m args below meth c H locs 0 0 (MQ below (mQ D cI cZ q rz uz) args s 0 0 (mF q)) (F0 m 21 ls [.int y0]) := by
  obtain ⟨hx, hb, hr, hts, hown, hlocks, hml, hK⟩ := id C
  unfold fM_visa_21 at h
  refine lv_istore (lv' := [(7, .int y0), (0, .ref (q 0)), (1, .int x1), (2, .int x2), (3, .int x3), (4, .int x4), (5, .int x5), (6, .int x6)]) hx hb dX9_visa_21 hl (by decide) rfl (fun ls hl => ?_)
  refine lv_iload_n hx hb dX9_visa_23 rfl (lv_at hl 4 rfl) ?_
  refine lv_aload_n hx hb dX9_visa_24 rfl (lv_at hl 1 rfl) ?_
  refine mg_get hx hb hts iM_visa hown hK hI 1 (by decide) (hts (.fieldLink RX9 153 "PassageCourtModel" "today" "I") (by decide +kernel)) rfl dX9_visa_25 ?_
  refine lv_sipush (v := 3600) hx hb dX9_visa_28 (by decide) ?_
  obtain ⟨r16, u15, eu15, h⟩ := mb2_spec h
  refine mg_callS (As := [.int x3, .int (u 1 0), .int 3600]) (rest := []) ⟨hx, hb, hml, hown, hts⟩ (cM_in l D cI cZ q eu15) (va_cwS 3 hts gX9_visa_X9_in rfl rfl rfl (by decide +kernel) ⟨Nat.le_of_ble_eq_true rfl, Nat.le_of_ble_eq_true rfl⟩) hK hI rfl hl.1 rfl (Nat.le_of_ble_eq_true rfl) dX9_visa_31 ⟨Nat.le_refl _, Nat.le_refl _⟩ (fun H locs hI => ?_)
  refine lv_if_eq (tgt := 75) hx hb dX9_visa_34 (by decide) (fun c17 => ?_) (fun c17 => ?_)
  · replace h := mpos c17 h
    exact w_M_visa_75 C h hI (lv_sub hl [1, 2, 3, 4, 5, 6, 7, 0] rfl)
  · replace h := mneg c17 h
    refine lv_iload hx hb dX9_visa_37 (lv_at hl 5 rfl) ?_
    refine lv_iload_n hx hb dX9_visa_39 rfl (lv_at hl 4 rfl) ?_
    refine lv_sipush (v := 3600) hx hb dX9_visa_40 (by decide) ?_
    obtain ⟨r19, u18, eu18, h⟩ := mb2_spec h
    refine mg_callS (As := [.int x4, .int x3, .int 3600]) (rest := []) ⟨hx, hb, hml, hown, hts⟩ (cM_in l D cI cZ q eu18) (va_cwS 3 hts gX9_visa_X9_in rfl rfl rfl (by decide +kernel) ⟨Nat.le_of_ble_eq_true rfl, Nat.le_of_ble_eq_true rfl⟩) hK hI rfl hl.1 rfl (Nat.le_of_ble_eq_true rfl) dX9_visa_43 ⟨Nat.le_refl _, Nat.le_refl _⟩ (fun H locs hI => ?_)
    refine lv_if_eq (tgt := 75) hx hb dX9_visa_46 (by decide) (fun c20 => ?_) (fun c20 => ?_)
    · replace h := mpos c20 h
      exact w_M_visa_75 C h hI (lv_sub hl [1, 2, 3, 4, 5, 6, 7, 0] rfl)
    · replace h := mneg c20 h
      refine lv_iload hx hb dX9_visa_49 (lv_at hl 6 rfl) ?_
      refine lv_iconst (v := 1) hx hb dX9_visa_51 (by decide) ?_
      refine lv_bipush (v := 9) hx hb dX9_visa_52 (by decide) ?_
      obtain ⟨r22, u21, eu21, h⟩ := mb2_spec h
      refine mg_callS (As := [.int x5, .int 1, .int 9]) (rest := []) ⟨hx, hb, hml, hown, hts⟩ (cM_in l D cI cZ q eu21) (va_cwS 3 hts gX9_visa_X9_in rfl rfl rfl (by decide +kernel) ⟨Nat.le_of_ble_eq_true rfl, Nat.le_of_ble_eq_true rfl⟩) hK hI rfl hl.1 rfl (Nat.le_of_ble_eq_true rfl) dX9_visa_54 ⟨Nat.le_refl _, Nat.le_refl _⟩ (fun H locs hI => ?_)
      refine lv_if_eq (tgt := 75) hx hb dX9_visa_57 (by decide) (fun c23 => ?_) (fun c23 => ?_)
      · replace h := mpos c23 h
        exact w_M_visa_75 C h hI (lv_sub hl [1, 2, 3, 4, 5, 6, 7, 0] rfl)
      · replace h := mneg c23 h
        refine lv_iload hx hb dX9_visa_60 (lv_at hl 7 rfl) ?_
        refine lv_iconst (v := 1) hx hb dX9_visa_62 (by decide) ?_
        refine lv_bipush (v := 90) hx hb dX9_visa_63 (by decide) ?_
        obtain ⟨r25, u24, eu24, h⟩ := mb2_spec h
        refine mg_callS (As := [.int x6, .int 1, .int 90]) (rest := []) ⟨hx, hb, hml, hown, hts⟩ (cM_in l D cI cZ q eu24) (va_cwS 3 hts gX9_visa_X9_in rfl rfl rfl (by decide +kernel) ⟨Nat.le_of_ble_eq_true rfl, Nat.le_of_ble_eq_true rfl⟩) hK hI rfl hl.1 rfl (Nat.le_of_ble_eq_true rfl) dX9_visa_65 ⟨Nat.le_refl _, Nat.le_refl _⟩ (fun H locs hI => ?_)
        refine lv_if_eq (tgt := 75) hx hb dX9_visa_68 (by decide) (fun c26 => ?_) (fun c26 => ?_)
        · replace h := mpos c26 h
          exact w_M_visa_75 C h hI (lv_sub hl [1, 2, 3, 4, 5, 6, 7, 0] rfl)
        · replace h := mneg c26 h
          refine lv_iconst (v := 1) hx hb dX9_visa_71 (by decide) ?_
          refine lv_goto (tgt := 76) hx hb dX9_visa_72 (by decide) ?_
          exact w_M_visa_76 C h hI (lv_sub hl [1, 2, 3, 4, 5, 6, 7, 0] rfl)
def fM_visa_20 (u : MS) (x1 x2 x3 x4 x5 x6 : Int32) : Option (Int32 × MS) :=
  fM_visa_21 u x1 x2 x3 x4 x5 x6 0
set_option maxRecDepth 20000 in
theorem w_M_visa_20 (C : mC p s m args meth c cX9_visa (some .int) wsX9_visa 9 D cI cZ) {uz : MS} {rz : Int32} {u : MS} {x1 x2 x3 x4 x5 x6 : Int32} (h : fM_visa_20 u x1 x2 x3 x4 x5 x6 = some (rz, uz)) {H : Heap} {locs : List Loc} {ls : Array Slot} (hI : mI D cI cZ q u s H locs) (hl : lv_has ls 9 [(0, .ref (q 0)), (1, .int x1), (2, .int x2), (3, .int x3), (4, .int x4), (5, .int x5), (6, .int x6)]) : W p l e (mR 2 43) s m args below meth c H locs 0 0 (MQ below (mQ D cI cZ q rz uz) args s 0 0 (mF q)) (F0 m 20 ls []) := by
  obtain ⟨hx, hb, hr, hts, hown, hlocks, hml, hK⟩ := id C
  unfold fM_visa_20 at h
  refine lv_iconst (v := 0) hx hb dX9_visa_20 (by decide) ?_
  exact w_M_visa_21 C h hI (lv_sub hl [0, 1, 2, 3, 4, 5, 6] rfl)
def fM_visa (u : MS) (x1 x2 x3 x4 x5 x6 : Int32) : Option (Int32 × MS) :=
  mb2 (fM_isPerson u x1) fun r28 u27 =>
  if r28 = 0 then
    fM_visa_20 u27 x1 x2 x3 x4 x5 x6
  else
    mb2 (fM_isLand u27 x2) fun r31 u30 =>
    if r31 = 0 then
      fM_visa_20 u30 x1 x2 x3 x4 x5 x6
    else
      fM_visa_21 u30 x1 x2 x3 x4 x5 x6 1
set_option maxRecDepth 20000 in
theorem w_M_visa_0 (C : mC p s m args meth c cX9_visa (some .int) wsX9_visa 9 D cI cZ) {uz : MS} {rz : Int32} {u : MS} {x1 x2 x3 x4 x5 x6 : Int32} (h : fM_visa u x1 x2 x3 x4 x5 x6 = some (rz, uz)) {H : Heap} {locs : List Loc} {ls : Array Slot} (hI : mI D cI cZ q u s H locs) (hl : lv_has ls 9 [(0, .ref (q 0)), (1, .int x1), (2, .int x2), (3, .int x3), (4, .int x4), (5, .int x5), (6, .int x6)]) : W p l e (mR 2 43) s m args below meth c H locs 0 0 (MQ below (mQ D cI cZ q rz uz) args s 0 0 (mF q)) (F0 m 0 ls []) := by
  obtain ⟨hx, hb, hr, hts, hown, hlocks, hml, hK⟩ := id C
  unfold fM_visa at h
  refine lv_aload_n hx hb dX9_visa_0 rfl (lv_at hl 0 rfl) ?_
  refine lv_iload_n hx hb dX9_visa_1 rfl (lv_at hl 1 rfl) ?_
  obtain ⟨r28, u27, eu27, h⟩ := mb2_spec h
  refine mg_callV (As := [.int x1]) (rest := []) ⟨hx, hb, hml, hown, hts⟩ (cM_isPerson l D cI cZ q eu27) (cwV 1 hts gX9_visa_X9_isPerson rfl rfl rfl (by decide +kernel) ⟨Nat.le_of_ble_eq_true rfl, Nat.le_of_ble_eq_true rfl⟩) hK hI rfl hl.1 rfl (Nat.le_of_ble_eq_true rfl) dX9_visa_2 ⟨Nat.le_refl _, Nat.le_refl _⟩ (fun H locs hI => ?_)
  refine lv_if_eq (tgt := 20) hx hb dX9_visa_5 (by decide) (fun c29 => ?_) (fun c29 => ?_)
  · replace h := mpos c29 h
    exact w_M_visa_20 C h hI (lv_sub hl [0, 1, 2, 3, 4, 5, 6] rfl)
  · replace h := mneg c29 h
    refine lv_aload_n hx hb dX9_visa_8 rfl (lv_at hl 0 rfl) ?_
    refine lv_iload_n hx hb dX9_visa_9 rfl (lv_at hl 2 rfl) ?_
    obtain ⟨r31, u30, eu30, h⟩ := mb2_spec h
    refine mg_callV (As := [.int x2]) (rest := []) ⟨hx, hb, hml, hown, hts⟩ (cM_isLand l D cI cZ q eu30) (cwV 1 hts gX9_visa_X9_isLand rfl rfl rfl (by decide +kernel) ⟨Nat.le_of_ble_eq_true rfl, Nat.le_of_ble_eq_true rfl⟩) hK hI rfl hl.1 rfl (Nat.le_of_ble_eq_true rfl) dX9_visa_10 ⟨Nat.le_refl _, Nat.le_refl _⟩ (fun H locs hI => ?_)
    refine lv_if_eq (tgt := 20) hx hb dX9_visa_13 (by decide) (fun c32 => ?_) (fun c32 => ?_)
    · replace h := mpos c32 h
      exact w_M_visa_20 C h hI (lv_sub hl [0, 1, 2, 3, 4, 5, 6] rfl)
    · replace h := mneg c32 h
      refine lv_iconst (v := 1) hx hb dX9_visa_16 (by decide) ?_
      refine lv_goto (tgt := 21) hx hb dX9_visa_17 (by decide) ?_
      exact w_M_visa_21 C h hI (lv_sub hl [0, 1, 2, 3, 4, 5, 6] rfl)
set_option maxRecDepth 20000 in
theorem cM_visa (l : Launch) (D : va_G) (cI cZ : ClassId) (q : Nat → Nat) {u uz : MS} {rz : Int32} {x1 x2 x3 x4 x5 x6 : Int32} (h : fM_visa u x1 x2 x3 x4 x5 x6 = some (rz, uz)) : Met l yX9_visa wsX9_visa (mR 2 43) (va_Pc [.ref (q 0), .int x1, .int x2, .int x3, .int x4, .int x5, .int x6] (mPre D cI cZ q u)) (mQ D cI cZ q rz uz) 0 0 (mF q) := by
  refine Met.ofW (cc := cX9_visa) (maxL := 9) (ret := (some .int)) (by decide) rfl ?_
  intro p e s m args below meth c s₁ B hml hv
  obtain ⟨rfl, hw, hK⟩ := hv
  have C : mC p s m _ meth c cX9_visa (some .int) wsX9_visa 9 D cI cZ := ⟨B.exec, B.bytes, B.returns, atoms_spec (ws := wsX9_visa) B.pre, findClass_of_methodNamed B.named, B.notSynchronized, hml, hK⟩
  have hl := lv_entry ([.ref (q 0), .int x1, .int x2, .int x3, .int x4, .int x5, .int x6]) (n := 9) (Nat.le_of_ble_eq_true rfl)
  rw [lg_entry_eq]
  generalize (lg_sl ([.ref (q 0), .int x1, .int x2, .int x3, .int x4, .int x5, .int x6]) ++ List.replicate (9 - (lg_sl ([.ref (q 0), .int x1, .int x2, .int x3, .int x4, .int x5, .int x6])).length) Slot.unset).toArray = ls at hl ⊢
  have hl : lv_has ls 9 [(0, .ref (q 0)), (1, .int x1), (2, .int x2), (3, .int x3), (4, .int x4), (5, .int x5), (6, .int x6)] := hl
  exact w_M_visa_0 C h ⟨hw, va_S.rf⟩ hl
theorem iM_knows : ∀ w ∈ wsX90, w ∈ wsX9_knows := by decide +kernel
def fM_knows_83 (u : MS) (y0 : Int32) : Option (Int32 × MS) :=
  (mbo y0).bind fun b1 => some (b1, u)
set_option maxRecDepth 20000 in
theorem w_M_knows_83 (C : mC p s m args meth c cX9_knows (some .boolean) wsX9_knows 6 D cI cZ) {uz : MS} {rz : Int32} {u : MS} {y0 : Int32} (h : fM_knows_83 u y0 = some (rz, uz)) {H : Heap} {locs : List Loc} {ls : Array Slot} (hI : mI D cI cZ q u s H locs) (hl : lv_has ls 6 [(0, .ref (q 0))]) : W p l e (mR 0 0) s m args below meth c H locs 0 0 (MQ below (mQ D cI cZ q rz uz) args s 0 0 (mF q)) (F0 m 83 ls [.int y0]) := by
  obtain ⟨hx, hb, hr, hts, hown, hlocks, hml, hK⟩ := id C
  unfold fM_knows_83 at h
  obtain ⟨b1, eb1, h⟩ := mbind h
  cases h
  exact mg_retz hx hb hr hlocks hK hI dX9_knows_83 eb1
def fM_knows_82 (u : MS) : Option (Int32 × MS) :=
  fM_knows_83 u 0
set_option maxRecDepth 20000 in
theorem w_M_knows_82 (C : mC p s m args meth c cX9_knows (some .boolean) wsX9_knows 6 D cI cZ) {uz : MS} {rz : Int32} {u : MS} (h : fM_knows_82 u = some (rz, uz)) {H : Heap} {locs : List Loc} {ls : Array Slot} (hI : mI D cI cZ q u s H locs) (hl : lv_has ls 6 [(0, .ref (q 0))]) : W p l e (mR 0 0) s m args below meth c H locs 0 0 (MQ below (mQ D cI cZ q rz uz) args s 0 0 (mF q)) (F0 m 82 ls []) := by
  obtain ⟨hx, hb, hr, hts, hown, hlocks, hml, hK⟩ := id C
  unfold fM_knows_82 at h
  refine lv_iconst (v := 0) hx hb dX9_knows_82 (by decide) ?_
  exact w_M_knows_83 C h hI (lv_sub hl [0] rfl)
def fM_knows_78 (u : MS) : Option (Int32 × MS) :=
  fM_knows_83 u 1
set_option maxRecDepth 20000 in
theorem w_M_knows_78 (C : mC p s m args meth c cX9_knows (some .boolean) wsX9_knows 6 D cI cZ) {uz : MS} {rz : Int32} {u : MS} (h : fM_knows_78 u = some (rz, uz)) {H : Heap} {locs : List Loc} {ls : Array Slot} (hI : mI D cI cZ q u s H locs) (hl : lv_has ls 6 [(0, .ref (q 0))]) : W p l e (mR 0 0) s m args below meth c H locs 0 0 (MQ below (mQ D cI cZ q rz uz) args s 0 0 (mF q)) (F0 m 78 ls []) := by
  obtain ⟨hx, hb, hr, hts, hown, hlocks, hml, hK⟩ := id C
  unfold fM_knows_78 at h
  refine lv_iconst (v := 1) hx hb dX9_knows_78 (by decide) ?_
  refine lv_goto (tgt := 83) hx hb dX9_knows_79 (by decide) ?_
  exact w_M_knows_83 C h hI (lv_sub hl [0] rfl)
def fM_knows_36 (u : MS) (x3 x4 y0 : Int32) : Option (Int32 × MS) :=
  (mld u 25 x4).bind fun r2 =>
  if r2 < (u 1 0) then
    fM_knows_82 u
  else
    if y0 = 0 then
      (mld u 27 x4).bind fun r5 =>
      (mld u 6 x3).bind fun r6 =>
      if (u 1 0) < (r5 + r6) then
        fM_knows_82 u
      else
        fM_knows_78 u
    else
      fM_knows_78 u
set_option maxRecDepth 20000 in
theorem w_M_knows_36 (C : mC p s m args meth c cX9_knows (some .boolean) wsX9_knows 6 D cI cZ) {uz : MS} {rz : Int32} {u : MS} {x3 x4 y0 : Int32} (h : fM_knows_36 u x3 x4 y0 = some (rz, uz)) {H : Heap} {locs : List Loc} {ls : Array Slot} (hI : mI D cI cZ q u s H locs) (hl : lv_has ls 6 [(0, .ref (q 0)), (3, .int x3), (4, .int x4)]) : W p l e (mR 0 0) s m args below meth c H locs 0 0 (MQ below (mQ D cI cZ q rz uz) args s 0 0 (mF q)) (F0 m 36 ls [.int y0]) := by
  obtain ⟨hx, hb, hr, hts, hown, hlocks, hml, hK⟩ := id C
  unfold fM_knows_36 at h
  refine lv_istore (lv' := [(5, .int y0), (0, .ref (q 0)), (3, .int x3), (4, .int x4)]) hx hb dX9_knows_36 hl (by decide) rfl (fun ls hl => ?_)
  refine lv_aload_n hx hb dX9_knows_38 rfl (lv_at hl 1 rfl) ?_
  refine mg_get hx hb hts iM_knows hown hK hI 25 (by decide) (hts (.fieldLink RX9 76 "PassageCourtModel" "banTo" "[I") (by decide +kernel)) rfl dX9_knows_39 ?_
  refine lv_iload hx hb dX9_knows_42 (lv_at hl 3 rfl) ?_
  obtain ⟨r2, er2, h⟩ := mbind h
  refine mg_ald hx hb hK hI 25 rfl (by decide) er2 dX9_knows_44 ?_
  refine lv_aload_n hx hb dX9_knows_45 rfl (lv_at hl 1 rfl) ?_
  refine mg_get hx hb hts iM_knows hown hK hI 1 (by decide) (hts (.fieldLink RX9 153 "PassageCourtModel" "today" "I") (by decide +kernel)) rfl dX9_knows_46 ?_
  refine lv_icmp_lt (tgt := 82) hx hb dX9_knows_49 (by decide) (fun c3 => ?_) (fun c3 => ?_)
  · replace h := mpos c3 h
    exact w_M_knows_82 C h hI (lv_sub hl [1] rfl)
  · replace h := mneg c3 h
    refine lv_iload hx hb dX9_knows_52 (lv_at hl 0 rfl) ?_
    refine lv_if_ne (tgt := 78) hx hb dX9_knows_54 (by decide) (fun c4 => ?_) (fun c4 => ?_)
    · replace h := mneg c4 h
      exact w_M_knows_78 C h hI (lv_sub hl [1] rfl)
    · replace h := mpos c4 h
      refine lv_aload_n hx hb dX9_knows_57 rfl (lv_at hl 1 rfl) ?_
      refine mg_get hx hb hts iM_knows hown hK hI 27 (by decide) (hts (.fieldLink RX9 82 "PassageCourtModel" "banMade" "[I") (by decide +kernel)) rfl dX9_knows_58 ?_
      refine lv_iload hx hb dX9_knows_61 (lv_at hl 3 rfl) ?_
      obtain ⟨r5, er5, h⟩ := mbind h
      refine mg_ald hx hb hK hI 27 rfl (by decide) er5 dX9_knows_63 ?_
      refine lv_aload_n hx hb dX9_knows_64 rfl (lv_at hl 1 rfl) ?_
      refine mg_get hx hb hts iM_knows hown hK hI 6 (by decide) (hts (.fieldLink RX9 19 "PassageCourtModel" "late" "[I") (by decide +kernel)) rfl dX9_knows_65 ?_
      refine lv_iload_n hx hb dX9_knows_68 rfl (lv_at hl 2 rfl) ?_
      obtain ⟨r6, er6, h⟩ := mbind h
      refine mg_ald hx hb hK hI 6 rfl (by decide) er6 dX9_knows_69 ?_
      refine lv_iadd hx hb dX9_knows_70 ?_
      refine lv_aload_n hx hb dX9_knows_71 rfl (lv_at hl 1 rfl) ?_
      refine mg_get hx hb hts iM_knows hown hK hI 1 (by decide) (hts (.fieldLink RX9 153 "PassageCourtModel" "today" "I") (by decide +kernel)) rfl dX9_knows_72 ?_
      refine lv_icmp_gt (tgt := 82) hx hb dX9_knows_75 (by decide) (fun c7 => ?_) (fun c7 => ?_)
      · replace h := mpos c7 h
        exact w_M_knows_82 C h hI (lv_sub hl [1] rfl)
      · replace h := mneg c7 h
        exact w_M_knows_78 C h hI (lv_sub hl [1] rfl)
def fM_knows_31 (u : MS) (x3 x4 : Int32) : Option (Int32 × MS) :=
  fM_knows_36 u x3 x4 1
set_option maxRecDepth 20000 in
theorem w_M_knows_31 (C : mC p s m args meth c cX9_knows (some .boolean) wsX9_knows 6 D cI cZ) {uz : MS} {rz : Int32} {u : MS} {x3 x4 : Int32} (h : fM_knows_31 u x3 x4 = some (rz, uz)) {H : Heap} {locs : List Loc} {ls : Array Slot} (hI : mI D cI cZ q u s H locs) (hl : lv_has ls 6 [(0, .ref (q 0)), (3, .int x3), (4, .int x4)]) : W p l e (mR 0 0) s m args below meth c H locs 0 0 (MQ below (mQ D cI cZ q rz uz) args s 0 0 (mF q)) (F0 m 31 ls []) := by
  obtain ⟨hx, hb, hr, hts, hown, hlocks, hml, hK⟩ := id C
  unfold fM_knows_31 at h
  refine lv_iconst (v := 1) hx hb dX9_knows_31 (by decide) ?_
  refine lv_goto (tgt := 36) hx hb dX9_knows_32 (by decide) ?_
  exact w_M_knows_36 C h hI (lv_sub hl [0, 1, 2] rfl)
def fM_knows_35 (u : MS) (x3 x4 : Int32) : Option (Int32 × MS) :=
  fM_knows_36 u x3 x4 0
set_option maxRecDepth 20000 in
theorem w_M_knows_35 (C : mC p s m args meth c cX9_knows (some .boolean) wsX9_knows 6 D cI cZ) {uz : MS} {rz : Int32} {u : MS} {x3 x4 : Int32} (h : fM_knows_35 u x3 x4 = some (rz, uz)) {H : Heap} {locs : List Loc} {ls : Array Slot} (hI : mI D cI cZ q u s H locs) (hl : lv_has ls 6 [(0, .ref (q 0)), (3, .int x3), (4, .int x4)]) : W p l e (mR 0 0) s m args below meth c H locs 0 0 (MQ below (mQ D cI cZ q rz uz) args s 0 0 (mF q)) (F0 m 35 ls []) := by
  obtain ⟨hx, hb, hr, hts, hown, hlocks, hml, hK⟩ := id C
  unfold fM_knows_35 at h
  refine lv_iconst (v := 0) hx hb dX9_knows_35 (by decide) ?_
  exact w_M_knows_36 C h hI (lv_sub hl [0, 1, 2] rfl)
def fM_knows (u : MS) (x1 x2 x3 : Int32) : Option (Int32 × MS) :=
  if x1 = x3 then
    fM_knows_31 u x3 ((8 * x2) + x1)
  else
    (mld u 3 x1).bind fun r9 =>
    if r9 = 0 then
      fM_knows_35 u x3 ((8 * x2) + x1)
    else
      (mld u 3 x3).bind fun r11 =>
      if r11 = 0 then
        fM_knows_35 u x3 ((8 * x2) + x1)
      else
        fM_knows_31 u x3 ((8 * x2) + x1)
set_option maxRecDepth 20000 in
theorem w_M_knows_0 (C : mC p s m args meth c cX9_knows (some .boolean) wsX9_knows 6 D cI cZ) {uz : MS} {rz : Int32} {u : MS} {x1 x2 x3 : Int32} (h : fM_knows u x1 x2 x3 = some (rz, uz)) {H : Heap} {locs : List Loc} {ls : Array Slot} (hI : mI D cI cZ q u s H locs) (hl : lv_has ls 6 [(0, .ref (q 0)), (1, .int x1), (2, .int x2), (3, .int x3)]) : W p l e (mR 0 0) s m args below meth c H locs 0 0 (MQ below (mQ D cI cZ q rz uz) args s 0 0 (mF q)) (F0 m 0 ls []) := by
  obtain ⟨hx, hb, hr, hts, hown, hlocks, hml, hK⟩ := id C
  unfold fM_knows at h
  refine lv_bipush (v := 8) hx hb dX9_knows_0 (by decide) ?_
  refine lv_iload_n hx hb dX9_knows_2 rfl (lv_at hl 2 rfl) ?_
  refine lv_imul hx hb dX9_knows_3 ?_
  refine lv_iload_n hx hb dX9_knows_4 rfl (lv_at hl 1 rfl) ?_
  refine lv_iadd hx hb dX9_knows_5 ?_
  refine lv_istore (lv' := [(4, .int ((8 * x2) + x1)), (0, .ref (q 0)), (1, .int x1), (2, .int x2), (3, .int x3)]) hx hb dX9_knows_6 hl (by decide) rfl (fun ls hl => ?_)
  refine lv_iload_n hx hb dX9_knows_8 rfl (lv_at hl 2 rfl) ?_
  refine lv_iload_n hx hb dX9_knows_9 rfl (lv_at hl 4 rfl) ?_
  refine lv_icmp_eq (tgt := 31) hx hb dX9_knows_10 (by decide) (fun c8 => ?_) (fun c8 => ?_)
  · replace h := mpos c8 h
    exact w_M_knows_31 C h hI (lv_sub hl [1, 4, 0] rfl)
  · replace h := mneg c8 h
    refine lv_aload_n hx hb dX9_knows_13 rfl (lv_at hl 1 rfl) ?_
    refine mg_get hx hb hts iM_knows hown hK hI 3 (by decide) (hts (.fieldLink RX9 7 "PassageCourtModel" "isInRegion" "[Z") (by decide +kernel)) rfl dX9_knows_14 ?_
    refine lv_iload_n hx hb dX9_knows_17 rfl (lv_at hl 2 rfl) ?_
    obtain ⟨r9, er9, h⟩ := mbind h
    refine mg_zld hx hb hK hI 3 rfl (by decide) er9 dX9_knows_18 ?_
    refine lv_if_eq (tgt := 35) hx hb dX9_knows_19 (by decide) (fun c10 => ?_) (fun c10 => ?_)
    · replace h := mpos c10 h
      exact w_M_knows_35 C h hI (lv_sub hl [1, 4, 0] rfl)
    · replace h := mneg c10 h
      refine lv_aload_n hx hb dX9_knows_22 rfl (lv_at hl 1 rfl) ?_
      refine mg_get hx hb hts iM_knows hown hK hI 3 (by decide) (hts (.fieldLink RX9 7 "PassageCourtModel" "isInRegion" "[Z") (by decide +kernel)) rfl dX9_knows_23 ?_
      refine lv_iload_n hx hb dX9_knows_26 rfl (lv_at hl 4 rfl) ?_
      obtain ⟨r11, er11, h⟩ := mbind h
      refine mg_zld hx hb hK hI 3 rfl (by decide) er11 dX9_knows_27 ?_
      refine lv_if_eq (tgt := 35) hx hb dX9_knows_28 (by decide) (fun c12 => ?_) (fun c12 => ?_)
      · replace h := mpos c12 h
        exact w_M_knows_35 C h hI (lv_sub hl [1, 4, 0] rfl)
      · replace h := mneg c12 h
        exact w_M_knows_31 C h hI (lv_sub hl [1, 4, 0] rfl)
set_option maxRecDepth 20000 in
theorem cM_knows (l : Launch) (D : va_G) (cI cZ : ClassId) (q : Nat → Nat) {u uz : MS} {rz : Int32} {x1 x2 x3 : Int32} (h : fM_knows u x1 x2 x3 = some (rz, uz)) : Met l yX9_knows wsX9_knows (mR 0 0) (va_Pc [.ref (q 0), .int x1, .int x2, .int x3] (mPre D cI cZ q u)) (mQ D cI cZ q rz uz) 0 0 (mF q) := by
  refine Met.ofW (cc := cX9_knows) (maxL := 6) (ret := (some .boolean)) (by decide) rfl ?_
  intro p e s m args below meth c s₁ B hml hv
  obtain ⟨rfl, hw, hK⟩ := hv
  have C : mC p s m _ meth c cX9_knows (some .boolean) wsX9_knows 6 D cI cZ := ⟨B.exec, B.bytes, B.returns, atoms_spec (ws := wsX9_knows) B.pre, findClass_of_methodNamed B.named, B.notSynchronized, hml, hK⟩
  have hl := lv_entry ([.ref (q 0), .int x1, .int x2, .int x3]) (n := 6) (Nat.le_of_ble_eq_true rfl)
  rw [lg_entry_eq]
  generalize (lg_sl ([.ref (q 0), .int x1, .int x2, .int x3]) ++ List.replicate (6 - (lg_sl ([.ref (q 0), .int x1, .int x2, .int x3])).length) Slot.unset).toArray = ls at hl ⊢
  have hl : lv_has ls 6 [(0, .ref (q 0)), (1, .int x1), (2, .int x2), (3, .int x3)] := hl
  exact w_M_knows_0 C h ⟨hw, va_S.rf⟩ hl
theorem iM_isBanned : ∀ w ∈ wsX90, w ∈ wsX9_isBanned := by decide +kernel
def fM_isBanned_53 (rec5 : MS → Int32 → Int32 → Int32 → Int32 → Option (Int32 × MS)) (u : MS) (x1 x2 x4 y0 : Int32) : Option (Int32 × MS) :=
  rec5 u x1 x2 y0 (x4 + 1)
set_option maxRecDepth 20000 in
theorem w_M_isBanned_53 (C : mC p s m args meth c cX9_isBanned (some .boolean) wsX9_isBanned 5 D cI cZ) {uz : MS} {rz : Int32} {rec5 : MS → Int32 → Int32 → Int32 → Int32 → Option (Int32 × MS)} (hrec5 : ∀ {u : MS} {x1 x2 x3 x4 : Int32} (_ : rec5 u x1 x2 x3 x4 = some (rz, uz)) {H : Heap} {locs : List Loc} {ls : Array Slot} (_ : mI D cI cZ q u s H locs) (_ : lv_has ls 5 [(0, .ref (q 0)), (1, .int x1), (2, .int x2), (3, .int x3), (4, .int x4)]), W p l e (mR 1 25) s m args below meth c H locs 0 0 (MQ below (mQ D cI cZ q rz uz) args s 0 0 (mF q)) (F0 m 5 ls [])) {u : MS} {x1 x2 x4 y0 : Int32} (h : fM_isBanned_53 rec5 u x1 x2 x4 y0 = some (rz, uz)) {H : Heap} {locs : List Loc} {ls : Array Slot} (hI : mI D cI cZ q u s H locs) (hl : lv_has ls 5 [(0, .ref (q 0)), (1, .int x1), (2, .int x2), (4, .int x4)]) : W p l e (mR 1 25) s m args below meth c H locs 0 0 (MQ below (mQ D cI cZ q rz uz) args s 0 0 (mF q)) (F0 m 53 ls [.int y0]) := by
  obtain ⟨hx, hb, hr, hts, hown, hlocks, hml, hK⟩ := id C
  unfold fM_isBanned_53 at h
  refine lv_istore_n (lv' := [(3, .int y0), (0, .ref (q 0)), (1, .int x1), (2, .int x2), (4, .int x4)]) hx hb dX9_isBanned_53 rfl hl (by decide) rfl (fun ls hl => ?_)
  refine lv_iinc (v := x4 + 1) (lv' := [(4, .int (x4 + 1)), (3, .int y0), (0, .ref (q 0)), (1, .int x1), (2, .int x2)]) hx hb dX9_isBanned_54 hl (k := 4) rfl rfl (by decide) rfl (fun ls hl => ?_)
  refine lv_goto (tgt := 5) hx hb dX9_isBanned_57 (by decide) ?_
  exact hrec5 h hI (lv_sub hl [2, 3, 4, 1, 0] rfl)
def fM_isBanned_48 (rec5 : MS → Int32 → Int32 → Int32 → Int32 → Option (Int32 × MS)) (u : MS) (x1 x2 x4 : Int32) : Option (Int32 × MS) :=
  fM_isBanned_53 rec5 u x1 x2 x4 1
set_option maxRecDepth 20000 in
theorem w_M_isBanned_48 (C : mC p s m args meth c cX9_isBanned (some .boolean) wsX9_isBanned 5 D cI cZ) {uz : MS} {rz : Int32} {rec5 : MS → Int32 → Int32 → Int32 → Int32 → Option (Int32 × MS)} (hrec5 : ∀ {u : MS} {x1 x2 x3 x4 : Int32} (_ : rec5 u x1 x2 x3 x4 = some (rz, uz)) {H : Heap} {locs : List Loc} {ls : Array Slot} (_ : mI D cI cZ q u s H locs) (_ : lv_has ls 5 [(0, .ref (q 0)), (1, .int x1), (2, .int x2), (3, .int x3), (4, .int x4)]), W p l e (mR 1 25) s m args below meth c H locs 0 0 (MQ below (mQ D cI cZ q rz uz) args s 0 0 (mF q)) (F0 m 5 ls [])) {u : MS} {x1 x2 x4 : Int32} (h : fM_isBanned_48 rec5 u x1 x2 x4 = some (rz, uz)) {H : Heap} {locs : List Loc} {ls : Array Slot} (hI : mI D cI cZ q u s H locs) (hl : lv_has ls 5 [(0, .ref (q 0)), (1, .int x1), (2, .int x2), (4, .int x4)]) : W p l e (mR 1 25) s m args below meth c H locs 0 0 (MQ below (mQ D cI cZ q rz uz) args s 0 0 (mF q)) (F0 m 48 ls []) := by
  obtain ⟨hx, hb, hr, hts, hown, hlocks, hml, hK⟩ := id C
  unfold fM_isBanned_48 at h
  refine lv_iconst (v := 1) hx hb dX9_isBanned_48 (by decide) ?_
  refine lv_goto (tgt := 53) hx hb dX9_isBanned_49 (by decide) ?_
  exact w_M_isBanned_53 C hrec5 h hI (lv_sub hl [0, 1, 2, 3] rfl)
def fM_isBanned_52 (rec5 : MS → Int32 → Int32 → Int32 → Int32 → Option (Int32 × MS)) (u : MS) (x1 x2 x4 : Int32) : Option (Int32 × MS) :=
  fM_isBanned_53 rec5 u x1 x2 x4 0
set_option maxRecDepth 20000 in
theorem w_M_isBanned_52 (C : mC p s m args meth c cX9_isBanned (some .boolean) wsX9_isBanned 5 D cI cZ) {uz : MS} {rz : Int32} {rec5 : MS → Int32 → Int32 → Int32 → Int32 → Option (Int32 × MS)} (hrec5 : ∀ {u : MS} {x1 x2 x3 x4 : Int32} (_ : rec5 u x1 x2 x3 x4 = some (rz, uz)) {H : Heap} {locs : List Loc} {ls : Array Slot} (_ : mI D cI cZ q u s H locs) (_ : lv_has ls 5 [(0, .ref (q 0)), (1, .int x1), (2, .int x2), (3, .int x3), (4, .int x4)]), W p l e (mR 1 25) s m args below meth c H locs 0 0 (MQ below (mQ D cI cZ q rz uz) args s 0 0 (mF q)) (F0 m 5 ls [])) {u : MS} {x1 x2 x4 : Int32} (h : fM_isBanned_52 rec5 u x1 x2 x4 = some (rz, uz)) {H : Heap} {locs : List Loc} {ls : Array Slot} (hI : mI D cI cZ q u s H locs) (hl : lv_has ls 5 [(0, .ref (q 0)), (1, .int x1), (2, .int x2), (4, .int x4)]) : W p l e (mR 1 25) s m args below meth c H locs 0 0 (MQ below (mQ D cI cZ q rz uz) args s 0 0 (mF q)) (F0 m 52 ls []) := by
  obtain ⟨hx, hb, hr, hts, hown, hlocks, hml, hK⟩ := id C
  unfold fM_isBanned_52 at h
  refine lv_iconst (v := 0) hx hb dX9_isBanned_52 (by decide) ?_
  exact w_M_isBanned_53 C hrec5 h hI (lv_sub hl [0, 1, 2, 3] rfl)
def fM_isBanned_5 : Nat → MS → Int32 → Int32 → Int32 → Int32 → Option (Int32 × MS)
  | 0, _, _, _, _, _ => none
  | n + 1, u, x1, x2, x3, x4 =>
    if (u 2 0) ≤ x4 then
      (mbo x3).bind fun b2 => some (b2, u)
    else
      if x3 = 0 then
        mb2 (fM_knows u x4 x1 x2) fun r5 u4 =>
        if r5 = 0 then
          fM_isBanned_52 (fM_isBanned_5 n) u4 x1 x2 x4
        else
          (mld u4 26 ((8 * x1) + x4)).bind fun r7 =>
          if (u4 1 0) < r7 then
            fM_isBanned_52 (fM_isBanned_5 n) u4 x1 x2 x4
          else
            fM_isBanned_48 (fM_isBanned_5 n) u4 x1 x2 x4
      else
        fM_isBanned_48 (fM_isBanned_5 n) u x1 x2 x4
set_option maxRecDepth 20000 in
theorem w_M_isBanned_5 (C : mC p s m args meth c cX9_isBanned (some .boolean) wsX9_isBanned 5 D cI cZ) {uz : MS} {rz : Int32} : ∀ (n : Nat) {u : MS} {x1 x2 x3 x4 : Int32} (h : fM_isBanned_5 n u x1 x2 x3 x4 = some (rz, uz)) {H : Heap} {locs : List Loc} {ls : Array Slot} (hI : mI D cI cZ q u s H locs) (hl : lv_has ls 5 [(0, .ref (q 0)), (1, .int x1), (2, .int x2), (3, .int x3), (4, .int x4)]), W p l e (mR 1 25) s m args below meth c H locs 0 0 (MQ below (mQ D cI cZ q rz uz) args s 0 0 (mF q)) (F0 m 5 ls []) := by
  obtain ⟨hx, hb, hr, hts, hown, hlocks, hml, hK⟩ := id C
  intro n
  induction n with
  | zero =>
    intro u x1 x2 x3 x4 h
    cases (show (none : Option _) = _ from h)
  | succ n ih =>
    intro u x1 x2 x3 x4 h H locs ls hI hl
    rw [fM_isBanned_5] at h
    refine lv_iload hx hb dX9_isBanned_5 (lv_at hl 4 rfl) ?_
    refine lv_aload_n hx hb dX9_isBanned_7 rfl (lv_at hl 0 rfl) ?_
    refine mg_get hx hb hts iM_isBanned hown hK hI 2 (by decide) (hts (.fieldLink RX9 133 "PassageCourtModel" "lands" "I") (by decide +kernel)) rfl dX9_isBanned_8 ?_
    refine lv_icmp_ge (tgt := 60) hx hb dX9_isBanned_11 (by decide) (fun c1 => ?_) (fun c1 => ?_)
    · replace h := mpos c1 h
      refine lv_iload_n hx hb dX9_isBanned_60 rfl (lv_at hl 3 rfl) ?_
      obtain ⟨b2, eb2, h⟩ := mbind h
      cases h
      exact mg_retz hx hb hr hlocks hK hI dX9_isBanned_61 eb2
    · replace h := mneg c1 h
      refine lv_iload_n hx hb dX9_isBanned_14 rfl (lv_at hl 3 rfl) ?_
      refine lv_if_ne (tgt := 48) hx hb dX9_isBanned_15 (by decide) (fun c3 => ?_) (fun c3 => ?_)
      · replace h := mneg c3 h
        exact w_M_isBanned_48 C ih h hI (lv_sub hl [0, 1, 2, 4] rfl)
      · replace h := mpos c3 h
        refine lv_aload_n hx hb dX9_isBanned_18 rfl (lv_at hl 0 rfl) ?_
        refine lv_iload hx hb dX9_isBanned_19 (lv_at hl 4 rfl) ?_
        refine lv_iload_n hx hb dX9_isBanned_21 rfl (lv_at hl 1 rfl) ?_
        refine lv_iload_n hx hb dX9_isBanned_22 rfl (lv_at hl 2 rfl) ?_
        obtain ⟨r5, u4, eu4, h⟩ := mb2_spec h
        refine mg_callV (As := [.int x4, .int x1, .int x2]) (rest := []) ⟨hx, hb, hml, hown, hts⟩ (cM_knows l D cI cZ q eu4) (cwV 3 hts gX9_isBanned_X9_knows rfl rfl rfl (by decide +kernel) ⟨Nat.le_of_ble_eq_true rfl, Nat.le_of_ble_eq_true rfl⟩) hK hI rfl hl.1 rfl (Nat.le_of_ble_eq_true rfl) dX9_isBanned_23 ⟨Nat.le_refl _, Nat.le_refl _⟩ (fun H locs hI => ?_)
        refine lv_if_eq (tgt := 52) hx hb dX9_isBanned_26 (by decide) (fun c6 => ?_) (fun c6 => ?_)
        · replace h := mpos c6 h
          exact w_M_isBanned_52 C ih h hI (lv_sub hl [0, 1, 2, 4] rfl)
        · replace h := mneg c6 h
          refine lv_aload_n hx hb dX9_isBanned_29 rfl (lv_at hl 0 rfl) ?_
          refine mg_get hx hb hts iM_isBanned hown hK hI 26 (by decide) (hts (.fieldLink RX9 79 "PassageCourtModel" "banFrom" "[I") (by decide +kernel)) rfl dX9_isBanned_30 ?_
          refine lv_bipush (v := 8) hx hb dX9_isBanned_33 (by decide) ?_
          refine lv_iload_n hx hb dX9_isBanned_35 rfl (lv_at hl 1 rfl) ?_
          refine lv_imul hx hb dX9_isBanned_36 ?_
          refine lv_iload hx hb dX9_isBanned_37 (lv_at hl 4 rfl) ?_
          refine lv_iadd hx hb dX9_isBanned_39 ?_
          obtain ⟨r7, er7, h⟩ := mbind h
          refine mg_ald hx hb hK hI 26 rfl (by decide) er7 dX9_isBanned_40 ?_
          refine lv_aload_n hx hb dX9_isBanned_41 rfl (lv_at hl 0 rfl) ?_
          refine mg_get hx hb hts iM_isBanned hown hK hI 1 (by decide) (hts (.fieldLink RX9 153 "PassageCourtModel" "today" "I") (by decide +kernel)) rfl dX9_isBanned_42 ?_
          refine lv_icmp_gt (tgt := 52) hx hb dX9_isBanned_45 (by decide) (fun c8 => ?_) (fun c8 => ?_)
          · replace h := mpos c8 h
            exact w_M_isBanned_52 C ih h hI (lv_sub hl [0, 1, 2, 4] rfl)
          · replace h := mneg c8 h
            exact w_M_isBanned_48 C ih h hI (lv_sub hl [0, 1, 2, 4] rfl)
def fM_isBanned (u : MS) (x1 x2 : Int32) : Option (Int32 × MS) :=
  fM_isBanned_5 4096 u x1 x2 0 0
set_option maxRecDepth 20000 in
theorem w_M_isBanned_0 (C : mC p s m args meth c cX9_isBanned (some .boolean) wsX9_isBanned 5 D cI cZ) {uz : MS} {rz : Int32} {u : MS} {x1 x2 : Int32} (h : fM_isBanned u x1 x2 = some (rz, uz)) {H : Heap} {locs : List Loc} {ls : Array Slot} (hI : mI D cI cZ q u s H locs) (hl : lv_has ls 5 [(0, .ref (q 0)), (1, .int x1), (2, .int x2)]) : W p l e (mR 1 25) s m args below meth c H locs 0 0 (MQ below (mQ D cI cZ q rz uz) args s 0 0 (mF q)) (F0 m 0 ls []) := by
  obtain ⟨hx, hb, hr, hts, hown, hlocks, hml, hK⟩ := id C
  unfold fM_isBanned at h
  refine lv_iconst (v := 0) hx hb dX9_isBanned_0 (by decide) ?_
  refine lv_istore_n (lv' := [(3, .int 0), (0, .ref (q 0)), (1, .int x1), (2, .int x2)]) hx hb dX9_isBanned_1 rfl hl (by decide) rfl (fun ls hl => ?_)
  refine lv_iconst (v := 0) hx hb dX9_isBanned_2 (by decide) ?_
  refine lv_istore (lv' := [(4, .int 0), (3, .int 0), (0, .ref (q 0)), (1, .int x1), (2, .int x2)]) hx hb dX9_isBanned_3 hl (by decide) rfl (fun ls hl => ?_)
  exact w_M_isBanned_5 C 4096 h hI (lv_sub hl [2, 3, 4, 1, 0] rfl)
set_option maxRecDepth 20000 in
theorem cM_isBanned (l : Launch) (D : va_G) (cI cZ : ClassId) (q : Nat → Nat) {u uz : MS} {rz : Int32} {x1 x2 : Int32} (h : fM_isBanned u x1 x2 = some (rz, uz)) : Met l yX9_isBanned wsX9_isBanned (mR 1 25) (va_Pc [.ref (q 0), .int x1, .int x2] (mPre D cI cZ q u)) (mQ D cI cZ q rz uz) 0 0 (mF q) := by
  refine Met.ofW (cc := cX9_isBanned) (maxL := 5) (ret := (some .boolean)) (by decide) rfl ?_
  intro p e s m args below meth c s₁ B hml hv
  obtain ⟨rfl, hw, hK⟩ := hv
  have C : mC p s m _ meth c cX9_isBanned (some .boolean) wsX9_isBanned 5 D cI cZ := ⟨B.exec, B.bytes, B.returns, atoms_spec (ws := wsX9_isBanned) B.pre, findClass_of_methodNamed B.named, B.notSynchronized, hml, hK⟩
  have hl := lv_entry ([.ref (q 0), .int x1, .int x2]) (n := 5) (Nat.le_of_ble_eq_true rfl)
  rw [lg_entry_eq]
  generalize (lg_sl ([.ref (q 0), .int x1, .int x2]) ++ List.replicate (5 - (lg_sl ([.ref (q 0), .int x1, .int x2])).length) Slot.unset).toArray = ls at hl ⊢
  have hl : lv_has ls 5 [(0, .ref (q 0)), (1, .int x1), (2, .int x2)] := hl
  exact w_M_isBanned_0 C h ⟨hw, va_S.rf⟩ hl
theorem iM_visaFor : ∀ w ∈ wsX90, w ∈ wsX9_visaFor := by decide +kernel
def fM_visaFor_40 (rec2 : MS → Int32 → Int32 → Int32 → Option (Int32 × MS)) (u : MS) (x1 x2 x3 : Int32) : Option (Int32 × MS) :=
  rec2 u x1 x2 (x3 + 1)
set_option maxRecDepth 20000 in
theorem w_M_visaFor_40 (C : mC p s m args meth c cX9_visaFor (some .int) wsX9_visaFor 4 D cI cZ) {uz : MS} {rz : Int32} {rec2 : MS → Int32 → Int32 → Int32 → Option (Int32 × MS)} (hrec2 : ∀ {u : MS} {x1 x2 x3 : Int32} (_ : rec2 u x1 x2 x3 = some (rz, uz)) {H : Heap} {locs : List Loc} {ls : Array Slot} (_ : mI D cI cZ q u s H locs) (_ : lv_has ls 4 [(0, .ref (q 0)), (1, .int x1), (2, .int x2), (3, .int x3)]), W p l e (mR 2 45) s m args below meth c H locs 0 0 (MQ below (mQ D cI cZ q rz uz) args s 0 0 (mF q)) (F0 m 2 ls [])) {u : MS} {x1 x2 x3 : Int32} (h : fM_visaFor_40 rec2 u x1 x2 x3 = some (rz, uz)) {H : Heap} {locs : List Loc} {ls : Array Slot} (hI : mI D cI cZ q u s H locs) (hl : lv_has ls 4 [(0, .ref (q 0)), (1, .int x1), (2, .int x2), (3, .int x3)]) : W p l e (mR 2 45) s m args below meth c H locs 0 0 (MQ below (mQ D cI cZ q rz uz) args s 0 0 (mF q)) (F0 m 40 ls []) := by
  obtain ⟨hx, hb, hr, hts, hown, hlocks, hml, hK⟩ := id C
  unfold fM_visaFor_40 at h
  refine lv_iinc (v := x3 + 1) (lv' := [(3, .int (x3 + 1)), (0, .ref (q 0)), (1, .int x1), (2, .int x2)]) hx hb dX9_visaFor_40 hl (k := 3) rfl rfl (by decide) rfl (fun ls hl => ?_)
  refine lv_goto (tgt := 2) hx hb dX9_visaFor_43 (by decide) ?_
  exact hrec2 h hI (lv_sub hl [1, 2, 3, 0] rfl)
def fM_visaFor_2 : Nat → MS → Int32 → Int32 → Int32 → Option (Int32 × MS)
  | 0, _, _, _, _ => none
  | n + 1, u, x1, x2, x3 =>
    if (u 28 0) ≤ x3 then
      some ((-1), u)
    else
      (mld u 29 x3).bind fun r2 =>
      if r2 = x1 then
        (mld u 33 x3).bind fun r4 =>
        if r4 ≤ 0 then
          fM_visaFor_40 (fM_visaFor_2 n) u x1 x2 x3
        else
          mb2 (fM_isGood u x3 x2) fun r7 u6 =>
          if r7 = 0 then
            fM_visaFor_40 (fM_visaFor_2 n) u6 x1 x2 x3
          else
            some (x3, u6)
      else
        fM_visaFor_40 (fM_visaFor_2 n) u x1 x2 x3
set_option maxRecDepth 20000 in
theorem w_M_visaFor_2 (C : mC p s m args meth c cX9_visaFor (some .int) wsX9_visaFor 4 D cI cZ) {uz : MS} {rz : Int32} : ∀ (n : Nat) {u : MS} {x1 x2 x3 : Int32} (h : fM_visaFor_2 n u x1 x2 x3 = some (rz, uz)) {H : Heap} {locs : List Loc} {ls : Array Slot} (hI : mI D cI cZ q u s H locs) (hl : lv_has ls 4 [(0, .ref (q 0)), (1, .int x1), (2, .int x2), (3, .int x3)]), W p l e (mR 2 45) s m args below meth c H locs 0 0 (MQ below (mQ D cI cZ q rz uz) args s 0 0 (mF q)) (F0 m 2 ls []) := by
  obtain ⟨hx, hb, hr, hts, hown, hlocks, hml, hK⟩ := id C
  intro n
  induction n with
  | zero =>
    intro u x1 x2 x3 h
    cases (show (none : Option _) = _ from h)
  | succ n ih =>
    intro u x1 x2 x3 h H locs ls hI hl
    rw [fM_visaFor_2] at h
    refine lv_iload_n hx hb dX9_visaFor_2 rfl (lv_at hl 3 rfl) ?_
    refine lv_aload_n hx hb dX9_visaFor_3 rfl (lv_at hl 0 rfl) ?_
    refine mg_get hx hb hts iM_visaFor hown hK hI 28 (by decide) (hts (.fieldLink RX9 177 "PassageCourtModel" "visas" "I") (by decide +kernel)) rfl dX9_visaFor_4 ?_
    refine lv_icmp_ge (tgt := 46) hx hb dX9_visaFor_7 (by decide) (fun c1 => ?_) (fun c1 => ?_)
    · replace h := mpos c1 h
      refine lv_iconst (v := -1) hx hb dX9_visaFor_46 (by decide) ?_
      cases h
      exact mg_reti hx hb hr hlocks hK hI dX9_visaFor_47
    · replace h := mneg c1 h
      refine lv_aload_n hx hb dX9_visaFor_10 rfl (lv_at hl 0 rfl) ?_
      refine mg_get hx hb hts iM_visaFor hown hK hI 29 (by decide) (hts (.fieldLink RX9 85 "PassageCourtModel" "visaOf" "[I") (by decide +kernel)) rfl dX9_visaFor_11 ?_
      refine lv_iload_n hx hb dX9_visaFor_14 rfl (lv_at hl 3 rfl) ?_
      obtain ⟨r2, er2, h⟩ := mbind h
      refine mg_ald hx hb hK hI 29 rfl (by decide) er2 dX9_visaFor_15 ?_
      refine lv_iload_n hx hb dX9_visaFor_16 rfl (lv_at hl 1 rfl) ?_
      refine lv_icmp_ne (tgt := 40) hx hb dX9_visaFor_17 (by decide) (fun c3 => ?_) (fun c3 => ?_)
      · replace h := mneg c3 h
        exact w_M_visaFor_40 C ih h hI (lv_sub hl [0, 1, 2, 3] rfl)
      · replace h := mpos c3 h
        refine lv_aload_n hx hb dX9_visaFor_20 rfl (lv_at hl 0 rfl) ?_
        refine mg_get hx hb hts iM_visaFor hown hK hI 33 (by decide) (hts (.fieldLink RX9 97 "PassageCourtModel" "entries" "[I") (by decide +kernel)) rfl dX9_visaFor_21 ?_
        refine lv_iload_n hx hb dX9_visaFor_24 rfl (lv_at hl 3 rfl) ?_
        obtain ⟨r4, er4, h⟩ := mbind h
        refine mg_ald hx hb hK hI 33 rfl (by decide) er4 dX9_visaFor_25 ?_
        refine lv_if_le (tgt := 40) hx hb dX9_visaFor_26 (by decide) (fun c5 => ?_) (fun c5 => ?_)
        · replace h := mpos c5 h
          exact w_M_visaFor_40 C ih h hI (lv_sub hl [0, 1, 2, 3] rfl)
        · replace h := mneg c5 h
          refine lv_aload_n hx hb dX9_visaFor_29 rfl (lv_at hl 0 rfl) ?_
          refine lv_iload_n hx hb dX9_visaFor_30 rfl (lv_at hl 3 rfl) ?_
          refine lv_iload_n hx hb dX9_visaFor_31 rfl (lv_at hl 2 rfl) ?_
          obtain ⟨r7, u6, eu6, h⟩ := mb2_spec h
          refine mg_callV (As := [.int x3, .int x2]) (rest := []) ⟨hx, hb, hml, hown, hts⟩ (cM_isGood l D cI cZ q eu6) (cwV 2 hts gX9_visaFor_X9_isGood rfl rfl rfl (by decide +kernel) ⟨Nat.le_of_ble_eq_true rfl, Nat.le_of_ble_eq_true rfl⟩) hK hI rfl hl.1 rfl (Nat.le_of_ble_eq_true rfl) dX9_visaFor_32 ⟨Nat.le_refl _, Nat.le_refl _⟩ (fun H locs hI => ?_)
          refine lv_if_eq (tgt := 40) hx hb dX9_visaFor_35 (by decide) (fun c8 => ?_) (fun c8 => ?_)
          · replace h := mpos c8 h
            exact w_M_visaFor_40 C ih h hI (lv_sub hl [0, 1, 2, 3] rfl)
          · replace h := mneg c8 h
            refine lv_iload_n hx hb dX9_visaFor_38 rfl (lv_at hl 3 rfl) ?_
            cases h
            exact mg_reti hx hb hr hlocks hK hI dX9_visaFor_39
def fM_visaFor (u : MS) (x1 x2 : Int32) : Option (Int32 × MS) :=
  fM_visaFor_2 4096 u x1 x2 0
set_option maxRecDepth 20000 in
theorem w_M_visaFor_0 (C : mC p s m args meth c cX9_visaFor (some .int) wsX9_visaFor 4 D cI cZ) {uz : MS} {rz : Int32} {u : MS} {x1 x2 : Int32} (h : fM_visaFor u x1 x2 = some (rz, uz)) {H : Heap} {locs : List Loc} {ls : Array Slot} (hI : mI D cI cZ q u s H locs) (hl : lv_has ls 4 [(0, .ref (q 0)), (1, .int x1), (2, .int x2)]) : W p l e (mR 2 45) s m args below meth c H locs 0 0 (MQ below (mQ D cI cZ q rz uz) args s 0 0 (mF q)) (F0 m 0 ls []) := by
  obtain ⟨hx, hb, hr, hts, hown, hlocks, hml, hK⟩ := id C
  unfold fM_visaFor at h
  refine lv_iconst (v := 0) hx hb dX9_visaFor_0 (by decide) ?_
  refine lv_istore_n (lv' := [(3, .int 0), (0, .ref (q 0)), (1, .int x1), (2, .int x2)]) hx hb dX9_visaFor_1 rfl hl (by decide) rfl (fun ls hl => ?_)
  exact w_M_visaFor_2 C 4096 h hI (lv_sub hl [1, 2, 3, 0] rfl)
set_option maxRecDepth 20000 in
theorem cM_visaFor (l : Launch) (D : va_G) (cI cZ : ClassId) (q : Nat → Nat) {u uz : MS} {rz : Int32} {x1 x2 : Int32} (h : fM_visaFor u x1 x2 = some (rz, uz)) : Met l yX9_visaFor wsX9_visaFor (mR 2 45) (va_Pc [.ref (q 0), .int x1, .int x2] (mPre D cI cZ q u)) (mQ D cI cZ q rz uz) 0 0 (mF q) := by
  refine Met.ofW (cc := cX9_visaFor) (maxL := 4) (ret := (some .int)) (by decide) rfl ?_
  intro p e s m args below meth c s₁ B hml hv
  obtain ⟨rfl, hw, hK⟩ := hv
  have C : mC p s m _ meth c cX9_visaFor (some .int) wsX9_visaFor 4 D cI cZ := ⟨B.exec, B.bytes, B.returns, atoms_spec (ws := wsX9_visaFor) B.pre, findClass_of_methodNamed B.named, B.notSynchronized, hml, hK⟩
  have hl := lv_entry ([.ref (q 0), .int x1, .int x2]) (n := 4) (Nat.le_of_ble_eq_true rfl)
  rw [lg_entry_eq]
  generalize (lg_sl ([.ref (q 0), .int x1, .int x2]) ++ List.replicate (4 - (lg_sl ([.ref (q 0), .int x1, .int x2])).length) Slot.unset).toArray = ls at hl ⊢
  have hl : lv_has ls 4 [(0, .ref (q 0)), (1, .int x1), (2, .int x2)] := hl
  exact w_M_visaFor_0 C h ⟨hw, va_S.rf⟩ hl
theorem iM_reasonOf : ∀ w ∈ wsX90, w ∈ wsX9_reasonOf := by decide +kernel
def fM_reasonOf_65 (u : MS) (y0 : Int32) : Option (Int32 × MS) :=
  some (y0, u)
set_option maxRecDepth 20000 in
theorem w_M_reasonOf_65 (C : mC p s m args meth c cX9_reasonOf (some .int) wsX9_reasonOf 3 D cI cZ) {uz : MS} {rz : Int32} {u : MS} {y0 : Int32} (h : fM_reasonOf_65 u y0 = some (rz, uz)) {H : Heap} {locs : List Loc} {ls : Array Slot} (hI : mI D cI cZ q u s H locs) (hl : lv_has ls 3 [(0, .ref (q 0))]) : W p l e (mR 3 72) s m args below meth c H locs 0 0 (MQ below (mQ D cI cZ q rz uz) args s 0 0 (mF q)) (F0 m 65 ls [.int y0]) := by
  obtain ⟨hx, hb, hr, hts, hown, hlocks, hml, hK⟩ := id C
  unfold fM_reasonOf_65 at h
  cases h
  exact mg_reti hx hb hr hlocks hK hI dX9_reasonOf_65
def fM_reasonOf_47 (u : MS) (x1 x2 : Int32) : Option (Int32 × MS) :=
  mb2 (fM_hasDays u x1 x2 (u 1 0)) fun r2 u1 =>
  if r2 = 0 then
    fM_reasonOf_65 u1 3
  else
    fM_reasonOf_65 u1 0
set_option maxRecDepth 20000 in
theorem w_M_reasonOf_47 (C : mC p s m args meth c cX9_reasonOf (some .int) wsX9_reasonOf 3 D cI cZ) {uz : MS} {rz : Int32} {u : MS} {x1 x2 : Int32} (h : fM_reasonOf_47 u x1 x2 = some (rz, uz)) {H : Heap} {locs : List Loc} {ls : Array Slot} (hI : mI D cI cZ q u s H locs) (hl : lv_has ls 3 [(0, .ref (q 0)), (1, .int x1), (2, .int x2)]) : W p l e (mR 3 72) s m args below meth c H locs 0 0 (MQ below (mQ D cI cZ q rz uz) args s 0 0 (mF q)) (F0 m 47 ls []) := by
  obtain ⟨hx, hb, hr, hts, hown, hlocks, hml, hK⟩ := id C
  unfold fM_reasonOf_47 at h
  refine lv_aload_n hx hb dX9_reasonOf_47 rfl (lv_at hl 0 rfl) ?_
  refine lv_iload_n hx hb dX9_reasonOf_48 rfl (lv_at hl 1 rfl) ?_
  refine lv_iload_n hx hb dX9_reasonOf_49 rfl (lv_at hl 2 rfl) ?_
  refine lv_aload_n hx hb dX9_reasonOf_50 rfl (lv_at hl 0 rfl) ?_
  refine mg_get hx hb hts iM_reasonOf hown hK hI 1 (by decide) (hts (.fieldLink RX9 153 "PassageCourtModel" "today" "I") (by decide +kernel)) rfl dX9_reasonOf_51 ?_
  obtain ⟨r2, u1, eu1, h⟩ := mb2_spec h
  refine mg_callV (As := [.int x1, .int x2, .int (u 1 0)]) (rest := []) ⟨hx, hb, hml, hown, hts⟩ (cM_hasDays l D cI cZ q eu1) (cwV 3 hts gX9_reasonOf_X9_hasDays rfl rfl rfl (by decide +kernel) ⟨Nat.le_of_ble_eq_true rfl, Nat.le_of_ble_eq_true rfl⟩) hK hI rfl hl.1 rfl (Nat.le_of_ble_eq_true rfl) dX9_reasonOf_54 ⟨Nat.le_refl _, Nat.le_refl _⟩ (fun H locs hI => ?_)
  refine lv_if_eq (tgt := 64) hx hb dX9_reasonOf_57 (by decide) (fun c3 => ?_) (fun c3 => ?_)
  · replace h := mpos c3 h
    refine lv_iconst (v := 3) hx hb dX9_reasonOf_64 (by decide) ?_
    exact w_M_reasonOf_65 C h hI (lv_sub hl [0] rfl)
  · replace h := mneg c3 h
    refine lv_iconst (v := 0) hx hb dX9_reasonOf_60 (by decide) ?_
    refine lv_goto (tgt := 65) hx hb dX9_reasonOf_61 (by decide) ?_
    exact w_M_reasonOf_65 C h hI (lv_sub hl [0] rfl)
def fM_reasonOf (u : MS) (x1 x2 : Int32) : Option (Int32 × MS) :=
  mb2 (fM_belongs u x1 x2) fun r5 u4 =>
  if r5 = 0 then
    mb2 (fM_isBanned u4 x1 x2) fun r8 u7 =>
    if r8 = 0 then
      mb2 (fM_isFree u7 x1 x2) fun r11 u10 =>
      if r11 = 0 then
        mb2 (fM_visaFor u10 x1 x2) fun r14 u13 =>
        if r14 = ((-1)) then
          fM_reasonOf_65 u13 2
        else
          fM_reasonOf_47 u13 x1 x2
      else
        fM_reasonOf_47 u10 x1 x2
    else
      fM_reasonOf_65 u7 1
  else
    some (0, u4)
set_option maxRecDepth 20000 in
theorem w_M_reasonOf_0 (C : mC p s m args meth c cX9_reasonOf (some .int) wsX9_reasonOf 3 D cI cZ) {uz : MS} {rz : Int32} {u : MS} {x1 x2 : Int32} (h : fM_reasonOf u x1 x2 = some (rz, uz)) {H : Heap} {locs : List Loc} {ls : Array Slot} (hI : mI D cI cZ q u s H locs) (hl : lv_has ls 3 [(0, .ref (q 0)), (1, .int x1), (2, .int x2)]) : W p l e (mR 3 72) s m args below meth c H locs 0 0 (MQ below (mQ D cI cZ q rz uz) args s 0 0 (mF q)) (F0 m 0 ls []) := by
  obtain ⟨hx, hb, hr, hts, hown, hlocks, hml, hK⟩ := id C
  unfold fM_reasonOf at h
  refine lv_aload_n hx hb dX9_reasonOf_0 rfl (lv_at hl 0 rfl) ?_
  refine lv_iload_n hx hb dX9_reasonOf_1 rfl (lv_at hl 1 rfl) ?_
  refine lv_iload_n hx hb dX9_reasonOf_2 rfl (lv_at hl 2 rfl) ?_
  obtain ⟨r5, u4, eu4, h⟩ := mb2_spec h
  refine mg_callV (As := [.int x1, .int x2]) (rest := []) ⟨hx, hb, hml, hown, hts⟩ (cM_belongs l D cI cZ q eu4) (cwV 2 hts gX9_reasonOf_X9_belongs rfl rfl rfl (by decide +kernel) ⟨Nat.le_of_ble_eq_true rfl, Nat.le_of_ble_eq_true rfl⟩) hK hI rfl hl.1 rfl (Nat.le_of_ble_eq_true rfl) dX9_reasonOf_3 ⟨Nat.le_refl _, Nat.le_refl _⟩ (fun H locs hI => ?_)
  refine lv_if_eq (tgt := 11) hx hb dX9_reasonOf_6 (by decide) (fun c6 => ?_) (fun c6 => ?_)
  · replace h := mpos c6 h
    refine lv_aload_n hx hb dX9_reasonOf_11 rfl (lv_at hl 0 rfl) ?_
    refine lv_iload_n hx hb dX9_reasonOf_12 rfl (lv_at hl 1 rfl) ?_
    refine lv_iload_n hx hb dX9_reasonOf_13 rfl (lv_at hl 2 rfl) ?_
    obtain ⟨r8, u7, eu7, h⟩ := mb2_spec h
    refine mg_callV (As := [.int x1, .int x2]) (rest := []) ⟨hx, hb, hml, hown, hts⟩ (cM_isBanned l D cI cZ q eu7) (cwV 2 hts gX9_reasonOf_X9_isBanned rfl rfl rfl (by decide +kernel) ⟨Nat.le_of_ble_eq_true rfl, Nat.le_of_ble_eq_true rfl⟩) hK hI rfl hl.1 rfl (Nat.le_of_ble_eq_true rfl) dX9_reasonOf_14 ⟨Nat.le_refl _, Nat.le_refl _⟩ (fun H locs hI => ?_)
    refine lv_if_eq (tgt := 24) hx hb dX9_reasonOf_17 (by decide) (fun c9 => ?_) (fun c9 => ?_)
    · replace h := mpos c9 h
      refine lv_aload_n hx hb dX9_reasonOf_24 rfl (lv_at hl 0 rfl) ?_
      refine lv_iload_n hx hb dX9_reasonOf_25 rfl (lv_at hl 1 rfl) ?_
      refine lv_iload_n hx hb dX9_reasonOf_26 rfl (lv_at hl 2 rfl) ?_
      obtain ⟨r11, u10, eu10, h⟩ := mb2_spec h
      refine mg_callV (As := [.int x1, .int x2]) (rest := []) ⟨hx, hb, hml, hown, hts⟩ (cM_isFree l D cI cZ q eu10) (cwV 2 hts gX9_reasonOf_X9_isFree rfl rfl rfl (by decide +kernel) ⟨Nat.le_of_ble_eq_true rfl, Nat.le_of_ble_eq_true rfl⟩) hK hI rfl hl.1 rfl (Nat.le_of_ble_eq_true rfl) dX9_reasonOf_27 ⟨Nat.le_refl _, Nat.le_refl _⟩ (fun H locs hI => ?_)
      refine lv_if_ne (tgt := 47) hx hb dX9_reasonOf_30 (by decide) (fun c12 => ?_) (fun c12 => ?_)
      · replace h := mneg c12 h
        exact w_M_reasonOf_47 C h hI (lv_sub hl [0, 1, 2] rfl)
      · replace h := mpos c12 h
        refine lv_aload_n hx hb dX9_reasonOf_33 rfl (lv_at hl 0 rfl) ?_
        refine lv_iload_n hx hb dX9_reasonOf_34 rfl (lv_at hl 1 rfl) ?_
        refine lv_iload_n hx hb dX9_reasonOf_35 rfl (lv_at hl 2 rfl) ?_
        obtain ⟨r14, u13, eu13, h⟩ := mb2_spec h
        refine mg_callV (As := [.int x1, .int x2]) (rest := []) ⟨hx, hb, hml, hown, hts⟩ (cM_visaFor l D cI cZ q eu13) (cwV 2 hts gX9_reasonOf_X9_visaFor rfl rfl rfl (by decide +kernel) ⟨Nat.le_of_ble_eq_true rfl, Nat.le_of_ble_eq_true rfl⟩) hK hI rfl hl.1 rfl (Nat.le_of_ble_eq_true rfl) dX9_reasonOf_36 ⟨Nat.le_refl _, Nat.le_refl _⟩ (fun H locs hI => ?_)
        refine lv_iconst (v := -1) hx hb dX9_reasonOf_39 (by decide) ?_
        refine lv_icmp_ne (tgt := 47) hx hb dX9_reasonOf_40 (by decide) (fun c15 => ?_) (fun c15 => ?_)
        · replace h := mneg c15 h
          exact w_M_reasonOf_47 C h hI (lv_sub hl [0, 1, 2] rfl)
        · replace h := mpos c15 h
          refine lv_iconst (v := 2) hx hb dX9_reasonOf_43 (by decide) ?_
          refine lv_goto (tgt := 65) hx hb dX9_reasonOf_44 (by decide) ?_
          exact w_M_reasonOf_65 C h hI (lv_sub hl [0] rfl)
    · replace h := mneg c9 h
      refine lv_iconst (v := 1) hx hb dX9_reasonOf_20 (by decide) ?_
      refine lv_goto (tgt := 65) hx hb dX9_reasonOf_21 (by decide) ?_
      exact w_M_reasonOf_65 C h hI (lv_sub hl [0] rfl)
  · replace h := mneg c6 h
    refine lv_iconst (v := 0) hx hb dX9_reasonOf_9 (by decide) ?_
    cases h
    exact mg_reti hx hb hr hlocks hK hI dX9_reasonOf_10
set_option maxRecDepth 20000 in
theorem cM_reasonOf (l : Launch) (D : va_G) (cI cZ : ClassId) (q : Nat → Nat) {u uz : MS} {rz : Int32} {x1 x2 : Int32} (h : fM_reasonOf u x1 x2 = some (rz, uz)) : Met l yX9_reasonOf wsX9_reasonOf (mR 3 72) (va_Pc [.ref (q 0), .int x1, .int x2] (mPre D cI cZ q u)) (mQ D cI cZ q rz uz) 0 0 (mF q) := by
  refine Met.ofW (cc := cX9_reasonOf) (maxL := 3) (ret := (some .int)) (by decide) rfl ?_
  intro p e s m args below meth c s₁ B hml hv
  obtain ⟨rfl, hw, hK⟩ := hv
  have C : mC p s m _ meth c cX9_reasonOf (some .int) wsX9_reasonOf 3 D cI cZ := ⟨B.exec, B.bytes, B.returns, atoms_spec (ws := wsX9_reasonOf) B.pre, findClass_of_methodNamed B.named, B.notSynchronized, hml, hK⟩
  have hl := lv_entry ([.ref (q 0), .int x1, .int x2]) (n := 3) (Nat.le_of_ble_eq_true rfl)
  rw [lg_entry_eq]
  generalize (lg_sl ([.ref (q 0), .int x1, .int x2]) ++ List.replicate (3 - (lg_sl ([.ref (q 0), .int x1, .int x2])).length) Slot.unset).toArray = ls at hl ⊢
  have hl : lv_has ls 3 [(0, .ref (q 0)), (1, .int x1), (2, .int x2)] := hl
  exact w_M_reasonOf_0 C h ⟨hw, va_S.rf⟩ hl
theorem iM_enter : ∀ w ∈ wsX90, w ∈ wsX9_enter := by decide +kernel
def fM_enter_125 (u : MS) (x4 : Int32) : Option (Int32 × MS) :=
  some (x4, u)
set_option maxRecDepth 20000 in
theorem w_M_enter_125 (C : mC p s m args meth c cX9_enter (some .int) wsX9_enter 7 D cI cZ) {uz : MS} {rz : Int32} {u : MS} {x4 : Int32} (h : fM_enter_125 u x4 = some (rz, uz)) {H : Heap} {locs : List Loc} {ls : Array Slot} (hI : mI D cI cZ q u s H locs) (hl : lv_has ls 7 [(0, .ref (q 0)), (4, .int x4)]) : W p l e (mR 6 142) s m args below meth c H locs 0 0 (MQ below (mQ D cI cZ q rz uz) args s 0 0 (mF q)) (F0 m 125 ls []) := by
  obtain ⟨hx, hb, hr, hts, hown, hlocks, hml, hK⟩ := id C
  unfold fM_enter_125 at h
  refine lv_iload hx hb dX9_enter_125 (lv_at hl 1 rfl) ?_
  cases h
  exact mg_reti hx hb hr hlocks hK hI dX9_enter_127
def fM_enter_114 (u : MS) (x1 x2 x4 x5 : Int32) : Option (Int32 × MS) :=
  mb2 (fM_come u x1 x2 x5 0) fun r2 u1 =>
  fM_enter_125 u1 x4
set_option maxRecDepth 20000 in
theorem w_M_enter_114 (C : mC p s m args meth c cX9_enter (some .int) wsX9_enter 7 D cI cZ) {uz : MS} {rz : Int32} {u : MS} {x1 x2 x4 x5 : Int32} (h : fM_enter_114 u x1 x2 x4 x5 = some (rz, uz)) {H : Heap} {locs : List Loc} {ls : Array Slot} (hI : mI D cI cZ q u s H locs) (hl : lv_has ls 7 [(0, .ref (q 0)), (1, .int x1), (2, .int x2), (4, .int x4), (5, .int x5)]) : W p l e (mR 6 142) s m args below meth c H locs 0 0 (MQ below (mQ D cI cZ q rz uz) args s 0 0 (mF q)) (F0 m 114 ls []) := by
  obtain ⟨hx, hb, hr, hts, hown, hlocks, hml, hK⟩ := id C
  unfold fM_enter_114 at h
  refine lv_aload_n hx hb dX9_enter_114 rfl (lv_at hl 0 rfl) ?_
  refine lv_iload_n hx hb dX9_enter_115 rfl (lv_at hl 1 rfl) ?_
  refine lv_iload_n hx hb dX9_enter_116 rfl (lv_at hl 2 rfl) ?_
  refine lv_iload hx hb dX9_enter_117 (lv_at hl 4 rfl) ?_
  refine lv_iconst (v := 0) hx hb dX9_enter_119 (by decide) ?_
  obtain ⟨r2, u1, eu1, h⟩ := mb2_spec h
  refine mg_callV (As := [.int x1, .int x2, .int x5, .int 0]) (rest := []) ⟨hx, hb, hml, hown, hts⟩ (cM_come l D cI cZ q eu1) (cwV 4 hts gX9_enter_X9_come rfl rfl rfl (by decide +kernel) ⟨Nat.le_of_ble_eq_true rfl, Nat.le_of_ble_eq_true rfl⟩) hK hI rfl hl.1 rfl (Nat.le_of_ble_eq_true rfl) dX9_enter_120 ⟨Nat.le_refl _, Nat.le_refl _⟩ (fun H locs hI => ?_)
  refine lv_istore (lv' := [(6, .int r2), (0, .ref (q 0)), (1, .int x1), (2, .int x2), (4, .int x4), (5, .int x5)]) hx hb dX9_enter_123 hl (by decide) rfl (fun ls hl => ?_)
  exact w_M_enter_125 C h hI (lv_sub hl [1, 4] rfl)
def fM_enter_95 (u : MS) (x1 x2 x4 y0 : Int32) : Option (Int32 × MS) :=
  if y0 = ((-1)) then
    fM_enter_114 u x1 x2 x4 y0
  else
    (mld u 33 y0).bind fun r4 =>
    (mst u 33 y0 (r4 - 1)).bind fun u5 =>
    fM_enter_114 u5 x1 x2 x4 y0
set_option maxRecDepth 20000 in
theorem w_M_enter_95 (C : mC p s m args meth c cX9_enter (some .int) wsX9_enter 7 D cI cZ) {uz : MS} {rz : Int32} {u : MS} {x1 x2 x4 y0 : Int32} (h : fM_enter_95 u x1 x2 x4 y0 = some (rz, uz)) {H : Heap} {locs : List Loc} {ls : Array Slot} (hI : mI D cI cZ q u s H locs) (hl : lv_has ls 7 [(0, .ref (q 0)), (1, .int x1), (2, .int x2), (4, .int x4)]) : W p l e (mR 6 142) s m args below meth c H locs 0 0 (MQ below (mQ D cI cZ q rz uz) args s 0 0 (mF q)) (F0 m 95 ls [.int y0]) := by
  obtain ⟨hx, hb, hr, hts, hown, hlocks, hml, hK⟩ := id C
  unfold fM_enter_95 at h
  refine lv_istore (lv' := [(5, .int y0), (0, .ref (q 0)), (1, .int x1), (2, .int x2), (4, .int x4)]) hx hb dX9_enter_95 hl (by decide) rfl (fun ls hl => ?_)
  refine lv_iload hx hb dX9_enter_97 (lv_at hl 0 rfl) ?_
  refine lv_iconst (v := -1) hx hb dX9_enter_99 (by decide) ?_
  refine lv_icmp_eq (tgt := 114) hx hb dX9_enter_100 (by decide) (fun c3 => ?_) (fun c3 => ?_)
  · replace h := mpos c3 h
    exact w_M_enter_114 C h hI (lv_sub hl [1, 2, 3, 4, 0] rfl)
  · replace h := mneg c3 h
    refine lv_aload_n hx hb dX9_enter_103 rfl (lv_at hl 1 rfl) ?_
    refine mg_get hx hb hts iM_enter hown hK hI 33 (by decide) (hts (.fieldLink RX9 97 "PassageCourtModel" "entries" "[I") (by decide +kernel)) rfl dX9_enter_104 ?_
    refine lv_iload hx hb dX9_enter_107 (lv_at hl 0 rfl) ?_
    refine lv_dup2_11 hx hb dX9_enter_109 rfl rfl ?_
    obtain ⟨r4, er4, h⟩ := mbind h
    refine mg_ald hx hb hK hI 33 rfl (by decide) er4 dX9_enter_110 ?_
    refine lv_iconst (v := 1) hx hb dX9_enter_111 (by decide) ?_
    refine lv_isub hx hb dX9_enter_112 ?_
    obtain ⟨u5, eu5, h⟩ := mbind h
    refine mg_ast hx hb hK hI 33 rfl (by decide) eu5 dX9_enter_113 (fun H locs hI => ?_)
    exact w_M_enter_114 C h hI (lv_sub hl [1, 2, 3, 4, 0] rfl)
def fM_enter_85 (u : MS) (x1 x2 x4 : Int32) : Option (Int32 × MS) :=
  fM_enter_95 u x1 x2 x4 ((-1))
set_option maxRecDepth 20000 in
theorem w_M_enter_85 (C : mC p s m args meth c cX9_enter (some .int) wsX9_enter 7 D cI cZ) {uz : MS} {rz : Int32} {u : MS} {x1 x2 x4 : Int32} (h : fM_enter_85 u x1 x2 x4 = some (rz, uz)) {H : Heap} {locs : List Loc} {ls : Array Slot} (hI : mI D cI cZ q u s H locs) (hl : lv_has ls 7 [(0, .ref (q 0)), (1, .int x1), (2, .int x2), (4, .int x4)]) : W p l e (mR 6 142) s m args below meth c H locs 0 0 (MQ below (mQ D cI cZ q rz uz) args s 0 0 (mF q)) (F0 m 85 ls []) := by
  obtain ⟨hx, hb, hr, hts, hown, hlocks, hml, hK⟩ := id C
  unfold fM_enter_85 at h
  refine lv_iconst (v := -1) hx hb dX9_enter_85 (by decide) ?_
  refine lv_goto (tgt := 95) hx hb dX9_enter_86 (by decide) ?_
  exact w_M_enter_95 C h hI (lv_sub hl [0, 1, 2, 3] rfl)
def fM_enter_46 (u : MS) (x1 x2 y0 : Int32) : Option (Int32 × MS) :=
  mb2 (fM_goesWell u y0) fun r7 u6 =>
  if r7 = 0 then
    some (0, u6)
  else
    mb2 (fM_reasonOf u6 x1 x2) fun r10 u9 =>
    if r10 = 0 then
      mb2 (fM_belongs u9 x1 x2) fun r13 u12 =>
      if r13 = 0 then
        mb2 (fM_isFree u12 x1 x2) fun r16 u15 =>
        if r16 = 0 then
          mb2 (fM_visaFor u15 x1 x2) fun r19 u18 =>
          fM_enter_95 u18 x1 x2 r10 r19
        else
          fM_enter_85 u15 x1 x2 r10
      else
        fM_enter_85 u12 x1 x2 r10
    else
      fM_enter_125 u9 r10
set_option maxRecDepth 20000 in
theorem w_M_enter_46 (C : mC p s m args meth c cX9_enter (some .int) wsX9_enter 7 D cI cZ) {uz : MS} {rz : Int32} {u : MS} {x1 x2 y0 : Int32} (h : fM_enter_46 u x1 x2 y0 = some (rz, uz)) {H : Heap} {locs : List Loc} {ls : Array Slot} (hI : mI D cI cZ q u s H locs) (hl : lv_has ls 7 [(0, .ref (q 0)), (1, .int x1), (2, .int x2)]) : W p l e (mR 6 142) s m args below meth c H locs 0 0 (MQ below (mQ D cI cZ q rz uz) args s 0 0 (mF q)) (F0 m 46 ls [.int y0, .ref (q 0)]) := by
  obtain ⟨hx, hb, hr, hts, hown, hlocks, hml, hK⟩ := id C
  unfold fM_enter_46 at h
  obtain ⟨r7, u6, eu6, h⟩ := mb2_spec h
  refine mg_callV (As := [.int y0]) (rest := []) ⟨hx, hb, hml, hown, hts⟩ (cM_goesWell l D cI cZ q eu6) (cwV 1 hts gX9_enter_X9_goesWell rfl rfl rfl (by decide +kernel) ⟨Nat.le_of_ble_eq_true rfl, Nat.le_of_ble_eq_true rfl⟩) hK hI rfl hl.1 rfl (Nat.le_of_ble_eq_true rfl) dX9_enter_46 ⟨Nat.le_refl _, Nat.le_refl _⟩ (fun H locs hI => ?_)
  refine lv_if_ne (tgt := 54) hx hb dX9_enter_49 (by decide) (fun c8 => ?_) (fun c8 => ?_)
  · replace h := mneg c8 h
    refine lv_aload_n hx hb dX9_enter_54 rfl (lv_at hl 0 rfl) ?_
    refine lv_iload_n hx hb dX9_enter_55 rfl (lv_at hl 1 rfl) ?_
    refine lv_iload_n hx hb dX9_enter_56 rfl (lv_at hl 2 rfl) ?_
    obtain ⟨r10, u9, eu9, h⟩ := mb2_spec h
    refine mg_callV (As := [.int x1, .int x2]) (rest := []) ⟨hx, hb, hml, hown, hts⟩ (cM_reasonOf l D cI cZ q eu9) (cwV 2 hts gX9_enter_X9_reasonOf rfl rfl rfl (by decide +kernel) ⟨Nat.le_of_ble_eq_true rfl, Nat.le_of_ble_eq_true rfl⟩) hK hI rfl hl.1 rfl (Nat.le_of_ble_eq_true rfl) dX9_enter_57 ⟨Nat.le_refl _, Nat.le_refl _⟩ (fun H locs hI => ?_)
    refine lv_istore (lv' := [(4, .int r10), (0, .ref (q 0)), (1, .int x1), (2, .int x2)]) hx hb dX9_enter_60 hl (by decide) rfl (fun ls hl => ?_)
    refine lv_iload hx hb dX9_enter_62 (lv_at hl 0 rfl) ?_
    refine lv_if_ne (tgt := 125) hx hb dX9_enter_64 (by decide) (fun c11 => ?_) (fun c11 => ?_)
    · replace h := mneg c11 h
      exact w_M_enter_125 C h hI (lv_sub hl [1, 0] rfl)
    · replace h := mpos c11 h
      refine lv_aload_n hx hb dX9_enter_67 rfl (lv_at hl 1 rfl) ?_
      refine lv_iload_n hx hb dX9_enter_68 rfl (lv_at hl 2 rfl) ?_
      refine lv_iload_n hx hb dX9_enter_69 rfl (lv_at hl 3 rfl) ?_
      obtain ⟨r13, u12, eu12, h⟩ := mb2_spec h
      refine mg_callV (As := [.int x1, .int x2]) (rest := []) ⟨hx, hb, hml, hown, hts⟩ (cM_belongs l D cI cZ q eu12) (cwV 2 hts gX9_enter_X9_belongs rfl rfl rfl (by decide +kernel) ⟨Nat.le_of_ble_eq_true rfl, Nat.le_of_ble_eq_true rfl⟩) hK hI rfl hl.1 rfl (Nat.le_of_ble_eq_true rfl) dX9_enter_70 ⟨Nat.le_refl _, Nat.le_refl _⟩ (fun H locs hI => ?_)
      refine lv_if_ne (tgt := 85) hx hb dX9_enter_73 (by decide) (fun c14 => ?_) (fun c14 => ?_)
      · replace h := mneg c14 h
        exact w_M_enter_85 C h hI (lv_sub hl [1, 2, 3, 0] rfl)
      · replace h := mpos c14 h
        refine lv_aload_n hx hb dX9_enter_76 rfl (lv_at hl 1 rfl) ?_
        refine lv_iload_n hx hb dX9_enter_77 rfl (lv_at hl 2 rfl) ?_
        refine lv_iload_n hx hb dX9_enter_78 rfl (lv_at hl 3 rfl) ?_
        obtain ⟨r16, u15, eu15, h⟩ := mb2_spec h
        refine mg_callV (As := [.int x1, .int x2]) (rest := []) ⟨hx, hb, hml, hown, hts⟩ (cM_isFree l D cI cZ q eu15) (cwV 2 hts gX9_enter_X9_isFree rfl rfl rfl (by decide +kernel) ⟨Nat.le_of_ble_eq_true rfl, Nat.le_of_ble_eq_true rfl⟩) hK hI rfl hl.1 rfl (Nat.le_of_ble_eq_true rfl) dX9_enter_79 ⟨Nat.le_refl _, Nat.le_refl _⟩ (fun H locs hI => ?_)
        refine lv_if_eq (tgt := 89) hx hb dX9_enter_82 (by decide) (fun c17 => ?_) (fun c17 => ?_)
        · replace h := mpos c17 h
          refine lv_aload_n hx hb dX9_enter_89 rfl (lv_at hl 1 rfl) ?_
          refine lv_iload_n hx hb dX9_enter_90 rfl (lv_at hl 2 rfl) ?_
          refine lv_iload_n hx hb dX9_enter_91 rfl (lv_at hl 3 rfl) ?_
          obtain ⟨r19, u18, eu18, h⟩ := mb2_spec h
          refine mg_callV (As := [.int x1, .int x2]) (rest := []) ⟨hx, hb, hml, hown, hts⟩ (cM_visaFor l D cI cZ q eu18) (cwV 2 hts gX9_enter_X9_visaFor rfl rfl rfl (by decide +kernel) ⟨Nat.le_of_ble_eq_true rfl, Nat.le_of_ble_eq_true rfl⟩) hK hI rfl hl.1 rfl (Nat.le_of_ble_eq_true rfl) dX9_enter_92 ⟨Nat.le_refl _, Nat.le_refl _⟩ (fun H locs hI => ?_)
          exact w_M_enter_95 C h hI (lv_sub hl [1, 2, 3, 0] rfl)
        · replace h := mneg c17 h
          exact w_M_enter_85 C h hI (lv_sub hl [1, 2, 3, 0] rfl)
  · replace h := mpos c8 h
    refine lv_iconst (v := 0) hx hb dX9_enter_52 (by decide) ?_
    cases h
    exact mg_reti hx hb hr hlocks hK hI dX9_enter_53
def fM_enter_21 (u : MS) (x1 x2 y0 : Int32) : Option (Int32 × MS) :=
  if y0 = 0 then
    fM_enter_46 u x1 x2 1
  else
    (mld u 18 x1).bind fun r21 =>
    if r21 = ((-1)) then
      fM_enter_46 u x1 x2 0
    else
      fM_enter_46 u x1 x2 2
set_option maxRecDepth 20000 in
theorem w_M_enter_21 (C : mC p s m args meth c cX9_enter (some .int) wsX9_enter 7 D cI cZ) {uz : MS} {rz : Int32} {u : MS} {x1 x2 y0 : Int32} (h : fM_enter_21 u x1 x2 y0 = some (rz, uz)) {H : Heap} {locs : List Loc} {ls : Array Slot} (hI : mI D cI cZ q u s H locs) (hl : lv_has ls 7 [(0, .ref (q 0)), (1, .int x1), (2, .int x2)]) : W p l e (mR 6 142) s m args below meth c H locs 0 0 (MQ below (mQ D cI cZ q rz uz) args s 0 0 (mF q)) (F0 m 21 ls [.int y0]) := by
  obtain ⟨hx, hb, hr, hts, hown, hlocks, hml, hK⟩ := id C
  unfold fM_enter_21 at h
  refine lv_istore_n (lv' := [(3, .int y0), (0, .ref (q 0)), (1, .int x1), (2, .int x2)]) hx hb dX9_enter_21 rfl hl (by decide) rfl (fun ls hl => ?_)
  refine lv_aload_n hx hb dX9_enter_22 rfl (lv_at hl 1 rfl) ?_
  refine lv_iload_n hx hb dX9_enter_23 rfl (lv_at hl 0 rfl) ?_
  refine lv_if_ne (tgt := 31) hx hb dX9_enter_24 (by decide) (fun c20 => ?_) (fun c20 => ?_)
  · replace h := mneg c20 h
    refine lv_aload_n hx hb dX9_enter_31 rfl (lv_at hl 1 rfl) ?_
    refine mg_get hx hb hts iM_enter hown hK hI 18 (by decide) (hts (.fieldLink RX9 54 "PassageCourtModel" "where" "[I") (by decide +kernel)) rfl dX9_enter_32 ?_
    refine lv_iload_n hx hb dX9_enter_35 rfl (lv_at hl 2 rfl) ?_
    obtain ⟨r21, er21, h⟩ := mbind h
    refine mg_ald hx hb hK hI 18 rfl (by decide) er21 dX9_enter_36 ?_
    refine lv_iconst (v := -1) hx hb dX9_enter_37 (by decide) ?_
    refine lv_icmp_eq (tgt := 45) hx hb dX9_enter_38 (by decide) (fun c22 => ?_) (fun c22 => ?_)
    · replace h := mpos c22 h
      refine lv_iconst (v := 0) hx hb dX9_enter_45 (by decide) ?_
      exact w_M_enter_46 C h hI (lv_sub hl [1, 2, 3] rfl)
    · replace h := mneg c22 h
      refine lv_iconst (v := 2) hx hb dX9_enter_41 (by decide) ?_
      refine lv_goto (tgt := 46) hx hb dX9_enter_42 (by decide) ?_
      exact w_M_enter_46 C h hI (lv_sub hl [1, 2, 3] rfl)
  · replace h := mpos c20 h
    refine lv_iconst (v := 1) hx hb dX9_enter_27 (by decide) ?_
    refine lv_goto (tgt := 46) hx hb dX9_enter_28 (by decide) ?_
    exact w_M_enter_46 C h hI (lv_sub hl [1, 2, 3] rfl)
def fM_enter_20 (u : MS) (x1 x2 : Int32) : Option (Int32 × MS) :=
  fM_enter_21 u x1 x2 0
set_option maxRecDepth 20000 in
theorem w_M_enter_20 (C : mC p s m args meth c cX9_enter (some .int) wsX9_enter 7 D cI cZ) {uz : MS} {rz : Int32} {u : MS} {x1 x2 : Int32} (h : fM_enter_20 u x1 x2 = some (rz, uz)) {H : Heap} {locs : List Loc} {ls : Array Slot} (hI : mI D cI cZ q u s H locs) (hl : lv_has ls 7 [(0, .ref (q 0)), (1, .int x1), (2, .int x2)]) : W p l e (mR 6 142) s m args below meth c H locs 0 0 (MQ below (mQ D cI cZ q rz uz) args s 0 0 (mF q)) (F0 m 20 ls []) := by
  obtain ⟨hx, hb, hr, hts, hown, hlocks, hml, hK⟩ := id C
  unfold fM_enter_20 at h
  refine lv_iconst (v := 0) hx hb dX9_enter_20 (by decide) ?_
  exact w_M_enter_21 C h hI (lv_sub hl [0, 1, 2] rfl)
def fM_enter (u : MS) (x1 x2 : Int32) : Option (Int32 × MS) :=
  mb2 (fM_isPerson u x1) fun r24 u23 =>
  if r24 = 0 then
    fM_enter_20 u23 x1 x2
  else
    mb2 (fM_isLand u23 x2) fun r27 u26 =>
    if r27 = 0 then
      fM_enter_20 u26 x1 x2
    else
      fM_enter_21 u26 x1 x2 1
set_option maxRecDepth 20000 in
theorem w_M_enter_0 (C : mC p s m args meth c cX9_enter (some .int) wsX9_enter 7 D cI cZ) {uz : MS} {rz : Int32} {u : MS} {x1 x2 : Int32} (h : fM_enter u x1 x2 = some (rz, uz)) {H : Heap} {locs : List Loc} {ls : Array Slot} (hI : mI D cI cZ q u s H locs) (hl : lv_has ls 7 [(0, .ref (q 0)), (1, .int x1), (2, .int x2)]) : W p l e (mR 6 142) s m args below meth c H locs 0 0 (MQ below (mQ D cI cZ q rz uz) args s 0 0 (mF q)) (F0 m 0 ls []) := by
  obtain ⟨hx, hb, hr, hts, hown, hlocks, hml, hK⟩ := id C
  unfold fM_enter at h
  refine lv_aload_n hx hb dX9_enter_0 rfl (lv_at hl 0 rfl) ?_
  refine lv_iload_n hx hb dX9_enter_1 rfl (lv_at hl 1 rfl) ?_
  obtain ⟨r24, u23, eu23, h⟩ := mb2_spec h
  refine mg_callV (As := [.int x1]) (rest := []) ⟨hx, hb, hml, hown, hts⟩ (cM_isPerson l D cI cZ q eu23) (cwV 1 hts gX9_enter_X9_isPerson rfl rfl rfl (by decide +kernel) ⟨Nat.le_of_ble_eq_true rfl, Nat.le_of_ble_eq_true rfl⟩) hK hI rfl hl.1 rfl (Nat.le_of_ble_eq_true rfl) dX9_enter_2 ⟨Nat.le_refl _, Nat.le_refl _⟩ (fun H locs hI => ?_)
  refine lv_if_eq (tgt := 20) hx hb dX9_enter_5 (by decide) (fun c25 => ?_) (fun c25 => ?_)
  · replace h := mpos c25 h
    exact w_M_enter_20 C h hI (lv_sub hl [0, 1, 2] rfl)
  · replace h := mneg c25 h
    refine lv_aload_n hx hb dX9_enter_8 rfl (lv_at hl 0 rfl) ?_
    refine lv_iload_n hx hb dX9_enter_9 rfl (lv_at hl 2 rfl) ?_
    obtain ⟨r27, u26, eu26, h⟩ := mb2_spec h
    refine mg_callV (As := [.int x2]) (rest := []) ⟨hx, hb, hml, hown, hts⟩ (cM_isLand l D cI cZ q eu26) (cwV 1 hts gX9_enter_X9_isLand rfl rfl rfl (by decide +kernel) ⟨Nat.le_of_ble_eq_true rfl, Nat.le_of_ble_eq_true rfl⟩) hK hI rfl hl.1 rfl (Nat.le_of_ble_eq_true rfl) dX9_enter_10 ⟨Nat.le_refl _, Nat.le_refl _⟩ (fun H locs hI => ?_)
    refine lv_if_eq (tgt := 20) hx hb dX9_enter_13 (by decide) (fun c28 => ?_) (fun c28 => ?_)
    · replace h := mpos c28 h
      exact w_M_enter_20 C h hI (lv_sub hl [0, 1, 2] rfl)
    · replace h := mneg c28 h
      refine lv_iconst (v := 1) hx hb dX9_enter_16 (by decide) ?_
      refine lv_goto (tgt := 21) hx hb dX9_enter_17 (by decide) ?_
      exact w_M_enter_21 C h hI (lv_sub hl [0, 1, 2] rfl)
set_option maxRecDepth 20000 in
theorem cM_enter (l : Launch) (D : va_G) (cI cZ : ClassId) (q : Nat → Nat) {u uz : MS} {rz : Int32} {x1 x2 : Int32} (h : fM_enter u x1 x2 = some (rz, uz)) : Met l yX9_enter wsX9_enter (mR 6 142) (va_Pc [.ref (q 0), .int x1, .int x2] (mPre D cI cZ q u)) (mQ D cI cZ q rz uz) 0 0 (mF q) := by
  refine Met.ofW (cc := cX9_enter) (maxL := 7) (ret := (some .int)) (by decide) rfl ?_
  intro p e s m args below meth c s₁ B hml hv
  obtain ⟨rfl, hw, hK⟩ := hv
  have C : mC p s m _ meth c cX9_enter (some .int) wsX9_enter 7 D cI cZ := ⟨B.exec, B.bytes, B.returns, atoms_spec (ws := wsX9_enter) B.pre, findClass_of_methodNamed B.named, B.notSynchronized, hml, hK⟩
  have hl := lv_entry ([.ref (q 0), .int x1, .int x2]) (n := 7) (Nat.le_of_ble_eq_true rfl)
  rw [lg_entry_eq]
  generalize (lg_sl ([.ref (q 0), .int x1, .int x2]) ++ List.replicate (7 - (lg_sl ([.ref (q 0), .int x1, .int x2])).length) Slot.unset).toArray = ls at hl ⊢
  have hl : lv_has ls 7 [(0, .ref (q 0)), (1, .int x1), (2, .int x2)] := hl
  exact w_M_enter_0 C h ⟨hw, va_S.rf⟩ hl
theorem iM_slip : ∀ w ∈ wsX90, w ∈ wsX9_slip := by decide +kernel
def fM_slip_64 (u : MS) (y0 : Int32) : Option (Int32 × MS) :=
  some (y0, u)
set_option maxRecDepth 20000 in
theorem w_M_slip_64 (C : mC p s m args meth c cX9_slip (some .int) wsX9_slip 4 D cI cZ) {uz : MS} {rz : Int32} {u : MS} {y0 : Int32} (h : fM_slip_64 u y0 = some (rz, uz)) {H : Heap} {locs : List Loc} {ls : Array Slot} (hI : mI D cI cZ q u s H locs) (hl : lv_has ls 4 [(0, .ref (q 0))]) : W p l e (mR 6 142) s m args below meth c H locs 0 0 (MQ below (mQ D cI cZ q rz uz) args s 0 0 (mF q)) (F0 m 64 ls [.int y0]) := by
  obtain ⟨hx, hb, hr, hts, hown, hlocks, hml, hK⟩ := id C
  unfold fM_slip_64 at h
  cases h
  exact mg_reti hx hb hr hlocks hK hI dX9_slip_64
def fM_slip_46 (u : MS) (x1 x2 y0 : Int32) : Option (Int32 × MS) :=
  mb2 (fM_goesWell u y0) fun r2 u1 =>
  if r2 = 0 then
    fM_slip_64 u1 0
  else
    mb2 (fM_come u1 x1 x2 ((-1)) 1) fun r5 u4 =>
    fM_slip_64 u4 r5
set_option maxRecDepth 20000 in
theorem w_M_slip_46 (C : mC p s m args meth c cX9_slip (some .int) wsX9_slip 4 D cI cZ) {uz : MS} {rz : Int32} {u : MS} {x1 x2 y0 : Int32} (h : fM_slip_46 u x1 x2 y0 = some (rz, uz)) {H : Heap} {locs : List Loc} {ls : Array Slot} (hI : mI D cI cZ q u s H locs) (hl : lv_has ls 4 [(0, .ref (q 0)), (1, .int x1), (2, .int x2)]) : W p l e (mR 6 142) s m args below meth c H locs 0 0 (MQ below (mQ D cI cZ q rz uz) args s 0 0 (mF q)) (F0 m 46 ls [.int y0, .ref (q 0)]) := by
  obtain ⟨hx, hb, hr, hts, hown, hlocks, hml, hK⟩ := id C
  unfold fM_slip_46 at h
  obtain ⟨r2, u1, eu1, h⟩ := mb2_spec h
  refine mg_callV (As := [.int y0]) (rest := []) ⟨hx, hb, hml, hown, hts⟩ (cM_goesWell l D cI cZ q eu1) (cwV 1 hts gX9_slip_X9_goesWell rfl rfl rfl (by decide +kernel) ⟨Nat.le_of_ble_eq_true rfl, Nat.le_of_ble_eq_true rfl⟩) hK hI rfl hl.1 rfl (Nat.le_of_ble_eq_true rfl) dX9_slip_46 ⟨Nat.le_refl _, Nat.le_refl _⟩ (fun H locs hI => ?_)
  refine lv_if_eq (tgt := 63) hx hb dX9_slip_49 (by decide) (fun c3 => ?_) (fun c3 => ?_)
  · replace h := mpos c3 h
    refine lv_iconst (v := 0) hx hb dX9_slip_63 (by decide) ?_
    exact w_M_slip_64 C h hI (lv_sub hl [0] rfl)
  · replace h := mneg c3 h
    refine lv_aload_n hx hb dX9_slip_52 rfl (lv_at hl 0 rfl) ?_
    refine lv_iload_n hx hb dX9_slip_53 rfl (lv_at hl 1 rfl) ?_
    refine lv_iload_n hx hb dX9_slip_54 rfl (lv_at hl 2 rfl) ?_
    refine lv_iconst (v := -1) hx hb dX9_slip_55 (by decide) ?_
    refine lv_iconst (v := 1) hx hb dX9_slip_56 (by decide) ?_
    obtain ⟨r5, u4, eu4, h⟩ := mb2_spec h
    refine mg_callV (As := [.int x1, .int x2, .int ((-1)), .int 1]) (rest := []) ⟨hx, hb, hml, hown, hts⟩ (cM_come l D cI cZ q eu4) (cwV 4 hts gX9_slip_X9_come rfl rfl rfl (by decide +kernel) ⟨Nat.le_of_ble_eq_true rfl, Nat.le_of_ble_eq_true rfl⟩) hK hI rfl hl.1 rfl (Nat.le_of_ble_eq_true rfl) dX9_slip_57 ⟨Nat.le_refl _, Nat.le_refl _⟩ (fun H locs hI => ?_)
    refine lv_goto (tgt := 64) hx hb dX9_slip_60 (by decide) ?_
    exact w_M_slip_64 C h hI (lv_sub hl [0] rfl)
def fM_slip_21 (u : MS) (x1 x2 y0 : Int32) : Option (Int32 × MS) :=
  if y0 = 0 then
    fM_slip_46 u x1 x2 1
  else
    (mld u 18 x1).bind fun r7 =>
    if r7 = ((-1)) then
      fM_slip_46 u x1 x2 0
    else
      fM_slip_46 u x1 x2 2
set_option maxRecDepth 20000 in
theorem w_M_slip_21 (C : mC p s m args meth c cX9_slip (some .int) wsX9_slip 4 D cI cZ) {uz : MS} {rz : Int32} {u : MS} {x1 x2 y0 : Int32} (h : fM_slip_21 u x1 x2 y0 = some (rz, uz)) {H : Heap} {locs : List Loc} {ls : Array Slot} (hI : mI D cI cZ q u s H locs) (hl : lv_has ls 4 [(0, .ref (q 0)), (1, .int x1), (2, .int x2)]) : W p l e (mR 6 142) s m args below meth c H locs 0 0 (MQ below (mQ D cI cZ q rz uz) args s 0 0 (mF q)) (F0 m 21 ls [.int y0]) := by
  obtain ⟨hx, hb, hr, hts, hown, hlocks, hml, hK⟩ := id C
  unfold fM_slip_21 at h
  refine lv_istore_n (lv' := [(3, .int y0), (0, .ref (q 0)), (1, .int x1), (2, .int x2)]) hx hb dX9_slip_21 rfl hl (by decide) rfl (fun ls hl => ?_)
  refine lv_aload_n hx hb dX9_slip_22 rfl (lv_at hl 1 rfl) ?_
  refine lv_iload_n hx hb dX9_slip_23 rfl (lv_at hl 0 rfl) ?_
  refine lv_if_ne (tgt := 31) hx hb dX9_slip_24 (by decide) (fun c6 => ?_) (fun c6 => ?_)
  · replace h := mneg c6 h
    refine lv_aload_n hx hb dX9_slip_31 rfl (lv_at hl 1 rfl) ?_
    refine mg_get hx hb hts iM_slip hown hK hI 18 (by decide) (hts (.fieldLink RX9 54 "PassageCourtModel" "where" "[I") (by decide +kernel)) rfl dX9_slip_32 ?_
    refine lv_iload_n hx hb dX9_slip_35 rfl (lv_at hl 2 rfl) ?_
    obtain ⟨r7, er7, h⟩ := mbind h
    refine mg_ald hx hb hK hI 18 rfl (by decide) er7 dX9_slip_36 ?_
    refine lv_iconst (v := -1) hx hb dX9_slip_37 (by decide) ?_
    refine lv_icmp_eq (tgt := 45) hx hb dX9_slip_38 (by decide) (fun c8 => ?_) (fun c8 => ?_)
    · replace h := mpos c8 h
      refine lv_iconst (v := 0) hx hb dX9_slip_45 (by decide) ?_
      exact w_M_slip_46 C h hI (lv_sub hl [1, 2, 3] rfl)
    · replace h := mneg c8 h
      refine lv_iconst (v := 2) hx hb dX9_slip_41 (by decide) ?_
      refine lv_goto (tgt := 46) hx hb dX9_slip_42 (by decide) ?_
      exact w_M_slip_46 C h hI (lv_sub hl [1, 2, 3] rfl)
  · replace h := mpos c6 h
    refine lv_iconst (v := 1) hx hb dX9_slip_27 (by decide) ?_
    refine lv_goto (tgt := 46) hx hb dX9_slip_28 (by decide) ?_
    exact w_M_slip_46 C h hI (lv_sub hl [1, 2, 3] rfl)
def fM_slip_20 (u : MS) (x1 x2 : Int32) : Option (Int32 × MS) :=
  fM_slip_21 u x1 x2 0
set_option maxRecDepth 20000 in
theorem w_M_slip_20 (C : mC p s m args meth c cX9_slip (some .int) wsX9_slip 4 D cI cZ) {uz : MS} {rz : Int32} {u : MS} {x1 x2 : Int32} (h : fM_slip_20 u x1 x2 = some (rz, uz)) {H : Heap} {locs : List Loc} {ls : Array Slot} (hI : mI D cI cZ q u s H locs) (hl : lv_has ls 4 [(0, .ref (q 0)), (1, .int x1), (2, .int x2)]) : W p l e (mR 6 142) s m args below meth c H locs 0 0 (MQ below (mQ D cI cZ q rz uz) args s 0 0 (mF q)) (F0 m 20 ls []) := by
  obtain ⟨hx, hb, hr, hts, hown, hlocks, hml, hK⟩ := id C
  unfold fM_slip_20 at h
  refine lv_iconst (v := 0) hx hb dX9_slip_20 (by decide) ?_
  exact w_M_slip_21 C h hI (lv_sub hl [0, 1, 2] rfl)
def fM_slip (u : MS) (x1 x2 : Int32) : Option (Int32 × MS) :=
  mb2 (fM_isPerson u x1) fun r10 u9 =>
  if r10 = 0 then
    fM_slip_20 u9 x1 x2
  else
    mb2 (fM_isLand u9 x2) fun r13 u12 =>
    if r13 = 0 then
      fM_slip_20 u12 x1 x2
    else
      fM_slip_21 u12 x1 x2 1
set_option maxRecDepth 20000 in
theorem w_M_slip_0 (C : mC p s m args meth c cX9_slip (some .int) wsX9_slip 4 D cI cZ) {uz : MS} {rz : Int32} {u : MS} {x1 x2 : Int32} (h : fM_slip u x1 x2 = some (rz, uz)) {H : Heap} {locs : List Loc} {ls : Array Slot} (hI : mI D cI cZ q u s H locs) (hl : lv_has ls 4 [(0, .ref (q 0)), (1, .int x1), (2, .int x2)]) : W p l e (mR 6 142) s m args below meth c H locs 0 0 (MQ below (mQ D cI cZ q rz uz) args s 0 0 (mF q)) (F0 m 0 ls []) := by
  obtain ⟨hx, hb, hr, hts, hown, hlocks, hml, hK⟩ := id C
  unfold fM_slip at h
  refine lv_aload_n hx hb dX9_slip_0 rfl (lv_at hl 0 rfl) ?_
  refine lv_iload_n hx hb dX9_slip_1 rfl (lv_at hl 1 rfl) ?_
  obtain ⟨r10, u9, eu9, h⟩ := mb2_spec h
  refine mg_callV (As := [.int x1]) (rest := []) ⟨hx, hb, hml, hown, hts⟩ (cM_isPerson l D cI cZ q eu9) (cwV 1 hts gX9_slip_X9_isPerson rfl rfl rfl (by decide +kernel) ⟨Nat.le_of_ble_eq_true rfl, Nat.le_of_ble_eq_true rfl⟩) hK hI rfl hl.1 rfl (Nat.le_of_ble_eq_true rfl) dX9_slip_2 ⟨Nat.le_refl _, Nat.le_refl _⟩ (fun H locs hI => ?_)
  refine lv_if_eq (tgt := 20) hx hb dX9_slip_5 (by decide) (fun c11 => ?_) (fun c11 => ?_)
  · replace h := mpos c11 h
    exact w_M_slip_20 C h hI (lv_sub hl [0, 1, 2] rfl)
  · replace h := mneg c11 h
    refine lv_aload_n hx hb dX9_slip_8 rfl (lv_at hl 0 rfl) ?_
    refine lv_iload_n hx hb dX9_slip_9 rfl (lv_at hl 2 rfl) ?_
    obtain ⟨r13, u12, eu12, h⟩ := mb2_spec h
    refine mg_callV (As := [.int x2]) (rest := []) ⟨hx, hb, hml, hown, hts⟩ (cM_isLand l D cI cZ q eu12) (cwV 1 hts gX9_slip_X9_isLand rfl rfl rfl (by decide +kernel) ⟨Nat.le_of_ble_eq_true rfl, Nat.le_of_ble_eq_true rfl⟩) hK hI rfl hl.1 rfl (Nat.le_of_ble_eq_true rfl) dX9_slip_10 ⟨Nat.le_refl _, Nat.le_refl _⟩ (fun H locs hI => ?_)
    refine lv_if_eq (tgt := 20) hx hb dX9_slip_13 (by decide) (fun c14 => ?_) (fun c14 => ?_)
    · replace h := mpos c14 h
      exact w_M_slip_20 C h hI (lv_sub hl [0, 1, 2] rfl)
    · replace h := mneg c14 h
      refine lv_iconst (v := 1) hx hb dX9_slip_16 (by decide) ?_
      refine lv_goto (tgt := 21) hx hb dX9_slip_17 (by decide) ?_
      exact w_M_slip_21 C h hI (lv_sub hl [0, 1, 2] rfl)
set_option maxRecDepth 20000 in
theorem cM_slip (l : Launch) (D : va_G) (cI cZ : ClassId) (q : Nat → Nat) {u uz : MS} {rz : Int32} {x1 x2 : Int32} (h : fM_slip u x1 x2 = some (rz, uz)) : Met l yX9_slip wsX9_slip (mR 6 142) (va_Pc [.ref (q 0), .int x1, .int x2] (mPre D cI cZ q u)) (mQ D cI cZ q rz uz) 0 0 (mF q) := by
  refine Met.ofW (cc := cX9_slip) (maxL := 4) (ret := (some .int)) (by decide) rfl ?_
  intro p e s m args below meth c s₁ B hml hv
  obtain ⟨rfl, hw, hK⟩ := hv
  have C : mC p s m _ meth c cX9_slip (some .int) wsX9_slip 4 D cI cZ := ⟨B.exec, B.bytes, B.returns, atoms_spec (ws := wsX9_slip) B.pre, findClass_of_methodNamed B.named, B.notSynchronized, hml, hK⟩
  have hl := lv_entry ([.ref (q 0), .int x1, .int x2]) (n := 4) (Nat.le_of_ble_eq_true rfl)
  rw [lg_entry_eq]
  generalize (lg_sl ([.ref (q 0), .int x1, .int x2]) ++ List.replicate (4 - (lg_sl ([.ref (q 0), .int x1, .int x2])).length) Slot.unset).toArray = ls at hl ⊢
  have hl : lv_has ls 4 [(0, .ref (q 0)), (1, .int x1), (2, .int x2)] := hl
  exact w_M_slip_0 C h ⟨hw, va_S.rf⟩ hl
theorem iM_move : ∀ w ∈ wsX90, w ∈ wsX9_move := by decide +kernel
def fM_move_95 (u : MS) (x1 x2 y0 : Int32) : Option (Int32 × MS) :=
  mb2 (fM_goesWell u y0) fun r2 u1 =>
  if r2 = 0 then
    some (0, u1)
  else
    (mst u1 18 x1 x2).bind fun u4 =>
    mb2 (fM_look u4 x1) fun r6 u5 =>
    some (r6, u5)
set_option maxRecDepth 20000 in
theorem w_M_move_95 (C : mC p s m args meth c cX9_move (some .int) wsX9_move 5 D cI cZ) {uz : MS} {rz : Int32} {u : MS} {x1 x2 y0 : Int32} (h : fM_move_95 u x1 x2 y0 = some (rz, uz)) {H : Heap} {locs : List Loc} {ls : Array Slot} (hI : mI D cI cZ q u s H locs) (hl : lv_has ls 5 [(0, .ref (q 0)), (1, .int x1), (2, .int x2)]) : W p l e (mR 5 118) s m args below meth c H locs 0 0 (MQ below (mQ D cI cZ q rz uz) args s 0 0 (mF q)) (F0 m 95 ls [.int y0, .ref (q 0)]) := by
  obtain ⟨hx, hb, hr, hts, hown, hlocks, hml, hK⟩ := id C
  unfold fM_move_95 at h
  obtain ⟨r2, u1, eu1, h⟩ := mb2_spec h
  refine mg_callV (As := [.int y0]) (rest := []) ⟨hx, hb, hml, hown, hts⟩ (cM_goesWell l D cI cZ q eu1) (cwV 1 hts gX9_move_X9_goesWell rfl rfl rfl (by decide +kernel) ⟨Nat.le_of_ble_eq_true rfl, Nat.le_of_ble_eq_true rfl⟩) hK hI rfl hl.1 rfl (Nat.le_of_ble_eq_true rfl) dX9_move_95 ⟨Nat.le_refl _, Nat.le_refl _⟩ (fun H locs hI => ?_)
  refine lv_if_ne (tgt := 103) hx hb dX9_move_98 (by decide) (fun c3 => ?_) (fun c3 => ?_)
  · replace h := mneg c3 h
    refine lv_aload_n hx hb dX9_move_103 rfl (lv_at hl 0 rfl) ?_
    refine mg_get hx hb hts iM_move hown hK hI 18 (by decide) (hts (.fieldLink RX9 54 "PassageCourtModel" "where" "[I") (by decide +kernel)) rfl dX9_move_104 ?_
    refine lv_iload_n hx hb dX9_move_107 rfl (lv_at hl 1 rfl) ?_
    refine lv_iload_n hx hb dX9_move_108 rfl (lv_at hl 2 rfl) ?_
    obtain ⟨u4, eu4, h⟩ := mbind h
    refine mg_ast hx hb hK hI 18 rfl (by decide) eu4 dX9_move_109 (fun H locs hI => ?_)
    refine lv_aload_n hx hb dX9_move_110 rfl (lv_at hl 0 rfl) ?_
    refine lv_iload_n hx hb dX9_move_111 rfl (lv_at hl 1 rfl) ?_
    obtain ⟨r6, u5, eu5, h⟩ := mb2_spec h
    refine mg_callV (As := [.int x1]) (rest := []) ⟨hx, hb, hml, hown, hts⟩ (cM_look l D cI cZ q eu5) (cwV 1 hts gX9_move_X9_look rfl rfl rfl (by decide +kernel) ⟨Nat.le_of_ble_eq_true rfl, Nat.le_of_ble_eq_true rfl⟩) hK hI rfl hl.1 rfl (Nat.le_of_ble_eq_true rfl) dX9_move_112 ⟨Nat.le_refl _, Nat.le_refl _⟩ (fun H locs hI => ?_)
    cases h
    exact mg_reti hx hb hr hlocks hK hI dX9_move_115
  · replace h := mpos c3 h
    refine lv_iconst (v := 0) hx hb dX9_move_101 (by decide) ?_
    cases h
    exact mg_reti hx hb hr hlocks hK hI dX9_move_102
def fM_move_74 (u : MS) (x1 x2 x3 y0 : Int32) : Option (Int32 × MS) :=
  if x3 = 0 then
    fM_move_95 u x1 x2 1
  else
    if y0 = 0 then
      fM_move_95 u x1 x2 2
    else
      fM_move_95 u x1 x2 0
set_option maxRecDepth 20000 in
theorem w_M_move_74 (C : mC p s m args meth c cX9_move (some .int) wsX9_move 5 D cI cZ) {uz : MS} {rz : Int32} {u : MS} {x1 x2 x3 y0 : Int32} (h : fM_move_74 u x1 x2 x3 y0 = some (rz, uz)) {H : Heap} {locs : List Loc} {ls : Array Slot} (hI : mI D cI cZ q u s H locs) (hl : lv_has ls 5 [(0, .ref (q 0)), (1, .int x1), (2, .int x2), (3, .int x3)]) : W p l e (mR 5 118) s m args below meth c H locs 0 0 (MQ below (mQ D cI cZ q rz uz) args s 0 0 (mF q)) (F0 m 74 ls [.int y0]) := by
  obtain ⟨hx, hb, hr, hts, hown, hlocks, hml, hK⟩ := id C
  unfold fM_move_74 at h
  refine lv_istore (lv' := [(4, .int y0), (0, .ref (q 0)), (1, .int x1), (2, .int x2), (3, .int x3)]) hx hb dX9_move_74 hl (by decide) rfl (fun ls hl => ?_)
  refine lv_aload_n hx hb dX9_move_76 rfl (lv_at hl 1 rfl) ?_
  refine lv_iload_n hx hb dX9_move_77 rfl (lv_at hl 4 rfl) ?_
  refine lv_if_ne (tgt := 85) hx hb dX9_move_78 (by decide) (fun c7 => ?_) (fun c7 => ?_)
  · replace h := mneg c7 h
    refine lv_iload hx hb dX9_move_85 (lv_at hl 0 rfl) ?_
    refine lv_if_eq (tgt := 94) hx hb dX9_move_87 (by decide) (fun c8 => ?_) (fun c8 => ?_)
    · replace h := mpos c8 h
      refine lv_iconst (v := 2) hx hb dX9_move_94 (by decide) ?_
      exact w_M_move_95 C h hI (lv_sub hl [1, 2, 3] rfl)
    · replace h := mneg c8 h
      refine lv_iconst (v := 0) hx hb dX9_move_90 (by decide) ?_
      refine lv_goto (tgt := 95) hx hb dX9_move_91 (by decide) ?_
      exact w_M_move_95 C h hI (lv_sub hl [1, 2, 3] rfl)
  · replace h := mpos c7 h
    refine lv_iconst (v := 1) hx hb dX9_move_81 (by decide) ?_
    refine lv_goto (tgt := 95) hx hb dX9_move_82 (by decide) ?_
    exact w_M_move_95 C h hI (lv_sub hl [1, 2, 3] rfl)
def fM_move_73 (u : MS) (x1 x2 x3 : Int32) : Option (Int32 × MS) :=
  fM_move_74 u x1 x2 x3 0
set_option maxRecDepth 20000 in
theorem w_M_move_73 (C : mC p s m args meth c cX9_move (some .int) wsX9_move 5 D cI cZ) {uz : MS} {rz : Int32} {u : MS} {x1 x2 x3 : Int32} (h : fM_move_73 u x1 x2 x3 = some (rz, uz)) {H : Heap} {locs : List Loc} {ls : Array Slot} (hI : mI D cI cZ q u s H locs) (hl : lv_has ls 5 [(0, .ref (q 0)), (1, .int x1), (2, .int x2), (3, .int x3)]) : W p l e (mR 5 118) s m args below meth c H locs 0 0 (MQ below (mQ D cI cZ q rz uz) args s 0 0 (mF q)) (F0 m 73 ls []) := by
  obtain ⟨hx, hb, hr, hts, hown, hlocks, hml, hK⟩ := id C
  unfold fM_move_73 at h
  refine lv_iconst (v := 0) hx hb dX9_move_73 (by decide) ?_
  exact w_M_move_74 C h hI (lv_sub hl [0, 1, 2, 3] rfl)
def fM_move_21 (u : MS) (x1 x2 y0 : Int32) : Option (Int32 × MS) :=
  if y0 = 0 then
    fM_move_73 u x1 x2 y0
  else
    (mld u 18 x1).bind fun r10 =>
    if r10 = ((-1)) then
      fM_move_73 u x1 x2 y0
    else
      (mld u 18 x1).bind fun r12 =>
      if r12 = x2 then
        fM_move_73 u x1 x2 y0
      else
        (mld u 18 x1).bind fun r14 =>
        (mld u 3 r14).bind fun r15 =>
        if r15 = 0 then
          fM_move_73 u x1 x2 y0
        else
          (mld u 3 x2).bind fun r17 =>
          if r17 = 0 then
            fM_move_73 u x1 x2 y0
          else
            fM_move_74 u x1 x2 y0 1
set_option maxRecDepth 20000 in
theorem w_M_move_21 (C : mC p s m args meth c cX9_move (some .int) wsX9_move 5 D cI cZ) {uz : MS} {rz : Int32} {u : MS} {x1 x2 y0 : Int32} (h : fM_move_21 u x1 x2 y0 = some (rz, uz)) {H : Heap} {locs : List Loc} {ls : Array Slot} (hI : mI D cI cZ q u s H locs) (hl : lv_has ls 5 [(0, .ref (q 0)), (1, .int x1), (2, .int x2)]) : W p l e (mR 5 118) s m args below meth c H locs 0 0 (MQ below (mQ D cI cZ q rz uz) args s 0 0 (mF q)) (F0 m 21 ls [.int y0]) := by
  obtain ⟨hx, hb, hr, hts, hown, hlocks, hml, hK⟩ := id C
  unfold fM_move_21 at h
  refine lv_istore_n (lv' := [(3, .int y0), (0, .ref (q 0)), (1, .int x1), (2, .int x2)]) hx hb dX9_move_21 rfl hl (by decide) rfl (fun ls hl => ?_)
  refine lv_iload_n hx hb dX9_move_22 rfl (lv_at hl 0 rfl) ?_
  refine lv_if_eq (tgt := 73) hx hb dX9_move_23 (by decide) (fun c9 => ?_) (fun c9 => ?_)
  · replace h := mpos c9 h
    exact w_M_move_73 C h hI (lv_sub hl [1, 2, 3, 0] rfl)
  · replace h := mneg c9 h
    refine lv_aload_n hx hb dX9_move_26 rfl (lv_at hl 1 rfl) ?_
    refine mg_get hx hb hts iM_move hown hK hI 18 (by decide) (hts (.fieldLink RX9 54 "PassageCourtModel" "where" "[I") (by decide +kernel)) rfl dX9_move_27 ?_
    refine lv_iload_n hx hb dX9_move_30 rfl (lv_at hl 2 rfl) ?_
    obtain ⟨r10, er10, h⟩ := mbind h
    refine mg_ald hx hb hK hI 18 rfl (by decide) er10 dX9_move_31 ?_
    refine lv_iconst (v := -1) hx hb dX9_move_32 (by decide) ?_
    refine lv_icmp_eq (tgt := 73) hx hb dX9_move_33 (by decide) (fun c11 => ?_) (fun c11 => ?_)
    · replace h := mpos c11 h
      exact w_M_move_73 C h hI (lv_sub hl [1, 2, 3, 0] rfl)
    · replace h := mneg c11 h
      refine lv_aload_n hx hb dX9_move_36 rfl (lv_at hl 1 rfl) ?_
      refine mg_get hx hb hts iM_move hown hK hI 18 (by decide) (hts (.fieldLink RX9 54 "PassageCourtModel" "where" "[I") (by decide +kernel)) rfl dX9_move_37 ?_
      refine lv_iload_n hx hb dX9_move_40 rfl (lv_at hl 2 rfl) ?_
      obtain ⟨r12, er12, h⟩ := mbind h
      refine mg_ald hx hb hK hI 18 rfl (by decide) er12 dX9_move_41 ?_
      refine lv_iload_n hx hb dX9_move_42 rfl (lv_at hl 3 rfl) ?_
      refine lv_icmp_eq (tgt := 73) hx hb dX9_move_43 (by decide) (fun c13 => ?_) (fun c13 => ?_)
      · replace h := mpos c13 h
        exact w_M_move_73 C h hI (lv_sub hl [1, 2, 3, 0] rfl)
      · replace h := mneg c13 h
        refine lv_aload_n hx hb dX9_move_46 rfl (lv_at hl 1 rfl) ?_
        refine mg_get hx hb hts iM_move hown hK hI 3 (by decide) (hts (.fieldLink RX9 7 "PassageCourtModel" "isInRegion" "[Z") (by decide +kernel)) rfl dX9_move_47 ?_
        refine lv_aload_n hx hb dX9_move_50 rfl (lv_at hl 1 rfl) ?_
        refine mg_get hx hb hts iM_move hown hK hI 18 (by decide) (hts (.fieldLink RX9 54 "PassageCourtModel" "where" "[I") (by decide +kernel)) rfl dX9_move_51 ?_
        refine lv_iload_n hx hb dX9_move_54 rfl (lv_at hl 2 rfl) ?_
        obtain ⟨r14, er14, h⟩ := mbind h
        refine mg_ald hx hb hK hI 18 rfl (by decide) er14 dX9_move_55 ?_
        obtain ⟨r15, er15, h⟩ := mbind h
        refine mg_zld hx hb hK hI 3 rfl (by decide) er15 dX9_move_56 ?_
        refine lv_if_eq (tgt := 73) hx hb dX9_move_57 (by decide) (fun c16 => ?_) (fun c16 => ?_)
        · replace h := mpos c16 h
          exact w_M_move_73 C h hI (lv_sub hl [1, 2, 3, 0] rfl)
        · replace h := mneg c16 h
          refine lv_aload_n hx hb dX9_move_60 rfl (lv_at hl 1 rfl) ?_
          refine mg_get hx hb hts iM_move hown hK hI 3 (by decide) (hts (.fieldLink RX9 7 "PassageCourtModel" "isInRegion" "[Z") (by decide +kernel)) rfl dX9_move_61 ?_
          refine lv_iload_n hx hb dX9_move_64 rfl (lv_at hl 3 rfl) ?_
          obtain ⟨r17, er17, h⟩ := mbind h
          refine mg_zld hx hb hK hI 3 rfl (by decide) er17 dX9_move_65 ?_
          refine lv_if_eq (tgt := 73) hx hb dX9_move_66 (by decide) (fun c18 => ?_) (fun c18 => ?_)
          · replace h := mpos c18 h
            exact w_M_move_73 C h hI (lv_sub hl [1, 2, 3, 0] rfl)
          · replace h := mneg c18 h
            refine lv_iconst (v := 1) hx hb dX9_move_69 (by decide) ?_
            refine lv_goto (tgt := 74) hx hb dX9_move_70 (by decide) ?_
            exact w_M_move_74 C h hI (lv_sub hl [1, 2, 3, 0] rfl)
def fM_move_20 (u : MS) (x1 x2 : Int32) : Option (Int32 × MS) :=
  fM_move_21 u x1 x2 0
set_option maxRecDepth 20000 in
theorem w_M_move_20 (C : mC p s m args meth c cX9_move (some .int) wsX9_move 5 D cI cZ) {uz : MS} {rz : Int32} {u : MS} {x1 x2 : Int32} (h : fM_move_20 u x1 x2 = some (rz, uz)) {H : Heap} {locs : List Loc} {ls : Array Slot} (hI : mI D cI cZ q u s H locs) (hl : lv_has ls 5 [(0, .ref (q 0)), (1, .int x1), (2, .int x2)]) : W p l e (mR 5 118) s m args below meth c H locs 0 0 (MQ below (mQ D cI cZ q rz uz) args s 0 0 (mF q)) (F0 m 20 ls []) := by
  obtain ⟨hx, hb, hr, hts, hown, hlocks, hml, hK⟩ := id C
  unfold fM_move_20 at h
  refine lv_iconst (v := 0) hx hb dX9_move_20 (by decide) ?_
  exact w_M_move_21 C h hI (lv_sub hl [0, 1, 2] rfl)
def fM_move (u : MS) (x1 x2 : Int32) : Option (Int32 × MS) :=
  mb2 (fM_isPerson u x1) fun r20 u19 =>
  if r20 = 0 then
    fM_move_20 u19 x1 x2
  else
    mb2 (fM_isLand u19 x2) fun r23 u22 =>
    if r23 = 0 then
      fM_move_20 u22 x1 x2
    else
      fM_move_21 u22 x1 x2 1
set_option maxRecDepth 20000 in
theorem w_M_move_0 (C : mC p s m args meth c cX9_move (some .int) wsX9_move 5 D cI cZ) {uz : MS} {rz : Int32} {u : MS} {x1 x2 : Int32} (h : fM_move u x1 x2 = some (rz, uz)) {H : Heap} {locs : List Loc} {ls : Array Slot} (hI : mI D cI cZ q u s H locs) (hl : lv_has ls 5 [(0, .ref (q 0)), (1, .int x1), (2, .int x2)]) : W p l e (mR 5 118) s m args below meth c H locs 0 0 (MQ below (mQ D cI cZ q rz uz) args s 0 0 (mF q)) (F0 m 0 ls []) := by
  obtain ⟨hx, hb, hr, hts, hown, hlocks, hml, hK⟩ := id C
  unfold fM_move at h
  refine lv_aload_n hx hb dX9_move_0 rfl (lv_at hl 0 rfl) ?_
  refine lv_iload_n hx hb dX9_move_1 rfl (lv_at hl 1 rfl) ?_
  obtain ⟨r20, u19, eu19, h⟩ := mb2_spec h
  refine mg_callV (As := [.int x1]) (rest := []) ⟨hx, hb, hml, hown, hts⟩ (cM_isPerson l D cI cZ q eu19) (cwV 1 hts gX9_move_X9_isPerson rfl rfl rfl (by decide +kernel) ⟨Nat.le_of_ble_eq_true rfl, Nat.le_of_ble_eq_true rfl⟩) hK hI rfl hl.1 rfl (Nat.le_of_ble_eq_true rfl) dX9_move_2 ⟨Nat.le_refl _, Nat.le_refl _⟩ (fun H locs hI => ?_)
  refine lv_if_eq (tgt := 20) hx hb dX9_move_5 (by decide) (fun c21 => ?_) (fun c21 => ?_)
  · replace h := mpos c21 h
    exact w_M_move_20 C h hI (lv_sub hl [0, 1, 2] rfl)
  · replace h := mneg c21 h
    refine lv_aload_n hx hb dX9_move_8 rfl (lv_at hl 0 rfl) ?_
    refine lv_iload_n hx hb dX9_move_9 rfl (lv_at hl 2 rfl) ?_
    obtain ⟨r23, u22, eu22, h⟩ := mb2_spec h
    refine mg_callV (As := [.int x2]) (rest := []) ⟨hx, hb, hml, hown, hts⟩ (cM_isLand l D cI cZ q eu22) (cwV 1 hts gX9_move_X9_isLand rfl rfl rfl (by decide +kernel) ⟨Nat.le_of_ble_eq_true rfl, Nat.le_of_ble_eq_true rfl⟩) hK hI rfl hl.1 rfl (Nat.le_of_ble_eq_true rfl) dX9_move_10 ⟨Nat.le_refl _, Nat.le_refl _⟩ (fun H locs hI => ?_)
    refine lv_if_eq (tgt := 20) hx hb dX9_move_13 (by decide) (fun c24 => ?_) (fun c24 => ?_)
    · replace h := mpos c24 h
      exact w_M_move_20 C h hI (lv_sub hl [0, 1, 2] rfl)
    · replace h := mneg c24 h
      refine lv_iconst (v := 1) hx hb dX9_move_16 (by decide) ?_
      refine lv_goto (tgt := 21) hx hb dX9_move_17 (by decide) ?_
      exact w_M_move_21 C h hI (lv_sub hl [0, 1, 2] rfl)
set_option maxRecDepth 20000 in
theorem cM_move (l : Launch) (D : va_G) (cI cZ : ClassId) (q : Nat → Nat) {u uz : MS} {rz : Int32} {x1 x2 : Int32} (h : fM_move u x1 x2 = some (rz, uz)) : Met l yX9_move wsX9_move (mR 5 118) (va_Pc [.ref (q 0), .int x1, .int x2] (mPre D cI cZ q u)) (mQ D cI cZ q rz uz) 0 0 (mF q) := by
  refine Met.ofW (cc := cX9_move) (maxL := 5) (ret := (some .int)) (by decide) rfl ?_
  intro p e s m args below meth c s₁ B hml hv
  obtain ⟨rfl, hw, hK⟩ := hv
  have C : mC p s m _ meth c cX9_move (some .int) wsX9_move 5 D cI cZ := ⟨B.exec, B.bytes, B.returns, atoms_spec (ws := wsX9_move) B.pre, findClass_of_methodNamed B.named, B.notSynchronized, hml, hK⟩
  have hl := lv_entry ([.ref (q 0), .int x1, .int x2]) (n := 5) (Nat.le_of_ble_eq_true rfl)
  rw [lg_entry_eq]
  generalize (lg_sl ([.ref (q 0), .int x1, .int x2]) ++ List.replicate (5 - (lg_sl ([.ref (q 0), .int x1, .int x2])).length) Slot.unset).toArray = ls at hl ⊢
  have hl : lv_has ls 5 [(0, .ref (q 0)), (1, .int x1), (2, .int x2)] := hl
  exact w_M_move_0 C h ⟨hw, va_S.rf⟩ hl
theorem iM_overstayed : ∀ w ∈ wsX90, w ∈ wsX9_overstayed := by decide +kernel
def fM_overstayed_60 (u : MS) (x2 : Int32) : Option (Int32 × MS) :=
  some (x2, u)
set_option maxRecDepth 20000 in
theorem w_M_overstayed_60 (C : mC p s m args meth c cX9_overstayed (some .int) wsX9_overstayed 4 D cI cZ) {uz : MS} {rz : Int32} {u : MS} {x2 : Int32} (h : fM_overstayed_60 u x2 = some (rz, uz)) {H : Heap} {locs : List Loc} {ls : Array Slot} (hI : mI D cI cZ q u s H locs) (hl : lv_has ls 4 [(0, .ref (q 0)), (2, .int x2)]) : W p l e (mR 0 0) s m args below meth c H locs 0 0 (MQ below (mQ D cI cZ q rz uz) args s 0 0 (mF q)) (F0 m 60 ls []) := by
  obtain ⟨hx, hb, hr, hts, hown, hlocks, hml, hK⟩ := id C
  unfold fM_overstayed_60 at h
  refine lv_iload_n hx hb dX9_overstayed_60 rfl (lv_at hl 1 rfl) ?_
  cases h
  exact mg_reti hx hb hr hlocks hK hI dX9_overstayed_61
def fM_overstayed_52 (rec9 : MS → Int32 → Int32 → Int32 → Option (Int32 × MS)) (u : MS) (x1 x3 y0 y1 : Int32) : Option (Int32 × MS) :=
  rec9 u x1 (y1 + y0) (x3 + 1)
set_option maxRecDepth 20000 in
theorem w_M_overstayed_52 (C : mC p s m args meth c cX9_overstayed (some .int) wsX9_overstayed 4 D cI cZ) {uz : MS} {rz : Int32} {rec9 : MS → Int32 → Int32 → Int32 → Option (Int32 × MS)} (hrec9 : ∀ {u : MS} {x1 x2 x3 : Int32} (_ : rec9 u x1 x2 x3 = some (rz, uz)) {H : Heap} {locs : List Loc} {ls : Array Slot} (_ : mI D cI cZ q u s H locs) (_ : lv_has ls 4 [(0, .ref (q 0)), (1, .int x1), (2, .int x2), (3, .int x3)]), W p l e (mR 0 0) s m args below meth c H locs 0 0 (MQ below (mQ D cI cZ q rz uz) args s 0 0 (mF q)) (F0 m 9 ls [])) {u : MS} {x1 x3 y0 y1 : Int32} (h : fM_overstayed_52 rec9 u x1 x3 y0 y1 = some (rz, uz)) {H : Heap} {locs : List Loc} {ls : Array Slot} (hI : mI D cI cZ q u s H locs) (hl : lv_has ls 4 [(0, .ref (q 0)), (1, .int x1), (3, .int x3)]) : W p l e (mR 0 0) s m args below meth c H locs 0 0 (MQ below (mQ D cI cZ q rz uz) args s 0 0 (mF q)) (F0 m 52 ls [.int y0, .int y1]) := by
  obtain ⟨hx, hb, hr, hts, hown, hlocks, hml, hK⟩ := id C
  unfold fM_overstayed_52 at h
  refine lv_iadd hx hb dX9_overstayed_52 ?_
  refine lv_istore_n (lv' := [(2, .int (y1 + y0)), (0, .ref (q 0)), (1, .int x1), (3, .int x3)]) hx hb dX9_overstayed_53 rfl hl (by decide) rfl (fun ls hl => ?_)
  refine lv_iinc (v := x3 + 1) (lv' := [(3, .int (x3 + 1)), (2, .int (y1 + y0)), (0, .ref (q 0)), (1, .int x1)]) hx hb dX9_overstayed_54 hl (k := 3) rfl rfl (by decide) rfl (fun ls hl => ?_)
  refine lv_goto (tgt := 9) hx hb dX9_overstayed_57 (by decide) ?_
  exact hrec9 h hI (lv_sub hl [2, 3, 1, 0] rfl)
def fM_overstayed_9 : Nat → MS → Int32 → Int32 → Int32 → Option (Int32 × MS)
  | 0, _, _, _, _ => none
  | n + 1, u, x1, x2, x3 =>
    if (u 1 0) < x3 then
      fM_overstayed_60 u x2
    else
      (mld u 18 x1).bind fun r2 =>
      if r2 = ((-1)) then
        fM_overstayed_60 u x2
      else
        (mld u 22 ((3601 * x1) + x3)).bind fun r4 =>
        if (r4 - r4 / 10 * 10) = 4 then
          fM_overstayed_52 (fM_overstayed_9 n) u x1 x3 1 x2
        else
          fM_overstayed_52 (fM_overstayed_9 n) u x1 x3 0 x2
set_option maxRecDepth 20000 in
theorem w_M_overstayed_9 (C : mC p s m args meth c cX9_overstayed (some .int) wsX9_overstayed 4 D cI cZ) {uz : MS} {rz : Int32} : ∀ (n : Nat) {u : MS} {x1 x2 x3 : Int32} (h : fM_overstayed_9 n u x1 x2 x3 = some (rz, uz)) {H : Heap} {locs : List Loc} {ls : Array Slot} (hI : mI D cI cZ q u s H locs) (hl : lv_has ls 4 [(0, .ref (q 0)), (1, .int x1), (2, .int x2), (3, .int x3)]), W p l e (mR 0 0) s m args below meth c H locs 0 0 (MQ below (mQ D cI cZ q rz uz) args s 0 0 (mF q)) (F0 m 9 ls []) := by
  obtain ⟨hx, hb, hr, hts, hown, hlocks, hml, hK⟩ := id C
  intro n
  induction n with
  | zero =>
    intro u x1 x2 x3 h
    cases (show (none : Option _) = _ from h)
  | succ n ih =>
    intro u x1 x2 x3 h H locs ls hI hl
    rw [fM_overstayed_9] at h
    refine lv_iload_n hx hb dX9_overstayed_9 rfl (lv_at hl 3 rfl) ?_
    refine lv_aload_n hx hb dX9_overstayed_10 rfl (lv_at hl 0 rfl) ?_
    refine mg_get hx hb hts iM_overstayed hown hK hI 1 (by decide) (hts (.fieldLink RX9 153 "PassageCourtModel" "today" "I") (by decide +kernel)) rfl dX9_overstayed_11 ?_
    refine lv_icmp_gt (tgt := 60) hx hb dX9_overstayed_14 (by decide) (fun c1 => ?_) (fun c1 => ?_)
    · replace h := mpos c1 h
      exact w_M_overstayed_60 C h hI (lv_sub hl [0, 2] rfl)
    · replace h := mneg c1 h
      refine lv_aload_n hx hb dX9_overstayed_17 rfl (lv_at hl 0 rfl) ?_
      refine mg_get hx hb hts iM_overstayed hown hK hI 18 (by decide) (hts (.fieldLink RX9 54 "PassageCourtModel" "where" "[I") (by decide +kernel)) rfl dX9_overstayed_18 ?_
      refine lv_iload_n hx hb dX9_overstayed_21 rfl (lv_at hl 1 rfl) ?_
      obtain ⟨r2, er2, h⟩ := mbind h
      refine mg_ald hx hb hK hI 18 rfl (by decide) er2 dX9_overstayed_22 ?_
      refine lv_iconst (v := -1) hx hb dX9_overstayed_23 (by decide) ?_
      refine lv_icmp_eq (tgt := 60) hx hb dX9_overstayed_24 (by decide) (fun c3 => ?_) (fun c3 => ?_)
      · replace h := mpos c3 h
        exact w_M_overstayed_60 C h hI (lv_sub hl [0, 2] rfl)
      · replace h := mneg c3 h
        refine lv_iload_n hx hb dX9_overstayed_27 rfl (lv_at hl 2 rfl) ?_
        refine lv_aload_n hx hb dX9_overstayed_28 rfl (lv_at hl 0 rfl) ?_
        refine mg_get hx hb hts iM_overstayed hown hK hI 22 (by decide) (hts (.fieldLink RX9 67 "PassageCourtModel" "was" "[I") (by decide +kernel)) rfl dX9_overstayed_29 ?_
        refine lv_sipush (v := 3601) hx hb dX9_overstayed_32 (by decide) ?_
        refine lv_iload_n hx hb dX9_overstayed_35 rfl (lv_at hl 1 rfl) ?_
        refine lv_imul hx hb dX9_overstayed_36 ?_
        refine lv_iload_n hx hb dX9_overstayed_37 rfl (lv_at hl 3 rfl) ?_
        refine lv_iadd hx hb dX9_overstayed_38 ?_
        obtain ⟨r4, er4, h⟩ := mbind h
        refine mg_ald hx hb hK hI 22 rfl (by decide) er4 dX9_overstayed_39 ?_
        refine lv_bipush (v := 10) hx hb dX9_overstayed_40 (by decide) ?_
        refine lv_irem hx hb dX9_overstayed_42 (by decide) ?_
        refine lv_iconst (v := 4) hx hb dX9_overstayed_43 (by decide) ?_
        refine lv_icmp_ne (tgt := 51) hx hb dX9_overstayed_44 (by decide) (fun c5 => ?_) (fun c5 => ?_)
        · replace h := mneg c5 h
          refine lv_iconst (v := 0) hx hb dX9_overstayed_51 (by decide) ?_
          exact w_M_overstayed_52 C ih h hI (lv_sub hl [0, 1, 3] rfl)
        · replace h := mpos c5 h
          refine lv_iconst (v := 1) hx hb dX9_overstayed_47 (by decide) ?_
          refine lv_goto (tgt := 52) hx hb dX9_overstayed_48 (by decide) ?_
          exact w_M_overstayed_52 C ih h hI (lv_sub hl [0, 1, 3] rfl)
def fM_overstayed (u : MS) (x1 : Int32) : Option (Int32 × MS) :=
  (mld u 21 x1).bind fun r6 =>
  fM_overstayed_9 4096 u x1 0 r6
set_option maxRecDepth 20000 in
theorem w_M_overstayed_0 (C : mC p s m args meth c cX9_overstayed (some .int) wsX9_overstayed 4 D cI cZ) {uz : MS} {rz : Int32} {u : MS} {x1 : Int32} (h : fM_overstayed u x1 = some (rz, uz)) {H : Heap} {locs : List Loc} {ls : Array Slot} (hI : mI D cI cZ q u s H locs) (hl : lv_has ls 4 [(0, .ref (q 0)), (1, .int x1)]) : W p l e (mR 0 0) s m args below meth c H locs 0 0 (MQ below (mQ D cI cZ q rz uz) args s 0 0 (mF q)) (F0 m 0 ls []) := by
  obtain ⟨hx, hb, hr, hts, hown, hlocks, hml, hK⟩ := id C
  unfold fM_overstayed at h
  refine lv_iconst (v := 0) hx hb dX9_overstayed_0 (by decide) ?_
  refine lv_istore_n (lv' := [(2, .int 0), (0, .ref (q 0)), (1, .int x1)]) hx hb dX9_overstayed_1 rfl hl (by decide) rfl (fun ls hl => ?_)
  refine lv_aload_n hx hb dX9_overstayed_2 rfl (lv_at hl 1 rfl) ?_
  refine mg_get hx hb hts iM_overstayed hown hK hI 21 (by decide) (hts (.fieldLink RX9 63 "PassageCourtModel" "entered" "[I") (by decide +kernel)) rfl dX9_overstayed_3 ?_
  refine lv_iload_n hx hb dX9_overstayed_6 rfl (lv_at hl 2 rfl) ?_
  obtain ⟨r6, er6, h⟩ := mbind h
  refine mg_ald hx hb hK hI 21 rfl (by decide) er6 dX9_overstayed_7 ?_
  refine lv_istore_n (lv' := [(3, .int r6), (2, .int 0), (0, .ref (q 0)), (1, .int x1)]) hx hb dX9_overstayed_8 rfl hl (by decide) rfl (fun ls hl => ?_)
  exact w_M_overstayed_9 C 4096 h hI (lv_sub hl [2, 3, 1, 0] rfl)
set_option maxRecDepth 20000 in
theorem cM_overstayed (l : Launch) (D : va_G) (cI cZ : ClassId) (q : Nat → Nat) {u uz : MS} {rz : Int32} {x1 : Int32} (h : fM_overstayed u x1 = some (rz, uz)) : Met l yX9_overstayed wsX9_overstayed (mR 0 0) (va_Pc [.ref (q 0), .int x1] (mPre D cI cZ q u)) (mQ D cI cZ q rz uz) 0 0 (mF q) := by
  refine Met.ofW (cc := cX9_overstayed) (maxL := 4) (ret := (some .int)) (by decide) rfl ?_
  intro p e s m args below meth c s₁ B hml hv
  obtain ⟨rfl, hw, hK⟩ := hv
  have C : mC p s m _ meth c cX9_overstayed (some .int) wsX9_overstayed 4 D cI cZ := ⟨B.exec, B.bytes, B.returns, atoms_spec (ws := wsX9_overstayed) B.pre, findClass_of_methodNamed B.named, B.notSynchronized, hml, hK⟩
  have hl := lv_entry ([.ref (q 0), .int x1]) (n := 4) (Nat.le_of_ble_eq_true rfl)
  rw [lg_entry_eq]
  generalize (lg_sl ([.ref (q 0), .int x1]) ++ List.replicate (4 - (lg_sl ([.ref (q 0), .int x1])).length) Slot.unset).toArray = ls at hl ⊢
  have hl : lv_has ls 4 [(0, .ref (q 0)), (1, .int x1)] := hl
  exact w_M_overstayed_0 C h ⟨hw, va_S.rf⟩ hl
theorem iM_makeBan : ∀ w ∈ wsX90, w ∈ wsX9_makeBan := by decide +kernel
def fM_makeBan_48 (u : MS) (x5 : Int32) : Option (Int32 × MS) :=
  (mld u 25 x5).bind fun r1 =>
  some (r1, u)
set_option maxRecDepth 20000 in
theorem w_M_makeBan_48 (C : mC p s m args meth c cX9_makeBan (some .int) wsX9_makeBan 6 D cI cZ) {uz : MS} {rz : Int32} {u : MS} {x5 : Int32} (h : fM_makeBan_48 u x5 = some (rz, uz)) {H : Heap} {locs : List Loc} {ls : Array Slot} (hI : mI D cI cZ q u s H locs) (hl : lv_has ls 6 [(0, .ref (q 0)), (5, .int x5)]) : W p l e (mR 0 0) s m args below meth c H locs 0 0 (MQ below (mQ D cI cZ q rz uz) args s 0 0 (mF q)) (F0 m 48 ls []) := by
  obtain ⟨hx, hb, hr, hts, hown, hlocks, hml, hK⟩ := id C
  unfold fM_makeBan_48 at h
  refine lv_aload_n hx hb dX9_makeBan_48 rfl (lv_at hl 0 rfl) ?_
  refine mg_get hx hb hts iM_makeBan hown hK hI 25 (by decide) (hts (.fieldLink RX9 76 "PassageCourtModel" "banTo" "[I") (by decide +kernel)) rfl dX9_makeBan_49 ?_
  refine lv_iload hx hb dX9_makeBan_52 (lv_at hl 1 rfl) ?_
  obtain ⟨r1, er1, h⟩ := mbind h
  refine mg_ald hx hb hK hI 25 rfl (by decide) er1 dX9_makeBan_54 ?_
  cases h
  exact mg_reti hx hb hr hlocks hK hI dX9_makeBan_55
def fM_makeBan (u : MS) (x1 x2 x3 x4 : Int32) : Option (Int32 × MS) :=
  (mld u 25 ((8 * x2) + x1)).bind fun r2 =>
  if x4 ≤ r2 then
    fM_makeBan_48 u ((8 * x2) + x1)
  else
    (mst u 25 ((8 * x2) + x1) x4).bind fun u4 =>
    (mst u4 26 ((8 * x2) + x1) x3).bind fun u5 =>
    (mst u5 27 ((8 * x2) + x1) (u5 1 0)).bind fun u6 =>
    fM_makeBan_48 u6 ((8 * x2) + x1)
set_option maxRecDepth 20000 in
theorem w_M_makeBan_0 (C : mC p s m args meth c cX9_makeBan (some .int) wsX9_makeBan 6 D cI cZ) {uz : MS} {rz : Int32} {u : MS} {x1 x2 x3 x4 : Int32} (h : fM_makeBan u x1 x2 x3 x4 = some (rz, uz)) {H : Heap} {locs : List Loc} {ls : Array Slot} (hI : mI D cI cZ q u s H locs) (hl : lv_has ls 6 [(0, .ref (q 0)), (1, .int x1), (2, .int x2), (3, .int x3), (4, .int x4)]) : W p l e (mR 0 0) s m args below meth c H locs 0 0 (MQ below (mQ D cI cZ q rz uz) args s 0 0 (mF q)) (F0 m 0 ls []) := by
  obtain ⟨hx, hb, hr, hts, hown, hlocks, hml, hK⟩ := id C
  unfold fM_makeBan at h
  refine lv_bipush (v := 8) hx hb dX9_makeBan_0 (by decide) ?_
  refine lv_iload_n hx hb dX9_makeBan_2 rfl (lv_at hl 2 rfl) ?_
  refine lv_imul hx hb dX9_makeBan_3 ?_
  refine lv_iload_n hx hb dX9_makeBan_4 rfl (lv_at hl 1 rfl) ?_
  refine lv_iadd hx hb dX9_makeBan_5 ?_
  refine lv_istore (lv' := [(5, .int ((8 * x2) + x1)), (0, .ref (q 0)), (1, .int x1), (2, .int x2), (3, .int x3), (4, .int x4)]) hx hb dX9_makeBan_6 hl (by decide) rfl (fun ls hl => ?_)
  refine lv_iload hx hb dX9_makeBan_8 (lv_at hl 5 rfl) ?_
  refine lv_aload_n hx hb dX9_makeBan_10 rfl (lv_at hl 1 rfl) ?_
  refine mg_get hx hb hts iM_makeBan hown hK hI 25 (by decide) (hts (.fieldLink RX9 76 "PassageCourtModel" "banTo" "[I") (by decide +kernel)) rfl dX9_makeBan_11 ?_
  refine lv_iload hx hb dX9_makeBan_14 (lv_at hl 0 rfl) ?_
  obtain ⟨r2, er2, h⟩ := mbind h
  refine mg_ald hx hb hK hI 25 rfl (by decide) er2 dX9_makeBan_16 ?_
  refine lv_icmp_le (tgt := 48) hx hb dX9_makeBan_17 (by decide) (fun c3 => ?_) (fun c3 => ?_)
  · replace h := mpos c3 h
    exact w_M_makeBan_48 C h hI (lv_sub hl [1, 0] rfl)
  · replace h := mneg c3 h
    refine lv_aload_n hx hb dX9_makeBan_20 rfl (lv_at hl 1 rfl) ?_
    refine mg_get hx hb hts iM_makeBan hown hK hI 25 (by decide) (hts (.fieldLink RX9 76 "PassageCourtModel" "banTo" "[I") (by decide +kernel)) rfl dX9_makeBan_21 ?_
    refine lv_iload hx hb dX9_makeBan_24 (lv_at hl 0 rfl) ?_
    refine lv_iload hx hb dX9_makeBan_26 (lv_at hl 5 rfl) ?_
    obtain ⟨u4, eu4, h⟩ := mbind h
    refine mg_ast hx hb hK hI 25 rfl (by decide) eu4 dX9_makeBan_28 (fun H locs hI => ?_)
    refine lv_aload_n hx hb dX9_makeBan_29 rfl (lv_at hl 1 rfl) ?_
    refine mg_get hx hb hts iM_makeBan hown hK hI 26 (by decide) (hts (.fieldLink RX9 79 "PassageCourtModel" "banFrom" "[I") (by decide +kernel)) rfl dX9_makeBan_30 ?_
    refine lv_iload hx hb dX9_makeBan_33 (lv_at hl 0 rfl) ?_
    refine lv_iload_n hx hb dX9_makeBan_35 rfl (lv_at hl 4 rfl) ?_
    obtain ⟨u5, eu5, h⟩ := mbind h
    refine mg_ast hx hb hK hI 26 rfl (by decide) eu5 dX9_makeBan_36 (fun H locs hI => ?_)
    refine lv_aload_n hx hb dX9_makeBan_37 rfl (lv_at hl 1 rfl) ?_
    refine mg_get hx hb hts iM_makeBan hown hK hI 27 (by decide) (hts (.fieldLink RX9 82 "PassageCourtModel" "banMade" "[I") (by decide +kernel)) rfl dX9_makeBan_38 ?_
    refine lv_iload hx hb dX9_makeBan_41 (lv_at hl 0 rfl) ?_
    refine lv_aload_n hx hb dX9_makeBan_43 rfl (lv_at hl 1 rfl) ?_
    refine mg_get hx hb hts iM_makeBan hown hK hI 1 (by decide) (hts (.fieldLink RX9 153 "PassageCourtModel" "today" "I") (by decide +kernel)) rfl dX9_makeBan_44 ?_
    obtain ⟨u6, eu6, h⟩ := mbind h
    refine mg_ast hx hb hK hI 27 rfl (by decide) eu6 dX9_makeBan_47 (fun H locs hI => ?_)
    exact w_M_makeBan_48 C h hI (lv_sub hl [1, 0] rfl)
set_option maxRecDepth 20000 in
theorem cM_makeBan (l : Launch) (D : va_G) (cI cZ : ClassId) (q : Nat → Nat) {u uz : MS} {rz : Int32} {x1 x2 x3 x4 : Int32} (h : fM_makeBan u x1 x2 x3 x4 = some (rz, uz)) : Met l yX9_makeBan wsX9_makeBan (mR 0 0) (va_Pc [.ref (q 0), .int x1, .int x2, .int x3, .int x4] (mPre D cI cZ q u)) (mQ D cI cZ q rz uz) 0 0 (mF q) := by
  refine Met.ofW (cc := cX9_makeBan) (maxL := 6) (ret := (some .int)) (by decide) rfl ?_
  intro p e s m args below meth c s₁ B hml hv
  obtain ⟨rfl, hw, hK⟩ := hv
  have C : mC p s m _ meth c cX9_makeBan (some .int) wsX9_makeBan 6 D cI cZ := ⟨B.exec, B.bytes, B.returns, atoms_spec (ws := wsX9_makeBan) B.pre, findClass_of_methodNamed B.named, B.notSynchronized, hml, hK⟩
  have hl := lv_entry ([.ref (q 0), .int x1, .int x2, .int x3, .int x4]) (n := 6) (Nat.le_of_ble_eq_true rfl)
  rw [lg_entry_eq]
  generalize (lg_sl ([.ref (q 0), .int x1, .int x2, .int x3, .int x4]) ++ List.replicate (6 - (lg_sl ([.ref (q 0), .int x1, .int x2, .int x3, .int x4])).length) Slot.unset).toArray = ls at hl ⊢
  have hl : lv_has ls 6 [(0, .ref (q 0)), (1, .int x1), (2, .int x2), (3, .int x3), (4, .int x4)] := hl
  exact w_M_makeBan_0 C h ⟨hw, va_S.rf⟩ hl
theorem iM_leave : ∀ w ∈ wsX90, w ∈ wsX9_leave := by decide +kernel
def fM_leave_109 (u : MS) (y0 : Int32) : Option (Int32 × MS) :=
  some (y0, u)
set_option maxRecDepth 20000 in
theorem w_M_leave_109 (C : mC p s m args meth c cX9_leave (some .int) wsX9_leave 5 D cI cZ) {uz : MS} {rz : Int32} {u : MS} {y0 : Int32} (h : fM_leave_109 u y0 = some (rz, uz)) {H : Heap} {locs : List Loc} {ls : Array Slot} (hI : mI D cI cZ q u s H locs) (hl : lv_has ls 5 [(0, .ref (q 0))]) : W p l e (mR 2 43) s m args below meth c H locs 0 0 (MQ below (mQ D cI cZ q rz uz) args s 0 0 (mF q)) (F0 m 109 ls [.int y0]) := by
  obtain ⟨hx, hb, hr, hts, hown, hlocks, hml, hK⟩ := id C
  unfold fM_leave_109 at h
  cases h
  exact mg_reti hx hb hr hlocks hK hI dX9_leave_109
def fM_leave_105 (u : MS) (y0 y1 y2 y3 y4 : Int32) : Option (Int32 × MS) :=
  mb2 (fM_makeBan u y4 y3 y2 (y1 + y0)) fun r2 u1 =>
  fM_leave_109 u1 r2
set_option maxRecDepth 20000 in
theorem w_M_leave_105 (C : mC p s m args meth c cX9_leave (some .int) wsX9_leave 5 D cI cZ) {uz : MS} {rz : Int32} {u : MS} {y0 y1 y2 y3 y4 : Int32} (h : fM_leave_105 u y0 y1 y2 y3 y4 = some (rz, uz)) {H : Heap} {locs : List Loc} {ls : Array Slot} (hI : mI D cI cZ q u s H locs) (hl : lv_has ls 5 [(0, .ref (q 0))]) : W p l e (mR 2 43) s m args below meth c H locs 0 0 (MQ below (mQ D cI cZ q rz uz) args s 0 0 (mF q)) (F0 m 105 ls [.int y0, .int y1, .int y2, .int y3, .int y4, .ref (q 0)]) := by
  obtain ⟨hx, hb, hr, hts, hown, hlocks, hml, hK⟩ := id C
  unfold fM_leave_105 at h
  refine lv_iadd hx hb dX9_leave_105 ?_
  obtain ⟨r2, u1, eu1, h⟩ := mb2_spec h
  refine mg_callV (As := [.int y4, .int y3, .int y2, .int (y1 + y0)]) (rest := []) ⟨hx, hb, hml, hown, hts⟩ (cM_makeBan l D cI cZ q eu1) (cwV 4 hts gX9_leave_X9_makeBan rfl rfl rfl (by decide +kernel) ⟨Nat.le_of_ble_eq_true rfl, Nat.le_of_ble_eq_true rfl⟩) hK hI rfl hl.1 rfl (Nat.le_of_ble_eq_true rfl) dX9_leave_106 ⟨Nat.le_refl _, Nat.le_refl _⟩ (fun H locs hI => ?_)
  exact w_M_leave_109 C h hI (lv_sub hl [0] rfl)
def fM_leave_30 (u : MS) (x1 y0 : Int32) : Option (Int32 × MS) :=
  mb2 (fM_goesWell u y0) fun r4 u3 =>
  if r4 = 0 then
    some (0, u3)
  else
    mb2 (fM_overstayed u3 x1) fun r7 u6 =>
    (mld u6 18 x1).bind fun r8 =>
    (mst u6 18 x1 ((-1))).bind fun u9 =>
    (mst u9 20 x1 ((-1))).bind fun u10 =>
    if (10 * r7) = 0 then
      fM_leave_109 u10 ((-1))
    else
      if (10 * r7) ≤ 720 then
        fM_leave_105 u10 (10 * r7) (u10 1 0) ((u10 1 0) + 1) x1 r8
      else
        fM_leave_105 u10 720 (u10 1 0) ((u10 1 0) + 1) x1 r8
set_option maxRecDepth 20000 in
theorem w_M_leave_30 (C : mC p s m args meth c cX9_leave (some .int) wsX9_leave 5 D cI cZ) {uz : MS} {rz : Int32} {u : MS} {x1 y0 : Int32} (h : fM_leave_30 u x1 y0 = some (rz, uz)) {H : Heap} {locs : List Loc} {ls : Array Slot} (hI : mI D cI cZ q u s H locs) (hl : lv_has ls 5 [(0, .ref (q 0)), (1, .int x1)]) : W p l e (mR 2 43) s m args below meth c H locs 0 0 (MQ below (mQ D cI cZ q rz uz) args s 0 0 (mF q)) (F0 m 30 ls [.int y0, .ref (q 0)]) := by
  obtain ⟨hx, hb, hr, hts, hown, hlocks, hml, hK⟩ := id C
  unfold fM_leave_30 at h
  obtain ⟨r4, u3, eu3, h⟩ := mb2_spec h
  refine mg_callV (As := [.int y0]) (rest := []) ⟨hx, hb, hml, hown, hts⟩ (cM_goesWell l D cI cZ q eu3) (cwV 1 hts gX9_leave_X9_goesWell rfl rfl rfl (by decide +kernel) ⟨Nat.le_of_ble_eq_true rfl, Nat.le_of_ble_eq_true rfl⟩) hK hI rfl hl.1 rfl (Nat.le_of_ble_eq_true rfl) dX9_leave_30 ⟨Nat.le_refl _, Nat.le_refl _⟩ (fun H locs hI => ?_)
  refine lv_if_ne (tgt := 38) hx hb dX9_leave_33 (by decide) (fun c5 => ?_) (fun c5 => ?_)
  · replace h := mneg c5 h
    refine lv_bipush (v := 10) hx hb dX9_leave_38 (by decide) ?_
    refine lv_aload_n hx hb dX9_leave_40 rfl (lv_at hl 0 rfl) ?_
    refine lv_iload_n hx hb dX9_leave_41 rfl (lv_at hl 1 rfl) ?_
    obtain ⟨r7, u6, eu6, h⟩ := mb2_spec h
    refine mg_callV (As := [.int x1]) (rest := [.int 10]) ⟨hx, hb, hml, hown, hts⟩ (cM_overstayed l D cI cZ q eu6) (cwV 1 hts gX9_leave_X9_overstayed rfl rfl rfl (by decide +kernel) ⟨Nat.le_of_ble_eq_true rfl, Nat.le_of_ble_eq_true rfl⟩) hK hI rfl hl.1 rfl (Nat.le_of_ble_eq_true rfl) dX9_leave_42 ⟨Nat.le_refl _, Nat.le_refl _⟩ (fun H locs hI => ?_)
    refine lv_imul hx hb dX9_leave_45 ?_
    refine lv_istore_n (lv' := [(3, .int (10 * r7)), (0, .ref (q 0)), (1, .int x1)]) hx hb dX9_leave_46 rfl hl (by decide) rfl (fun ls hl => ?_)
    refine lv_aload_n hx hb dX9_leave_47 rfl (lv_at hl 1 rfl) ?_
    refine mg_get hx hb hts iM_leave hown hK hI 18 (by decide) (hts (.fieldLink RX9 54 "PassageCourtModel" "where" "[I") (by decide +kernel)) rfl dX9_leave_48 ?_
    refine lv_iload_n hx hb dX9_leave_51 rfl (lv_at hl 2 rfl) ?_
    obtain ⟨r8, er8, h⟩ := mbind h
    refine mg_ald hx hb hK hI 18 rfl (by decide) er8 dX9_leave_52 ?_
    refine lv_istore (lv' := [(4, .int r8), (3, .int (10 * r7)), (0, .ref (q 0)), (1, .int x1)]) hx hb dX9_leave_53 hl (by decide) rfl (fun ls hl => ?_)
    refine lv_aload_n hx hb dX9_leave_55 rfl (lv_at hl 2 rfl) ?_
    refine mg_get hx hb hts iM_leave hown hK hI 18 (by decide) (hts (.fieldLink RX9 54 "PassageCourtModel" "where" "[I") (by decide +kernel)) rfl dX9_leave_56 ?_
    refine lv_iload_n hx hb dX9_leave_59 rfl (lv_at hl 3 rfl) ?_
    refine lv_iconst (v := -1) hx hb dX9_leave_60 (by decide) ?_
    obtain ⟨u9, eu9, h⟩ := mbind h
    refine mg_ast hx hb hK hI 18 rfl (by decide) eu9 dX9_leave_61 (fun H locs hI => ?_)
    refine lv_aload_n hx hb dX9_leave_62 rfl (lv_at hl 2 rfl) ?_
    refine mg_get hx hb hts iM_leave hown hK hI 20 (by decide) (hts (.fieldLink RX9 60 "PassageCourtModel" "cameBy" "[I") (by decide +kernel)) rfl dX9_leave_63 ?_
    refine lv_iload_n hx hb dX9_leave_66 rfl (lv_at hl 3 rfl) ?_
    refine lv_iconst (v := -1) hx hb dX9_leave_67 (by decide) ?_
    obtain ⟨u10, eu10, h⟩ := mbind h
    refine mg_ast hx hb hK hI 20 rfl (by decide) eu10 dX9_leave_68 (fun H locs hI => ?_)
    refine lv_iload_n hx hb dX9_leave_69 rfl (lv_at hl 1 rfl) ?_
    refine lv_if_ne (tgt := 77) hx hb dX9_leave_70 (by decide) (fun c11 => ?_) (fun c11 => ?_)
    · replace h := mneg c11 h
      refine lv_aload_n hx hb dX9_leave_77 rfl (lv_at hl 2 rfl) ?_
      refine lv_iload hx hb dX9_leave_78 (lv_at hl 0 rfl) ?_
      refine lv_iload_n hx hb dX9_leave_80 rfl (lv_at hl 3 rfl) ?_
      refine lv_aload_n hx hb dX9_leave_81 rfl (lv_at hl 2 rfl) ?_
      refine mg_get hx hb hts iM_leave hown hK hI 1 (by decide) (hts (.fieldLink RX9 153 "PassageCourtModel" "today" "I") (by decide +kernel)) rfl dX9_leave_82 ?_
      refine lv_iconst (v := 1) hx hb dX9_leave_85 (by decide) ?_
      refine lv_iadd hx hb dX9_leave_86 ?_
      refine lv_aload_n hx hb dX9_leave_87 rfl (lv_at hl 2 rfl) ?_
      refine mg_get hx hb hts iM_leave hown hK hI 1 (by decide) (hts (.fieldLink RX9 153 "PassageCourtModel" "today" "I") (by decide +kernel)) rfl dX9_leave_88 ?_
      refine lv_iload_n hx hb dX9_leave_91 rfl (lv_at hl 1 rfl) ?_
      refine lv_sipush (v := 720) hx hb dX9_leave_92 (by decide) ?_
      refine lv_icmp_le (tgt := 104) hx hb dX9_leave_95 (by decide) (fun c12 => ?_) (fun c12 => ?_)
      · replace h := mpos c12 h
        refine lv_iload_n hx hb dX9_leave_104 rfl (lv_at hl 1 rfl) ?_
        exact w_M_leave_105 C h hI (lv_sub hl [2] rfl)
      · replace h := mneg c12 h
        refine lv_sipush (v := 720) hx hb dX9_leave_98 (by decide) ?_
        refine lv_goto (tgt := 105) hx hb dX9_leave_101 (by decide) ?_
        exact w_M_leave_105 C h hI (lv_sub hl [2] rfl)
    · replace h := mpos c11 h
      refine lv_iconst (v := -1) hx hb dX9_leave_73 (by decide) ?_
      refine lv_goto (tgt := 109) hx hb dX9_leave_74 (by decide) ?_
      exact w_M_leave_109 C h hI (lv_sub hl [2] rfl)
  · replace h := mpos c5 h
    refine lv_iconst (v := 0) hx hb dX9_leave_36 (by decide) ?_
    cases h
    exact mg_reti hx hb hr hlocks hK hI dX9_leave_37
def fM_leave (u : MS) (x1 : Int32) : Option (Int32 × MS) :=
  mb2 (fM_isPerson u x1) fun r14 u13 =>
  if r14 = 0 then
    fM_leave_30 u13 x1 1
  else
    (mld u13 18 x1).bind fun r16 =>
    if r16 = ((-1)) then
      fM_leave_30 u13 x1 2
    else
      fM_leave_30 u13 x1 0
set_option maxRecDepth 20000 in
theorem w_M_leave_0 (C : mC p s m args meth c cX9_leave (some .int) wsX9_leave 5 D cI cZ) {uz : MS} {rz : Int32} {u : MS} {x1 : Int32} (h : fM_leave u x1 = some (rz, uz)) {H : Heap} {locs : List Loc} {ls : Array Slot} (hI : mI D cI cZ q u s H locs) (hl : lv_has ls 5 [(0, .ref (q 0)), (1, .int x1)]) : W p l e (mR 2 43) s m args below meth c H locs 0 0 (MQ below (mQ D cI cZ q rz uz) args s 0 0 (mF q)) (F0 m 0 ls []) := by
  obtain ⟨hx, hb, hr, hts, hown, hlocks, hml, hK⟩ := id C
  unfold fM_leave at h
  refine lv_aload_n hx hb dX9_leave_0 rfl (lv_at hl 0 rfl) ?_
  refine lv_iload_n hx hb dX9_leave_1 rfl (lv_at hl 1 rfl) ?_
  obtain ⟨r14, u13, eu13, h⟩ := mb2_spec h
  refine mg_callV (As := [.int x1]) (rest := []) ⟨hx, hb, hml, hown, hts⟩ (cM_isPerson l D cI cZ q eu13) (cwV 1 hts gX9_leave_X9_isPerson rfl rfl rfl (by decide +kernel) ⟨Nat.le_of_ble_eq_true rfl, Nat.le_of_ble_eq_true rfl⟩) hK hI rfl hl.1 rfl (Nat.le_of_ble_eq_true rfl) dX9_leave_2 ⟨Nat.le_refl _, Nat.le_refl _⟩ (fun H locs hI => ?_)
  refine lv_istore_n (lv' := [(2, .int r14), (0, .ref (q 0)), (1, .int x1)]) hx hb dX9_leave_5 rfl hl (by decide) rfl (fun ls hl => ?_)
  refine lv_aload_n hx hb dX9_leave_6 rfl (lv_at hl 1 rfl) ?_
  refine lv_iload_n hx hb dX9_leave_7 rfl (lv_at hl 0 rfl) ?_
  refine lv_if_ne (tgt := 15) hx hb dX9_leave_8 (by decide) (fun c15 => ?_) (fun c15 => ?_)
  · replace h := mneg c15 h
    refine lv_aload_n hx hb dX9_leave_15 rfl (lv_at hl 1 rfl) ?_
    refine mg_get hx hb hts iM_leave hown hK hI 18 (by decide) (hts (.fieldLink RX9 54 "PassageCourtModel" "where" "[I") (by decide +kernel)) rfl dX9_leave_16 ?_
    refine lv_iload_n hx hb dX9_leave_19 rfl (lv_at hl 2 rfl) ?_
    obtain ⟨r16, er16, h⟩ := mbind h
    refine mg_ald hx hb hK hI 18 rfl (by decide) er16 dX9_leave_20 ?_
    refine lv_iconst (v := -1) hx hb dX9_leave_21 (by decide) ?_
    refine lv_icmp_ne (tgt := 29) hx hb dX9_leave_22 (by decide) (fun c17 => ?_) (fun c17 => ?_)
    · replace h := mneg c17 h
      refine lv_iconst (v := 0) hx hb dX9_leave_29 (by decide) ?_
      exact w_M_leave_30 C h hI (lv_sub hl [1, 2] rfl)
    · replace h := mpos c17 h
      refine lv_iconst (v := 2) hx hb dX9_leave_25 (by decide) ?_
      refine lv_goto (tgt := 30) hx hb dX9_leave_26 (by decide) ?_
      exact w_M_leave_30 C h hI (lv_sub hl [1, 2] rfl)
  · replace h := mpos c15 h
    refine lv_iconst (v := 1) hx hb dX9_leave_11 (by decide) ?_
    refine lv_goto (tgt := 30) hx hb dX9_leave_12 (by decide) ?_
    exact w_M_leave_30 C h hI (lv_sub hl [1, 2] rfl)
set_option maxRecDepth 20000 in
theorem cM_leave (l : Launch) (D : va_G) (cI cZ : ClassId) (q : Nat → Nat) {u uz : MS} {rz : Int32} {x1 : Int32} (h : fM_leave u x1 = some (rz, uz)) : Met l yX9_leave wsX9_leave (mR 2 43) (va_Pc [.ref (q 0), .int x1] (mPre D cI cZ q u)) (mQ D cI cZ q rz uz) 0 0 (mF q) := by
  refine Met.ofW (cc := cX9_leave) (maxL := 5) (ret := (some .int)) (by decide) rfl ?_
  intro p e s m args below meth c s₁ B hml hv
  obtain ⟨rfl, hw, hK⟩ := hv
  have C : mC p s m _ meth c cX9_leave (some .int) wsX9_leave 5 D cI cZ := ⟨B.exec, B.bytes, B.returns, atoms_spec (ws := wsX9_leave) B.pre, findClass_of_methodNamed B.named, B.notSynchronized, hml, hK⟩
  have hl := lv_entry ([.ref (q 0), .int x1]) (n := 5) (Nat.le_of_ble_eq_true rfl)
  rw [lg_entry_eq]
  generalize (lg_sl ([.ref (q 0), .int x1]) ++ List.replicate (5 - (lg_sl ([.ref (q 0), .int x1])).length) Slot.unset).toArray = ls at hl ⊢
  have hl : lv_has ls 5 [(0, .ref (q 0)), (1, .int x1)] := hl
  exact w_M_leave_0 C h ⟨hw, va_S.rf⟩ hl
end GM2
