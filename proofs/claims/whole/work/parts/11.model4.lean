section GM4
variable {p : Program} {l : Launch} {e : Env} {s : State} {m : MethodId} {args : Array Value} {below : List Frame} {meth : Method} {c : Code} {D : va_G} {cI cZ : ClassId} {q : Nat → Nat}
theorem iM_extend : ∀ w ∈ wsX90, w ∈ wsX9_extend := by decide +kernel
def fM_extend_167 (u : MS) (x1 x2 y0 : Int32) : Option (Int32 × MS) :=
  mb2 (fM_goesWell u y0) fun r2 u1 =>
  if r2 = 0 then
    some (0, u1)
  else
    (mld u1 23 ((8 * x1) + x2)).bind fun r4 =>
    (mst u1 23 ((8 * x1) + x2) (r4 + 360)).bind fun u5 =>
    (mld u5 23 ((8 * x1) + x2)).bind fun r6 =>
    some (r6, u5)
set_option maxRecDepth 20000 in
theorem w_M_extend_167 (C : mC p s m args meth c cX9_extend (some .int) wsX9_extend 8 D cI cZ) {uz : MS} {rz : Int32} {u : MS} {x1 x2 y0 : Int32} (h : fM_extend_167 u x1 x2 y0 = some (rz, uz)) {H : Heap} {locs : List Loc} {ls : Array Slot} (hI : mI D cI cZ q u s H locs) (hl : lv_has ls 8 [(0, .ref (q 0)), (1, .int x1), (2, .int x2)]) : W p l e (mR 2 43) s m args below meth c H locs 0 0 (MQ below (mQ D cI cZ q rz uz) args s 0 0 (mF q)) (F0 m 167 ls [.int y0, .ref (q 0)]) := by
  obtain ⟨hx, hb, hr, hts, hown, hlocks, hml, hK⟩ := id C
  unfold fM_extend_167 at h
  obtain ⟨r2, u1, eu1, h⟩ := mb2_spec h
  refine mg_callV (As := [.int y0]) (rest := []) ⟨hx, hb, hml, hown, hts⟩ (cM_goesWell l D cI cZ q eu1) (cwV 1 hts gX9_extend_X9_goesWell rfl rfl rfl (by decide +kernel) ⟨Nat.le_of_ble_eq_true rfl, Nat.le_of_ble_eq_true rfl⟩) hK hI rfl hl.1 rfl (Nat.le_of_ble_eq_true rfl) dX9_extend_167 ⟨Nat.le_refl _, Nat.le_refl _⟩ (fun H locs hI => ?_)
  refine lv_if_ne (tgt := 175) hx hb dX9_extend_170 (by decide) (fun c3 => ?_) (fun c3 => ?_)
  · replace h := mneg c3 h
    refine lv_aload_n hx hb dX9_extend_175 rfl (lv_at hl 0 rfl) ?_
    refine mg_get hx hb hts iM_extend hown hK hI 23 (by decide) (hts (.fieldLink RX9 70 "PassageCourtModel" "permitTo" "[I") (by decide +kernel)) rfl dX9_extend_176 ?_
    refine lv_bipush (v := 8) hx hb dX9_extend_179 (by decide) ?_
    refine lv_iload_n hx hb dX9_extend_181 rfl (lv_at hl 1 rfl) ?_
    refine lv_imul hx hb dX9_extend_182 ?_
    refine lv_iload_n hx hb dX9_extend_183 rfl (lv_at hl 2 rfl) ?_
    refine lv_iadd hx hb dX9_extend_184 ?_
    refine lv_dup2_11 hx hb dX9_extend_185 rfl rfl ?_
    obtain ⟨r4, er4, h⟩ := mbind h
    refine mg_ald hx hb hK hI 23 rfl (by decide) er4 dX9_extend_186 ?_
    refine lv_sipush (v := 360) hx hb dX9_extend_187 (by decide) ?_
    refine lv_iadd hx hb dX9_extend_190 ?_
    obtain ⟨u5, eu5, h⟩ := mbind h
    refine mg_ast hx hb hK hI 23 rfl (by decide) eu5 dX9_extend_191 (fun H locs hI => ?_)
    refine lv_aload_n hx hb dX9_extend_192 rfl (lv_at hl 0 rfl) ?_
    refine mg_get hx hb hts iM_extend hown hK hI 23 (by decide) (hts (.fieldLink RX9 70 "PassageCourtModel" "permitTo" "[I") (by decide +kernel)) rfl dX9_extend_193 ?_
    refine lv_bipush (v := 8) hx hb dX9_extend_196 (by decide) ?_
    refine lv_iload_n hx hb dX9_extend_198 rfl (lv_at hl 1 rfl) ?_
    refine lv_imul hx hb dX9_extend_199 ?_
    refine lv_iload_n hx hb dX9_extend_200 rfl (lv_at hl 2 rfl) ?_
    refine lv_iadd hx hb dX9_extend_201 ?_
    obtain ⟨r6, er6, h⟩ := mbind h
    refine mg_ald hx hb hK hI 23 rfl (by decide) er6 dX9_extend_202 ?_
    cases h
    exact mg_reti hx hb hr hlocks hK hI dX9_extend_203
  · replace h := mpos c3 h
    refine lv_iconst (v := 0) hx hb dX9_extend_173 (by decide) ?_
    cases h
    exact mg_reti hx hb hr hlocks hK hI dX9_extend_174
def fM_extend_146 (u : MS) (x1 x2 x3 y0 : Int32) : Option (Int32 × MS) :=
  if x3 = 0 then
    fM_extend_167 u x1 x2 1
  else
    if y0 = 0 then
      fM_extend_167 u x1 x2 2
    else
      fM_extend_167 u x1 x2 0
set_option maxRecDepth 20000 in
theorem w_M_extend_146 (C : mC p s m args meth c cX9_extend (some .int) wsX9_extend 8 D cI cZ) {uz : MS} {rz : Int32} {u : MS} {x1 x2 x3 y0 : Int32} (h : fM_extend_146 u x1 x2 x3 y0 = some (rz, uz)) {H : Heap} {locs : List Loc} {ls : Array Slot} (hI : mI D cI cZ q u s H locs) (hl : lv_has ls 8 [(0, .ref (q 0)), (1, .int x1), (2, .int x2), (3, .int x3)]) : W p l e (mR 2 43) s m args below meth c H locs 0 0 (MQ below (mQ D cI cZ q rz uz) args s 0 0 (mF q)) (F0 m 146 ls [.int y0]) := by
  obtain ⟨hx, hb, hr, hts, hown, hlocks, hml, hK⟩ := id C
  unfold fM_extend_146 at h
  refine lv_istore (lv' := [(6, .int y0), (0, .ref (q 0)), (1, .int x1), (2, .int x2), (3, .int x3)]) hx hb dX9_extend_146 hl (by decide) rfl (fun ls hl => ?_)
  refine lv_aload_n hx hb dX9_extend_148 rfl (lv_at hl 1 rfl) ?_
  refine lv_iload_n hx hb dX9_extend_149 rfl (lv_at hl 4 rfl) ?_
  refine lv_if_ne (tgt := 157) hx hb dX9_extend_150 (by decide) (fun c7 => ?_) (fun c7 => ?_)
  · replace h := mneg c7 h
    refine lv_iload hx hb dX9_extend_157 (lv_at hl 0 rfl) ?_
    refine lv_if_eq (tgt := 166) hx hb dX9_extend_159 (by decide) (fun c8 => ?_) (fun c8 => ?_)
    · replace h := mpos c8 h
      refine lv_iconst (v := 2) hx hb dX9_extend_166 (by decide) ?_
      exact w_M_extend_167 C h hI (lv_sub hl [1, 2, 3] rfl)
    · replace h := mneg c8 h
      refine lv_iconst (v := 0) hx hb dX9_extend_162 (by decide) ?_
      refine lv_goto (tgt := 167) hx hb dX9_extend_163 (by decide) ?_
      exact w_M_extend_167 C h hI (lv_sub hl [1, 2, 3] rfl)
  · replace h := mpos c7 h
    refine lv_iconst (v := 1) hx hb dX9_extend_153 (by decide) ?_
    refine lv_goto (tgt := 167) hx hb dX9_extend_154 (by decide) ?_
    exact w_M_extend_167 C h hI (lv_sub hl [1, 2, 3] rfl)
def fM_extend_145 (u : MS) (x1 x2 x3 : Int32) : Option (Int32 × MS) :=
  fM_extend_146 u x1 x2 x3 0
set_option maxRecDepth 20000 in
theorem w_M_extend_145 (C : mC p s m args meth c cX9_extend (some .int) wsX9_extend 8 D cI cZ) {uz : MS} {rz : Int32} {u : MS} {x1 x2 x3 : Int32} (h : fM_extend_145 u x1 x2 x3 = some (rz, uz)) {H : Heap} {locs : List Loc} {ls : Array Slot} (hI : mI D cI cZ q u s H locs) (hl : lv_has ls 8 [(0, .ref (q 0)), (1, .int x1), (2, .int x2), (3, .int x3)]) : W p l e (mR 2 43) s m args below meth c H locs 0 0 (MQ below (mQ D cI cZ q rz uz) args s 0 0 (mF q)) (F0 m 145 ls []) := by
  obtain ⟨hx, hb, hr, hts, hown, hlocks, hml, hK⟩ := id C
  unfold fM_extend_145 at h
  refine lv_iconst (v := 0) hx hb dX9_extend_145 (by decide) ?_
  exact w_M_extend_146 C h hI (lv_sub hl [0, 1, 2, 3] rfl)
def fM_extend_112 (u : MS) (x1 x2 x3 x4 x5 : Int32) : Option (Int32 × MS) :=
  if x3 = 0 then
    fM_extend_145 u x1 x2 x3
  else
    mb2 (fM_hasPermit u x1 x2) fun r11 u10 =>
    if r11 = 0 then
      fM_extend_145 u10 x1 x2 x3
    else
      if x5 < ((((u10 1 0) - x4) + 2) / 2) then
        fM_extend_145 u10 x1 x2 x3
      else
        fM_extend_146 u10 x1 x2 x3 1
set_option maxRecDepth 20000 in
theorem w_M_extend_112 (C : mC p s m args meth c cX9_extend (some .int) wsX9_extend 8 D cI cZ) {uz : MS} {rz : Int32} {u : MS} {x1 x2 x3 x4 x5 : Int32} (h : fM_extend_112 u x1 x2 x3 x4 x5 = some (rz, uz)) {H : Heap} {locs : List Loc} {ls : Array Slot} (hI : mI D cI cZ q u s H locs) (hl : lv_has ls 8 [(0, .ref (q 0)), (1, .int x1), (2, .int x2), (3, .int x3), (4, .int x4), (5, .int x5)]) : W p l e (mR 2 43) s m args below meth c H locs 0 0 (MQ below (mQ D cI cZ q rz uz) args s 0 0 (mF q)) (F0 m 112 ls []) := by
  obtain ⟨hx, hb, hr, hts, hown, hlocks, hml, hK⟩ := id C
  unfold fM_extend_112 at h
  refine lv_iload_n hx hb dX9_extend_112 rfl (lv_at hl 3 rfl) ?_
  refine lv_if_eq (tgt := 145) hx hb dX9_extend_113 (by decide) (fun c9 => ?_) (fun c9 => ?_)
  · replace h := mpos c9 h
    exact w_M_extend_145 C h hI (lv_sub hl [0, 1, 2, 3] rfl)
  · replace h := mneg c9 h
    refine lv_aload_n hx hb dX9_extend_116 rfl (lv_at hl 0 rfl) ?_
    refine lv_iload_n hx hb dX9_extend_117 rfl (lv_at hl 1 rfl) ?_
    refine lv_iload_n hx hb dX9_extend_118 rfl (lv_at hl 2 rfl) ?_
    obtain ⟨r11, u10, eu10, h⟩ := mb2_spec h
    refine mg_callV (As := [.int x1, .int x2]) (rest := []) ⟨hx, hb, hml, hown, hts⟩ (cM_hasPermit l D cI cZ q eu10) (cwV 2 hts gX9_extend_X9_hasPermit rfl rfl rfl (by decide +kernel) ⟨Nat.le_of_ble_eq_true rfl, Nat.le_of_ble_eq_true rfl⟩) hK hI rfl hl.1 rfl (Nat.le_of_ble_eq_true rfl) dX9_extend_119 ⟨Nat.le_refl _, Nat.le_refl _⟩ (fun H locs hI => ?_)
    refine lv_if_eq (tgt := 145) hx hb dX9_extend_122 (by decide) (fun c12 => ?_) (fun c12 => ?_)
    · replace h := mpos c12 h
      exact w_M_extend_145 C h hI (lv_sub hl [0, 1, 2, 3] rfl)
    · replace h := mneg c12 h
      refine lv_iload hx hb dX9_extend_125 (lv_at hl 5 rfl) ?_
      refine lv_aload_n hx hb dX9_extend_127 rfl (lv_at hl 0 rfl) ?_
      refine mg_get hx hb hts iM_extend hown hK hI 1 (by decide) (hts (.fieldLink RX9 153 "PassageCourtModel" "today" "I") (by decide +kernel)) rfl dX9_extend_128 ?_
      refine lv_iload hx hb dX9_extend_131 (lv_at hl 4 rfl) ?_
      refine lv_isub hx hb dX9_extend_133 ?_
      refine lv_iconst (v := 2) hx hb dX9_extend_134 (by decide) ?_
      refine lv_iadd hx hb dX9_extend_135 ?_
      refine lv_iconst (v := 2) hx hb dX9_extend_136 (by decide) ?_
      refine lv_idiv hx hb dX9_extend_137 (by decide) ?_
      refine lv_icmp_lt (tgt := 145) hx hb dX9_extend_138 (by decide) (fun c13 => ?_) (fun c13 => ?_)
      · replace h := mpos c13 h
        exact w_M_extend_145 C h hI (lv_sub hl [0, 1, 2, 3] rfl)
      · replace h := mneg c13 h
        refine lv_iconst (v := 1) hx hb dX9_extend_141 (by decide) ?_
        refine lv_goto (tgt := 146) hx hb dX9_extend_142 (by decide) ?_
        exact w_M_extend_146 C h hI (lv_sub hl [0, 1, 2, 3] rfl)
def fM_extend_103 (rec54 : MS → Int32 → Int32 → Int32 → Int32 → Int32 → Int32 → Option (Int32 × MS)) (u : MS) (x1 x2 x3 x4 x6 y0 y1 : Int32) : Option (Int32 × MS) :=
  rec54 u x1 x2 x3 x4 (y1 + y0) (x6 + 1)
set_option maxRecDepth 20000 in
theorem w_M_extend_103 (C : mC p s m args meth c cX9_extend (some .int) wsX9_extend 8 D cI cZ) {uz : MS} {rz : Int32} {rec54 : MS → Int32 → Int32 → Int32 → Int32 → Int32 → Int32 → Option (Int32 × MS)} (hrec54 : ∀ {u : MS} {x1 x2 x3 x4 x5 x6 : Int32} (_ : rec54 u x1 x2 x3 x4 x5 x6 = some (rz, uz)) {H : Heap} {locs : List Loc} {ls : Array Slot} (_ : mI D cI cZ q u s H locs) (_ : lv_has ls 8 [(0, .ref (q 0)), (1, .int x1), (2, .int x2), (3, .int x3), (4, .int x4), (5, .int x5), (6, .int x6)]), W p l e (mR 2 43) s m args below meth c H locs 0 0 (MQ below (mQ D cI cZ q rz uz) args s 0 0 (mF q)) (F0 m 54 ls [])) {u : MS} {x1 x2 x3 x4 x6 y0 y1 : Int32} (h : fM_extend_103 rec54 u x1 x2 x3 x4 x6 y0 y1 = some (rz, uz)) {H : Heap} {locs : List Loc} {ls : Array Slot} (hI : mI D cI cZ q u s H locs) (hl : lv_has ls 8 [(0, .ref (q 0)), (1, .int x1), (2, .int x2), (3, .int x3), (4, .int x4), (6, .int x6)]) : W p l e (mR 2 43) s m args below meth c H locs 0 0 (MQ below (mQ D cI cZ q rz uz) args s 0 0 (mF q)) (F0 m 103 ls [.int y0, .int y1]) := by
  obtain ⟨hx, hb, hr, hts, hown, hlocks, hml, hK⟩ := id C
  unfold fM_extend_103 at h
  refine lv_iadd hx hb dX9_extend_103 ?_
  refine lv_istore (lv' := [(5, .int (y1 + y0)), (0, .ref (q 0)), (1, .int x1), (2, .int x2), (3, .int x3), (4, .int x4), (6, .int x6)]) hx hb dX9_extend_104 hl (by decide) rfl (fun ls hl => ?_)
  refine lv_iinc (v := x6 + 1) (lv' := [(6, .int (x6 + 1)), (5, .int (y1 + y0)), (0, .ref (q 0)), (1, .int x1), (2, .int x2), (3, .int x3), (4, .int x4)]) hx hb dX9_extend_106 hl (k := 6) rfl rfl (by decide) rfl (fun ls hl => ?_)
  refine lv_goto (tgt := 54) hx hb dX9_extend_109 (by decide) ?_
  exact hrec54 h hI (lv_sub hl [2, 3, 4, 5, 6, 1, 0] rfl)
def fM_extend_102 (rec54 : MS → Int32 → Int32 → Int32 → Int32 → Int32 → Int32 → Option (Int32 × MS)) (u : MS) (x1 x2 x3 x4 x6 y0 : Int32) : Option (Int32 × MS) :=
  fM_extend_103 rec54 u x1 x2 x3 x4 x6 0 y0
set_option maxRecDepth 20000 in
theorem w_M_extend_102 (C : mC p s m args meth c cX9_extend (some .int) wsX9_extend 8 D cI cZ) {uz : MS} {rz : Int32} {rec54 : MS → Int32 → Int32 → Int32 → Int32 → Int32 → Int32 → Option (Int32 × MS)} (hrec54 : ∀ {u : MS} {x1 x2 x3 x4 x5 x6 : Int32} (_ : rec54 u x1 x2 x3 x4 x5 x6 = some (rz, uz)) {H : Heap} {locs : List Loc} {ls : Array Slot} (_ : mI D cI cZ q u s H locs) (_ : lv_has ls 8 [(0, .ref (q 0)), (1, .int x1), (2, .int x2), (3, .int x3), (4, .int x4), (5, .int x5), (6, .int x6)]), W p l e (mR 2 43) s m args below meth c H locs 0 0 (MQ below (mQ D cI cZ q rz uz) args s 0 0 (mF q)) (F0 m 54 ls [])) {u : MS} {x1 x2 x3 x4 x6 y0 : Int32} (h : fM_extend_102 rec54 u x1 x2 x3 x4 x6 y0 = some (rz, uz)) {H : Heap} {locs : List Loc} {ls : Array Slot} (hI : mI D cI cZ q u s H locs) (hl : lv_has ls 8 [(0, .ref (q 0)), (1, .int x1), (2, .int x2), (3, .int x3), (4, .int x4), (6, .int x6)]) : W p l e (mR 2 43) s m args below meth c H locs 0 0 (MQ below (mQ D cI cZ q rz uz) args s 0 0 (mF q)) (F0 m 102 ls [.int y0]) := by
  obtain ⟨hx, hb, hr, hts, hown, hlocks, hml, hK⟩ := id C
  unfold fM_extend_102 at h
  refine lv_iconst (v := 0) hx hb dX9_extend_102 (by decide) ?_
  exact w_M_extend_103 C hrec54 h hI (lv_sub hl [0, 1, 2, 3, 4, 5] rfl)
def fM_extend_54 : Nat → MS → Int32 → Int32 → Int32 → Int32 → Int32 → Int32 → Option (Int32 × MS)
  | 0, _, _, _, _, _, _, _ => none
  | n + 1, u, x1, x2, x3, x4, x5, x6 =>
    if (u 1 0) < x6 then
      fM_extend_112 u x1 x2 x3 x4 x5
    else
      if x3 = 0 then
        fM_extend_112 u x1 x2 x3 x4 x5
      else
        (mld u 22 ((3601 * x1) + x6)).bind fun r16 =>
        if r16 ≤ 0 then
          fM_extend_102 (fM_extend_54 n) u x1 x2 x3 x4 x6 x5
        else
          if (r16 / 10) = x2 then
            fM_extend_103 (fM_extend_54 n) u x1 x2 x3 x4 x6 1 x5
          else
            fM_extend_102 (fM_extend_54 n) u x1 x2 x3 x4 x6 x5
set_option maxRecDepth 20000 in
theorem w_M_extend_54 (C : mC p s m args meth c cX9_extend (some .int) wsX9_extend 8 D cI cZ) {uz : MS} {rz : Int32} : ∀ (n : Nat) {u : MS} {x1 x2 x3 x4 x5 x6 : Int32} (h : fM_extend_54 n u x1 x2 x3 x4 x5 x6 = some (rz, uz)) {H : Heap} {locs : List Loc} {ls : Array Slot} (hI : mI D cI cZ q u s H locs) (hl : lv_has ls 8 [(0, .ref (q 0)), (1, .int x1), (2, .int x2), (3, .int x3), (4, .int x4), (5, .int x5), (6, .int x6)]), W p l e (mR 2 43) s m args below meth c H locs 0 0 (MQ below (mQ D cI cZ q rz uz) args s 0 0 (mF q)) (F0 m 54 ls []) := by
  obtain ⟨hx, hb, hr, hts, hown, hlocks, hml, hK⟩ := id C
  intro n
  induction n with
  | zero =>
    intro u x1 x2 x3 x4 x5 x6 h
    cases (show (none : Option _) = _ from h)
  | succ n ih =>
    intro u x1 x2 x3 x4 x5 x6 h H locs ls hI hl
    rw [fM_extend_54] at h
    refine lv_iload hx hb dX9_extend_54 (lv_at hl 6 rfl) ?_
    refine lv_aload_n hx hb dX9_extend_56 rfl (lv_at hl 0 rfl) ?_
    refine mg_get hx hb hts iM_extend hown hK hI 1 (by decide) (hts (.fieldLink RX9 153 "PassageCourtModel" "today" "I") (by decide +kernel)) rfl dX9_extend_57 ?_
    refine lv_icmp_gt (tgt := 112) hx hb dX9_extend_60 (by decide) (fun c14 => ?_) (fun c14 => ?_)
    · replace h := mpos c14 h
      exact w_M_extend_112 C h hI (lv_sub hl [0, 1, 2, 3, 4, 5] rfl)
    · replace h := mneg c14 h
      refine lv_iload_n hx hb dX9_extend_63 rfl (lv_at hl 3 rfl) ?_
      refine lv_if_eq (tgt := 112) hx hb dX9_extend_64 (by decide) (fun c15 => ?_) (fun c15 => ?_)
      · replace h := mpos c15 h
        exact w_M_extend_112 C h hI (lv_sub hl [0, 1, 2, 3, 4, 5] rfl)
      · replace h := mneg c15 h
        refine lv_aload_n hx hb dX9_extend_67 rfl (lv_at hl 0 rfl) ?_
        refine mg_get hx hb hts iM_extend hown hK hI 22 (by decide) (hts (.fieldLink RX9 67 "PassageCourtModel" "was" "[I") (by decide +kernel)) rfl dX9_extend_68 ?_
        refine lv_sipush (v := 3601) hx hb dX9_extend_71 (by decide) ?_
        refine lv_iload_n hx hb dX9_extend_74 rfl (lv_at hl 1 rfl) ?_
        refine lv_imul hx hb dX9_extend_75 ?_
        refine lv_iload hx hb dX9_extend_76 (lv_at hl 6 rfl) ?_
        refine lv_iadd hx hb dX9_extend_78 ?_
        obtain ⟨r16, er16, h⟩ := mbind h
        refine mg_ald hx hb hK hI 22 rfl (by decide) er16 dX9_extend_79 ?_
        refine lv_istore (lv' := [(7, .int r16), (0, .ref (q 0)), (1, .int x1), (2, .int x2), (3, .int x3), (4, .int x4), (5, .int x5), (6, .int x6)]) hx hb dX9_extend_80 hl (by decide) rfl (fun ls hl => ?_)
        refine lv_iload hx hb dX9_extend_82 (lv_at hl 6 rfl) ?_
        refine lv_iload hx hb dX9_extend_84 (lv_at hl 0 rfl) ?_
        refine lv_if_le (tgt := 102) hx hb dX9_extend_86 (by decide) (fun c17 => ?_) (fun c17 => ?_)
        · replace h := mpos c17 h
          exact w_M_extend_102 C ih h hI (lv_sub hl [1, 2, 3, 4, 5, 7] rfl)
        · replace h := mneg c17 h
          refine lv_iload hx hb dX9_extend_89 (lv_at hl 0 rfl) ?_
          refine lv_bipush (v := 10) hx hb dX9_extend_91 (by decide) ?_
          refine lv_idiv hx hb dX9_extend_93 (by decide) ?_
          refine lv_iload_n hx hb dX9_extend_94 rfl (lv_at hl 3 rfl) ?_
          refine lv_icmp_ne (tgt := 102) hx hb dX9_extend_95 (by decide) (fun c18 => ?_) (fun c18 => ?_)
          · replace h := mneg c18 h
            exact w_M_extend_102 C ih h hI (lv_sub hl [1, 2, 3, 4, 5, 7] rfl)
          · replace h := mpos c18 h
            refine lv_iconst (v := 1) hx hb dX9_extend_98 (by decide) ?_
            refine lv_goto (tgt := 103) hx hb dX9_extend_99 (by decide) ?_
            exact w_M_extend_103 C ih h hI (lv_sub hl [1, 2, 3, 4, 5, 7] rfl)
def fM_extend_45 (u : MS) (x1 x2 x3 y0 : Int32) : Option (Int32 × MS) :=
  fM_extend_54 4096 u x1 x2 x3 y0 0 y0
set_option maxRecDepth 20000 in
theorem w_M_extend_45 (C : mC p s m args meth c cX9_extend (some .int) wsX9_extend 8 D cI cZ) {uz : MS} {rz : Int32} {u : MS} {x1 x2 x3 y0 : Int32} (h : fM_extend_45 u x1 x2 x3 y0 = some (rz, uz)) {H : Heap} {locs : List Loc} {ls : Array Slot} (hI : mI D cI cZ q u s H locs) (hl : lv_has ls 8 [(0, .ref (q 0)), (1, .int x1), (2, .int x2), (3, .int x3)]) : W p l e (mR 2 43) s m args below meth c H locs 0 0 (MQ below (mQ D cI cZ q rz uz) args s 0 0 (mF q)) (F0 m 45 ls [.int y0]) := by
  obtain ⟨hx, hb, hr, hts, hown, hlocks, hml, hK⟩ := id C
  unfold fM_extend_45 at h
  refine lv_istore (lv' := [(4, .int y0), (0, .ref (q 0)), (1, .int x1), (2, .int x2), (3, .int x3)]) hx hb dX9_extend_45 hl (by decide) rfl (fun ls hl => ?_)
  refine lv_iconst (v := 0) hx hb dX9_extend_47 (by decide) ?_
  refine lv_istore (lv' := [(5, .int 0), (4, .int y0), (0, .ref (q 0)), (1, .int x1), (2, .int x2), (3, .int x3)]) hx hb dX9_extend_48 hl (by decide) rfl (fun ls hl => ?_)
  refine lv_iload hx hb dX9_extend_50 (lv_at hl 1 rfl) ?_
  refine lv_istore (lv' := [(6, .int y0), (5, .int 0), (4, .int y0), (0, .ref (q 0)), (1, .int x1), (2, .int x2), (3, .int x3)]) hx hb dX9_extend_52 hl (by decide) rfl (fun ls hl => ?_)
  exact w_M_extend_54 C 4096 h hI (lv_sub hl [3, 4, 5, 6, 2, 1, 0] rfl)
def fM_extend_21 (u : MS) (x1 x2 y0 : Int32) : Option (Int32 × MS) :=
  if 0 ≤ (((u 1 0) - 360) + 1) then
    fM_extend_45 u x1 x2 y0 (((u 1 0) - 360) + 1)
  else
    fM_extend_45 u x1 x2 y0 0
set_option maxRecDepth 20000 in
theorem w_M_extend_21 (C : mC p s m args meth c cX9_extend (some .int) wsX9_extend 8 D cI cZ) {uz : MS} {rz : Int32} {u : MS} {x1 x2 y0 : Int32} (h : fM_extend_21 u x1 x2 y0 = some (rz, uz)) {H : Heap} {locs : List Loc} {ls : Array Slot} (hI : mI D cI cZ q u s H locs) (hl : lv_has ls 8 [(0, .ref (q 0)), (1, .int x1), (2, .int x2)]) : W p l e (mR 2 43) s m args below meth c H locs 0 0 (MQ below (mQ D cI cZ q rz uz) args s 0 0 (mF q)) (F0 m 21 ls [.int y0]) := by
  obtain ⟨hx, hb, hr, hts, hown, hlocks, hml, hK⟩ := id C
  unfold fM_extend_21 at h
  refine lv_istore_n (lv' := [(3, .int y0), (0, .ref (q 0)), (1, .int x1), (2, .int x2)]) hx hb dX9_extend_21 rfl hl (by decide) rfl (fun ls hl => ?_)
  refine lv_aload_n hx hb dX9_extend_22 rfl (lv_at hl 1 rfl) ?_
  refine mg_get hx hb hts iM_extend hown hK hI 1 (by decide) (hts (.fieldLink RX9 153 "PassageCourtModel" "today" "I") (by decide +kernel)) rfl dX9_extend_23 ?_
  refine lv_sipush (v := 360) hx hb dX9_extend_26 (by decide) ?_
  refine lv_isub hx hb dX9_extend_29 ?_
  refine lv_iconst (v := 1) hx hb dX9_extend_30 (by decide) ?_
  refine lv_iadd hx hb dX9_extend_31 ?_
  refine lv_istore (lv' := [(4, .int (((u 1 0) - 360) + 1)), (3, .int y0), (0, .ref (q 0)), (1, .int x1), (2, .int x2)]) hx hb dX9_extend_32 hl (by decide) rfl (fun ls hl => ?_)
  refine lv_iload hx hb dX9_extend_34 (lv_at hl 0 rfl) ?_
  refine lv_if_ge (tgt := 43) hx hb dX9_extend_36 (by decide) (fun c19 => ?_) (fun c19 => ?_)
  · replace h := mpos c19 h
    refine lv_iload hx hb dX9_extend_43 (lv_at hl 0 rfl) ?_
    exact w_M_extend_45 C h hI (lv_sub hl [2, 3, 4, 1] rfl)
  · replace h := mneg c19 h
    refine lv_iconst (v := 0) hx hb dX9_extend_39 (by decide) ?_
    refine lv_goto (tgt := 45) hx hb dX9_extend_40 (by decide) ?_
    exact w_M_extend_45 C h hI (lv_sub hl [2, 3, 4, 1] rfl)
def fM_extend_20 (u : MS) (x1 x2 : Int32) : Option (Int32 × MS) :=
  fM_extend_21 u x1 x2 0
set_option maxRecDepth 20000 in
theorem w_M_extend_20 (C : mC p s m args meth c cX9_extend (some .int) wsX9_extend 8 D cI cZ) {uz : MS} {rz : Int32} {u : MS} {x1 x2 : Int32} (h : fM_extend_20 u x1 x2 = some (rz, uz)) {H : Heap} {locs : List Loc} {ls : Array Slot} (hI : mI D cI cZ q u s H locs) (hl : lv_has ls 8 [(0, .ref (q 0)), (1, .int x1), (2, .int x2)]) : W p l e (mR 2 43) s m args below meth c H locs 0 0 (MQ below (mQ D cI cZ q rz uz) args s 0 0 (mF q)) (F0 m 20 ls []) := by
  obtain ⟨hx, hb, hr, hts, hown, hlocks, hml, hK⟩ := id C
  unfold fM_extend_20 at h
  refine lv_iconst (v := 0) hx hb dX9_extend_20 (by decide) ?_
  exact w_M_extend_21 C h hI (lv_sub hl [0, 1, 2] rfl)
def fM_extend (u : MS) (x1 x2 : Int32) : Option (Int32 × MS) :=
  mb2 (fM_isPerson u x1) fun r21 u20 =>
  if r21 = 0 then
    fM_extend_20 u20 x1 x2
  else
    mb2 (fM_isLand u20 x2) fun r24 u23 =>
    if r24 = 0 then
      fM_extend_20 u23 x1 x2
    else
      fM_extend_21 u23 x1 x2 1
set_option maxRecDepth 20000 in
theorem w_M_extend_0 (C : mC p s m args meth c cX9_extend (some .int) wsX9_extend 8 D cI cZ) {uz : MS} {rz : Int32} {u : MS} {x1 x2 : Int32} (h : fM_extend u x1 x2 = some (rz, uz)) {H : Heap} {locs : List Loc} {ls : Array Slot} (hI : mI D cI cZ q u s H locs) (hl : lv_has ls 8 [(0, .ref (q 0)), (1, .int x1), (2, .int x2)]) : W p l e (mR 2 43) s m args below meth c H locs 0 0 (MQ below (mQ D cI cZ q rz uz) args s 0 0 (mF q)) (F0 m 0 ls []) := by
  obtain ⟨hx, hb, hr, hts, hown, hlocks, hml, hK⟩ := id C
  unfold fM_extend at h
  refine lv_aload_n hx hb dX9_extend_0 rfl (lv_at hl 0 rfl) ?_
  refine lv_iload_n hx hb dX9_extend_1 rfl (lv_at hl 1 rfl) ?_
  obtain ⟨r21, u20, eu20, h⟩ := mb2_spec h
  refine mg_callV (As := [.int x1]) (rest := []) ⟨hx, hb, hml, hown, hts⟩ (cM_isPerson l D cI cZ q eu20) (cwV 1 hts gX9_extend_X9_isPerson rfl rfl rfl (by decide +kernel) ⟨Nat.le_of_ble_eq_true rfl, Nat.le_of_ble_eq_true rfl⟩) hK hI rfl hl.1 rfl (Nat.le_of_ble_eq_true rfl) dX9_extend_2 ⟨Nat.le_refl _, Nat.le_refl _⟩ (fun H locs hI => ?_)
  refine lv_if_eq (tgt := 20) hx hb dX9_extend_5 (by decide) (fun c22 => ?_) (fun c22 => ?_)
  · replace h := mpos c22 h
    exact w_M_extend_20 C h hI (lv_sub hl [0, 1, 2] rfl)
  · replace h := mneg c22 h
    refine lv_aload_n hx hb dX9_extend_8 rfl (lv_at hl 0 rfl) ?_
    refine lv_iload_n hx hb dX9_extend_9 rfl (lv_at hl 2 rfl) ?_
    obtain ⟨r24, u23, eu23, h⟩ := mb2_spec h
    refine mg_callV (As := [.int x2]) (rest := []) ⟨hx, hb, hml, hown, hts⟩ (cM_isLand l D cI cZ q eu23) (cwV 1 hts gX9_extend_X9_isLand rfl rfl rfl (by decide +kernel) ⟨Nat.le_of_ble_eq_true rfl, Nat.le_of_ble_eq_true rfl⟩) hK hI rfl hl.1 rfl (Nat.le_of_ble_eq_true rfl) dX9_extend_10 ⟨Nat.le_refl _, Nat.le_refl _⟩ (fun H locs hI => ?_)
    refine lv_if_eq (tgt := 20) hx hb dX9_extend_13 (by decide) (fun c25 => ?_) (fun c25 => ?_)
    · replace h := mpos c25 h
      exact w_M_extend_20 C h hI (lv_sub hl [0, 1, 2] rfl)
    · replace h := mneg c25 h
      refine lv_iconst (v := 1) hx hb dX9_extend_16 (by decide) ?_
      refine lv_goto (tgt := 21) hx hb dX9_extend_17 (by decide) ?_
      exact w_M_extend_21 C h hI (lv_sub hl [0, 1, 2] rfl)
set_option maxRecDepth 20000 in
theorem cM_extend (l : Launch) (D : va_G) (cI cZ : ClassId) (q : Nat → Nat) {u uz : MS} {rz : Int32} {x1 x2 : Int32} (h : fM_extend u x1 x2 = some (rz, uz)) : Met l yX9_extend wsX9_extend (mR 2 43) (va_Pc [.ref (q 0), .int x1, .int x2] (mPre D cI cZ q u)) (mQ D cI cZ q rz uz) 0 0 (mF q) := by
  refine Met.ofW (cc := cX9_extend) (maxL := 8) (ret := (some .int)) (by decide) rfl ?_
  intro p e s m args below meth c s₁ B hml hv
  obtain ⟨rfl, hw, hK⟩ := hv
  have C : mC p s m _ meth c cX9_extend (some .int) wsX9_extend 8 D cI cZ := ⟨B.exec, B.bytes, B.returns, atoms_spec (ws := wsX9_extend) B.pre, findClass_of_methodNamed B.named, B.notSynchronized, hml, hK⟩
  have hl := lv_entry ([.ref (q 0), .int x1, .int x2]) (n := 8) (Nat.le_of_ble_eq_true rfl)
  rw [lg_entry_eq]
  generalize (lg_sl ([.ref (q 0), .int x1, .int x2]) ++ List.replicate (8 - (lg_sl ([.ref (q 0), .int x1, .int x2])).length) Slot.unset).toArray = ls at hl ⊢
  have hl : lv_has ls 8 [(0, .ref (q 0)), (1, .int x1), (2, .int x2)] := hl
  exact w_M_extend_0 C h ⟨hw, va_S.rf⟩ hl
theorem iM_oath : ∀ w ∈ wsX90, w ∈ wsX9_oath := by decide +kernel
def fM_oath_106 (u : MS) (x1 x2 y0 : Int32) : Option (Int32 × MS) :=
  mb2 (fM_goesWell u y0) fun r2 u1 =>
  if r2 = 0 then
    some (0, u1)
  else
    (mld u1 15 x1).bind fun r4 =>
    (mst u1 15 x1 (r4 ||| (1 <<< (x2 &&& 31)))).bind fun u5 =>
    (mld u5 15 x1).bind fun r6 =>
    some (r6, u5)
set_option maxRecDepth 20000 in
theorem w_M_oath_106 (C : mC p s m args meth c cX9_oath (some .int) wsX9_oath 5 D cI cZ) {uz : MS} {rz : Int32} {u : MS} {x1 x2 y0 : Int32} (h : fM_oath_106 u x1 x2 y0 = some (rz, uz)) {H : Heap} {locs : List Loc} {ls : Array Slot} (hI : mI D cI cZ q u s H locs) (hl : lv_has ls 5 [(0, .ref (q 0)), (1, .int x1), (2, .int x2)]) : W p l e (mR 2 43) s m args below meth c H locs 0 0 (MQ below (mQ D cI cZ q rz uz) args s 0 0 (mF q)) (F0 m 106 ls [.int y0, .ref (q 0)]) := by
  obtain ⟨hx, hb, hr, hts, hown, hlocks, hml, hK⟩ := id C
  unfold fM_oath_106 at h
  obtain ⟨r2, u1, eu1, h⟩ := mb2_spec h
  refine mg_callV (As := [.int y0]) (rest := []) ⟨hx, hb, hml, hown, hts⟩ (cM_goesWell l D cI cZ q eu1) (cwV 1 hts gX9_oath_X9_goesWell rfl rfl rfl (by decide +kernel) ⟨Nat.le_of_ble_eq_true rfl, Nat.le_of_ble_eq_true rfl⟩) hK hI rfl hl.1 rfl (Nat.le_of_ble_eq_true rfl) dX9_oath_106 ⟨Nat.le_refl _, Nat.le_refl _⟩ (fun H locs hI => ?_)
  refine lv_if_ne (tgt := 114) hx hb dX9_oath_109 (by decide) (fun c3 => ?_) (fun c3 => ?_)
  · replace h := mneg c3 h
    refine lv_aload_n hx hb dX9_oath_114 rfl (lv_at hl 0 rfl) ?_
    refine mg_get hx hb hts iM_oath hown hK hI 15 (by decide) (hts (.fieldLink RX9 45 "PassageCourtModel" "nations" "[I") (by decide +kernel)) rfl dX9_oath_115 ?_
    refine lv_iload_n hx hb dX9_oath_118 rfl (lv_at hl 1 rfl) ?_
    refine lv_dup2_11 hx hb dX9_oath_119 rfl rfl ?_
    obtain ⟨r4, er4, h⟩ := mbind h
    refine mg_ald hx hb hK hI 15 rfl (by decide) er4 dX9_oath_120 ?_
    refine lv_iconst (v := 1) hx hb dX9_oath_121 (by decide) ?_
    refine lv_iload_n hx hb dX9_oath_122 rfl (lv_at hl 2 rfl) ?_
    refine lv_ishl hx hb dX9_oath_123 ?_
    refine lv_ior hx hb dX9_oath_124 ?_
    obtain ⟨u5, eu5, h⟩ := mbind h
    refine mg_ast hx hb hK hI 15 rfl (by decide) eu5 dX9_oath_125 (fun H locs hI => ?_)
    refine lv_aload_n hx hb dX9_oath_126 rfl (lv_at hl 0 rfl) ?_
    refine mg_get hx hb hts iM_oath hown hK hI 15 (by decide) (hts (.fieldLink RX9 45 "PassageCourtModel" "nations" "[I") (by decide +kernel)) rfl dX9_oath_127 ?_
    refine lv_iload_n hx hb dX9_oath_130 rfl (lv_at hl 1 rfl) ?_
    obtain ⟨r6, er6, h⟩ := mbind h
    refine mg_ald hx hb hK hI 15 rfl (by decide) er6 dX9_oath_131 ?_
    cases h
    exact mg_reti hx hb hr hlocks hK hI dX9_oath_132
  · replace h := mpos c3 h
    refine lv_iconst (v := 0) hx hb dX9_oath_112 (by decide) ?_
    cases h
    exact mg_reti hx hb hr hlocks hK hI dX9_oath_113
def fM_oath_85 (u : MS) (x1 x2 x3 y0 : Int32) : Option (Int32 × MS) :=
  if x3 = 0 then
    fM_oath_106 u x1 x2 1
  else
    if y0 = 0 then
      fM_oath_106 u x1 x2 2
    else
      fM_oath_106 u x1 x2 0
set_option maxRecDepth 20000 in
theorem w_M_oath_85 (C : mC p s m args meth c cX9_oath (some .int) wsX9_oath 5 D cI cZ) {uz : MS} {rz : Int32} {u : MS} {x1 x2 x3 y0 : Int32} (h : fM_oath_85 u x1 x2 x3 y0 = some (rz, uz)) {H : Heap} {locs : List Loc} {ls : Array Slot} (hI : mI D cI cZ q u s H locs) (hl : lv_has ls 5 [(0, .ref (q 0)), (1, .int x1), (2, .int x2), (3, .int x3)]) : W p l e (mR 2 43) s m args below meth c H locs 0 0 (MQ below (mQ D cI cZ q rz uz) args s 0 0 (mF q)) (F0 m 85 ls [.int y0]) := by
  obtain ⟨hx, hb, hr, hts, hown, hlocks, hml, hK⟩ := id C
  unfold fM_oath_85 at h
  refine lv_istore (lv' := [(4, .int y0), (0, .ref (q 0)), (1, .int x1), (2, .int x2), (3, .int x3)]) hx hb dX9_oath_85 hl (by decide) rfl (fun ls hl => ?_)
  refine lv_aload_n hx hb dX9_oath_87 rfl (lv_at hl 1 rfl) ?_
  refine lv_iload_n hx hb dX9_oath_88 rfl (lv_at hl 4 rfl) ?_
  refine lv_if_ne (tgt := 96) hx hb dX9_oath_89 (by decide) (fun c7 => ?_) (fun c7 => ?_)
  · replace h := mneg c7 h
    refine lv_iload hx hb dX9_oath_96 (lv_at hl 0 rfl) ?_
    refine lv_if_eq (tgt := 105) hx hb dX9_oath_98 (by decide) (fun c8 => ?_) (fun c8 => ?_)
    · replace h := mpos c8 h
      refine lv_iconst (v := 2) hx hb dX9_oath_105 (by decide) ?_
      exact w_M_oath_106 C h hI (lv_sub hl [1, 2, 3] rfl)
    · replace h := mneg c8 h
      refine lv_iconst (v := 0) hx hb dX9_oath_101 (by decide) ?_
      refine lv_goto (tgt := 106) hx hb dX9_oath_102 (by decide) ?_
      exact w_M_oath_106 C h hI (lv_sub hl [1, 2, 3] rfl)
  · replace h := mpos c7 h
    refine lv_iconst (v := 1) hx hb dX9_oath_92 (by decide) ?_
    refine lv_goto (tgt := 106) hx hb dX9_oath_93 (by decide) ?_
    exact w_M_oath_106 C h hI (lv_sub hl [1, 2, 3] rfl)
def fM_oath_84 (u : MS) (x1 x2 x3 : Int32) : Option (Int32 × MS) :=
  fM_oath_85 u x1 x2 x3 0
set_option maxRecDepth 20000 in
theorem w_M_oath_84 (C : mC p s m args meth c cX9_oath (some .int) wsX9_oath 5 D cI cZ) {uz : MS} {rz : Int32} {u : MS} {x1 x2 x3 : Int32} (h : fM_oath_84 u x1 x2 x3 = some (rz, uz)) {H : Heap} {locs : List Loc} {ls : Array Slot} (hI : mI D cI cZ q u s H locs) (hl : lv_has ls 5 [(0, .ref (q 0)), (1, .int x1), (2, .int x2), (3, .int x3)]) : W p l e (mR 2 43) s m args below meth c H locs 0 0 (MQ below (mQ D cI cZ q rz uz) args s 0 0 (mF q)) (F0 m 84 ls []) := by
  obtain ⟨hx, hb, hr, hts, hown, hlocks, hml, hK⟩ := id C
  unfold fM_oath_84 at h
  refine lv_iconst (v := 0) hx hb dX9_oath_84 (by decide) ?_
  exact w_M_oath_85 C h hI (lv_sub hl [0, 1, 2, 3] rfl)
def fM_oath_21 (u : MS) (x1 x2 y0 : Int32) : Option (Int32 × MS) :=
  if y0 = 0 then
    fM_oath_84 u x1 x2 y0
  else
    (mld u 18 x1).bind fun r10 =>
    if r10 = x2 then
      (mld u 15 x1).bind fun r12 =>
      mb2 (fM_has u r12 x2) fun r14 u13 =>
      if r14 = 0 then
        mb2 (fM_hasPermit u13 x1 x2) fun r17 u16 =>
        if r17 = 0 then
          fM_oath_84 u16 x1 x2 y0
        else
          (mld u16 24 ((8 * x1) + x2)).bind fun r19 =>
          if ((u16 1 0) - 1080) < r19 then
            fM_oath_84 u16 x1 x2 y0
          else
            fM_oath_85 u16 x1 x2 y0 1
      else
        fM_oath_84 u13 x1 x2 y0
    else
      fM_oath_84 u x1 x2 y0
set_option maxRecDepth 20000 in
theorem w_M_oath_21 (C : mC p s m args meth c cX9_oath (some .int) wsX9_oath 5 D cI cZ) {uz : MS} {rz : Int32} {u : MS} {x1 x2 y0 : Int32} (h : fM_oath_21 u x1 x2 y0 = some (rz, uz)) {H : Heap} {locs : List Loc} {ls : Array Slot} (hI : mI D cI cZ q u s H locs) (hl : lv_has ls 5 [(0, .ref (q 0)), (1, .int x1), (2, .int x2)]) : W p l e (mR 2 43) s m args below meth c H locs 0 0 (MQ below (mQ D cI cZ q rz uz) args s 0 0 (mF q)) (F0 m 21 ls [.int y0]) := by
  obtain ⟨hx, hb, hr, hts, hown, hlocks, hml, hK⟩ := id C
  unfold fM_oath_21 at h
  refine lv_istore_n (lv' := [(3, .int y0), (0, .ref (q 0)), (1, .int x1), (2, .int x2)]) hx hb dX9_oath_21 rfl hl (by decide) rfl (fun ls hl => ?_)
  refine lv_iload_n hx hb dX9_oath_22 rfl (lv_at hl 0 rfl) ?_
  refine lv_if_eq (tgt := 84) hx hb dX9_oath_23 (by decide) (fun c9 => ?_) (fun c9 => ?_)
  · replace h := mpos c9 h
    exact w_M_oath_84 C h hI (lv_sub hl [1, 2, 3, 0] rfl)
  · replace h := mneg c9 h
    refine lv_aload_n hx hb dX9_oath_26 rfl (lv_at hl 1 rfl) ?_
    refine mg_get hx hb hts iM_oath hown hK hI 18 (by decide) (hts (.fieldLink RX9 54 "PassageCourtModel" "where" "[I") (by decide +kernel)) rfl dX9_oath_27 ?_
    refine lv_iload_n hx hb dX9_oath_30 rfl (lv_at hl 2 rfl) ?_
    obtain ⟨r10, er10, h⟩ := mbind h
    refine mg_ald hx hb hK hI 18 rfl (by decide) er10 dX9_oath_31 ?_
    refine lv_iload_n hx hb dX9_oath_32 rfl (lv_at hl 3 rfl) ?_
    refine lv_icmp_ne (tgt := 84) hx hb dX9_oath_33 (by decide) (fun c11 => ?_) (fun c11 => ?_)
    · replace h := mneg c11 h
      exact w_M_oath_84 C h hI (lv_sub hl [1, 2, 3, 0] rfl)
    · replace h := mpos c11 h
      refine lv_aload_n hx hb dX9_oath_36 rfl (lv_at hl 1 rfl) ?_
      refine mg_get hx hb hts iM_oath hown hK hI 15 (by decide) (hts (.fieldLink RX9 45 "PassageCourtModel" "nations" "[I") (by decide +kernel)) rfl dX9_oath_37 ?_
      refine lv_iload_n hx hb dX9_oath_40 rfl (lv_at hl 2 rfl) ?_
      obtain ⟨r12, er12, h⟩ := mbind h
      refine mg_ald hx hb hK hI 15 rfl (by decide) er12 dX9_oath_41 ?_
      refine lv_iload_n hx hb dX9_oath_42 rfl (lv_at hl 3 rfl) ?_
      obtain ⟨r14, u13, eu13, h⟩ := mb2_spec h
      refine mg_callS (As := [.int r12, .int x2]) (rest := []) ⟨hx, hb, hml, hown, hts⟩ (cM_has l D cI cZ q eu13) (va_cwS 2 hts gX9_oath_X9_has rfl rfl rfl (by decide +kernel) ⟨Nat.le_of_ble_eq_true rfl, Nat.le_of_ble_eq_true rfl⟩) hK hI rfl hl.1 rfl (Nat.le_of_ble_eq_true rfl) dX9_oath_43 ⟨Nat.le_refl _, Nat.le_refl _⟩ (fun H locs hI => ?_)
      refine lv_if_ne (tgt := 84) hx hb dX9_oath_46 (by decide) (fun c15 => ?_) (fun c15 => ?_)
      · replace h := mneg c15 h
        exact w_M_oath_84 C h hI (lv_sub hl [1, 2, 3, 0] rfl)
      · replace h := mpos c15 h
        refine lv_aload_n hx hb dX9_oath_49 rfl (lv_at hl 1 rfl) ?_
        refine lv_iload_n hx hb dX9_oath_50 rfl (lv_at hl 2 rfl) ?_
        refine lv_iload_n hx hb dX9_oath_51 rfl (lv_at hl 3 rfl) ?_
        obtain ⟨r17, u16, eu16, h⟩ := mb2_spec h
        refine mg_callV (As := [.int x1, .int x2]) (rest := []) ⟨hx, hb, hml, hown, hts⟩ (cM_hasPermit l D cI cZ q eu16) (cwV 2 hts gX9_oath_X9_hasPermit rfl rfl rfl (by decide +kernel) ⟨Nat.le_of_ble_eq_true rfl, Nat.le_of_ble_eq_true rfl⟩) hK hI rfl hl.1 rfl (Nat.le_of_ble_eq_true rfl) dX9_oath_52 ⟨Nat.le_refl _, Nat.le_refl _⟩ (fun H locs hI => ?_)
        refine lv_if_eq (tgt := 84) hx hb dX9_oath_55 (by decide) (fun c18 => ?_) (fun c18 => ?_)
        · replace h := mpos c18 h
          exact w_M_oath_84 C h hI (lv_sub hl [1, 2, 3, 0] rfl)
        · replace h := mneg c18 h
          refine lv_aload_n hx hb dX9_oath_58 rfl (lv_at hl 1 rfl) ?_
          refine mg_get hx hb hts iM_oath hown hK hI 24 (by decide) (hts (.fieldLink RX9 73 "PassageCourtModel" "permitSince" "[I") (by decide +kernel)) rfl dX9_oath_59 ?_
          refine lv_bipush (v := 8) hx hb dX9_oath_62 (by decide) ?_
          refine lv_iload_n hx hb dX9_oath_64 rfl (lv_at hl 2 rfl) ?_
          refine lv_imul hx hb dX9_oath_65 ?_
          refine lv_iload_n hx hb dX9_oath_66 rfl (lv_at hl 3 rfl) ?_
          refine lv_iadd hx hb dX9_oath_67 ?_
          obtain ⟨r19, er19, h⟩ := mbind h
          refine mg_ald hx hb hK hI 24 rfl (by decide) er19 dX9_oath_68 ?_
          refine lv_aload_n hx hb dX9_oath_69 rfl (lv_at hl 1 rfl) ?_
          refine mg_get hx hb hts iM_oath hown hK hI 1 (by decide) (hts (.fieldLink RX9 153 "PassageCourtModel" "today" "I") (by decide +kernel)) rfl dX9_oath_70 ?_
          refine lv_sipush (v := 1080) hx hb dX9_oath_73 (by decide) ?_
          refine lv_isub hx hb dX9_oath_76 ?_
          refine lv_icmp_gt (tgt := 84) hx hb dX9_oath_77 (by decide) (fun c20 => ?_) (fun c20 => ?_)
          · replace h := mpos c20 h
            exact w_M_oath_84 C h hI (lv_sub hl [1, 2, 3, 0] rfl)
          · replace h := mneg c20 h
            refine lv_iconst (v := 1) hx hb dX9_oath_80 (by decide) ?_
            refine lv_goto (tgt := 85) hx hb dX9_oath_81 (by decide) ?_
            exact w_M_oath_85 C h hI (lv_sub hl [1, 2, 3, 0] rfl)
def fM_oath_20 (u : MS) (x1 x2 : Int32) : Option (Int32 × MS) :=
  fM_oath_21 u x1 x2 0
set_option maxRecDepth 20000 in
theorem w_M_oath_20 (C : mC p s m args meth c cX9_oath (some .int) wsX9_oath 5 D cI cZ) {uz : MS} {rz : Int32} {u : MS} {x1 x2 : Int32} (h : fM_oath_20 u x1 x2 = some (rz, uz)) {H : Heap} {locs : List Loc} {ls : Array Slot} (hI : mI D cI cZ q u s H locs) (hl : lv_has ls 5 [(0, .ref (q 0)), (1, .int x1), (2, .int x2)]) : W p l e (mR 2 43) s m args below meth c H locs 0 0 (MQ below (mQ D cI cZ q rz uz) args s 0 0 (mF q)) (F0 m 20 ls []) := by
  obtain ⟨hx, hb, hr, hts, hown, hlocks, hml, hK⟩ := id C
  unfold fM_oath_20 at h
  refine lv_iconst (v := 0) hx hb dX9_oath_20 (by decide) ?_
  exact w_M_oath_21 C h hI (lv_sub hl [0, 1, 2] rfl)
def fM_oath (u : MS) (x1 x2 : Int32) : Option (Int32 × MS) :=
  mb2 (fM_isPerson u x1) fun r22 u21 =>
  if r22 = 0 then
    fM_oath_20 u21 x1 x2
  else
    mb2 (fM_isLand u21 x2) fun r25 u24 =>
    if r25 = 0 then
      fM_oath_20 u24 x1 x2
    else
      fM_oath_21 u24 x1 x2 1
set_option maxRecDepth 20000 in
theorem w_M_oath_0 (C : mC p s m args meth c cX9_oath (some .int) wsX9_oath 5 D cI cZ) {uz : MS} {rz : Int32} {u : MS} {x1 x2 : Int32} (h : fM_oath u x1 x2 = some (rz, uz)) {H : Heap} {locs : List Loc} {ls : Array Slot} (hI : mI D cI cZ q u s H locs) (hl : lv_has ls 5 [(0, .ref (q 0)), (1, .int x1), (2, .int x2)]) : W p l e (mR 2 43) s m args below meth c H locs 0 0 (MQ below (mQ D cI cZ q rz uz) args s 0 0 (mF q)) (F0 m 0 ls []) := by
  obtain ⟨hx, hb, hr, hts, hown, hlocks, hml, hK⟩ := id C
  unfold fM_oath at h
  refine lv_aload_n hx hb dX9_oath_0 rfl (lv_at hl 0 rfl) ?_
  refine lv_iload_n hx hb dX9_oath_1 rfl (lv_at hl 1 rfl) ?_
  obtain ⟨r22, u21, eu21, h⟩ := mb2_spec h
  refine mg_callV (As := [.int x1]) (rest := []) ⟨hx, hb, hml, hown, hts⟩ (cM_isPerson l D cI cZ q eu21) (cwV 1 hts gX9_oath_X9_isPerson rfl rfl rfl (by decide +kernel) ⟨Nat.le_of_ble_eq_true rfl, Nat.le_of_ble_eq_true rfl⟩) hK hI rfl hl.1 rfl (Nat.le_of_ble_eq_true rfl) dX9_oath_2 ⟨Nat.le_refl _, Nat.le_refl _⟩ (fun H locs hI => ?_)
  refine lv_if_eq (tgt := 20) hx hb dX9_oath_5 (by decide) (fun c23 => ?_) (fun c23 => ?_)
  · replace h := mpos c23 h
    exact w_M_oath_20 C h hI (lv_sub hl [0, 1, 2] rfl)
  · replace h := mneg c23 h
    refine lv_aload_n hx hb dX9_oath_8 rfl (lv_at hl 0 rfl) ?_
    refine lv_iload_n hx hb dX9_oath_9 rfl (lv_at hl 2 rfl) ?_
    obtain ⟨r25, u24, eu24, h⟩ := mb2_spec h
    refine mg_callV (As := [.int x2]) (rest := []) ⟨hx, hb, hml, hown, hts⟩ (cM_isLand l D cI cZ q eu24) (cwV 1 hts gX9_oath_X9_isLand rfl rfl rfl (by decide +kernel) ⟨Nat.le_of_ble_eq_true rfl, Nat.le_of_ble_eq_true rfl⟩) hK hI rfl hl.1 rfl (Nat.le_of_ble_eq_true rfl) dX9_oath_10 ⟨Nat.le_refl _, Nat.le_refl _⟩ (fun H locs hI => ?_)
    refine lv_if_eq (tgt := 20) hx hb dX9_oath_13 (by decide) (fun c26 => ?_) (fun c26 => ?_)
    · replace h := mpos c26 h
      exact w_M_oath_20 C h hI (lv_sub hl [0, 1, 2] rfl)
    · replace h := mneg c26 h
      refine lv_iconst (v := 1) hx hb dX9_oath_16 (by decide) ?_
      refine lv_goto (tgt := 21) hx hb dX9_oath_17 (by decide) ?_
      exact w_M_oath_21 C h hI (lv_sub hl [0, 1, 2] rfl)
set_option maxRecDepth 20000 in
theorem cM_oath (l : Launch) (D : va_G) (cI cZ : ClassId) (q : Nat → Nat) {u uz : MS} {rz : Int32} {x1 x2 : Int32} (h : fM_oath u x1 x2 = some (rz, uz)) : Met l yX9_oath wsX9_oath (mR 2 43) (va_Pc [.ref (q 0), .int x1, .int x2] (mPre D cI cZ q u)) (mQ D cI cZ q rz uz) 0 0 (mF q) := by
  refine Met.ofW (cc := cX9_oath) (maxL := 5) (ret := (some .int)) (by decide) rfl ?_
  intro p e s m args below meth c s₁ B hml hv
  obtain ⟨rfl, hw, hK⟩ := hv
  have C : mC p s m _ meth c cX9_oath (some .int) wsX9_oath 5 D cI cZ := ⟨B.exec, B.bytes, B.returns, atoms_spec (ws := wsX9_oath) B.pre, findClass_of_methodNamed B.named, B.notSynchronized, hml, hK⟩
  have hl := lv_entry ([.ref (q 0), .int x1, .int x2]) (n := 5) (Nat.le_of_ble_eq_true rfl)
  rw [lg_entry_eq]
  generalize (lg_sl ([.ref (q 0), .int x1, .int x2]) ++ List.replicate (5 - (lg_sl ([.ref (q 0), .int x1, .int x2])).length) Slot.unset).toArray = ls at hl ⊢
  have hl : lv_has ls 5 [(0, .ref (q 0)), (1, .int x1), (2, .int x2)] := hl
  exact w_M_oath_0 C h ⟨hw, va_S.rf⟩ hl
theorem iM_permitFor : ∀ w ∈ wsX90, w ∈ wsX9_permitFor := by decide +kernel
def fM_permitFor_78 (u : MS) (y0 y1 : Int32) : Option MS :=
  (mst u 23 y1 y0).bind fun u1 =>
  some u1
set_option maxRecDepth 20000 in
theorem w_M_permitFor_78 (C : mC p s m args meth c cX9_permitFor none wsX9_permitFor 4 D cI cZ) {uz : MS} {u : MS} {y0 y1 : Int32} (h : fM_permitFor_78 u y0 y1 = some uz) {H : Heap} {locs : List Loc} {ls : Array Slot} (hI : mI D cI cZ q u s H locs) (hl : lv_has ls 4 [(0, .ref (q 0))]) : W p l e (mR 1 22) s m args below meth c H locs 0 0 (MQ below (mQv D cI cZ q uz) args s 0 0 (mF q)) (F0 m 78 ls [.int y0, .int y1, .ref (q 23)]) := by
  obtain ⟨hx, hb, hr, hts, hown, hlocks, hml, hK⟩ := id C
  unfold fM_permitFor_78 at h
  obtain ⟨u1, eu1, h⟩ := mbind h
  refine mg_ast hx hb hK hI 23 rfl (by decide) eu1 dX9_permitFor_78 (fun H locs hI => ?_)
  cases h
  exact mg_retv hx hb hr hlocks hK hI dX9_permitFor_79
def fM_permitFor_34 (u : MS) (x3 y0 y1 : Int32) : Option MS :=
  (mst u 24 y1 y0).bind fun u2 =>
  (mld u2 23 x3).bind fun r3 =>
  if r3 ≤ (((u2 1 0) + 360) - 1) then
    fM_permitFor_78 u2 (((u2 1 0) + 360) - 1) x3
  else
    (mld u2 23 x3).bind fun r5 =>
    fM_permitFor_78 u2 r5 x3
set_option maxRecDepth 20000 in
theorem w_M_permitFor_34 (C : mC p s m args meth c cX9_permitFor none wsX9_permitFor 4 D cI cZ) {uz : MS} {u : MS} {x3 y0 y1 : Int32} (h : fM_permitFor_34 u x3 y0 y1 = some uz) {H : Heap} {locs : List Loc} {ls : Array Slot} (hI : mI D cI cZ q u s H locs) (hl : lv_has ls 4 [(0, .ref (q 0)), (3, .int x3)]) : W p l e (mR 1 22) s m args below meth c H locs 0 0 (MQ below (mQv D cI cZ q uz) args s 0 0 (mF q)) (F0 m 34 ls [.int y0, .int y1, .ref (q 24)]) := by
  obtain ⟨hx, hb, hr, hts, hown, hlocks, hml, hK⟩ := id C
  unfold fM_permitFor_34 at h
  obtain ⟨u2, eu2, h⟩ := mbind h
  refine mg_ast hx hb hK hI 24 rfl (by decide) eu2 dX9_permitFor_34 (fun H locs hI => ?_)
  refine lv_aload_n hx hb dX9_permitFor_35 rfl (lv_at hl 0 rfl) ?_
  refine mg_get hx hb hts iM_permitFor hown hK hI 23 (by decide) (hts (.fieldLink RX9 70 "PassageCourtModel" "permitTo" "[I") (by decide +kernel)) rfl dX9_permitFor_36 ?_
  refine lv_iload_n hx hb dX9_permitFor_39 rfl (lv_at hl 1 rfl) ?_
  refine lv_aload_n hx hb dX9_permitFor_40 rfl (lv_at hl 0 rfl) ?_
  refine mg_get hx hb hts iM_permitFor hown hK hI 23 (by decide) (hts (.fieldLink RX9 70 "PassageCourtModel" "permitTo" "[I") (by decide +kernel)) rfl dX9_permitFor_41 ?_
  refine lv_iload_n hx hb dX9_permitFor_44 rfl (lv_at hl 1 rfl) ?_
  obtain ⟨r3, er3, h⟩ := mbind h
  refine mg_ald hx hb hK hI 23 rfl (by decide) er3 dX9_permitFor_45 ?_
  refine lv_aload_n hx hb dX9_permitFor_46 rfl (lv_at hl 0 rfl) ?_
  refine mg_get hx hb hts iM_permitFor hown hK hI 1 (by decide) (hts (.fieldLink RX9 153 "PassageCourtModel" "today" "I") (by decide +kernel)) rfl dX9_permitFor_47 ?_
  refine lv_sipush (v := 360) hx hb dX9_permitFor_50 (by decide) ?_
  refine lv_iadd hx hb dX9_permitFor_53 ?_
  refine lv_iconst (v := 1) hx hb dX9_permitFor_54 (by decide) ?_
  refine lv_isub hx hb dX9_permitFor_55 ?_
  refine lv_icmp_le (tgt := 68) hx hb dX9_permitFor_56 (by decide) (fun c4 => ?_) (fun c4 => ?_)
  · replace h := mpos c4 h
    refine lv_aload_n hx hb dX9_permitFor_68 rfl (lv_at hl 0 rfl) ?_
    refine mg_get hx hb hts iM_permitFor hown hK hI 1 (by decide) (hts (.fieldLink RX9 153 "PassageCourtModel" "today" "I") (by decide +kernel)) rfl dX9_permitFor_69 ?_
    refine lv_sipush (v := 360) hx hb dX9_permitFor_72 (by decide) ?_
    refine lv_iadd hx hb dX9_permitFor_75 ?_
    refine lv_iconst (v := 1) hx hb dX9_permitFor_76 (by decide) ?_
    refine lv_isub hx hb dX9_permitFor_77 ?_
    exact w_M_permitFor_78 C h hI (lv_sub hl [0] rfl)
  · replace h := mneg c4 h
    refine lv_aload_n hx hb dX9_permitFor_59 rfl (lv_at hl 0 rfl) ?_
    refine mg_get hx hb hts iM_permitFor hown hK hI 23 (by decide) (hts (.fieldLink RX9 70 "PassageCourtModel" "permitTo" "[I") (by decide +kernel)) rfl dX9_permitFor_60 ?_
    refine lv_iload_n hx hb dX9_permitFor_63 rfl (lv_at hl 1 rfl) ?_
    obtain ⟨r5, er5, h⟩ := mbind h
    refine mg_ald hx hb hK hI 23 rfl (by decide) er5 dX9_permitFor_64 ?_
    refine lv_goto (tgt := 78) hx hb dX9_permitFor_65 (by decide) ?_
    exact w_M_permitFor_78 C h hI (lv_sub hl [0] rfl)
def fM_permitFor (u : MS) (x1 x2 : Int32) : Option MS :=
  mb2 (fM_hasPermit u x1 x2) fun r7 u6 =>
  if r7 = 0 then
    fM_permitFor_34 u6 ((8 * x1) + x2) (u6 1 0) ((8 * x1) + x2)
  else
    (mld u6 24 ((8 * x1) + x2)).bind fun r9 =>
    fM_permitFor_34 u6 ((8 * x1) + x2) r9 ((8 * x1) + x2)
set_option maxRecDepth 20000 in
theorem w_M_permitFor_0 (C : mC p s m args meth c cX9_permitFor none wsX9_permitFor 4 D cI cZ) {uz : MS} {u : MS} {x1 x2 : Int32} (h : fM_permitFor u x1 x2 = some uz) {H : Heap} {locs : List Loc} {ls : Array Slot} (hI : mI D cI cZ q u s H locs) (hl : lv_has ls 4 [(0, .ref (q 0)), (1, .int x1), (2, .int x2)]) : W p l e (mR 1 22) s m args below meth c H locs 0 0 (MQ below (mQv D cI cZ q uz) args s 0 0 (mF q)) (F0 m 0 ls []) := by
  obtain ⟨hx, hb, hr, hts, hown, hlocks, hml, hK⟩ := id C
  unfold fM_permitFor at h
  refine lv_bipush (v := 8) hx hb dX9_permitFor_0 (by decide) ?_
  refine lv_iload_n hx hb dX9_permitFor_2 rfl (lv_at hl 1 rfl) ?_
  refine lv_imul hx hb dX9_permitFor_3 ?_
  refine lv_iload_n hx hb dX9_permitFor_4 rfl (lv_at hl 2 rfl) ?_
  refine lv_iadd hx hb dX9_permitFor_5 ?_
  refine lv_istore_n (lv' := [(3, .int ((8 * x1) + x2)), (0, .ref (q 0)), (1, .int x1), (2, .int x2)]) hx hb dX9_permitFor_6 rfl hl (by decide) rfl (fun ls hl => ?_)
  refine lv_aload_n hx hb dX9_permitFor_7 rfl (lv_at hl 1 rfl) ?_
  refine mg_get hx hb hts iM_permitFor hown hK hI 24 (by decide) (hts (.fieldLink RX9 73 "PassageCourtModel" "permitSince" "[I") (by decide +kernel)) rfl dX9_permitFor_8 ?_
  refine lv_iload_n hx hb dX9_permitFor_11 rfl (lv_at hl 0 rfl) ?_
  refine lv_aload_n hx hb dX9_permitFor_12 rfl (lv_at hl 1 rfl) ?_
  refine lv_iload_n hx hb dX9_permitFor_13 rfl (lv_at hl 2 rfl) ?_
  refine lv_iload_n hx hb dX9_permitFor_14 rfl (lv_at hl 3 rfl) ?_
  obtain ⟨r7, u6, eu6, h⟩ := mb2_spec h
  refine mg_callV (As := [.int x1, .int x2]) (rest := [.int ((8 * x1) + x2), .ref (q 24)]) ⟨hx, hb, hml, hown, hts⟩ (cM_hasPermit l D cI cZ q eu6) (cwV 2 hts gX9_permitFor_X9_hasPermit rfl rfl rfl (by decide +kernel) ⟨Nat.le_of_ble_eq_true rfl, Nat.le_of_ble_eq_true rfl⟩) hK hI rfl hl.1 rfl (Nat.le_of_ble_eq_true rfl) dX9_permitFor_15 ⟨Nat.le_refl _, Nat.le_refl _⟩ (fun H locs hI => ?_)
  refine lv_if_eq (tgt := 30) hx hb dX9_permitFor_18 (by decide) (fun c8 => ?_) (fun c8 => ?_)
  · replace h := mpos c8 h
    refine lv_aload_n hx hb dX9_permitFor_30 rfl (lv_at hl 1 rfl) ?_
    refine mg_get hx hb hts iM_permitFor hown hK hI 1 (by decide) (hts (.fieldLink RX9 153 "PassageCourtModel" "today" "I") (by decide +kernel)) rfl dX9_permitFor_31 ?_
    exact w_M_permitFor_34 C h hI (lv_sub hl [1, 0] rfl)
  · replace h := mneg c8 h
    refine lv_aload_n hx hb dX9_permitFor_21 rfl (lv_at hl 1 rfl) ?_
    refine mg_get hx hb hts iM_permitFor hown hK hI 24 (by decide) (hts (.fieldLink RX9 73 "PassageCourtModel" "permitSince" "[I") (by decide +kernel)) rfl dX9_permitFor_22 ?_
    refine lv_iload_n hx hb dX9_permitFor_25 rfl (lv_at hl 0 rfl) ?_
    obtain ⟨r9, er9, h⟩ := mbind h
    refine mg_ald hx hb hK hI 24 rfl (by decide) er9 dX9_permitFor_26 ?_
    refine lv_goto (tgt := 34) hx hb dX9_permitFor_27 (by decide) ?_
    exact w_M_permitFor_34 C h hI (lv_sub hl [1, 0] rfl)
set_option maxRecDepth 20000 in
theorem cM_permitFor (l : Launch) (D : va_G) (cI cZ : ClassId) (q : Nat → Nat) {u uz : MS} {x1 x2 : Int32} (h : fM_permitFor u x1 x2 = some uz) : Met l yX9_permitFor wsX9_permitFor (mR 1 22) (va_Pc [.ref (q 0), .int x1, .int x2] (mPre D cI cZ q u)) (mQv D cI cZ q uz) 0 0 (mF q) := by
  refine Met.ofW (cc := cX9_permitFor) (maxL := 4) (ret := none) (by decide) rfl ?_
  intro p e s m args below meth c s₁ B hml hv
  obtain ⟨rfl, hw, hK⟩ := hv
  have C : mC p s m _ meth c cX9_permitFor none wsX9_permitFor 4 D cI cZ := ⟨B.exec, B.bytes, B.returns, atoms_spec (ws := wsX9_permitFor) B.pre, findClass_of_methodNamed B.named, B.notSynchronized, hml, hK⟩
  have hl := lv_entry ([.ref (q 0), .int x1, .int x2]) (n := 4) (Nat.le_of_ble_eq_true rfl)
  rw [lg_entry_eq]
  generalize (lg_sl ([.ref (q 0), .int x1, .int x2]) ++ List.replicate (4 - (lg_sl ([.ref (q 0), .int x1, .int x2])).length) Slot.unset).toArray = ls at hl ⊢
  have hl : lv_has ls 4 [(0, .ref (q 0)), (1, .int x1), (2, .int x2)] := hl
  exact w_M_permitFor_0 C h ⟨hw, va_S.rf⟩ hl
theorem iM_placeOf : ∀ w ∈ wsX90, w ∈ wsX9_placeOf := by decide +kernel
def fM_placeOf_109 (rec4 : MS → Int32 → Int32 → Int32 → Option (Int32 × MS)) (u : MS) (x1 x3 y0 y1 : Int32) : Option (Int32 × MS) :=
  rec4 u x1 (y1 + y0) (x3 + 1)
set_option maxRecDepth 20000 in
theorem w_M_placeOf_109 (C : mC p s m args meth c cX9_placeOf (some .int) wsX9_placeOf 5 D cI cZ) {uz : MS} {rz : Int32} {rec4 : MS → Int32 → Int32 → Int32 → Option (Int32 × MS)} (hrec4 : ∀ {u : MS} {x1 x2 x3 : Int32} (_ : rec4 u x1 x2 x3 = some (rz, uz)) {H : Heap} {locs : List Loc} {ls : Array Slot} (_ : mI D cI cZ q u s H locs) (_ : lv_has ls 5 [(0, .ref (q 0)), (1, .int x1), (2, .int x2), (3, .int x3)]), W p l e (mR 0 0) s m args below meth c H locs 0 0 (MQ below (mQ D cI cZ q rz uz) args s 0 0 (mF q)) (F0 m 4 ls [])) {u : MS} {x1 x3 y0 y1 : Int32} (h : fM_placeOf_109 rec4 u x1 x3 y0 y1 = some (rz, uz)) {H : Heap} {locs : List Loc} {ls : Array Slot} (hI : mI D cI cZ q u s H locs) (hl : lv_has ls 5 [(0, .ref (q 0)), (1, .int x1), (3, .int x3)]) : W p l e (mR 0 0) s m args below meth c H locs 0 0 (MQ below (mQ D cI cZ q rz uz) args s 0 0 (mF q)) (F0 m 109 ls [.int y0, .int y1]) := by
  obtain ⟨hx, hb, hr, hts, hown, hlocks, hml, hK⟩ := id C
  unfold fM_placeOf_109 at h
  refine lv_iadd hx hb dX9_placeOf_109 ?_
  refine lv_istore_n (lv' := [(2, .int (y1 + y0)), (0, .ref (q 0)), (1, .int x1), (3, .int x3)]) hx hb dX9_placeOf_110 rfl hl (by decide) rfl (fun ls hl => ?_)
  refine lv_iinc (v := x3 + 1) (lv' := [(3, .int (x3 + 1)), (2, .int (y1 + y0)), (0, .ref (q 0)), (1, .int x1)]) hx hb dX9_placeOf_111 hl (k := 3) rfl rfl (by decide) rfl (fun ls hl => ?_)
  refine lv_goto (tgt := 4) hx hb dX9_placeOf_114 (by decide) ?_
  exact hrec4 h hI (lv_sub hl [2, 3, 1, 0] rfl)
def fM_placeOf_108 (rec4 : MS → Int32 → Int32 → Int32 → Option (Int32 × MS)) (u : MS) (x1 x3 y0 : Int32) : Option (Int32 × MS) :=
  fM_placeOf_109 rec4 u x1 x3 0 y0
set_option maxRecDepth 20000 in
theorem w_M_placeOf_108 (C : mC p s m args meth c cX9_placeOf (some .int) wsX9_placeOf 5 D cI cZ) {uz : MS} {rz : Int32} {rec4 : MS → Int32 → Int32 → Int32 → Option (Int32 × MS)} (hrec4 : ∀ {u : MS} {x1 x2 x3 : Int32} (_ : rec4 u x1 x2 x3 = some (rz, uz)) {H : Heap} {locs : List Loc} {ls : Array Slot} (_ : mI D cI cZ q u s H locs) (_ : lv_has ls 5 [(0, .ref (q 0)), (1, .int x1), (2, .int x2), (3, .int x3)]), W p l e (mR 0 0) s m args below meth c H locs 0 0 (MQ below (mQ D cI cZ q rz uz) args s 0 0 (mF q)) (F0 m 4 ls [])) {u : MS} {x1 x3 y0 : Int32} (h : fM_placeOf_108 rec4 u x1 x3 y0 = some (rz, uz)) {H : Heap} {locs : List Loc} {ls : Array Slot} (hI : mI D cI cZ q u s H locs) (hl : lv_has ls 5 [(0, .ref (q 0)), (1, .int x1), (3, .int x3)]) : W p l e (mR 0 0) s m args below meth c H locs 0 0 (MQ below (mQ D cI cZ q rz uz) args s 0 0 (mF q)) (F0 m 108 ls [.int y0]) := by
  obtain ⟨hx, hb, hr, hts, hown, hlocks, hml, hK⟩ := id C
  unfold fM_placeOf_108 at h
  refine lv_iconst (v := 0) hx hb dX9_placeOf_108 (by decide) ?_
  exact w_M_placeOf_109 C hrec4 h hI (lv_sub hl [0, 1, 2] rfl)
def fM_placeOf_104 (rec4 : MS → Int32 → Int32 → Int32 → Option (Int32 × MS)) (u : MS) (x1 x3 y0 : Int32) : Option (Int32 × MS) :=
  fM_placeOf_109 rec4 u x1 x3 1 y0
set_option maxRecDepth 20000 in
theorem w_M_placeOf_104 (C : mC p s m args meth c cX9_placeOf (some .int) wsX9_placeOf 5 D cI cZ) {uz : MS} {rz : Int32} {rec4 : MS → Int32 → Int32 → Int32 → Option (Int32 × MS)} (hrec4 : ∀ {u : MS} {x1 x2 x3 : Int32} (_ : rec4 u x1 x2 x3 = some (rz, uz)) {H : Heap} {locs : List Loc} {ls : Array Slot} (_ : mI D cI cZ q u s H locs) (_ : lv_has ls 5 [(0, .ref (q 0)), (1, .int x1), (2, .int x2), (3, .int x3)]), W p l e (mR 0 0) s m args below meth c H locs 0 0 (MQ below (mQ D cI cZ q rz uz) args s 0 0 (mF q)) (F0 m 4 ls [])) {u : MS} {x1 x3 y0 : Int32} (h : fM_placeOf_104 rec4 u x1 x3 y0 = some (rz, uz)) {H : Heap} {locs : List Loc} {ls : Array Slot} (hI : mI D cI cZ q u s H locs) (hl : lv_has ls 5 [(0, .ref (q 0)), (1, .int x1), (3, .int x3)]) : W p l e (mR 0 0) s m args below meth c H locs 0 0 (MQ below (mQ D cI cZ q rz uz) args s 0 0 (mF q)) (F0 m 104 ls [.int y0]) := by
  obtain ⟨hx, hb, hr, hts, hown, hlocks, hml, hK⟩ := id C
  unfold fM_placeOf_104 at h
  refine lv_iconst (v := 1) hx hb dX9_placeOf_104 (by decide) ?_
  refine lv_goto (tgt := 109) hx hb dX9_placeOf_105 (by decide) ?_
  exact w_M_placeOf_109 C hrec4 h hI (lv_sub hl [0, 1, 2] rfl)
def fM_placeOf_61 (rec4 : MS → Int32 → Int32 → Int32 → Option (Int32 × MS)) (u : MS) (x1 x2 x3 y0 : Int32) : Option (Int32 × MS) :=
  if y0 = 0 then
    fM_placeOf_108 rec4 u x1 x3 x2
  else
    (mld u 40 x3).bind fun r2 =>
    (mld u 40 x1).bind fun r3 =>
    if r2 < r3 then
      fM_placeOf_104 rec4 u x1 x3 x2
    else
      (mld u 40 x3).bind fun r5 =>
      (mld u 40 x1).bind fun r6 =>
      if r5 = r6 then
        if x1 ≤ x3 then
          fM_placeOf_108 rec4 u x1 x3 x2
        else
          fM_placeOf_104 rec4 u x1 x3 x2
      else
        fM_placeOf_108 rec4 u x1 x3 x2
set_option maxRecDepth 20000 in
theorem w_M_placeOf_61 (C : mC p s m args meth c cX9_placeOf (some .int) wsX9_placeOf 5 D cI cZ) {uz : MS} {rz : Int32} {rec4 : MS → Int32 → Int32 → Int32 → Option (Int32 × MS)} (hrec4 : ∀ {u : MS} {x1 x2 x3 : Int32} (_ : rec4 u x1 x2 x3 = some (rz, uz)) {H : Heap} {locs : List Loc} {ls : Array Slot} (_ : mI D cI cZ q u s H locs) (_ : lv_has ls 5 [(0, .ref (q 0)), (1, .int x1), (2, .int x2), (3, .int x3)]), W p l e (mR 0 0) s m args below meth c H locs 0 0 (MQ below (mQ D cI cZ q rz uz) args s 0 0 (mF q)) (F0 m 4 ls [])) {u : MS} {x1 x2 x3 y0 : Int32} (h : fM_placeOf_61 rec4 u x1 x2 x3 y0 = some (rz, uz)) {H : Heap} {locs : List Loc} {ls : Array Slot} (hI : mI D cI cZ q u s H locs) (hl : lv_has ls 5 [(0, .ref (q 0)), (1, .int x1), (2, .int x2), (3, .int x3)]) : W p l e (mR 0 0) s m args below meth c H locs 0 0 (MQ below (mQ D cI cZ q rz uz) args s 0 0 (mF q)) (F0 m 61 ls [.int y0]) := by
  obtain ⟨hx, hb, hr, hts, hown, hlocks, hml, hK⟩ := id C
  unfold fM_placeOf_61 at h
  refine lv_istore (lv' := [(4, .int y0), (0, .ref (q 0)), (1, .int x1), (2, .int x2), (3, .int x3)]) hx hb dX9_placeOf_61 hl (by decide) rfl (fun ls hl => ?_)
  refine lv_iload_n hx hb dX9_placeOf_63 rfl (lv_at hl 3 rfl) ?_
  refine lv_iload hx hb dX9_placeOf_64 (lv_at hl 0 rfl) ?_
  refine lv_if_eq (tgt := 108) hx hb dX9_placeOf_66 (by decide) (fun c1 => ?_) (fun c1 => ?_)
  · replace h := mpos c1 h
    exact w_M_placeOf_108 C hrec4 h hI (lv_sub hl [1, 2, 4] rfl)
  · replace h := mneg c1 h
    refine lv_aload_n hx hb dX9_placeOf_69 rfl (lv_at hl 1 rfl) ?_
    refine mg_get hx hb hts iM_placeOf hown hK hI 40 (by decide) (hts (.fieldLink RX9 115 "PassageCourtModel" "date" "[I") (by decide +kernel)) rfl dX9_placeOf_70 ?_
    refine lv_iload_n hx hb dX9_placeOf_73 rfl (lv_at hl 4 rfl) ?_
    obtain ⟨r2, er2, h⟩ := mbind h
    refine mg_ald hx hb hK hI 40 rfl (by decide) er2 dX9_placeOf_74 ?_
    refine lv_aload_n hx hb dX9_placeOf_75 rfl (lv_at hl 1 rfl) ?_
    refine mg_get hx hb hts iM_placeOf hown hK hI 40 (by decide) (hts (.fieldLink RX9 115 "PassageCourtModel" "date" "[I") (by decide +kernel)) rfl dX9_placeOf_76 ?_
    refine lv_iload_n hx hb dX9_placeOf_79 rfl (lv_at hl 2 rfl) ?_
    obtain ⟨r3, er3, h⟩ := mbind h
    refine mg_ald hx hb hK hI 40 rfl (by decide) er3 dX9_placeOf_80 ?_
    refine lv_icmp_lt (tgt := 104) hx hb dX9_placeOf_81 (by decide) (fun c4 => ?_) (fun c4 => ?_)
    · replace h := mpos c4 h
      exact w_M_placeOf_104 C hrec4 h hI (lv_sub hl [1, 2, 4] rfl)
    · replace h := mneg c4 h
      refine lv_aload_n hx hb dX9_placeOf_84 rfl (lv_at hl 1 rfl) ?_
      refine mg_get hx hb hts iM_placeOf hown hK hI 40 (by decide) (hts (.fieldLink RX9 115 "PassageCourtModel" "date" "[I") (by decide +kernel)) rfl dX9_placeOf_85 ?_
      refine lv_iload_n hx hb dX9_placeOf_88 rfl (lv_at hl 4 rfl) ?_
      obtain ⟨r5, er5, h⟩ := mbind h
      refine mg_ald hx hb hK hI 40 rfl (by decide) er5 dX9_placeOf_89 ?_
      refine lv_aload_n hx hb dX9_placeOf_90 rfl (lv_at hl 1 rfl) ?_
      refine mg_get hx hb hts iM_placeOf hown hK hI 40 (by decide) (hts (.fieldLink RX9 115 "PassageCourtModel" "date" "[I") (by decide +kernel)) rfl dX9_placeOf_91 ?_
      refine lv_iload_n hx hb dX9_placeOf_94 rfl (lv_at hl 2 rfl) ?_
      obtain ⟨r6, er6, h⟩ := mbind h
      refine mg_ald hx hb hK hI 40 rfl (by decide) er6 dX9_placeOf_95 ?_
      refine lv_icmp_ne (tgt := 108) hx hb dX9_placeOf_96 (by decide) (fun c7 => ?_) (fun c7 => ?_)
      · replace h := mneg c7 h
        exact w_M_placeOf_108 C hrec4 h hI (lv_sub hl [1, 2, 4] rfl)
      · replace h := mpos c7 h
        refine lv_iload_n hx hb dX9_placeOf_99 rfl (lv_at hl 4 rfl) ?_
        refine lv_iload_n hx hb dX9_placeOf_100 rfl (lv_at hl 2 rfl) ?_
        refine lv_icmp_ge (tgt := 108) hx hb dX9_placeOf_101 (by decide) (fun c8 => ?_) (fun c8 => ?_)
        · replace h := mpos c8 h
          exact w_M_placeOf_108 C hrec4 h hI (lv_sub hl [1, 2, 4] rfl)
        · replace h := mneg c8 h
          exact w_M_placeOf_104 C hrec4 h hI (lv_sub hl [1, 2, 4] rfl)
def fM_placeOf_60 (rec4 : MS → Int32 → Int32 → Int32 → Option (Int32 × MS)) (u : MS) (x1 x2 x3 : Int32) : Option (Int32 × MS) :=
  fM_placeOf_61 rec4 u x1 x2 x3 0
set_option maxRecDepth 20000 in
theorem w_M_placeOf_60 (C : mC p s m args meth c cX9_placeOf (some .int) wsX9_placeOf 5 D cI cZ) {uz : MS} {rz : Int32} {rec4 : MS → Int32 → Int32 → Int32 → Option (Int32 × MS)} (hrec4 : ∀ {u : MS} {x1 x2 x3 : Int32} (_ : rec4 u x1 x2 x3 = some (rz, uz)) {H : Heap} {locs : List Loc} {ls : Array Slot} (_ : mI D cI cZ q u s H locs) (_ : lv_has ls 5 [(0, .ref (q 0)), (1, .int x1), (2, .int x2), (3, .int x3)]), W p l e (mR 0 0) s m args below meth c H locs 0 0 (MQ below (mQ D cI cZ q rz uz) args s 0 0 (mF q)) (F0 m 4 ls [])) {u : MS} {x1 x2 x3 : Int32} (h : fM_placeOf_60 rec4 u x1 x2 x3 = some (rz, uz)) {H : Heap} {locs : List Loc} {ls : Array Slot} (hI : mI D cI cZ q u s H locs) (hl : lv_has ls 5 [(0, .ref (q 0)), (1, .int x1), (2, .int x2), (3, .int x3)]) : W p l e (mR 0 0) s m args below meth c H locs 0 0 (MQ below (mQ D cI cZ q rz uz) args s 0 0 (mF q)) (F0 m 60 ls []) := by
  obtain ⟨hx, hb, hr, hts, hown, hlocks, hml, hK⟩ := id C
  unfold fM_placeOf_60 at h
  refine lv_iconst (v := 0) hx hb dX9_placeOf_60 (by decide) ?_
  exact w_M_placeOf_61 C hrec4 h hI (lv_sub hl [0, 1, 2, 3] rfl)
def fM_placeOf_4 : Nat → MS → Int32 → Int32 → Int32 → Option (Int32 × MS)
  | 0, _, _, _, _ => none
  | n + 1, u, x1, x2, x3 =>
    if (u 36 0) ≤ x3 then
      some (x2, u)
    else
      if x3 = x1 then
        fM_placeOf_60 (fM_placeOf_4 n) u x1 x2 x3
      else
        (mld u 41 x3).bind fun r11 =>
        if r11 = 0 then
          (mld u 38 x3).bind fun r13 =>
          (mld u 38 x1).bind fun r14 =>
          if r13 = r14 then
            (mld u 39 x3).bind fun r16 =>
            (mld u 39 x1).bind fun r17 =>
            if r16 = r17 then
              fM_placeOf_61 (fM_placeOf_4 n) u x1 x2 x3 1
            else
              fM_placeOf_60 (fM_placeOf_4 n) u x1 x2 x3
          else
            fM_placeOf_60 (fM_placeOf_4 n) u x1 x2 x3
        else
          fM_placeOf_60 (fM_placeOf_4 n) u x1 x2 x3
set_option maxRecDepth 20000 in
theorem w_M_placeOf_4 (C : mC p s m args meth c cX9_placeOf (some .int) wsX9_placeOf 5 D cI cZ) {uz : MS} {rz : Int32} : ∀ (n : Nat) {u : MS} {x1 x2 x3 : Int32} (h : fM_placeOf_4 n u x1 x2 x3 = some (rz, uz)) {H : Heap} {locs : List Loc} {ls : Array Slot} (hI : mI D cI cZ q u s H locs) (hl : lv_has ls 5 [(0, .ref (q 0)), (1, .int x1), (2, .int x2), (3, .int x3)]), W p l e (mR 0 0) s m args below meth c H locs 0 0 (MQ below (mQ D cI cZ q rz uz) args s 0 0 (mF q)) (F0 m 4 ls []) := by
  obtain ⟨hx, hb, hr, hts, hown, hlocks, hml, hK⟩ := id C
  intro n
  induction n with
  | zero =>
    intro u x1 x2 x3 h
    cases (show (none : Option _) = _ from h)
  | succ n ih =>
    intro u x1 x2 x3 h H locs ls hI hl
    rw [fM_placeOf_4] at h
    refine lv_iload_n hx hb dX9_placeOf_4 rfl (lv_at hl 3 rfl) ?_
    refine lv_aload_n hx hb dX9_placeOf_5 rfl (lv_at hl 0 rfl) ?_
    refine mg_get hx hb hts iM_placeOf hown hK hI 36 (by decide) (hts (.fieldLink RX9 143 "PassageCourtModel" "requests" "I") (by decide +kernel)) rfl dX9_placeOf_6 ?_
    refine lv_icmp_ge (tgt := 117) hx hb dX9_placeOf_9 (by decide) (fun c9 => ?_) (fun c9 => ?_)
    · replace h := mpos c9 h
      refine lv_iload_n hx hb dX9_placeOf_117 rfl (lv_at hl 2 rfl) ?_
      cases h
      exact mg_reti hx hb hr hlocks hK hI dX9_placeOf_118
    · replace h := mneg c9 h
      refine lv_iload_n hx hb dX9_placeOf_12 rfl (lv_at hl 3 rfl) ?_
      refine lv_iload_n hx hb dX9_placeOf_13 rfl (lv_at hl 1 rfl) ?_
      refine lv_icmp_eq (tgt := 60) hx hb dX9_placeOf_14 (by decide) (fun c10 => ?_) (fun c10 => ?_)
      · replace h := mpos c10 h
        exact w_M_placeOf_60 C ih h hI (lv_sub hl [0, 1, 2, 3] rfl)
      · replace h := mneg c10 h
        refine lv_aload_n hx hb dX9_placeOf_17 rfl (lv_at hl 0 rfl) ?_
        refine mg_get hx hb hts iM_placeOf hown hK hI 41 (by decide) (hts (.fieldLink RX9 118 "PassageCourtModel" "state" "[I") (by decide +kernel)) rfl dX9_placeOf_18 ?_
        refine lv_iload_n hx hb dX9_placeOf_21 rfl (lv_at hl 3 rfl) ?_
        obtain ⟨r11, er11, h⟩ := mbind h
        refine mg_ald hx hb hK hI 41 rfl (by decide) er11 dX9_placeOf_22 ?_
        refine lv_if_ne (tgt := 60) hx hb dX9_placeOf_23 (by decide) (fun c12 => ?_) (fun c12 => ?_)
        · replace h := mneg c12 h
          exact w_M_placeOf_60 C ih h hI (lv_sub hl [0, 1, 2, 3] rfl)
        · replace h := mpos c12 h
          refine lv_aload_n hx hb dX9_placeOf_26 rfl (lv_at hl 0 rfl) ?_
          refine mg_get hx hb hts iM_placeOf hown hK hI 38 (by decide) (hts (.fieldLink RX9 109 "PassageCourtModel" "askedLand" "[I") (by decide +kernel)) rfl dX9_placeOf_27 ?_
          refine lv_iload_n hx hb dX9_placeOf_30 rfl (lv_at hl 3 rfl) ?_
          obtain ⟨r13, er13, h⟩ := mbind h
          refine mg_ald hx hb hK hI 38 rfl (by decide) er13 dX9_placeOf_31 ?_
          refine lv_aload_n hx hb dX9_placeOf_32 rfl (lv_at hl 0 rfl) ?_
          refine mg_get hx hb hts iM_placeOf hown hK hI 38 (by decide) (hts (.fieldLink RX9 109 "PassageCourtModel" "askedLand" "[I") (by decide +kernel)) rfl dX9_placeOf_33 ?_
          refine lv_iload_n hx hb dX9_placeOf_36 rfl (lv_at hl 1 rfl) ?_
          obtain ⟨r14, er14, h⟩ := mbind h
          refine mg_ald hx hb hK hI 38 rfl (by decide) er14 dX9_placeOf_37 ?_
          refine lv_icmp_ne (tgt := 60) hx hb dX9_placeOf_38 (by decide) (fun c15 => ?_) (fun c15 => ?_)
          · replace h := mneg c15 h
            exact w_M_placeOf_60 C ih h hI (lv_sub hl [0, 1, 2, 3] rfl)
          · replace h := mpos c15 h
            refine lv_aload_n hx hb dX9_placeOf_41 rfl (lv_at hl 0 rfl) ?_
            refine mg_get hx hb hts iM_placeOf hown hK hI 39 (by decide) (hts (.fieldLink RX9 112 "PassageCourtModel" "askedClass" "[I") (by decide +kernel)) rfl dX9_placeOf_42 ?_
            refine lv_iload_n hx hb dX9_placeOf_45 rfl (lv_at hl 3 rfl) ?_
            obtain ⟨r16, er16, h⟩ := mbind h
            refine mg_ald hx hb hK hI 39 rfl (by decide) er16 dX9_placeOf_46 ?_
            refine lv_aload_n hx hb dX9_placeOf_47 rfl (lv_at hl 0 rfl) ?_
            refine mg_get hx hb hts iM_placeOf hown hK hI 39 (by decide) (hts (.fieldLink RX9 112 "PassageCourtModel" "askedClass" "[I") (by decide +kernel)) rfl dX9_placeOf_48 ?_
            refine lv_iload_n hx hb dX9_placeOf_51 rfl (lv_at hl 1 rfl) ?_
            obtain ⟨r17, er17, h⟩ := mbind h
            refine mg_ald hx hb hK hI 39 rfl (by decide) er17 dX9_placeOf_52 ?_
            refine lv_icmp_ne (tgt := 60) hx hb dX9_placeOf_53 (by decide) (fun c18 => ?_) (fun c18 => ?_)
            · replace h := mneg c18 h
              exact w_M_placeOf_60 C ih h hI (lv_sub hl [0, 1, 2, 3] rfl)
            · replace h := mpos c18 h
              refine lv_iconst (v := 1) hx hb dX9_placeOf_56 (by decide) ?_
              refine lv_goto (tgt := 61) hx hb dX9_placeOf_57 (by decide) ?_
              exact w_M_placeOf_61 C ih h hI (lv_sub hl [0, 1, 2, 3] rfl)
def fM_placeOf (u : MS) (x1 : Int32) : Option (Int32 × MS) :=
  fM_placeOf_4 4096 u x1 0 0
set_option maxRecDepth 20000 in
theorem w_M_placeOf_0 (C : mC p s m args meth c cX9_placeOf (some .int) wsX9_placeOf 5 D cI cZ) {uz : MS} {rz : Int32} {u : MS} {x1 : Int32} (h : fM_placeOf u x1 = some (rz, uz)) {H : Heap} {locs : List Loc} {ls : Array Slot} (hI : mI D cI cZ q u s H locs) (hl : lv_has ls 5 [(0, .ref (q 0)), (1, .int x1)]) : W p l e (mR 0 0) s m args below meth c H locs 0 0 (MQ below (mQ D cI cZ q rz uz) args s 0 0 (mF q)) (F0 m 0 ls []) := by
  obtain ⟨hx, hb, hr, hts, hown, hlocks, hml, hK⟩ := id C
  unfold fM_placeOf at h
  refine lv_iconst (v := 0) hx hb dX9_placeOf_0 (by decide) ?_
  refine lv_istore_n (lv' := [(2, .int 0), (0, .ref (q 0)), (1, .int x1)]) hx hb dX9_placeOf_1 rfl hl (by decide) rfl (fun ls hl => ?_)
  refine lv_iconst (v := 0) hx hb dX9_placeOf_2 (by decide) ?_
  refine lv_istore_n (lv' := [(3, .int 0), (2, .int 0), (0, .ref (q 0)), (1, .int x1)]) hx hb dX9_placeOf_3 rfl hl (by decide) rfl (fun ls hl => ?_)
  exact w_M_placeOf_4 C 4096 h hI (lv_sub hl [2, 3, 1, 0] rfl)
set_option maxRecDepth 20000 in
theorem cM_placeOf (l : Launch) (D : va_G) (cI cZ : ClassId) (q : Nat → Nat) {u uz : MS} {rz : Int32} {x1 : Int32} (h : fM_placeOf u x1 = some (rz, uz)) : Met l yX9_placeOf wsX9_placeOf (mR 0 0) (va_Pc [.ref (q 0), .int x1] (mPre D cI cZ q u)) (mQ D cI cZ q rz uz) 0 0 (mF q) := by
  refine Met.ofW (cc := cX9_placeOf) (maxL := 5) (ret := (some .int)) (by decide) rfl ?_
  intro p e s m args below meth c s₁ B hml hv
  obtain ⟨rfl, hw, hK⟩ := hv
  have C : mC p s m _ meth c cX9_placeOf (some .int) wsX9_placeOf 5 D cI cZ := ⟨B.exec, B.bytes, B.returns, atoms_spec (ws := wsX9_placeOf) B.pre, findClass_of_methodNamed B.named, B.notSynchronized, hml, hK⟩
  have hl := lv_entry ([.ref (q 0), .int x1]) (n := 5) (Nat.le_of_ble_eq_true rfl)
  rw [lg_entry_eq]
  generalize (lg_sl ([.ref (q 0), .int x1]) ++ List.replicate (5 - (lg_sl ([.ref (q 0), .int x1])).length) Slot.unset).toArray = ls at hl ⊢
  have hl : lv_has ls 5 [(0, .ref (q 0)), (1, .int x1)] := hl
  exact w_M_placeOf_0 C h ⟨hw, va_S.rf⟩ hl
theorem iM_firstOf : ∀ w ∈ wsX90, w ∈ wsX9_firstOf := by decide +kernel
def fM_firstOf_49 (rec2 : MS → Int32 → Int32 → Int32 → Option (Int32 × MS)) (u : MS) (x1 x2 x3 : Int32) : Option (Int32 × MS) :=
  rec2 u x1 x2 (x3 + 1)
set_option maxRecDepth 20000 in
theorem w_M_firstOf_49 (C : mC p s m args meth c cX9_firstOf (some .int) wsX9_firstOf 4 D cI cZ) {uz : MS} {rz : Int32} {rec2 : MS → Int32 → Int32 → Int32 → Option (Int32 × MS)} (hrec2 : ∀ {u : MS} {x1 x2 x3 : Int32} (_ : rec2 u x1 x2 x3 = some (rz, uz)) {H : Heap} {locs : List Loc} {ls : Array Slot} (_ : mI D cI cZ q u s H locs) (_ : lv_has ls 4 [(0, .ref (q 0)), (1, .int x1), (2, .int x2), (3, .int x3)]), W p l e (mR 1 24) s m args below meth c H locs 0 0 (MQ below (mQ D cI cZ q rz uz) args s 0 0 (mF q)) (F0 m 2 ls [])) {u : MS} {x1 x2 x3 : Int32} (h : fM_firstOf_49 rec2 u x1 x2 x3 = some (rz, uz)) {H : Heap} {locs : List Loc} {ls : Array Slot} (hI : mI D cI cZ q u s H locs) (hl : lv_has ls 4 [(0, .ref (q 0)), (1, .int x1), (2, .int x2), (3, .int x3)]) : W p l e (mR 1 24) s m args below meth c H locs 0 0 (MQ below (mQ D cI cZ q rz uz) args s 0 0 (mF q)) (F0 m 49 ls []) := by
  obtain ⟨hx, hb, hr, hts, hown, hlocks, hml, hK⟩ := id C
  unfold fM_firstOf_49 at h
  refine lv_iinc (v := x3 + 1) (lv' := [(3, .int (x3 + 1)), (0, .ref (q 0)), (1, .int x1), (2, .int x2)]) hx hb dX9_firstOf_49 hl (k := 3) rfl rfl (by decide) rfl (fun ls hl => ?_)
  refine lv_goto (tgt := 2) hx hb dX9_firstOf_52 (by decide) ?_
  exact hrec2 h hI (lv_sub hl [1, 2, 3, 0] rfl)
def fM_firstOf_2 : Nat → MS → Int32 → Int32 → Int32 → Option (Int32 × MS)
  | 0, _, _, _, _ => none
  | n + 1, u, x1, x2, x3 =>
    if (u 36 0) ≤ x3 then
      some ((-1), u)
    else
      (mld u 41 x3).bind fun r2 =>
      if r2 = 0 then
        (mld u 38 x3).bind fun r4 =>
        if r4 = x1 then
          (mld u 39 x3).bind fun r6 =>
          if r6 = x2 then
            mb2 (fM_placeOf u x3) fun r9 u8 =>
            if r9 = 0 then
              some (x3, u8)
            else
              fM_firstOf_49 (fM_firstOf_2 n) u8 x1 x2 x3
          else
            fM_firstOf_49 (fM_firstOf_2 n) u x1 x2 x3
        else
          fM_firstOf_49 (fM_firstOf_2 n) u x1 x2 x3
      else
        fM_firstOf_49 (fM_firstOf_2 n) u x1 x2 x3
set_option maxRecDepth 20000 in
theorem w_M_firstOf_2 (C : mC p s m args meth c cX9_firstOf (some .int) wsX9_firstOf 4 D cI cZ) {uz : MS} {rz : Int32} : ∀ (n : Nat) {u : MS} {x1 x2 x3 : Int32} (h : fM_firstOf_2 n u x1 x2 x3 = some (rz, uz)) {H : Heap} {locs : List Loc} {ls : Array Slot} (hI : mI D cI cZ q u s H locs) (hl : lv_has ls 4 [(0, .ref (q 0)), (1, .int x1), (2, .int x2), (3, .int x3)]), W p l e (mR 1 24) s m args below meth c H locs 0 0 (MQ below (mQ D cI cZ q rz uz) args s 0 0 (mF q)) (F0 m 2 ls []) := by
  obtain ⟨hx, hb, hr, hts, hown, hlocks, hml, hK⟩ := id C
  intro n
  induction n with
  | zero =>
    intro u x1 x2 x3 h
    cases (show (none : Option _) = _ from h)
  | succ n ih =>
    intro u x1 x2 x3 h H locs ls hI hl
    rw [fM_firstOf_2] at h
    refine lv_iload_n hx hb dX9_firstOf_2 rfl (lv_at hl 3 rfl) ?_
    refine lv_aload_n hx hb dX9_firstOf_3 rfl (lv_at hl 0 rfl) ?_
    refine mg_get hx hb hts iM_firstOf hown hK hI 36 (by decide) (hts (.fieldLink RX9 143 "PassageCourtModel" "requests" "I") (by decide +kernel)) rfl dX9_firstOf_4 ?_
    refine lv_icmp_ge (tgt := 55) hx hb dX9_firstOf_7 (by decide) (fun c1 => ?_) (fun c1 => ?_)
    · replace h := mpos c1 h
      refine lv_iconst (v := -1) hx hb dX9_firstOf_55 (by decide) ?_
      cases h
      exact mg_reti hx hb hr hlocks hK hI dX9_firstOf_56
    · replace h := mneg c1 h
      refine lv_aload_n hx hb dX9_firstOf_10 rfl (lv_at hl 0 rfl) ?_
      refine mg_get hx hb hts iM_firstOf hown hK hI 41 (by decide) (hts (.fieldLink RX9 118 "PassageCourtModel" "state" "[I") (by decide +kernel)) rfl dX9_firstOf_11 ?_
      refine lv_iload_n hx hb dX9_firstOf_14 rfl (lv_at hl 3 rfl) ?_
      obtain ⟨r2, er2, h⟩ := mbind h
      refine mg_ald hx hb hK hI 41 rfl (by decide) er2 dX9_firstOf_15 ?_
      refine lv_if_ne (tgt := 49) hx hb dX9_firstOf_16 (by decide) (fun c3 => ?_) (fun c3 => ?_)
      · replace h := mneg c3 h
        exact w_M_firstOf_49 C ih h hI (lv_sub hl [0, 1, 2, 3] rfl)
      · replace h := mpos c3 h
        refine lv_aload_n hx hb dX9_firstOf_19 rfl (lv_at hl 0 rfl) ?_
        refine mg_get hx hb hts iM_firstOf hown hK hI 38 (by decide) (hts (.fieldLink RX9 109 "PassageCourtModel" "askedLand" "[I") (by decide +kernel)) rfl dX9_firstOf_20 ?_
        refine lv_iload_n hx hb dX9_firstOf_23 rfl (lv_at hl 3 rfl) ?_
        obtain ⟨r4, er4, h⟩ := mbind h
        refine mg_ald hx hb hK hI 38 rfl (by decide) er4 dX9_firstOf_24 ?_
        refine lv_iload_n hx hb dX9_firstOf_25 rfl (lv_at hl 1 rfl) ?_
        refine lv_icmp_ne (tgt := 49) hx hb dX9_firstOf_26 (by decide) (fun c5 => ?_) (fun c5 => ?_)
        · replace h := mneg c5 h
          exact w_M_firstOf_49 C ih h hI (lv_sub hl [0, 1, 2, 3] rfl)
        · replace h := mpos c5 h
          refine lv_aload_n hx hb dX9_firstOf_29 rfl (lv_at hl 0 rfl) ?_
          refine mg_get hx hb hts iM_firstOf hown hK hI 39 (by decide) (hts (.fieldLink RX9 112 "PassageCourtModel" "askedClass" "[I") (by decide +kernel)) rfl dX9_firstOf_30 ?_
          refine lv_iload_n hx hb dX9_firstOf_33 rfl (lv_at hl 3 rfl) ?_
          obtain ⟨r6, er6, h⟩ := mbind h
          refine mg_ald hx hb hK hI 39 rfl (by decide) er6 dX9_firstOf_34 ?_
          refine lv_iload_n hx hb dX9_firstOf_35 rfl (lv_at hl 2 rfl) ?_
          refine lv_icmp_ne (tgt := 49) hx hb dX9_firstOf_36 (by decide) (fun c7 => ?_) (fun c7 => ?_)
          · replace h := mneg c7 h
            exact w_M_firstOf_49 C ih h hI (lv_sub hl [0, 1, 2, 3] rfl)
          · replace h := mpos c7 h
            refine lv_aload_n hx hb dX9_firstOf_39 rfl (lv_at hl 0 rfl) ?_
            refine lv_iload_n hx hb dX9_firstOf_40 rfl (lv_at hl 3 rfl) ?_
            obtain ⟨r9, u8, eu8, h⟩ := mb2_spec h
            refine mg_callV (As := [.int x3]) (rest := []) ⟨hx, hb, hml, hown, hts⟩ (cM_placeOf l D cI cZ q eu8) (cwV 1 hts gX9_firstOf_X9_placeOf rfl rfl rfl (by decide +kernel) ⟨Nat.le_of_ble_eq_true rfl, Nat.le_of_ble_eq_true rfl⟩) hK hI rfl hl.1 rfl (Nat.le_of_ble_eq_true rfl) dX9_firstOf_41 ⟨Nat.le_refl _, Nat.le_refl _⟩ (fun H locs hI => ?_)
            refine lv_if_ne (tgt := 49) hx hb dX9_firstOf_44 (by decide) (fun c10 => ?_) (fun c10 => ?_)
            · replace h := mneg c10 h
              exact w_M_firstOf_49 C ih h hI (lv_sub hl [0, 1, 2, 3] rfl)
            · replace h := mpos c10 h
              refine lv_iload_n hx hb dX9_firstOf_47 rfl (lv_at hl 3 rfl) ?_
              cases h
              exact mg_reti hx hb hr hlocks hK hI dX9_firstOf_48
def fM_firstOf (u : MS) (x1 x2 : Int32) : Option (Int32 × MS) :=
  fM_firstOf_2 4096 u x1 x2 0
set_option maxRecDepth 20000 in
theorem w_M_firstOf_0 (C : mC p s m args meth c cX9_firstOf (some .int) wsX9_firstOf 4 D cI cZ) {uz : MS} {rz : Int32} {u : MS} {x1 x2 : Int32} (h : fM_firstOf u x1 x2 = some (rz, uz)) {H : Heap} {locs : List Loc} {ls : Array Slot} (hI : mI D cI cZ q u s H locs) (hl : lv_has ls 4 [(0, .ref (q 0)), (1, .int x1), (2, .int x2)]) : W p l e (mR 1 24) s m args below meth c H locs 0 0 (MQ below (mQ D cI cZ q rz uz) args s 0 0 (mF q)) (F0 m 0 ls []) := by
  obtain ⟨hx, hb, hr, hts, hown, hlocks, hml, hK⟩ := id C
  unfold fM_firstOf at h
  refine lv_iconst (v := 0) hx hb dX9_firstOf_0 (by decide) ?_
  refine lv_istore_n (lv' := [(3, .int 0), (0, .ref (q 0)), (1, .int x1), (2, .int x2)]) hx hb dX9_firstOf_1 rfl hl (by decide) rfl (fun ls hl => ?_)
  exact w_M_firstOf_2 C 4096 h hI (lv_sub hl [1, 2, 3, 0] rfl)
set_option maxRecDepth 20000 in
theorem cM_firstOf (l : Launch) (D : va_G) (cI cZ : ClassId) (q : Nat → Nat) {u uz : MS} {rz : Int32} {x1 x2 : Int32} (h : fM_firstOf u x1 x2 = some (rz, uz)) : Met l yX9_firstOf wsX9_firstOf (mR 1 24) (va_Pc [.ref (q 0), .int x1, .int x2] (mPre D cI cZ q u)) (mQ D cI cZ q rz uz) 0 0 (mF q) := by
  refine Met.ofW (cc := cX9_firstOf) (maxL := 4) (ret := (some .int)) (by decide) rfl ?_
  intro p e s m args below meth c s₁ B hml hv
  obtain ⟨rfl, hw, hK⟩ := hv
  have C : mC p s m _ meth c cX9_firstOf (some .int) wsX9_firstOf 4 D cI cZ := ⟨B.exec, B.bytes, B.returns, atoms_spec (ws := wsX9_firstOf) B.pre, findClass_of_methodNamed B.named, B.notSynchronized, hml, hK⟩
  have hl := lv_entry ([.ref (q 0), .int x1, .int x2]) (n := 4) (Nat.le_of_ble_eq_true rfl)
  rw [lg_entry_eq]
  generalize (lg_sl ([.ref (q 0), .int x1, .int x2]) ++ List.replicate (4 - (lg_sl ([.ref (q 0), .int x1, .int x2])).length) Slot.unset).toArray = ls at hl ⊢
  have hl : lv_has ls 4 [(0, .ref (q 0)), (1, .int x1), (2, .int x2)] := hl
  exact w_M_firstOf_0 C h ⟨hw, va_S.rf⟩ hl
theorem iM_grant : ∀ w ∈ wsX90, w ∈ wsX9_grant := by decide +kernel
def fM_grant_25 : Nat → MS → Int32 → Int32 → Option MS
  | 0, _, _, _ => none
  | n + 1, u, x1, x2 =>
    (mld u 43 x1).bind fun r1 =>
    if r1 ≤ x2 then
      some u
    else
      (mld u 44 ((3 * x1) + x2)).bind fun r3 =>
      (mld u 38 x1).bind fun r4 =>
      (fM_permitFor u r3 r4).bind fun u5 =>
      fM_grant_25 n u5 x1 (x2 + 1)
set_option maxRecDepth 20000 in
theorem w_M_grant_25 (C : mC p s m args meth c cX9_grant none wsX9_grant 3 D cI cZ) {uz : MS} : ∀ (n : Nat) {u : MS} {x1 x2 : Int32} (h : fM_grant_25 n u x1 x2 = some uz) {H : Heap} {locs : List Loc} {ls : Array Slot} (hI : mI D cI cZ q u s H locs) (hl : lv_has ls 3 [(0, .ref (q 0)), (1, .int x1), (2, .int x2)]), W p l e (mR 2 45) s m args below meth c H locs 0 0 (MQ below (mQv D cI cZ q uz) args s 0 0 (mF q)) (F0 m 25 ls []) := by
  obtain ⟨hx, hb, hr, hts, hown, hlocks, hml, hK⟩ := id C
  intro n
  induction n with
  | zero =>
    intro u x1 x2 h
    cases (show (none : Option _) = _ from h)
  | succ n ih =>
    intro u x1 x2 h H locs ls hI hl
    rw [fM_grant_25] at h
    refine lv_iload_n hx hb dX9_grant_25 rfl (lv_at hl 2 rfl) ?_
    refine lv_aload_n hx hb dX9_grant_26 rfl (lv_at hl 0 rfl) ?_
    refine mg_get hx hb hts iM_grant hown hK hI 43 (by decide) (hts (.fieldLink RX9 124 "PassageCourtModel" "many" "[I") (by decide +kernel)) rfl dX9_grant_27 ?_
    refine lv_iload_n hx hb dX9_grant_30 rfl (lv_at hl 1 rfl) ?_
    obtain ⟨r1, er1, h⟩ := mbind h
    refine mg_ald hx hb hK hI 43 rfl (by decide) er1 dX9_grant_31 ?_
    refine lv_icmp_ge (tgt := 61) hx hb dX9_grant_32 (by decide) (fun c2 => ?_) (fun c2 => ?_)
    · replace h := mpos c2 h
      cases h
      exact mg_retv hx hb hr hlocks hK hI dX9_grant_61
    · replace h := mneg c2 h
      refine lv_aload_n hx hb dX9_grant_35 rfl (lv_at hl 0 rfl) ?_
      refine lv_aload_n hx hb dX9_grant_36 rfl (lv_at hl 0 rfl) ?_
      refine mg_get hx hb hts iM_grant hown hK hI 44 (by decide) (hts (.fieldLink RX9 127 "PassageCourtModel" "follower" "[I") (by decide +kernel)) rfl dX9_grant_37 ?_
      refine lv_iconst (v := 3) hx hb dX9_grant_40 (by decide) ?_
      refine lv_iload_n hx hb dX9_grant_41 rfl (lv_at hl 1 rfl) ?_
      refine lv_imul hx hb dX9_grant_42 ?_
      refine lv_iload_n hx hb dX9_grant_43 rfl (lv_at hl 2 rfl) ?_
      refine lv_iadd hx hb dX9_grant_44 ?_
      obtain ⟨r3, er3, h⟩ := mbind h
      refine mg_ald hx hb hK hI 44 rfl (by decide) er3 dX9_grant_45 ?_
      refine lv_aload_n hx hb dX9_grant_46 rfl (lv_at hl 0 rfl) ?_
      refine mg_get hx hb hts iM_grant hown hK hI 38 (by decide) (hts (.fieldLink RX9 109 "PassageCourtModel" "askedLand" "[I") (by decide +kernel)) rfl dX9_grant_47 ?_
      refine lv_iload_n hx hb dX9_grant_50 rfl (lv_at hl 1 rfl) ?_
      obtain ⟨r4, er4, h⟩ := mbind h
      refine mg_ald hx hb hK hI 38 rfl (by decide) er4 dX9_grant_51 ?_
      obtain ⟨u5, eu5, h⟩ := mbind h
      refine mg_callVv (As := [.int r3, .int r4]) (rest := []) ⟨hx, hb, hml, hown, hts⟩ (cM_permitFor l D cI cZ q eu5) (cwV 2 hts gX9_grant_X9_permitFor rfl rfl rfl (by decide +kernel) ⟨Nat.le_of_ble_eq_true rfl, Nat.le_of_ble_eq_true rfl⟩) hK hI rfl hl.1 rfl (Nat.le_of_ble_eq_true rfl) dX9_grant_52 ⟨Nat.le_refl _, Nat.le_refl _⟩ (fun H locs hI => ?_)
      refine lv_iinc (v := x2 + 1) (lv' := [(2, .int (x2 + 1)), (0, .ref (q 0)), (1, .int x1)]) hx hb dX9_grant_55 hl (k := 2) rfl rfl (by decide) rfl (fun ls hl => ?_)
      refine lv_goto (tgt := 25) hx hb dX9_grant_58 (by decide) ?_
      exact ih h hI (lv_sub hl [1, 2, 0] rfl)
def fM_grant (u : MS) (x1 : Int32) : Option MS :=
  (mst u 41 x1 1).bind fun u6 =>
  (mld u6 37 x1).bind fun r7 =>
  (mld u6 38 x1).bind fun r8 =>
  (fM_permitFor u6 r7 r8).bind fun u9 =>
  fM_grant_25 4096 u9 x1 0
set_option maxRecDepth 20000 in
theorem w_M_grant_0 (C : mC p s m args meth c cX9_grant none wsX9_grant 3 D cI cZ) {uz : MS} {u : MS} {x1 : Int32} (h : fM_grant u x1 = some uz) {H : Heap} {locs : List Loc} {ls : Array Slot} (hI : mI D cI cZ q u s H locs) (hl : lv_has ls 3 [(0, .ref (q 0)), (1, .int x1)]) : W p l e (mR 2 45) s m args below meth c H locs 0 0 (MQ below (mQv D cI cZ q uz) args s 0 0 (mF q)) (F0 m 0 ls []) := by
  obtain ⟨hx, hb, hr, hts, hown, hlocks, hml, hK⟩ := id C
  unfold fM_grant at h
  refine lv_aload_n hx hb dX9_grant_0 rfl (lv_at hl 0 rfl) ?_
  refine mg_get hx hb hts iM_grant hown hK hI 41 (by decide) (hts (.fieldLink RX9 118 "PassageCourtModel" "state" "[I") (by decide +kernel)) rfl dX9_grant_1 ?_
  refine lv_iload_n hx hb dX9_grant_4 rfl (lv_at hl 1 rfl) ?_
  refine lv_iconst (v := 1) hx hb dX9_grant_5 (by decide) ?_
  obtain ⟨u6, eu6, h⟩ := mbind h
  refine mg_ast hx hb hK hI 41 rfl (by decide) eu6 dX9_grant_6 (fun H locs hI => ?_)
  refine lv_aload_n hx hb dX9_grant_7 rfl (lv_at hl 0 rfl) ?_
  refine lv_aload_n hx hb dX9_grant_8 rfl (lv_at hl 0 rfl) ?_
  refine mg_get hx hb hts iM_grant hown hK hI 37 (by decide) (hts (.fieldLink RX9 106 "PassageCourtModel" "askedBy" "[I") (by decide +kernel)) rfl dX9_grant_9 ?_
  refine lv_iload_n hx hb dX9_grant_12 rfl (lv_at hl 1 rfl) ?_
  obtain ⟨r7, er7, h⟩ := mbind h
  refine mg_ald hx hb hK hI 37 rfl (by decide) er7 dX9_grant_13 ?_
  refine lv_aload_n hx hb dX9_grant_14 rfl (lv_at hl 0 rfl) ?_
  refine mg_get hx hb hts iM_grant hown hK hI 38 (by decide) (hts (.fieldLink RX9 109 "PassageCourtModel" "askedLand" "[I") (by decide +kernel)) rfl dX9_grant_15 ?_
  refine lv_iload_n hx hb dX9_grant_18 rfl (lv_at hl 1 rfl) ?_
  obtain ⟨r8, er8, h⟩ := mbind h
  refine mg_ald hx hb hK hI 38 rfl (by decide) er8 dX9_grant_19 ?_
  obtain ⟨u9, eu9, h⟩ := mbind h
  refine mg_callVv (As := [.int r7, .int r8]) (rest := []) ⟨hx, hb, hml, hown, hts⟩ (cM_permitFor l D cI cZ q eu9) (cwV 2 hts gX9_grant_X9_permitFor rfl rfl rfl (by decide +kernel) ⟨Nat.le_of_ble_eq_true rfl, Nat.le_of_ble_eq_true rfl⟩) hK hI rfl hl.1 rfl (Nat.le_of_ble_eq_true rfl) dX9_grant_20 ⟨Nat.le_refl _, Nat.le_refl _⟩ (fun H locs hI => ?_)
  refine lv_iconst (v := 0) hx hb dX9_grant_23 (by decide) ?_
  refine lv_istore_n (lv' := [(2, .int 0), (0, .ref (q 0)), (1, .int x1)]) hx hb dX9_grant_24 rfl hl (by decide) rfl (fun ls hl => ?_)
  exact w_M_grant_25 C 4096 h hI (lv_sub hl [1, 2, 0] rfl)
set_option maxRecDepth 20000 in
theorem cM_grant (l : Launch) (D : va_G) (cI cZ : ClassId) (q : Nat → Nat) {u uz : MS} {x1 : Int32} (h : fM_grant u x1 = some uz) : Met l yX9_grant wsX9_grant (mR 2 45) (va_Pc [.ref (q 0), .int x1] (mPre D cI cZ q u)) (mQv D cI cZ q uz) 0 0 (mF q) := by
  refine Met.ofW (cc := cX9_grant) (maxL := 3) (ret := none) (by decide) rfl ?_
  intro p e s m args below meth c s₁ B hml hv
  obtain ⟨rfl, hw, hK⟩ := hv
  have C : mC p s m _ meth c cX9_grant none wsX9_grant 3 D cI cZ := ⟨B.exec, B.bytes, B.returns, atoms_spec (ws := wsX9_grant) B.pre, findClass_of_methodNamed B.named, B.notSynchronized, hml, hK⟩
  have hl := lv_entry ([.ref (q 0), .int x1]) (n := 3) (Nat.le_of_ble_eq_true rfl)
  rw [lg_entry_eq]
  generalize (lg_sl ([.ref (q 0), .int x1]) ++ List.replicate (3 - (lg_sl ([.ref (q 0), .int x1])).length) Slot.unset).toArray = ls at hl ⊢
  have hl : lv_has ls 3 [(0, .ref (q 0)), (1, .int x1)] := hl
  exact w_M_grant_0 C h ⟨hw, va_S.rf⟩ hl
theorem iM_grantAll : ∀ w ∈ wsX90, w ∈ wsX9_grantAll := by decide +kernel
def fM_grantAll_70 (rec2 : MS → Int32 → Option MS) (rec14 : MS → Int32 → Int32 → Int32 → Option MS) (u : MS) (x1 x2 x3 : Int32) : Option MS :=
  rec14 u x1 x2 (x3 + 1)
set_option maxRecDepth 20000 in
theorem w_M_grantAll_70 (C : mC p s m args meth c cX9_grantAll none wsX9_grantAll 5 D cI cZ) {uz : MS} {rec2 : MS → Int32 → Option MS} (hrec2 : ∀ {u : MS} {x1 : Int32} (_ : rec2 u x1 = some uz) {H : Heap} {locs : List Loc} {ls : Array Slot} (_ : mI D cI cZ q u s H locs) (_ : lv_has ls 5 [(0, .ref (q 0)), (1, .int x1)]), W p l e (mR 3 67) s m args below meth c H locs 0 0 (MQ below (mQv D cI cZ q uz) args s 0 0 (mF q)) (F0 m 2 ls [])) {rec14 : MS → Int32 → Int32 → Int32 → Option MS} (hrec14 : ∀ {u : MS} {x1 x2 x3 : Int32} (_ : rec14 u x1 x2 x3 = some uz) {H : Heap} {locs : List Loc} {ls : Array Slot} (_ : mI D cI cZ q u s H locs) (_ : lv_has ls 5 [(0, .ref (q 0)), (1, .int x1), (2, .int x2), (3, .int x3)]), W p l e (mR 3 67) s m args below meth c H locs 0 0 (MQ below (mQv D cI cZ q uz) args s 0 0 (mF q)) (F0 m 14 ls [])) {u : MS} {x1 x2 x3 : Int32} (h : fM_grantAll_70 rec2 rec14 u x1 x2 x3 = some uz) {H : Heap} {locs : List Loc} {ls : Array Slot} (hI : mI D cI cZ q u s H locs) (hl : lv_has ls 5 [(0, .ref (q 0)), (1, .int x1), (2, .int x2), (3, .int x3)]) : W p l e (mR 3 67) s m args below meth c H locs 0 0 (MQ below (mQv D cI cZ q uz) args s 0 0 (mF q)) (F0 m 70 ls []) := by
  obtain ⟨hx, hb, hr, hts, hown, hlocks, hml, hK⟩ := id C
  unfold fM_grantAll_70 at h
  refine lv_iinc (v := x3 + 1) (lv' := [(3, .int (x3 + 1)), (0, .ref (q 0)), (1, .int x1), (2, .int x2)]) hx hb dX9_grantAll_70 hl (k := 3) rfl rfl (by decide) rfl (fun ls hl => ?_)
  refine lv_goto (tgt := 14) hx hb dX9_grantAll_73 (by decide) ?_
  exact hrec14 h hI (lv_sub hl [1, 2, 3, 0] rfl)
def fM_grantAll_40 (rec2 : MS → Int32 → Option MS) (rec14 : MS → Int32 → Int32 → Int32 → Option MS) : Nat → MS → Int32 → Int32 → Int32 → Int32 → Option MS
  | 0, _, _, _, _, _ => none
  | n + 1, u, x1, x2, x3, x4 =>
    if x2 ≤ 0 then
      fM_grantAll_70 rec2 rec14 u x1 x2 x3
    else
      if x4 = ((-1)) then
        fM_grantAll_70 rec2 rec14 u x1 x2 x3
      else
        (fM_grant u x4).bind fun u3 =>
        mb2 (fM_firstOf u3 x1 x3) fun r5 u4 =>
        fM_grantAll_40 rec2 rec14 n u4 x1 (x2 + (-1)) x3 r5
set_option maxRecDepth 20000 in
theorem w_M_grantAll_40 (C : mC p s m args meth c cX9_grantAll none wsX9_grantAll 5 D cI cZ) {uz : MS} {rec2 : MS → Int32 → Option MS} (hrec2 : ∀ {u : MS} {x1 : Int32} (_ : rec2 u x1 = some uz) {H : Heap} {locs : List Loc} {ls : Array Slot} (_ : mI D cI cZ q u s H locs) (_ : lv_has ls 5 [(0, .ref (q 0)), (1, .int x1)]), W p l e (mR 3 67) s m args below meth c H locs 0 0 (MQ below (mQv D cI cZ q uz) args s 0 0 (mF q)) (F0 m 2 ls [])) {rec14 : MS → Int32 → Int32 → Int32 → Option MS} (hrec14 : ∀ {u : MS} {x1 x2 x3 : Int32} (_ : rec14 u x1 x2 x3 = some uz) {H : Heap} {locs : List Loc} {ls : Array Slot} (_ : mI D cI cZ q u s H locs) (_ : lv_has ls 5 [(0, .ref (q 0)), (1, .int x1), (2, .int x2), (3, .int x3)]), W p l e (mR 3 67) s m args below meth c H locs 0 0 (MQ below (mQv D cI cZ q uz) args s 0 0 (mF q)) (F0 m 14 ls [])) : ∀ (n : Nat) {u : MS} {x1 x2 x3 x4 : Int32} (h : fM_grantAll_40 rec2 rec14 n u x1 x2 x3 x4 = some uz) {H : Heap} {locs : List Loc} {ls : Array Slot} (hI : mI D cI cZ q u s H locs) (hl : lv_has ls 5 [(0, .ref (q 0)), (1, .int x1), (2, .int x2), (3, .int x3), (4, .int x4)]), W p l e (mR 3 67) s m args below meth c H locs 0 0 (MQ below (mQv D cI cZ q uz) args s 0 0 (mF q)) (F0 m 40 ls []) := by
  obtain ⟨hx, hb, hr, hts, hown, hlocks, hml, hK⟩ := id C
  intro n
  induction n with
  | zero =>
    intro u x1 x2 x3 x4 h
    cases (show (none : Option _) = _ from h)
  | succ n ih =>
    intro u x1 x2 x3 x4 h H locs ls hI hl
    rw [fM_grantAll_40] at h
    refine lv_iload_n hx hb dX9_grantAll_40 rfl (lv_at hl 2 rfl) ?_
    refine lv_if_le (tgt := 70) hx hb dX9_grantAll_41 (by decide) (fun c1 => ?_) (fun c1 => ?_)
    · replace h := mpos c1 h
      exact w_M_grantAll_70 C hrec2 hrec14 h hI (lv_sub hl [0, 1, 2, 3] rfl)
    · replace h := mneg c1 h
      refine lv_iload hx hb dX9_grantAll_44 (lv_at hl 4 rfl) ?_
      refine lv_iconst (v := -1) hx hb dX9_grantAll_46 (by decide) ?_
      refine lv_icmp_eq (tgt := 70) hx hb dX9_grantAll_47 (by decide) (fun c2 => ?_) (fun c2 => ?_)
      · replace h := mpos c2 h
        exact w_M_grantAll_70 C hrec2 hrec14 h hI (lv_sub hl [0, 1, 2, 3] rfl)
      · replace h := mneg c2 h
        refine lv_aload_n hx hb dX9_grantAll_50 rfl (lv_at hl 0 rfl) ?_
        refine lv_iload hx hb dX9_grantAll_51 (lv_at hl 4 rfl) ?_
        obtain ⟨u3, eu3, h⟩ := mbind h
        refine mg_callVv (As := [.int x4]) (rest := []) ⟨hx, hb, hml, hown, hts⟩ (cM_grant l D cI cZ q eu3) (cwV 1 hts gX9_grantAll_X9_grant rfl rfl rfl (by decide +kernel) ⟨Nat.le_of_ble_eq_true rfl, Nat.le_of_ble_eq_true rfl⟩) hK hI rfl hl.1 rfl (Nat.le_of_ble_eq_true rfl) dX9_grantAll_53 ⟨Nat.le_refl _, Nat.le_refl _⟩ (fun H locs hI => ?_)
        refine lv_iinc (v := x2 + (-1)) (lv' := [(2, .int (x2 + (-1))), (0, .ref (q 0)), (1, .int x1), (3, .int x3), (4, .int x4)]) hx hb dX9_grantAll_56 hl (k := 2) rfl rfl (by decide) rfl (fun ls hl => ?_)
        refine lv_aload_n hx hb dX9_grantAll_59 rfl (lv_at hl 1 rfl) ?_
        refine lv_iload_n hx hb dX9_grantAll_60 rfl (lv_at hl 2 rfl) ?_
        refine lv_iload_n hx hb dX9_grantAll_61 rfl (lv_at hl 3 rfl) ?_
        obtain ⟨r5, u4, eu4, h⟩ := mb2_spec h
        refine mg_callV (As := [.int x1, .int x3]) (rest := []) ⟨hx, hb, hml, hown, hts⟩ (cM_firstOf l D cI cZ q eu4) (cwV 2 hts gX9_grantAll_X9_firstOf rfl rfl rfl (by decide +kernel) ⟨Nat.le_of_ble_eq_true rfl, Nat.le_of_ble_eq_true rfl⟩) hK hI rfl hl.1 rfl (Nat.le_of_ble_eq_true rfl) dX9_grantAll_62 ⟨Nat.le_refl _, Nat.le_refl _⟩ (fun H locs hI => ?_)
        refine lv_istore (lv' := [(4, .int r5), (2, .int (x2 + (-1))), (0, .ref (q 0)), (1, .int x1), (3, .int x3)]) hx hb dX9_grantAll_65 hl (by decide) rfl (fun ls hl => ?_)
        refine lv_goto (tgt := 40) hx hb dX9_grantAll_67 (by decide) ?_
        exact ih h hI (lv_sub hl [2, 3, 1, 4, 0] rfl)
def fM_grantAll_14 (rec2 : MS → Int32 → Option MS) : Nat → MS → Int32 → Int32 → Int32 → Option MS
  | 0, _, _, _, _ => none
  | n + 1, u, x1, x2, x3 =>
    if 3 ≤ x3 then
      rec2 u (x1 + 1)
    else
      (mld u 8 ((3 * x1) + x3)).bind fun r7 =>
      mb2 (fM_firstOf u x1 x3) fun r9 u8 =>
      fM_grantAll_40 rec2 (fM_grantAll_14 rec2 n) 4096 u8 x1 (x2 + r7) x3 r9
set_option maxRecDepth 20000 in
theorem w_M_grantAll_14 (C : mC p s m args meth c cX9_grantAll none wsX9_grantAll 5 D cI cZ) {uz : MS} {rec2 : MS → Int32 → Option MS} (hrec2 : ∀ {u : MS} {x1 : Int32} (_ : rec2 u x1 = some uz) {H : Heap} {locs : List Loc} {ls : Array Slot} (_ : mI D cI cZ q u s H locs) (_ : lv_has ls 5 [(0, .ref (q 0)), (1, .int x1)]), W p l e (mR 3 67) s m args below meth c H locs 0 0 (MQ below (mQv D cI cZ q uz) args s 0 0 (mF q)) (F0 m 2 ls [])) : ∀ (n : Nat) {u : MS} {x1 x2 x3 : Int32} (h : fM_grantAll_14 rec2 n u x1 x2 x3 = some uz) {H : Heap} {locs : List Loc} {ls : Array Slot} (hI : mI D cI cZ q u s H locs) (hl : lv_has ls 5 [(0, .ref (q 0)), (1, .int x1), (2, .int x2), (3, .int x3)]), W p l e (mR 3 67) s m args below meth c H locs 0 0 (MQ below (mQv D cI cZ q uz) args s 0 0 (mF q)) (F0 m 14 ls []) := by
  obtain ⟨hx, hb, hr, hts, hown, hlocks, hml, hK⟩ := id C
  intro n
  induction n with
  | zero =>
    intro u x1 x2 x3 h
    cases (show (none : Option _) = _ from h)
  | succ n ih =>
    intro u x1 x2 x3 h H locs ls hI hl
    rw [fM_grantAll_14] at h
    refine lv_iload_n hx hb dX9_grantAll_14 rfl (lv_at hl 3 rfl) ?_
    refine lv_iconst (v := 3) hx hb dX9_grantAll_15 (by decide) ?_
    refine lv_icmp_ge (tgt := 76) hx hb dX9_grantAll_16 (by decide) (fun c6 => ?_) (fun c6 => ?_)
    · replace h := mpos c6 h
      refine lv_iinc (v := x1 + 1) (lv' := [(1, .int (x1 + 1)), (0, .ref (q 0)), (2, .int x2), (3, .int x3)]) hx hb dX9_grantAll_76 hl (k := 1) rfl rfl (by decide) rfl (fun ls hl => ?_)
      refine lv_goto (tgt := 2) hx hb dX9_grantAll_79 (by decide) ?_
      exact hrec2 h hI (lv_sub hl [1, 0] rfl)
    · replace h := mneg c6 h
      refine lv_iload_n hx hb dX9_grantAll_19 rfl (lv_at hl 2 rfl) ?_
      refine lv_aload_n hx hb dX9_grantAll_20 rfl (lv_at hl 0 rfl) ?_
      refine mg_get hx hb hts iM_grantAll hown hK hI 8 (by decide) (hts (.fieldLink RX9 26 "PassageCourtModel" "quota" "[I") (by decide +kernel)) rfl dX9_grantAll_21 ?_
      refine lv_iconst (v := 3) hx hb dX9_grantAll_24 (by decide) ?_
      refine lv_iload_n hx hb dX9_grantAll_25 rfl (lv_at hl 1 rfl) ?_
      refine lv_imul hx hb dX9_grantAll_26 ?_
      refine lv_iload_n hx hb dX9_grantAll_27 rfl (lv_at hl 3 rfl) ?_
      refine lv_iadd hx hb dX9_grantAll_28 ?_
      obtain ⟨r7, er7, h⟩ := mbind h
      refine mg_ald hx hb hK hI 8 rfl (by decide) er7 dX9_grantAll_29 ?_
      refine lv_iadd hx hb dX9_grantAll_30 ?_
      refine lv_istore_n (lv' := [(2, .int (x2 + r7)), (0, .ref (q 0)), (1, .int x1), (3, .int x3)]) hx hb dX9_grantAll_31 rfl hl (by decide) rfl (fun ls hl => ?_)
      refine lv_aload_n hx hb dX9_grantAll_32 rfl (lv_at hl 1 rfl) ?_
      refine lv_iload_n hx hb dX9_grantAll_33 rfl (lv_at hl 2 rfl) ?_
      refine lv_iload_n hx hb dX9_grantAll_34 rfl (lv_at hl 3 rfl) ?_
      obtain ⟨r9, u8, eu8, h⟩ := mb2_spec h
      refine mg_callV (As := [.int x1, .int x3]) (rest := []) ⟨hx, hb, hml, hown, hts⟩ (cM_firstOf l D cI cZ q eu8) (cwV 2 hts gX9_grantAll_X9_firstOf rfl rfl rfl (by decide +kernel) ⟨Nat.le_of_ble_eq_true rfl, Nat.le_of_ble_eq_true rfl⟩) hK hI rfl hl.1 rfl (Nat.le_of_ble_eq_true rfl) dX9_grantAll_35 ⟨Nat.le_refl _, Nat.le_refl _⟩ (fun H locs hI => ?_)
      refine lv_istore (lv' := [(4, .int r9), (2, .int (x2 + r7)), (0, .ref (q 0)), (1, .int x1), (3, .int x3)]) hx hb dX9_grantAll_38 hl (by decide) rfl (fun ls hl => ?_)
      exact w_M_grantAll_40 C hrec2 ih 4096 h hI (lv_sub hl [2, 3, 1, 4, 0] rfl)
def fM_grantAll_2 : Nat → MS → Int32 → Option MS
  | 0, _, _ => none
  | n + 1, u, x1 =>
    if (u 2 0) ≤ x1 then
      some u
    else
      fM_grantAll_14 (fM_grantAll_2 n) 4096 u x1 0 0
set_option maxRecDepth 20000 in
theorem w_M_grantAll_2 (C : mC p s m args meth c cX9_grantAll none wsX9_grantAll 5 D cI cZ) {uz : MS} : ∀ (n : Nat) {u : MS} {x1 : Int32} (h : fM_grantAll_2 n u x1 = some uz) {H : Heap} {locs : List Loc} {ls : Array Slot} (hI : mI D cI cZ q u s H locs) (hl : lv_has ls 5 [(0, .ref (q 0)), (1, .int x1)]), W p l e (mR 3 67) s m args below meth c H locs 0 0 (MQ below (mQv D cI cZ q uz) args s 0 0 (mF q)) (F0 m 2 ls []) := by
  obtain ⟨hx, hb, hr, hts, hown, hlocks, hml, hK⟩ := id C
  intro n
  induction n with
  | zero =>
    intro u x1 h
    cases (show (none : Option _) = _ from h)
  | succ n ih =>
    intro u x1 h H locs ls hI hl
    rw [fM_grantAll_2] at h
    refine lv_iload_n hx hb dX9_grantAll_2 rfl (lv_at hl 1 rfl) ?_
    refine lv_aload_n hx hb dX9_grantAll_3 rfl (lv_at hl 0 rfl) ?_
    refine mg_get hx hb hts iM_grantAll hown hK hI 2 (by decide) (hts (.fieldLink RX9 133 "PassageCourtModel" "lands" "I") (by decide +kernel)) rfl dX9_grantAll_4 ?_
    refine lv_icmp_ge (tgt := 82) hx hb dX9_grantAll_7 (by decide) (fun c10 => ?_) (fun c10 => ?_)
    · replace h := mpos c10 h
      cases h
      exact mg_retv hx hb hr hlocks hK hI dX9_grantAll_82
    · replace h := mneg c10 h
      refine lv_iconst (v := 0) hx hb dX9_grantAll_10 (by decide) ?_
      refine lv_istore_n (lv' := [(2, .int 0), (0, .ref (q 0)), (1, .int x1)]) hx hb dX9_grantAll_11 rfl hl (by decide) rfl (fun ls hl => ?_)
      refine lv_iconst (v := 0) hx hb dX9_grantAll_12 (by decide) ?_
      refine lv_istore_n (lv' := [(3, .int 0), (2, .int 0), (0, .ref (q 0)), (1, .int x1)]) hx hb dX9_grantAll_13 rfl hl (by decide) rfl (fun ls hl => ?_)
      exact w_M_grantAll_14 C ih 4096 h hI (lv_sub hl [2, 3, 1, 0] rfl)
def fM_grantAll (u : MS) : Option MS :=
  fM_grantAll_2 4096 u 0
set_option maxRecDepth 20000 in
theorem w_M_grantAll_0 (C : mC p s m args meth c cX9_grantAll none wsX9_grantAll 5 D cI cZ) {uz : MS} {u : MS} (h : fM_grantAll u = some uz) {H : Heap} {locs : List Loc} {ls : Array Slot} (hI : mI D cI cZ q u s H locs) (hl : lv_has ls 5 [(0, .ref (q 0))]) : W p l e (mR 3 67) s m args below meth c H locs 0 0 (MQ below (mQv D cI cZ q uz) args s 0 0 (mF q)) (F0 m 0 ls []) := by
  obtain ⟨hx, hb, hr, hts, hown, hlocks, hml, hK⟩ := id C
  unfold fM_grantAll at h
  refine lv_iconst (v := 0) hx hb dX9_grantAll_0 (by decide) ?_
  refine lv_istore_n (lv' := [(1, .int 0), (0, .ref (q 0))]) hx hb dX9_grantAll_1 rfl hl (by decide) rfl (fun ls hl => ?_)
  exact w_M_grantAll_2 C 4096 h hI (lv_sub hl [1, 0] rfl)
set_option maxRecDepth 20000 in
theorem cM_grantAll (l : Launch) (D : va_G) (cI cZ : ClassId) (q : Nat → Nat) {u uz : MS} (h : fM_grantAll u = some uz) : Met l yX9_grantAll wsX9_grantAll (mR 3 67) (va_Pc [.ref (q 0)] (mPre D cI cZ q u)) (mQv D cI cZ q uz) 0 0 (mF q) := by
  refine Met.ofW (cc := cX9_grantAll) (maxL := 5) (ret := none) (by decide) rfl ?_
  intro p e s m args below meth c s₁ B hml hv
  obtain ⟨rfl, hw, hK⟩ := hv
  have C : mC p s m _ meth c cX9_grantAll none wsX9_grantAll 5 D cI cZ := ⟨B.exec, B.bytes, B.returns, atoms_spec (ws := wsX9_grantAll) B.pre, findClass_of_methodNamed B.named, B.notSynchronized, hml, hK⟩
  have hl := lv_entry ([.ref (q 0)]) (n := 5) (Nat.le_of_ble_eq_true rfl)
  rw [lg_entry_eq]
  generalize (lg_sl ([.ref (q 0)]) ++ List.replicate (5 - (lg_sl ([.ref (q 0)])).length) Slot.unset).toArray = ls at hl ⊢
  have hl : lv_has ls 5 [(0, .ref (q 0))] := hl
  exact w_M_grantAll_0 C h ⟨hw, va_S.rf⟩ hl
theorem iM_goOn : ∀ w ∈ wsX90, w ∈ wsX9_goOn := by decide +kernel
def fM_goOn_122 (u : MS) : Option MS :=
  some u
set_option maxRecDepth 20000 in
theorem w_M_goOn_122 (C : mC p s m args meth c cX9_goOn none wsX9_goOn 3 D cI cZ) {uz : MS} {u : MS} (h : fM_goOn_122 u = some uz) {H : Heap} {locs : List Loc} {ls : Array Slot} (hI : mI D cI cZ q u s H locs) (hl : lv_has ls 3 [(0, .ref (q 0))]) : W p l e (mR 5 118) s m args below meth c H locs 0 0 (MQ below (mQv D cI cZ q uz) args s 0 0 (mF q)) (F0 m 122 ls []) := by
  obtain ⟨hx, hb, hr, hts, hown, hlocks, hml, hK⟩ := id C
  unfold fM_goOn_122 at h
  cases h
  exact mg_retv hx hb hr hlocks hK hI dX9_goOn_122
def fM_goOn_101 (rec77 : MS → Int32 → Option MS) (u : MS) (x1 : Int32) : Option MS :=
  rec77 u (x1 + 1)
set_option maxRecDepth 20000 in
theorem w_M_goOn_101 (C : mC p s m args meth c cX9_goOn none wsX9_goOn 3 D cI cZ) {uz : MS} {rec77 : MS → Int32 → Option MS} (hrec77 : ∀ {u : MS} {x1 : Int32} (_ : rec77 u x1 = some uz) {H : Heap} {locs : List Loc} {ls : Array Slot} (_ : mI D cI cZ q u s H locs) (_ : lv_has ls 3 [(0, .ref (q 0)), (1, .int x1)]), W p l e (mR 5 118) s m args below meth c H locs 0 0 (MQ below (mQv D cI cZ q uz) args s 0 0 (mF q)) (F0 m 77 ls [])) {u : MS} {x1 : Int32} (h : fM_goOn_101 rec77 u x1 = some uz) {H : Heap} {locs : List Loc} {ls : Array Slot} (hI : mI D cI cZ q u s H locs) (hl : lv_has ls 3 [(0, .ref (q 0)), (1, .int x1)]) : W p l e (mR 5 118) s m args below meth c H locs 0 0 (MQ below (mQv D cI cZ q uz) args s 0 0 (mF q)) (F0 m 101 ls []) := by
  obtain ⟨hx, hb, hr, hts, hown, hlocks, hml, hK⟩ := id C
  unfold fM_goOn_101 at h
  refine lv_iinc (v := x1 + 1) (lv' := [(1, .int (x1 + 1)), (0, .ref (q 0))]) hx hb dX9_goOn_101 hl (k := 1) rfl rfl (by decide) rfl (fun ls hl => ?_)
  refine lv_goto (tgt := 77) hx hb dX9_goOn_104 (by decide) ?_
  exact hrec77 h hI (lv_sub hl [1, 0] rfl)
def fM_goOn_77 : Nat → MS → Int32 → Option MS
  | 0, _, _ => none
  | n + 1, u, x1 =>
    if (u 13 0) ≤ x1 then
      if ((u 1 0) - (u 1 0) / 360 * 360) = 0 then
        (fM_grantAll u ).bind fun u3 =>
        fM_goOn_122 u3
      else
        fM_goOn_122 u
    else
      (mld u 18 x1).bind fun r4 =>
      if r4 = ((-1)) then
        fM_goOn_101 (fM_goOn_77 n) u x1
      else
        mb2 (fM_look u x1) fun r7 u6 =>
        fM_goOn_101 (fM_goOn_77 n) u6 x1
set_option maxRecDepth 20000 in
theorem w_M_goOn_77 (C : mC p s m args meth c cX9_goOn none wsX9_goOn 3 D cI cZ) {uz : MS} : ∀ (n : Nat) {u : MS} {x1 : Int32} (h : fM_goOn_77 n u x1 = some uz) {H : Heap} {locs : List Loc} {ls : Array Slot} (hI : mI D cI cZ q u s H locs) (hl : lv_has ls 3 [(0, .ref (q 0)), (1, .int x1)]), W p l e (mR 5 118) s m args below meth c H locs 0 0 (MQ below (mQv D cI cZ q uz) args s 0 0 (mF q)) (F0 m 77 ls []) := by
  obtain ⟨hx, hb, hr, hts, hown, hlocks, hml, hK⟩ := id C
  intro n
  induction n with
  | zero =>
    intro u x1 h
    cases (show (none : Option _) = _ from h)
  | succ n ih =>
    intro u x1 h H locs ls hI hl
    rw [fM_goOn_77] at h
    refine lv_iload_n hx hb dX9_goOn_77 rfl (lv_at hl 1 rfl) ?_
    refine lv_aload_n hx hb dX9_goOn_78 rfl (lv_at hl 0 rfl) ?_
    refine mg_get hx hb hts iM_goOn hown hK hI 13 (by decide) (hts (.fieldLink RX9 140 "PassageCourtModel" "persons" "I") (by decide +kernel)) rfl dX9_goOn_79 ?_
    refine lv_icmp_ge (tgt := 107) hx hb dX9_goOn_82 (by decide) (fun c1 => ?_) (fun c1 => ?_)
    · replace h := mpos c1 h
      refine lv_aload_n hx hb dX9_goOn_107 rfl (lv_at hl 0 rfl) ?_
      refine mg_get hx hb hts iM_goOn hown hK hI 1 (by decide) (hts (.fieldLink RX9 153 "PassageCourtModel" "today" "I") (by decide +kernel)) rfl dX9_goOn_108 ?_
      refine lv_sipush (v := 360) hx hb dX9_goOn_111 (by decide) ?_
      refine lv_irem hx hb dX9_goOn_114 (by decide) ?_
      refine lv_if_ne (tgt := 122) hx hb dX9_goOn_115 (by decide) (fun c2 => ?_) (fun c2 => ?_)
      · replace h := mneg c2 h
        exact w_M_goOn_122 C h hI (lv_sub hl [0] rfl)
      · replace h := mpos c2 h
        refine lv_aload_n hx hb dX9_goOn_118 rfl (lv_at hl 0 rfl) ?_
        obtain ⟨u3, eu3, h⟩ := mbind h
        refine mg_callVv (As := []) (rest := []) ⟨hx, hb, hml, hown, hts⟩ (cM_grantAll l D cI cZ q eu3) (cwV 0 hts gX9_goOn_X9_grantAll rfl rfl rfl (by decide +kernel) ⟨Nat.le_of_ble_eq_true rfl, Nat.le_of_ble_eq_true rfl⟩) hK hI rfl hl.1 rfl (Nat.le_of_ble_eq_true rfl) dX9_goOn_119 ⟨Nat.le_refl _, Nat.le_refl _⟩ (fun H locs hI => ?_)
        exact w_M_goOn_122 C h hI (lv_sub hl [0] rfl)
    · replace h := mneg c1 h
      refine lv_aload_n hx hb dX9_goOn_85 rfl (lv_at hl 0 rfl) ?_
      refine mg_get hx hb hts iM_goOn hown hK hI 18 (by decide) (hts (.fieldLink RX9 54 "PassageCourtModel" "where" "[I") (by decide +kernel)) rfl dX9_goOn_86 ?_
      refine lv_iload_n hx hb dX9_goOn_89 rfl (lv_at hl 1 rfl) ?_
      obtain ⟨r4, er4, h⟩ := mbind h
      refine mg_ald hx hb hK hI 18 rfl (by decide) er4 dX9_goOn_90 ?_
      refine lv_iconst (v := -1) hx hb dX9_goOn_91 (by decide) ?_
      refine lv_icmp_eq (tgt := 101) hx hb dX9_goOn_92 (by decide) (fun c5 => ?_) (fun c5 => ?_)
      · replace h := mpos c5 h
        exact w_M_goOn_101 C ih h hI (lv_sub hl [0, 1] rfl)
      · replace h := mneg c5 h
        refine lv_aload_n hx hb dX9_goOn_95 rfl (lv_at hl 0 rfl) ?_
        refine lv_iload_n hx hb dX9_goOn_96 rfl (lv_at hl 1 rfl) ?_
        obtain ⟨r7, u6, eu6, h⟩ := mb2_spec h
        refine mg_callV (As := [.int x1]) (rest := []) ⟨hx, hb, hml, hown, hts⟩ (cM_look l D cI cZ q eu6) (cwV 1 hts gX9_goOn_X9_look rfl rfl rfl (by decide +kernel) ⟨Nat.le_of_ble_eq_true rfl, Nat.le_of_ble_eq_true rfl⟩) hK hI rfl hl.1 rfl (Nat.le_of_ble_eq_true rfl) dX9_goOn_97 ⟨Nat.le_refl _, Nat.le_refl _⟩ (fun H locs hI => ?_)
        refine lv_istore_n (lv' := [(2, .int r7), (0, .ref (q 0)), (1, .int x1)]) hx hb dX9_goOn_100 rfl hl (by decide) rfl (fun ls hl => ?_)
        exact w_M_goOn_101 C ih h hI (lv_sub hl [1, 2] rfl)
def fM_goOn_68 (rec12 : MS → Int32 → Option MS) (u : MS) (x1 y0 y1 : Int32) : Option MS :=
  (mst u 41 y1 y0).bind fun u8 =>
  rec12 u8 (x1 + 1)
set_option maxRecDepth 20000 in
theorem w_M_goOn_68 (C : mC p s m args meth c cX9_goOn none wsX9_goOn 3 D cI cZ) {uz : MS} {rec12 : MS → Int32 → Option MS} (hrec12 : ∀ {u : MS} {x1 : Int32} (_ : rec12 u x1 = some uz) {H : Heap} {locs : List Loc} {ls : Array Slot} (_ : mI D cI cZ q u s H locs) (_ : lv_has ls 3 [(0, .ref (q 0)), (1, .int x1)]), W p l e (mR 5 118) s m args below meth c H locs 0 0 (MQ below (mQv D cI cZ q uz) args s 0 0 (mF q)) (F0 m 12 ls [])) {u : MS} {x1 y0 y1 : Int32} (h : fM_goOn_68 rec12 u x1 y0 y1 = some uz) {H : Heap} {locs : List Loc} {ls : Array Slot} (hI : mI D cI cZ q u s H locs) (hl : lv_has ls 3 [(0, .ref (q 0)), (1, .int x1)]) : W p l e (mR 5 118) s m args below meth c H locs 0 0 (MQ below (mQv D cI cZ q uz) args s 0 0 (mF q)) (F0 m 68 ls [.int y0, .int y1, .ref (q 41)]) := by
  obtain ⟨hx, hb, hr, hts, hown, hlocks, hml, hK⟩ := id C
  unfold fM_goOn_68 at h
  obtain ⟨u8, eu8, h⟩ := mbind h
  refine mg_ast hx hb hK hI 41 rfl (by decide) eu8 dX9_goOn_68 (fun H locs hI => ?_)
  refine lv_iinc (v := x1 + 1) (lv' := [(1, .int (x1 + 1)), (0, .ref (q 0))]) hx hb dX9_goOn_69 hl (k := 1) rfl rfl (by decide) rfl (fun ls hl => ?_)
  refine lv_goto (tgt := 12) hx hb dX9_goOn_72 (by decide) ?_
  exact hrec12 h hI (lv_sub hl [1, 0] rfl)
def fM_goOn_62 (rec12 : MS → Int32 → Option MS) (u : MS) (x1 y0 : Int32) : Option MS :=
  (mld u 41 x1).bind fun r9 =>
  fM_goOn_68 rec12 u x1 r9 y0
set_option maxRecDepth 20000 in
theorem w_M_goOn_62 (C : mC p s m args meth c cX9_goOn none wsX9_goOn 3 D cI cZ) {uz : MS} {rec12 : MS → Int32 → Option MS} (hrec12 : ∀ {u : MS} {x1 : Int32} (_ : rec12 u x1 = some uz) {H : Heap} {locs : List Loc} {ls : Array Slot} (_ : mI D cI cZ q u s H locs) (_ : lv_has ls 3 [(0, .ref (q 0)), (1, .int x1)]), W p l e (mR 5 118) s m args below meth c H locs 0 0 (MQ below (mQv D cI cZ q uz) args s 0 0 (mF q)) (F0 m 12 ls [])) {u : MS} {x1 y0 : Int32} (h : fM_goOn_62 rec12 u x1 y0 = some uz) {H : Heap} {locs : List Loc} {ls : Array Slot} (hI : mI D cI cZ q u s H locs) (hl : lv_has ls 3 [(0, .ref (q 0)), (1, .int x1)]) : W p l e (mR 5 118) s m args below meth c H locs 0 0 (MQ below (mQv D cI cZ q uz) args s 0 0 (mF q)) (F0 m 62 ls [.int y0, .ref (q 41)]) := by
  obtain ⟨hx, hb, hr, hts, hown, hlocks, hml, hK⟩ := id C
  unfold fM_goOn_62 at h
  refine lv_aload_n hx hb dX9_goOn_62 rfl (lv_at hl 0 rfl) ?_
  refine mg_get hx hb hts iM_goOn hown hK hI 41 (by decide) (hts (.fieldLink RX9 118 "PassageCourtModel" "state" "[I") (by decide +kernel)) rfl dX9_goOn_63 ?_
  refine lv_iload_n hx hb dX9_goOn_66 rfl (lv_at hl 1 rfl) ?_
  obtain ⟨r9, er9, h⟩ := mbind h
  refine mg_ald hx hb hK hI 41 rfl (by decide) er9 dX9_goOn_67 ?_
  exact w_M_goOn_68 C hrec12 h hI (lv_sub hl [0, 1] rfl)
def fM_goOn_45 (rec12 : MS → Int32 → Option MS) (u : MS) (x1 y0 : Int32) : Option MS :=
  (mld u 42 x1).bind fun r10 =>
  if (u 1 0) ≤ r10 then
    fM_goOn_62 rec12 u x1 y0
  else
    fM_goOn_68 rec12 u x1 4 y0
set_option maxRecDepth 20000 in
theorem w_M_goOn_45 (C : mC p s m args meth c cX9_goOn none wsX9_goOn 3 D cI cZ) {uz : MS} {rec12 : MS → Int32 → Option MS} (hrec12 : ∀ {u : MS} {x1 : Int32} (_ : rec12 u x1 = some uz) {H : Heap} {locs : List Loc} {ls : Array Slot} (_ : mI D cI cZ q u s H locs) (_ : lv_has ls 3 [(0, .ref (q 0)), (1, .int x1)]), W p l e (mR 5 118) s m args below meth c H locs 0 0 (MQ below (mQv D cI cZ q uz) args s 0 0 (mF q)) (F0 m 12 ls [])) {u : MS} {x1 y0 : Int32} (h : fM_goOn_45 rec12 u x1 y0 = some uz) {H : Heap} {locs : List Loc} {ls : Array Slot} (hI : mI D cI cZ q u s H locs) (hl : lv_has ls 3 [(0, .ref (q 0)), (1, .int x1)]) : W p l e (mR 5 118) s m args below meth c H locs 0 0 (MQ below (mQv D cI cZ q uz) args s 0 0 (mF q)) (F0 m 45 ls [.int y0, .ref (q 41)]) := by
  obtain ⟨hx, hb, hr, hts, hown, hlocks, hml, hK⟩ := id C
  unfold fM_goOn_45 at h
  refine lv_aload_n hx hb dX9_goOn_45 rfl (lv_at hl 0 rfl) ?_
  refine mg_get hx hb hts iM_goOn hown hK hI 1 (by decide) (hts (.fieldLink RX9 153 "PassageCourtModel" "today" "I") (by decide +kernel)) rfl dX9_goOn_46 ?_
  refine lv_aload_n hx hb dX9_goOn_49 rfl (lv_at hl 0 rfl) ?_
  refine mg_get hx hb hts iM_goOn hown hK hI 42 (by decide) (hts (.fieldLink RX9 121 "PassageCourtModel" "until" "[I") (by decide +kernel)) rfl dX9_goOn_50 ?_
  refine lv_iload_n hx hb dX9_goOn_53 rfl (lv_at hl 1 rfl) ?_
  obtain ⟨r10, er10, h⟩ := mbind h
  refine mg_ald hx hb hK hI 42 rfl (by decide) er10 dX9_goOn_54 ?_
  refine lv_icmp_le (tgt := 62) hx hb dX9_goOn_55 (by decide) (fun c11 => ?_) (fun c11 => ?_)
  · replace h := mpos c11 h
    exact w_M_goOn_62 C hrec12 h hI (lv_sub hl [0, 1] rfl)
  · replace h := mneg c11 h
    refine lv_iconst (v := 4) hx hb dX9_goOn_58 (by decide) ?_
    refine lv_goto (tgt := 68) hx hb dX9_goOn_59 (by decide) ?_
    exact w_M_goOn_68 C hrec12 h hI (lv_sub hl [0, 1] rfl)
def fM_goOn_12 : Nat → MS → Int32 → Option MS
  | 0, _, _ => none
  | n + 1, u, x1 =>
    if (u 36 0) ≤ x1 then
      fM_goOn_77 4096 u 0
    else
      (mld u 41 x1).bind fun r13 =>
      if r13 = 2 then
        fM_goOn_45 (fM_goOn_12 n) u x1 x1
      else
        (mld u 41 x1).bind fun r15 =>
        if r15 = 3 then
          fM_goOn_45 (fM_goOn_12 n) u x1 x1
        else
          fM_goOn_62 (fM_goOn_12 n) u x1 x1
set_option maxRecDepth 20000 in
theorem w_M_goOn_12 (C : mC p s m args meth c cX9_goOn none wsX9_goOn 3 D cI cZ) {uz : MS} : ∀ (n : Nat) {u : MS} {x1 : Int32} (h : fM_goOn_12 n u x1 = some uz) {H : Heap} {locs : List Loc} {ls : Array Slot} (hI : mI D cI cZ q u s H locs) (hl : lv_has ls 3 [(0, .ref (q 0)), (1, .int x1)]), W p l e (mR 5 118) s m args below meth c H locs 0 0 (MQ below (mQv D cI cZ q uz) args s 0 0 (mF q)) (F0 m 12 ls []) := by
  obtain ⟨hx, hb, hr, hts, hown, hlocks, hml, hK⟩ := id C
  intro n
  induction n with
  | zero =>
    intro u x1 h
    cases (show (none : Option _) = _ from h)
  | succ n ih =>
    intro u x1 h H locs ls hI hl
    rw [fM_goOn_12] at h
    refine lv_iload_n hx hb dX9_goOn_12 rfl (lv_at hl 1 rfl) ?_
    refine lv_aload_n hx hb dX9_goOn_13 rfl (lv_at hl 0 rfl) ?_
    refine mg_get hx hb hts iM_goOn hown hK hI 36 (by decide) (hts (.fieldLink RX9 143 "PassageCourtModel" "requests" "I") (by decide +kernel)) rfl dX9_goOn_14 ?_
    refine lv_icmp_ge (tgt := 75) hx hb dX9_goOn_17 (by decide) (fun c12 => ?_) (fun c12 => ?_)
    · replace h := mpos c12 h
      refine lv_iconst (v := 0) hx hb dX9_goOn_75 (by decide) ?_
      refine lv_istore_n (lv' := [(1, .int 0), (0, .ref (q 0))]) hx hb dX9_goOn_76 rfl hl (by decide) rfl (fun ls hl => ?_)
      exact w_M_goOn_77 C 4096 h hI (lv_sub hl [1, 0] rfl)
    · replace h := mneg c12 h
      refine lv_aload_n hx hb dX9_goOn_20 rfl (lv_at hl 0 rfl) ?_
      refine mg_get hx hb hts iM_goOn hown hK hI 41 (by decide) (hts (.fieldLink RX9 118 "PassageCourtModel" "state" "[I") (by decide +kernel)) rfl dX9_goOn_21 ?_
      refine lv_iload_n hx hb dX9_goOn_24 rfl (lv_at hl 1 rfl) ?_
      refine lv_aload_n hx hb dX9_goOn_25 rfl (lv_at hl 0 rfl) ?_
      refine mg_get hx hb hts iM_goOn hown hK hI 41 (by decide) (hts (.fieldLink RX9 118 "PassageCourtModel" "state" "[I") (by decide +kernel)) rfl dX9_goOn_26 ?_
      refine lv_iload_n hx hb dX9_goOn_29 rfl (lv_at hl 1 rfl) ?_
      obtain ⟨r13, er13, h⟩ := mbind h
      refine mg_ald hx hb hK hI 41 rfl (by decide) er13 dX9_goOn_30 ?_
      refine lv_iconst (v := 2) hx hb dX9_goOn_31 (by decide) ?_
      refine lv_icmp_eq (tgt := 45) hx hb dX9_goOn_32 (by decide) (fun c14 => ?_) (fun c14 => ?_)
      · replace h := mpos c14 h
        exact w_M_goOn_45 C ih h hI (lv_sub hl [0, 1] rfl)
      · replace h := mneg c14 h
        refine lv_aload_n hx hb dX9_goOn_35 rfl (lv_at hl 0 rfl) ?_
        refine mg_get hx hb hts iM_goOn hown hK hI 41 (by decide) (hts (.fieldLink RX9 118 "PassageCourtModel" "state" "[I") (by decide +kernel)) rfl dX9_goOn_36 ?_
        refine lv_iload_n hx hb dX9_goOn_39 rfl (lv_at hl 1 rfl) ?_
        obtain ⟨r15, er15, h⟩ := mbind h
        refine mg_ald hx hb hK hI 41 rfl (by decide) er15 dX9_goOn_40 ?_
        refine lv_iconst (v := 3) hx hb dX9_goOn_41 (by decide) ?_
        refine lv_icmp_ne (tgt := 62) hx hb dX9_goOn_42 (by decide) (fun c16 => ?_) (fun c16 => ?_)
        · replace h := mneg c16 h
          exact w_M_goOn_62 C ih h hI (lv_sub hl [0, 1] rfl)
        · replace h := mpos c16 h
          exact w_M_goOn_45 C ih h hI (lv_sub hl [0, 1] rfl)
def fM_goOn (u : MS) : Option MS :=
  (some (mup u 1 0 ((u 1 0) + 1))).bind fun u17 =>
  fM_goOn_12 4096 u17 0
set_option maxRecDepth 20000 in
theorem w_M_goOn_0 (C : mC p s m args meth c cX9_goOn none wsX9_goOn 3 D cI cZ) {uz : MS} {u : MS} (h : fM_goOn u = some uz) {H : Heap} {locs : List Loc} {ls : Array Slot} (hI : mI D cI cZ q u s H locs) (hl : lv_has ls 3 [(0, .ref (q 0))]) : W p l e (mR 5 118) s m args below meth c H locs 0 0 (MQ below (mQv D cI cZ q uz) args s 0 0 (mF q)) (F0 m 0 ls []) := by
  obtain ⟨hx, hb, hr, hts, hown, hlocks, hml, hK⟩ := id C
  unfold fM_goOn at h
  refine lv_aload_n hx hb dX9_goOn_0 rfl (lv_at hl 0 rfl) ?_
  refine lv_dup hx hb dX9_goOn_1 rfl ?_
  refine mg_get hx hb hts iM_goOn hown hK hI 1 (by decide) (hts (.fieldLink RX9 153 "PassageCourtModel" "today" "I") (by decide +kernel)) rfl dX9_goOn_2 ?_
  refine lv_iconst (v := 1) hx hb dX9_goOn_5 (by decide) ?_
  refine lv_iadd hx hb dX9_goOn_6 ?_
  obtain ⟨u17, eu17, h⟩ := mbind h
  refine mg_put hx hb hts iM_goOn hown hK hI 1 (by decide) (hts (.fieldLink RX9 153 "PassageCourtModel" "today" "I") (by decide +kernel)) rfl (by decide +kernel) rfl rfl dX9_goOn_7 (fun H locs hI => ?_)
  have eu17 := Option.some.inj eu17
  rw [eu17] at hI
  refine lv_iconst (v := 0) hx hb dX9_goOn_10 (by decide) ?_
  refine lv_istore_n (lv' := [(1, .int 0), (0, .ref (q 0))]) hx hb dX9_goOn_11 rfl hl (by decide) rfl (fun ls hl => ?_)
  exact w_M_goOn_12 C 4096 h hI (lv_sub hl [1, 0] rfl)
set_option maxRecDepth 20000 in
theorem cM_goOn (l : Launch) (D : va_G) (cI cZ : ClassId) (q : Nat → Nat) {u uz : MS} (h : fM_goOn u = some uz) : Met l yX9_goOn wsX9_goOn (mR 5 118) (va_Pc [.ref (q 0)] (mPre D cI cZ q u)) (mQv D cI cZ q uz) 0 0 (mF q) := by
  refine Met.ofW (cc := cX9_goOn) (maxL := 3) (ret := none) (by decide) rfl ?_
  intro p e s m args below meth c s₁ B hml hv
  obtain ⟨rfl, hw, hK⟩ := hv
  have C : mC p s m _ meth c cX9_goOn none wsX9_goOn 3 D cI cZ := ⟨B.exec, B.bytes, B.returns, atoms_spec (ws := wsX9_goOn) B.pre, findClass_of_methodNamed B.named, B.notSynchronized, hml, hK⟩
  have hl := lv_entry ([.ref (q 0)]) (n := 3) (Nat.le_of_ble_eq_true rfl)
  rw [lg_entry_eq]
  generalize (lg_sl ([.ref (q 0)]) ++ List.replicate (3 - (lg_sl ([.ref (q 0)])).length) Slot.unset).toArray = ls at hl ⊢
  have hl : lv_has ls 3 [(0, .ref (q 0))] := hl
  exact w_M_goOn_0 C h ⟨hw, va_S.rf⟩ hl
theorem iM_pass : ∀ w ∈ wsX90, w ∈ wsX9_pass := by decide +kernel
def fM_pass_44 : Nat → MS → Int32 → Int32 → Option (Int32 × MS)
  | 0, _, _, _ => none
  | n + 1, u, x1, x3 =>
    if x1 ≤ x3 then
      some (u 1 0, u)
    else
      (fM_goOn u ).bind fun u2 =>
      fM_pass_44 n u2 x1 (x3 + 1)
set_option maxRecDepth 20000 in
theorem w_M_pass_44 (C : mC p s m args meth c cX9_pass (some .int) wsX9_pass 4 D cI cZ) {uz : MS} {rz : Int32} : ∀ (n : Nat) {u : MS} {x1 x3 : Int32} (h : fM_pass_44 n u x1 x3 = some (rz, uz)) {H : Heap} {locs : List Loc} {ls : Array Slot} (hI : mI D cI cZ q u s H locs) (hl : lv_has ls 4 [(0, .ref (q 0)), (1, .int x1), (3, .int x3)]), W p l e (mR 6 140) s m args below meth c H locs 0 0 (MQ below (mQ D cI cZ q rz uz) args s 0 0 (mF q)) (F0 m 44 ls []) := by
  obtain ⟨hx, hb, hr, hts, hown, hlocks, hml, hK⟩ := id C
  intro n
  induction n with
  | zero =>
    intro u x1 x3 h
    cases (show (none : Option _) = _ from h)
  | succ n ih =>
    intro u x1 x3 h H locs ls hI hl
    rw [fM_pass_44] at h
    refine lv_iload_n hx hb dX9_pass_44 rfl (lv_at hl 2 rfl) ?_
    refine lv_iload_n hx hb dX9_pass_45 rfl (lv_at hl 1 rfl) ?_
    refine lv_icmp_ge (tgt := 59) hx hb dX9_pass_46 (by decide) (fun c1 => ?_) (fun c1 => ?_)
    · replace h := mpos c1 h
      refine lv_aload_n hx hb dX9_pass_59 rfl (lv_at hl 0 rfl) ?_
      refine mg_get hx hb hts iM_pass hown hK hI 1 (by decide) (hts (.fieldLink RX9 153 "PassageCourtModel" "today" "I") (by decide +kernel)) rfl dX9_pass_60 ?_
      cases h
      exact mg_reti hx hb hr hlocks hK hI dX9_pass_63
    · replace h := mneg c1 h
      refine lv_aload_n hx hb dX9_pass_49 rfl (lv_at hl 0 rfl) ?_
      obtain ⟨u2, eu2, h⟩ := mbind h
      refine mg_callVv (As := []) (rest := []) ⟨hx, hb, hml, hown, hts⟩ (cM_goOn l D cI cZ q eu2) (cwV 0 hts gX9_pass_X9_goOn rfl rfl rfl (by decide +kernel) ⟨Nat.le_of_ble_eq_true rfl, Nat.le_of_ble_eq_true rfl⟩) hK hI rfl hl.1 rfl (Nat.le_of_ble_eq_true rfl) dX9_pass_50 ⟨Nat.le_refl _, Nat.le_refl _⟩ (fun H locs hI => ?_)
      refine lv_iinc (v := x3 + 1) (lv' := [(3, .int (x3 + 1)), (0, .ref (q 0)), (1, .int x1)]) hx hb dX9_pass_53 hl (k := 2) rfl rfl (by decide) rfl (fun ls hl => ?_)
      refine lv_goto (tgt := 44) hx hb dX9_pass_56 (by decide) ?_
      exact ih h hI (lv_sub hl [1, 2, 0] rfl)
def fM_pass_34 (u : MS) (x1 y0 : Int32) : Option (Int32 × MS) :=
  mb2 (fM_goesWell u y0) fun r4 u3 =>
  if r4 = 0 then
    some (0, u3)
  else
    fM_pass_44 4096 u3 x1 0
set_option maxRecDepth 20000 in
theorem w_M_pass_34 (C : mC p s m args meth c cX9_pass (some .int) wsX9_pass 4 D cI cZ) {uz : MS} {rz : Int32} {u : MS} {x1 y0 : Int32} (h : fM_pass_34 u x1 y0 = some (rz, uz)) {H : Heap} {locs : List Loc} {ls : Array Slot} (hI : mI D cI cZ q u s H locs) (hl : lv_has ls 4 [(0, .ref (q 0)), (1, .int x1)]) : W p l e (mR 6 140) s m args below meth c H locs 0 0 (MQ below (mQ D cI cZ q rz uz) args s 0 0 (mF q)) (F0 m 34 ls [.int y0, .ref (q 0)]) := by
  obtain ⟨hx, hb, hr, hts, hown, hlocks, hml, hK⟩ := id C
  unfold fM_pass_34 at h
  obtain ⟨r4, u3, eu3, h⟩ := mb2_spec h
  refine mg_callV (As := [.int y0]) (rest := []) ⟨hx, hb, hml, hown, hts⟩ (cM_goesWell l D cI cZ q eu3) (cwV 1 hts gX9_pass_X9_goesWell rfl rfl rfl (by decide +kernel) ⟨Nat.le_of_ble_eq_true rfl, Nat.le_of_ble_eq_true rfl⟩) hK hI rfl hl.1 rfl (Nat.le_of_ble_eq_true rfl) dX9_pass_34 ⟨Nat.le_refl _, Nat.le_refl _⟩ (fun H locs hI => ?_)
  refine lv_if_ne (tgt := 42) hx hb dX9_pass_37 (by decide) (fun c5 => ?_) (fun c5 => ?_)
  · replace h := mneg c5 h
    refine lv_iconst (v := 0) hx hb dX9_pass_42 (by decide) ?_
    refine lv_istore_n (lv' := [(3, .int 0), (0, .ref (q 0)), (1, .int x1)]) hx hb dX9_pass_43 rfl hl (by decide) rfl (fun ls hl => ?_)
    exact w_M_pass_44 C 4096 h hI (lv_sub hl [1, 2, 0] rfl)
  · replace h := mpos c5 h
    refine lv_iconst (v := 0) hx hb dX9_pass_40 (by decide) ?_
    cases h
    exact mg_reti hx hb hr hlocks hK hI dX9_pass_41
def fM_pass (u : MS) (x1 : Int32) : Option (Int32 × MS) :=
  mb2 (fM_in u x1 1 100) fun r7 u6 =>
  if r7 = 0 then
    fM_pass_34 u6 x1 1
  else
    if ((u6 1 0) + x1) ≤ 3600 then
      fM_pass_34 u6 x1 0
    else
      fM_pass_34 u6 x1 2
set_option maxRecDepth 20000 in
theorem w_M_pass_0 (C : mC p s m args meth c cX9_pass (some .int) wsX9_pass 4 D cI cZ) {uz : MS} {rz : Int32} {u : MS} {x1 : Int32} (h : fM_pass u x1 = some (rz, uz)) {H : Heap} {locs : List Loc} {ls : Array Slot} (hI : mI D cI cZ q u s H locs) (hl : lv_has ls 4 [(0, .ref (q 0)), (1, .int x1)]) : W p l e (mR 6 140) s m args below meth c H locs 0 0 (MQ below (mQ D cI cZ q rz uz) args s 0 0 (mF q)) (F0 m 0 ls []) := by
  obtain ⟨hx, hb, hr, hts, hown, hlocks, hml, hK⟩ := id C
  unfold fM_pass at h
  refine lv_iload_n hx hb dX9_pass_0 rfl (lv_at hl 1 rfl) ?_
  refine lv_iconst (v := 1) hx hb dX9_pass_1 (by decide) ?_
  refine lv_bipush (v := 100) hx hb dX9_pass_2 (by decide) ?_
  obtain ⟨r7, u6, eu6, h⟩ := mb2_spec h
  refine mg_callS (As := [.int x1, .int 1, .int 100]) (rest := []) ⟨hx, hb, hml, hown, hts⟩ (cM_in l D cI cZ q eu6) (va_cwS 3 hts gX9_pass_X9_in rfl rfl rfl (by decide +kernel) ⟨Nat.le_of_ble_eq_true rfl, Nat.le_of_ble_eq_true rfl⟩) hK hI rfl hl.1 rfl (Nat.le_of_ble_eq_true rfl) dX9_pass_4 ⟨Nat.le_refl _, Nat.le_refl _⟩ (fun H locs hI => ?_)
  refine lv_istore_n (lv' := [(2, .int r7), (0, .ref (q 0)), (1, .int x1)]) hx hb dX9_pass_7 rfl hl (by decide) rfl (fun ls hl => ?_)
  refine lv_aload_n hx hb dX9_pass_8 rfl (lv_at hl 1 rfl) ?_
  refine lv_iload_n hx hb dX9_pass_9 rfl (lv_at hl 0 rfl) ?_
  refine lv_if_ne (tgt := 17) hx hb dX9_pass_10 (by decide) (fun c8 => ?_) (fun c8 => ?_)
  · replace h := mneg c8 h
    refine lv_aload_n hx hb dX9_pass_17 rfl (lv_at hl 1 rfl) ?_
    refine mg_get hx hb hts iM_pass hown hK hI 1 (by decide) (hts (.fieldLink RX9 153 "PassageCourtModel" "today" "I") (by decide +kernel)) rfl dX9_pass_18 ?_
    refine lv_iload_n hx hb dX9_pass_21 rfl (lv_at hl 2 rfl) ?_
    refine lv_iadd hx hb dX9_pass_22 ?_
    refine lv_sipush (v := 3600) hx hb dX9_pass_23 (by decide) ?_
    refine lv_icmp_le (tgt := 33) hx hb dX9_pass_26 (by decide) (fun c9 => ?_) (fun c9 => ?_)
    · replace h := mpos c9 h
      refine lv_iconst (v := 0) hx hb dX9_pass_33 (by decide) ?_
      exact w_M_pass_34 C h hI (lv_sub hl [1, 2] rfl)
    · replace h := mneg c9 h
      refine lv_iconst (v := 2) hx hb dX9_pass_29 (by decide) ?_
      refine lv_goto (tgt := 34) hx hb dX9_pass_30 (by decide) ?_
      exact w_M_pass_34 C h hI (lv_sub hl [1, 2] rfl)
  · replace h := mpos c8 h
    refine lv_iconst (v := 1) hx hb dX9_pass_13 (by decide) ?_
    refine lv_goto (tgt := 34) hx hb dX9_pass_14 (by decide) ?_
    exact w_M_pass_34 C h hI (lv_sub hl [1, 2] rfl)
set_option maxRecDepth 20000 in
theorem cM_pass (l : Launch) (D : va_G) (cI cZ : ClassId) (q : Nat → Nat) {u uz : MS} {rz : Int32} {x1 : Int32} (h : fM_pass u x1 = some (rz, uz)) : Met l yX9_pass wsX9_pass (mR 6 140) (va_Pc [.ref (q 0), .int x1] (mPre D cI cZ q u)) (mQ D cI cZ q rz uz) 0 0 (mF q) := by
  refine Met.ofW (cc := cX9_pass) (maxL := 4) (ret := (some .int)) (by decide) rfl ?_
  intro p e s m args below meth c s₁ B hml hv
  obtain ⟨rfl, hw, hK⟩ := hv
  have C : mC p s m _ meth c cX9_pass (some .int) wsX9_pass 4 D cI cZ := ⟨B.exec, B.bytes, B.returns, atoms_spec (ws := wsX9_pass) B.pre, findClass_of_methodNamed B.named, B.notSynchronized, hml, hK⟩
  have hl := lv_entry ([.ref (q 0), .int x1]) (n := 4) (Nat.le_of_ble_eq_true rfl)
  rw [lg_entry_eq]
  generalize (lg_sl ([.ref (q 0), .int x1]) ++ List.replicate (4 - (lg_sl ([.ref (q 0), .int x1])).length) Slot.unset).toArray = ls at hl ⊢
  have hl : lv_has ls 4 [(0, .ref (q 0)), (1, .int x1)] := hl
  exact w_M_pass_0 C h ⟨hw, va_S.rf⟩ hl
theorem iM_status : ∀ w ∈ wsX90, w ∈ wsX9_status := by decide +kernel
def fM_status_52 (u : MS) (y0 : Int32) : Option (Int32 × MS) :=
  some (y0, u)
set_option maxRecDepth 20000 in
theorem w_M_status_52 (C : mC p s m args meth c cX9_status (some .int) wsX9_status 2 D cI cZ) {uz : MS} {rz : Int32} {u : MS} {y0 : Int32} (h : fM_status_52 u y0 = some (rz, uz)) {H : Heap} {locs : List Loc} {ls : Array Slot} (hI : mI D cI cZ q u s H locs) (hl : lv_has ls 2 [(0, .ref (q 0))]) : W p l e (mR 2 43) s m args below meth c H locs 0 0 (MQ below (mQ D cI cZ q rz uz) args s 0 0 (mF q)) (F0 m 52 ls [.int y0]) := by
  obtain ⟨hx, hb, hr, hts, hown, hlocks, hml, hK⟩ := id C
  unfold fM_status_52 at h
  cases h
  exact mg_reti hx hb hr hlocks hK hI dX9_status_52
def fM_status_51 (u : MS) : Option (Int32 × MS) :=
  fM_status_52 u 0
set_option maxRecDepth 20000 in
theorem w_M_status_51 (C : mC p s m args meth c cX9_status (some .int) wsX9_status 2 D cI cZ) {uz : MS} {rz : Int32} {u : MS} (h : fM_status_51 u = some (rz, uz)) {H : Heap} {locs : List Loc} {ls : Array Slot} (hI : mI D cI cZ q u s H locs) (hl : lv_has ls 2 [(0, .ref (q 0))]) : W p l e (mR 2 43) s m args below meth c H locs 0 0 (MQ below (mQ D cI cZ q rz uz) args s 0 0 (mF q)) (F0 m 51 ls []) := by
  obtain ⟨hx, hb, hr, hts, hown, hlocks, hml, hK⟩ := id C
  unfold fM_status_51 at h
  refine lv_iconst (v := 0) hx hb dX9_status_51 (by decide) ?_
  exact w_M_status_52 C h hI (lv_sub hl [0] rfl)
def fM_status_14 (u : MS) (x1 y0 : Int32) : Option (Int32 × MS) :=
  mb2 (fM_goesWell u y0) fun r2 u1 =>
  if r2 = 0 then
    fM_status_51 u1
  else
    (mld u1 18 x1).bind fun r4 =>
    if r4 = ((-1)) then
      fM_status_51 u1
    else
      (mld u1 22 ((3601 * x1) + (u1 1 0))).bind fun r6 =>
      fM_status_52 u1 (r6 - r6 / 10 * 10)
set_option maxRecDepth 20000 in
theorem w_M_status_14 (C : mC p s m args meth c cX9_status (some .int) wsX9_status 2 D cI cZ) {uz : MS} {rz : Int32} {u : MS} {x1 y0 : Int32} (h : fM_status_14 u x1 y0 = some (rz, uz)) {H : Heap} {locs : List Loc} {ls : Array Slot} (hI : mI D cI cZ q u s H locs) (hl : lv_has ls 2 [(0, .ref (q 0)), (1, .int x1)]) : W p l e (mR 2 43) s m args below meth c H locs 0 0 (MQ below (mQ D cI cZ q rz uz) args s 0 0 (mF q)) (F0 m 14 ls [.int y0, .ref (q 0)]) := by
  obtain ⟨hx, hb, hr, hts, hown, hlocks, hml, hK⟩ := id C
  unfold fM_status_14 at h
  obtain ⟨r2, u1, eu1, h⟩ := mb2_spec h
  refine mg_callV (As := [.int y0]) (rest := []) ⟨hx, hb, hml, hown, hts⟩ (cM_goesWell l D cI cZ q eu1) (cwV 1 hts gX9_status_X9_goesWell rfl rfl rfl (by decide +kernel) ⟨Nat.le_of_ble_eq_true rfl, Nat.le_of_ble_eq_true rfl⟩) hK hI rfl hl.1 rfl (Nat.le_of_ble_eq_true rfl) dX9_status_14 ⟨Nat.le_refl _, Nat.le_refl _⟩ (fun H locs hI => ?_)
  refine lv_if_eq (tgt := 51) hx hb dX9_status_17 (by decide) (fun c3 => ?_) (fun c3 => ?_)
  · replace h := mpos c3 h
    exact w_M_status_51 C h hI (lv_sub hl [0] rfl)
  · replace h := mneg c3 h
    refine lv_aload_n hx hb dX9_status_20 rfl (lv_at hl 0 rfl) ?_
    refine mg_get hx hb hts iM_status hown hK hI 18 (by decide) (hts (.fieldLink RX9 54 "PassageCourtModel" "where" "[I") (by decide +kernel)) rfl dX9_status_21 ?_
    refine lv_iload_n hx hb dX9_status_24 rfl (lv_at hl 1 rfl) ?_
    obtain ⟨r4, er4, h⟩ := mbind h
    refine mg_ald hx hb hK hI 18 rfl (by decide) er4 dX9_status_25 ?_
    refine lv_iconst (v := -1) hx hb dX9_status_26 (by decide) ?_
    refine lv_icmp_eq (tgt := 51) hx hb dX9_status_27 (by decide) (fun c5 => ?_) (fun c5 => ?_)
    · replace h := mpos c5 h
      exact w_M_status_51 C h hI (lv_sub hl [0] rfl)
    · replace h := mneg c5 h
      refine lv_aload_n hx hb dX9_status_30 rfl (lv_at hl 0 rfl) ?_
      refine mg_get hx hb hts iM_status hown hK hI 22 (by decide) (hts (.fieldLink RX9 67 "PassageCourtModel" "was" "[I") (by decide +kernel)) rfl dX9_status_31 ?_
      refine lv_sipush (v := 3601) hx hb dX9_status_34 (by decide) ?_
      refine lv_iload_n hx hb dX9_status_37 rfl (lv_at hl 1 rfl) ?_
      refine lv_imul hx hb dX9_status_38 ?_
      refine lv_aload_n hx hb dX9_status_39 rfl (lv_at hl 0 rfl) ?_
      refine mg_get hx hb hts iM_status hown hK hI 1 (by decide) (hts (.fieldLink RX9 153 "PassageCourtModel" "today" "I") (by decide +kernel)) rfl dX9_status_40 ?_
      refine lv_iadd hx hb dX9_status_43 ?_
      obtain ⟨r6, er6, h⟩ := mbind h
      refine mg_ald hx hb hK hI 22 rfl (by decide) er6 dX9_status_44 ?_
      refine lv_bipush (v := 10) hx hb dX9_status_45 (by decide) ?_
      refine lv_irem hx hb dX9_status_47 (by decide) ?_
      refine lv_goto (tgt := 52) hx hb dX9_status_48 (by decide) ?_
      exact w_M_status_52 C h hI (lv_sub hl [0] rfl)
def fM_status (u : MS) (x1 : Int32) : Option (Int32 × MS) :=
  mb2 (fM_isPerson u x1) fun r8 u7 =>
  if r8 = 0 then
    fM_status_14 u7 x1 1
  else
    fM_status_14 u7 x1 0
set_option maxRecDepth 20000 in
theorem w_M_status_0 (C : mC p s m args meth c cX9_status (some .int) wsX9_status 2 D cI cZ) {uz : MS} {rz : Int32} {u : MS} {x1 : Int32} (h : fM_status u x1 = some (rz, uz)) {H : Heap} {locs : List Loc} {ls : Array Slot} (hI : mI D cI cZ q u s H locs) (hl : lv_has ls 2 [(0, .ref (q 0)), (1, .int x1)]) : W p l e (mR 2 43) s m args below meth c H locs 0 0 (MQ below (mQ D cI cZ q rz uz) args s 0 0 (mF q)) (F0 m 0 ls []) := by
  obtain ⟨hx, hb, hr, hts, hown, hlocks, hml, hK⟩ := id C
  unfold fM_status at h
  refine lv_aload_n hx hb dX9_status_0 rfl (lv_at hl 0 rfl) ?_
  refine lv_aload_n hx hb dX9_status_1 rfl (lv_at hl 0 rfl) ?_
  refine lv_iload_n hx hb dX9_status_2 rfl (lv_at hl 1 rfl) ?_
  obtain ⟨r8, u7, eu7, h⟩ := mb2_spec h
  refine mg_callV (As := [.int x1]) (rest := [.ref (q 0)]) ⟨hx, hb, hml, hown, hts⟩ (cM_isPerson l D cI cZ q eu7) (cwV 1 hts gX9_status_X9_isPerson rfl rfl rfl (by decide +kernel) ⟨Nat.le_of_ble_eq_true rfl, Nat.le_of_ble_eq_true rfl⟩) hK hI rfl hl.1 rfl (Nat.le_of_ble_eq_true rfl) dX9_status_3 ⟨Nat.le_refl _, Nat.le_refl _⟩ (fun H locs hI => ?_)
  refine lv_if_eq (tgt := 13) hx hb dX9_status_6 (by decide) (fun c9 => ?_) (fun c9 => ?_)
  · replace h := mpos c9 h
    refine lv_iconst (v := 1) hx hb dX9_status_13 (by decide) ?_
    exact w_M_status_14 C h hI (lv_sub hl [0, 1] rfl)
  · replace h := mneg c9 h
    refine lv_iconst (v := 0) hx hb dX9_status_9 (by decide) ?_
    refine lv_goto (tgt := 14) hx hb dX9_status_10 (by decide) ?_
    exact w_M_status_14 C h hI (lv_sub hl [0, 1] rfl)
set_option maxRecDepth 20000 in
theorem cM_status (l : Launch) (D : va_G) (cI cZ : ClassId) (q : Nat → Nat) {u uz : MS} {rz : Int32} {x1 : Int32} (h : fM_status u x1 = some (rz, uz)) : Met l yX9_status wsX9_status (mR 2 43) (va_Pc [.ref (q 0), .int x1] (mPre D cI cZ q u)) (mQ D cI cZ q rz uz) 0 0 (mF q) := by
  refine Met.ofW (cc := cX9_status) (maxL := 2) (ret := (some .int)) (by decide) rfl ?_
  intro p e s m args below meth c s₁ B hml hv
  obtain ⟨rfl, hw, hK⟩ := hv
  have C : mC p s m _ meth c cX9_status (some .int) wsX9_status 2 D cI cZ := ⟨B.exec, B.bytes, B.returns, atoms_spec (ws := wsX9_status) B.pre, findClass_of_methodNamed B.named, B.notSynchronized, hml, hK⟩
  have hl := lv_entry ([.ref (q 0), .int x1]) (n := 2) (Nat.le_of_ble_eq_true rfl)
  rw [lg_entry_eq]
  generalize (lg_sl ([.ref (q 0), .int x1]) ++ List.replicate (2 - (lg_sl ([.ref (q 0), .int x1])).length) Slot.unset).toArray = ls at hl ⊢
  have hl : lv_has ls 2 [(0, .ref (q 0)), (1, .int x1)] := hl
  exact w_M_status_0 C h ⟨hw, va_S.rf⟩ hl
theorem iM_about : ∀ w ∈ wsX90, w ∈ wsX9_about := by decide +kernel
def fM_about_100 (u : MS) (y0 : Int32) : Option (Int32 × MS) :=
  some (y0, u)
set_option maxRecDepth 20000 in
theorem w_M_about_100 (C : mC p s m args meth c cX9_about (some .int) wsX9_about 4 D cI cZ) {uz : MS} {rz : Int32} {u : MS} {y0 : Int32} (h : fM_about_100 u y0 = some (rz, uz)) {H : Heap} {locs : List Loc} {ls : Array Slot} (hI : mI D cI cZ q u s H locs) (hl : lv_has ls 4 [(0, .ref (q 0))]) : W p l e (mR 2 49) s m args below meth c H locs 0 0 (MQ below (mQ D cI cZ q rz uz) args s 0 0 (mF q)) (F0 m 100 ls [.int y0]) := by
  obtain ⟨hx, hb, hr, hts, hown, hlocks, hml, hK⟩ := id C
  unfold fM_about_100 at h
  cases h
  exact mg_reti hx hb hr hlocks hK hI dX9_about_100
def fM_about_29 (u : MS) (x1 x2 y0 : Int32) : Option (Int32 × MS) :=
  mb2 (fM_goesWell u y0) fun r2 u1 =>
  if r2 = 0 then
    some (0, u1)
  else
    if x2 = 0 then
      (mld u1 18 x1).bind fun r14 =>
      fM_about_100 u1 r14
    else
      if x2 = 1 then
        (mld u1 15 x1).bind fun r13 =>
        fM_about_100 u1 r13
      else
        if x2 = 2 then
          mb2 (fM_countTo u1 x1 (u1 1 0)) fun r12 u11 =>
          fM_about_100 u11 r12
        else
          if x2 = 3 then
            (mld u1 20 x1).bind fun r10 =>
            fM_about_100 u1 r10
          else
            mb2 (fM_overstayed u1 x1) fun r9 u8 =>
            fM_about_100 u8 r9
set_option maxRecDepth 20000 in
theorem w_M_about_29 (C : mC p s m args meth c cX9_about (some .int) wsX9_about 4 D cI cZ) {uz : MS} {rz : Int32} {u : MS} {x1 x2 y0 : Int32} (h : fM_about_29 u x1 x2 y0 = some (rz, uz)) {H : Heap} {locs : List Loc} {ls : Array Slot} (hI : mI D cI cZ q u s H locs) (hl : lv_has ls 4 [(0, .ref (q 0)), (1, .int x1), (2, .int x2)]) : W p l e (mR 2 49) s m args below meth c H locs 0 0 (MQ below (mQ D cI cZ q rz uz) args s 0 0 (mF q)) (F0 m 29 ls [.int y0, .ref (q 0)]) := by
  obtain ⟨hx, hb, hr, hts, hown, hlocks, hml, hK⟩ := id C
  unfold fM_about_29 at h
  obtain ⟨r2, u1, eu1, h⟩ := mb2_spec h
  refine mg_callV (As := [.int y0]) (rest := []) ⟨hx, hb, hml, hown, hts⟩ (cM_goesWell l D cI cZ q eu1) (cwV 1 hts gX9_about_X9_goesWell rfl rfl rfl (by decide +kernel) ⟨Nat.le_of_ble_eq_true rfl, Nat.le_of_ble_eq_true rfl⟩) hK hI rfl hl.1 rfl (Nat.le_of_ble_eq_true rfl) dX9_about_29 ⟨Nat.le_refl _, Nat.le_refl _⟩ (fun H locs hI => ?_)
  refine lv_if_ne (tgt := 37) hx hb dX9_about_32 (by decide) (fun c3 => ?_) (fun c3 => ?_)
  · replace h := mneg c3 h
    refine lv_iload_n hx hb dX9_about_37 rfl (lv_at hl 2 rfl) ?_
    refine lv_if_ne (tgt := 50) hx hb dX9_about_38 (by decide) (fun c4 => ?_) (fun c4 => ?_)
    · replace h := mneg c4 h
      refine lv_iload_n hx hb dX9_about_50 rfl (lv_at hl 2 rfl) ?_
      refine lv_iconst (v := 1) hx hb dX9_about_51 (by decide) ?_
      refine lv_icmp_ne (tgt := 64) hx hb dX9_about_52 (by decide) (fun c5 => ?_) (fun c5 => ?_)
      · replace h := mneg c5 h
        refine lv_iload_n hx hb dX9_about_64 rfl (lv_at hl 2 rfl) ?_
        refine lv_iconst (v := 2) hx hb dX9_about_65 (by decide) ?_
        refine lv_icmp_ne (tgt := 81) hx hb dX9_about_66 (by decide) (fun c6 => ?_) (fun c6 => ?_)
        · replace h := mneg c6 h
          refine lv_iload_n hx hb dX9_about_81 rfl (lv_at hl 2 rfl) ?_
          refine lv_iconst (v := 3) hx hb dX9_about_82 (by decide) ?_
          refine lv_icmp_ne (tgt := 95) hx hb dX9_about_83 (by decide) (fun c7 => ?_) (fun c7 => ?_)
          · replace h := mneg c7 h
            refine lv_aload_n hx hb dX9_about_95 rfl (lv_at hl 0 rfl) ?_
            refine lv_iload_n hx hb dX9_about_96 rfl (lv_at hl 1 rfl) ?_
            obtain ⟨r9, u8, eu8, h⟩ := mb2_spec h
            refine mg_callV (As := [.int x1]) (rest := []) ⟨hx, hb, hml, hown, hts⟩ (cM_overstayed l D cI cZ q eu8) (cwV 1 hts gX9_about_X9_overstayed rfl rfl rfl (by decide +kernel) ⟨Nat.le_of_ble_eq_true rfl, Nat.le_of_ble_eq_true rfl⟩) hK hI rfl hl.1 rfl (Nat.le_of_ble_eq_true rfl) dX9_about_97 ⟨Nat.le_refl _, Nat.le_refl _⟩ (fun H locs hI => ?_)
            exact w_M_about_100 C h hI (lv_sub hl [0] rfl)
          · replace h := mpos c7 h
            refine lv_aload_n hx hb dX9_about_86 rfl (lv_at hl 0 rfl) ?_
            refine mg_get hx hb hts iM_about hown hK hI 20 (by decide) (hts (.fieldLink RX9 60 "PassageCourtModel" "cameBy" "[I") (by decide +kernel)) rfl dX9_about_87 ?_
            refine lv_iload_n hx hb dX9_about_90 rfl (lv_at hl 1 rfl) ?_
            obtain ⟨r10, er10, h⟩ := mbind h
            refine mg_ald hx hb hK hI 20 rfl (by decide) er10 dX9_about_91 ?_
            refine lv_goto (tgt := 100) hx hb dX9_about_92 (by decide) ?_
            exact w_M_about_100 C h hI (lv_sub hl [0] rfl)
        · replace h := mpos c6 h
          refine lv_aload_n hx hb dX9_about_69 rfl (lv_at hl 0 rfl) ?_
          refine lv_iload_n hx hb dX9_about_70 rfl (lv_at hl 1 rfl) ?_
          refine lv_aload_n hx hb dX9_about_71 rfl (lv_at hl 0 rfl) ?_
          refine mg_get hx hb hts iM_about hown hK hI 1 (by decide) (hts (.fieldLink RX9 153 "PassageCourtModel" "today" "I") (by decide +kernel)) rfl dX9_about_72 ?_
          obtain ⟨r12, u11, eu11, h⟩ := mb2_spec h
          refine mg_callV (As := [.int x1, .int (u1 1 0)]) (rest := []) ⟨hx, hb, hml, hown, hts⟩ (cM_countTo l D cI cZ q eu11) (cwV 2 hts gX9_about_X9_countTo rfl rfl rfl (by decide +kernel) ⟨Nat.le_of_ble_eq_true rfl, Nat.le_of_ble_eq_true rfl⟩) hK hI rfl hl.1 rfl (Nat.le_of_ble_eq_true rfl) dX9_about_75 ⟨Nat.le_refl _, Nat.le_refl _⟩ (fun H locs hI => ?_)
          refine lv_goto (tgt := 100) hx hb dX9_about_78 (by decide) ?_
          exact w_M_about_100 C h hI (lv_sub hl [0] rfl)
      · replace h := mpos c5 h
        refine lv_aload_n hx hb dX9_about_55 rfl (lv_at hl 0 rfl) ?_
        refine mg_get hx hb hts iM_about hown hK hI 15 (by decide) (hts (.fieldLink RX9 45 "PassageCourtModel" "nations" "[I") (by decide +kernel)) rfl dX9_about_56 ?_
        refine lv_iload_n hx hb dX9_about_59 rfl (lv_at hl 1 rfl) ?_
        obtain ⟨r13, er13, h⟩ := mbind h
        refine mg_ald hx hb hK hI 15 rfl (by decide) er13 dX9_about_60 ?_
        refine lv_goto (tgt := 100) hx hb dX9_about_61 (by decide) ?_
        exact w_M_about_100 C h hI (lv_sub hl [0] rfl)
    · replace h := mpos c4 h
      refine lv_aload_n hx hb dX9_about_41 rfl (lv_at hl 0 rfl) ?_
      refine mg_get hx hb hts iM_about hown hK hI 18 (by decide) (hts (.fieldLink RX9 54 "PassageCourtModel" "where" "[I") (by decide +kernel)) rfl dX9_about_42 ?_
      refine lv_iload_n hx hb dX9_about_45 rfl (lv_at hl 1 rfl) ?_
      obtain ⟨r14, er14, h⟩ := mbind h
      refine mg_ald hx hb hK hI 18 rfl (by decide) er14 dX9_about_46 ?_
      refine lv_goto (tgt := 100) hx hb dX9_about_47 (by decide) ?_
      exact w_M_about_100 C h hI (lv_sub hl [0] rfl)
  · replace h := mpos c3 h
    refine lv_iconst (v := 0) hx hb dX9_about_35 (by decide) ?_
    cases h
    exact mg_reti hx hb hr hlocks hK hI dX9_about_36
def fM_about (u : MS) (x1 x2 : Int32) : Option (Int32 × MS) :=
  mb2 (fM_isPerson u x1) fun r16 u15 =>
  if r16 = 0 then
    fM_about_29 u15 x1 x2 1
  else
    mb2 (fM_in u15 x2 0 4) fun r19 u18 =>
    if r19 = 0 then
      fM_about_29 u18 x1 x2 2
    else
      fM_about_29 u18 x1 x2 0
set_option maxRecDepth 20000 in
theorem w_M_about_0 (C : mC p s m args meth c cX9_about (some .int) wsX9_about 4 D cI cZ) {uz : MS} {rz : Int32} {u : MS} {x1 x2 : Int32} (h : fM_about u x1 x2 = some (rz, uz)) {H : Heap} {locs : List Loc} {ls : Array Slot} (hI : mI D cI cZ q u s H locs) (hl : lv_has ls 4 [(0, .ref (q 0)), (1, .int x1), (2, .int x2)]) : W p l e (mR 2 49) s m args below meth c H locs 0 0 (MQ below (mQ D cI cZ q rz uz) args s 0 0 (mF q)) (F0 m 0 ls []) := by
  obtain ⟨hx, hb, hr, hts, hown, hlocks, hml, hK⟩ := id C
  unfold fM_about at h
  refine lv_aload_n hx hb dX9_about_0 rfl (lv_at hl 0 rfl) ?_
  refine lv_iload_n hx hb dX9_about_1 rfl (lv_at hl 1 rfl) ?_
  obtain ⟨r16, u15, eu15, h⟩ := mb2_spec h
  refine mg_callV (As := [.int x1]) (rest := []) ⟨hx, hb, hml, hown, hts⟩ (cM_isPerson l D cI cZ q eu15) (cwV 1 hts gX9_about_X9_isPerson rfl rfl rfl (by decide +kernel) ⟨Nat.le_of_ble_eq_true rfl, Nat.le_of_ble_eq_true rfl⟩) hK hI rfl hl.1 rfl (Nat.le_of_ble_eq_true rfl) dX9_about_2 ⟨Nat.le_refl _, Nat.le_refl _⟩ (fun H locs hI => ?_)
  refine lv_istore_n (lv' := [(3, .int r16), (0, .ref (q 0)), (1, .int x1), (2, .int x2)]) hx hb dX9_about_5 rfl hl (by decide) rfl (fun ls hl => ?_)
  refine lv_aload_n hx hb dX9_about_6 rfl (lv_at hl 1 rfl) ?_
  refine lv_iload_n hx hb dX9_about_7 rfl (lv_at hl 0 rfl) ?_
  refine lv_if_ne (tgt := 15) hx hb dX9_about_8 (by decide) (fun c17 => ?_) (fun c17 => ?_)
  · replace h := mneg c17 h
    refine lv_iload_n hx hb dX9_about_15 rfl (lv_at hl 3 rfl) ?_
    refine lv_iconst (v := 0) hx hb dX9_about_16 (by decide) ?_
    refine lv_iconst (v := 4) hx hb dX9_about_17 (by decide) ?_
    obtain ⟨r19, u18, eu18, h⟩ := mb2_spec h
    refine mg_callS (As := [.int x2, .int 0, .int 4]) (rest := [.ref (q 0)]) ⟨hx, hb, hml, hown, hts⟩ (cM_in l D cI cZ q eu18) (va_cwS 3 hts gX9_about_X9_in rfl rfl rfl (by decide +kernel) ⟨Nat.le_of_ble_eq_true rfl, Nat.le_of_ble_eq_true rfl⟩) hK hI rfl hl.1 rfl (Nat.le_of_ble_eq_true rfl) dX9_about_18 ⟨Nat.le_refl _, Nat.le_refl _⟩ (fun H locs hI => ?_)
    refine lv_if_eq (tgt := 28) hx hb dX9_about_21 (by decide) (fun c20 => ?_) (fun c20 => ?_)
    · replace h := mpos c20 h
      refine lv_iconst (v := 2) hx hb dX9_about_28 (by decide) ?_
      exact w_M_about_29 C h hI (lv_sub hl [1, 2, 3] rfl)
    · replace h := mneg c20 h
      refine lv_iconst (v := 0) hx hb dX9_about_24 (by decide) ?_
      refine lv_goto (tgt := 29) hx hb dX9_about_25 (by decide) ?_
      exact w_M_about_29 C h hI (lv_sub hl [1, 2, 3] rfl)
  · replace h := mpos c17 h
    refine lv_iconst (v := 1) hx hb dX9_about_11 (by decide) ?_
    refine lv_goto (tgt := 29) hx hb dX9_about_12 (by decide) ?_
    exact w_M_about_29 C h hI (lv_sub hl [1, 2, 3] rfl)
set_option maxRecDepth 20000 in
theorem cM_about (l : Launch) (D : va_G) (cI cZ : ClassId) (q : Nat → Nat) {u uz : MS} {rz : Int32} {x1 x2 : Int32} (h : fM_about u x1 x2 = some (rz, uz)) : Met l yX9_about wsX9_about (mR 2 49) (va_Pc [.ref (q 0), .int x1, .int x2] (mPre D cI cZ q u)) (mQ D cI cZ q rz uz) 0 0 (mF q) := by
  refine Met.ofW (cc := cX9_about) (maxL := 4) (ret := (some .int)) (by decide) rfl ?_
  intro p e s m args below meth c s₁ B hml hv
  obtain ⟨rfl, hw, hK⟩ := hv
  have C : mC p s m _ meth c cX9_about (some .int) wsX9_about 4 D cI cZ := ⟨B.exec, B.bytes, B.returns, atoms_spec (ws := wsX9_about) B.pre, findClass_of_methodNamed B.named, B.notSynchronized, hml, hK⟩
  have hl := lv_entry ([.ref (q 0), .int x1, .int x2]) (n := 4) (Nat.le_of_ble_eq_true rfl)
  rw [lg_entry_eq]
  generalize (lg_sl ([.ref (q 0), .int x1, .int x2]) ++ List.replicate (4 - (lg_sl ([.ref (q 0), .int x1, .int x2])).length) Slot.unset).toArray = ls at hl ⊢
  have hl : lv_has ls 4 [(0, .ref (q 0)), (1, .int x1), (2, .int x2)] := hl
  exact w_M_about_0 C h ⟨hw, va_S.rf⟩ hl
theorem iM_daysAnew : ∀ w ∈ wsX90, w ∈ wsX9_daysAnew := by decide +kernel
def fM_daysAnew_33 (u : MS) (y0 : Int32) : Option (Int32 × MS) :=
  some (y0, u)
set_option maxRecDepth 20000 in
theorem w_M_daysAnew_33 (C : mC p s m args meth c cX9_daysAnew (some .int) wsX9_daysAnew 2 D cI cZ) {uz : MS} {rz : Int32} {u : MS} {y0 : Int32} (h : fM_daysAnew_33 u y0 = some (rz, uz)) {H : Heap} {locs : List Loc} {ls : Array Slot} (hI : mI D cI cZ q u s H locs) (hl : lv_has ls 2 [(0, .ref (q 0))]) : W p l e (mR 2 49) s m args below meth c H locs 0 0 (MQ below (mQ D cI cZ q rz uz) args s 0 0 (mF q)) (F0 m 33 ls [.int y0]) := by
  obtain ⟨hx, hb, hr, hts, hown, hlocks, hml, hK⟩ := id C
  unfold fM_daysAnew_33 at h
  cases h
  exact mg_reti hx hb hr hlocks hK hI dX9_daysAnew_33
def fM_daysAnew_14 (u : MS) (x1 y0 : Int32) : Option (Int32 × MS) :=
  mb2 (fM_goesWell u y0) fun r2 u1 =>
  if r2 = 0 then
    fM_daysAnew_33 u1 0
  else
    mb2 (fM_countTo u1 x1 (u1 1 0)) fun r5 u4 =>
    fM_daysAnew_33 u4 r5
set_option maxRecDepth 20000 in
theorem w_M_daysAnew_14 (C : mC p s m args meth c cX9_daysAnew (some .int) wsX9_daysAnew 2 D cI cZ) {uz : MS} {rz : Int32} {u : MS} {x1 y0 : Int32} (h : fM_daysAnew_14 u x1 y0 = some (rz, uz)) {H : Heap} {locs : List Loc} {ls : Array Slot} (hI : mI D cI cZ q u s H locs) (hl : lv_has ls 2 [(0, .ref (q 0)), (1, .int x1)]) : W p l e (mR 2 49) s m args below meth c H locs 0 0 (MQ below (mQ D cI cZ q rz uz) args s 0 0 (mF q)) (F0 m 14 ls [.int y0, .ref (q 0)]) := by
  obtain ⟨hx, hb, hr, hts, hown, hlocks, hml, hK⟩ := id C
  unfold fM_daysAnew_14 at h
  obtain ⟨r2, u1, eu1, h⟩ := mb2_spec h
  refine mg_callV (As := [.int y0]) (rest := []) ⟨hx, hb, hml, hown, hts⟩ (cM_goesWell l D cI cZ q eu1) (cwV 1 hts gX9_daysAnew_X9_goesWell rfl rfl rfl (by decide +kernel) ⟨Nat.le_of_ble_eq_true rfl, Nat.le_of_ble_eq_true rfl⟩) hK hI rfl hl.1 rfl (Nat.le_of_ble_eq_true rfl) dX9_daysAnew_14 ⟨Nat.le_refl _, Nat.le_refl _⟩ (fun H locs hI => ?_)
  refine lv_if_eq (tgt := 32) hx hb dX9_daysAnew_17 (by decide) (fun c3 => ?_) (fun c3 => ?_)
  · replace h := mpos c3 h
    refine lv_iconst (v := 0) hx hb dX9_daysAnew_32 (by decide) ?_
    exact w_M_daysAnew_33 C h hI (lv_sub hl [0] rfl)
  · replace h := mneg c3 h
    refine lv_aload_n hx hb dX9_daysAnew_20 rfl (lv_at hl 0 rfl) ?_
    refine lv_iload_n hx hb dX9_daysAnew_21 rfl (lv_at hl 1 rfl) ?_
    refine lv_aload_n hx hb dX9_daysAnew_22 rfl (lv_at hl 0 rfl) ?_
    refine mg_get hx hb hts iM_daysAnew hown hK hI 1 (by decide) (hts (.fieldLink RX9 153 "PassageCourtModel" "today" "I") (by decide +kernel)) rfl dX9_daysAnew_23 ?_
    obtain ⟨r5, u4, eu4, h⟩ := mb2_spec h
    refine mg_callV (As := [.int x1, .int (u1 1 0)]) (rest := []) ⟨hx, hb, hml, hown, hts⟩ (cM_countTo l D cI cZ q eu4) (cwV 2 hts gX9_daysAnew_X9_countTo rfl rfl rfl (by decide +kernel) ⟨Nat.le_of_ble_eq_true rfl, Nat.le_of_ble_eq_true rfl⟩) hK hI rfl hl.1 rfl (Nat.le_of_ble_eq_true rfl) dX9_daysAnew_26 ⟨Nat.le_refl _, Nat.le_refl _⟩ (fun H locs hI => ?_)
    refine lv_goto (tgt := 33) hx hb dX9_daysAnew_29 (by decide) ?_
    exact w_M_daysAnew_33 C h hI (lv_sub hl [0] rfl)
def fM_daysAnew (u : MS) (x1 : Int32) : Option (Int32 × MS) :=
  mb2 (fM_isPerson u x1) fun r7 u6 =>
  if r7 = 0 then
    fM_daysAnew_14 u6 x1 1
  else
    fM_daysAnew_14 u6 x1 0
set_option maxRecDepth 20000 in
theorem w_M_daysAnew_0 (C : mC p s m args meth c cX9_daysAnew (some .int) wsX9_daysAnew 2 D cI cZ) {uz : MS} {rz : Int32} {u : MS} {x1 : Int32} (h : fM_daysAnew u x1 = some (rz, uz)) {H : Heap} {locs : List Loc} {ls : Array Slot} (hI : mI D cI cZ q u s H locs) (hl : lv_has ls 2 [(0, .ref (q 0)), (1, .int x1)]) : W p l e (mR 2 49) s m args below meth c H locs 0 0 (MQ below (mQ D cI cZ q rz uz) args s 0 0 (mF q)) (F0 m 0 ls []) := by
  obtain ⟨hx, hb, hr, hts, hown, hlocks, hml, hK⟩ := id C
  unfold fM_daysAnew at h
  refine lv_aload_n hx hb dX9_daysAnew_0 rfl (lv_at hl 0 rfl) ?_
  refine lv_aload_n hx hb dX9_daysAnew_1 rfl (lv_at hl 0 rfl) ?_
  refine lv_iload_n hx hb dX9_daysAnew_2 rfl (lv_at hl 1 rfl) ?_
  obtain ⟨r7, u6, eu6, h⟩ := mb2_spec h
  refine mg_callV (As := [.int x1]) (rest := [.ref (q 0)]) ⟨hx, hb, hml, hown, hts⟩ (cM_isPerson l D cI cZ q eu6) (cwV 1 hts gX9_daysAnew_X9_isPerson rfl rfl rfl (by decide +kernel) ⟨Nat.le_of_ble_eq_true rfl, Nat.le_of_ble_eq_true rfl⟩) hK hI rfl hl.1 rfl (Nat.le_of_ble_eq_true rfl) dX9_daysAnew_3 ⟨Nat.le_refl _, Nat.le_refl _⟩ (fun H locs hI => ?_)
  refine lv_if_eq (tgt := 13) hx hb dX9_daysAnew_6 (by decide) (fun c8 => ?_) (fun c8 => ?_)
  · replace h := mpos c8 h
    refine lv_iconst (v := 1) hx hb dX9_daysAnew_13 (by decide) ?_
    exact w_M_daysAnew_14 C h hI (lv_sub hl [0, 1] rfl)
  · replace h := mneg c8 h
    refine lv_iconst (v := 0) hx hb dX9_daysAnew_9 (by decide) ?_
    refine lv_goto (tgt := 14) hx hb dX9_daysAnew_10 (by decide) ?_
    exact w_M_daysAnew_14 C h hI (lv_sub hl [0, 1] rfl)
set_option maxRecDepth 20000 in
theorem cM_daysAnew (l : Launch) (D : va_G) (cI cZ : ClassId) (q : Nat → Nat) {u uz : MS} {rz : Int32} {x1 : Int32} (h : fM_daysAnew u x1 = some (rz, uz)) : Met l yX9_daysAnew wsX9_daysAnew (mR 2 49) (va_Pc [.ref (q 0), .int x1] (mPre D cI cZ q u)) (mQ D cI cZ q rz uz) 0 0 (mF q) := by
  refine Met.ofW (cc := cX9_daysAnew) (maxL := 2) (ret := (some .int)) (by decide) rfl ?_
  intro p e s m args below meth c s₁ B hml hv
  obtain ⟨rfl, hw, hK⟩ := hv
  have C : mC p s m _ meth c cX9_daysAnew (some .int) wsX9_daysAnew 2 D cI cZ := ⟨B.exec, B.bytes, B.returns, atoms_spec (ws := wsX9_daysAnew) B.pre, findClass_of_methodNamed B.named, B.notSynchronized, hml, hK⟩
  have hl := lv_entry ([.ref (q 0), .int x1]) (n := 2) (Nat.le_of_ble_eq_true rfl)
  rw [lg_entry_eq]
  generalize (lg_sl ([.ref (q 0), .int x1]) ++ List.replicate (2 - (lg_sl ([.ref (q 0), .int x1])).length) Slot.unset).toArray = ls at hl ⊢
  have hl : lv_has ls 2 [(0, .ref (q 0)), (1, .int x1)] := hl
  exact w_M_daysAnew_0 C h ⟨hw, va_S.rf⟩ hl
end GM4
