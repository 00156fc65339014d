section GM0
variable {p : Program} {l : Launch} {e : Env} {s : State} {m : MethodId} {args : Array Value} {below : List Frame} {meth : Method} {c : Code} {D : va_G} {cI cZ : ClassId} {q : Nat → Nat}
theorem iM_thrown : ∀ w ∈ wsX90, w ∈ wsX9_thrown := by decide +kernel
def fM_thrown (u : MS) : Option (Int32 × MS) :=
  some (u 0 0, u)
set_option maxRecDepth 20000 in
theorem w_M_thrown_0 (C : mC p s m args meth c cX9_thrown (some .int) wsX9_thrown 1 D cI cZ) {uz : MS} {rz : Int32} {u : MS} (h : fM_thrown u = some (rz, uz)) {H : Heap} {locs : List Loc} {ls : Array Slot} (hI : mI D cI cZ q u s H locs) (hl : lv_has ls 1 [(0, .ref (q 0))]) : W p l e (mR 0 0) s m args below meth c H locs 0 0 (MQ below (mQ D cI cZ q rz uz) args s 0 0 (mF q)) (F0 m 0 ls []) := by
  obtain ⟨hx, hb, hr, hts, hown, hlocks, hml, hK⟩ := id C
  unfold fM_thrown at h
  refine lv_aload_n hx hb dX9_thrown_0 rfl (lv_at hl 0 rfl) ?_
  refine mg_get hx hb hts iM_thrown hown hK hI 0 (by decide) (hts (.fieldLink RX9 130 "PassageCourtModel" "thrown" "I") (by decide +kernel)) rfl dX9_thrown_1 ?_
  cases h
  exact mg_reti hx hb hr hlocks hK hI dX9_thrown_4
set_option maxRecDepth 20000 in
theorem cM_thrown (l : Launch) (D : va_G) (cI cZ : ClassId) (q : Nat → Nat) {u uz : MS} {rz : Int32} (h : fM_thrown u = some (rz, uz)) : Met l yX9_thrown wsX9_thrown (mR 0 0) (va_Pc [.ref (q 0)] (mPre D cI cZ q u)) (mQ D cI cZ q rz uz) 0 0 (mF q) := by
  refine Met.ofW (cc := cX9_thrown) (maxL := 1) (ret := (some .int)) (by decide) rfl ?_
  intro p e s m args below meth c s₁ B hml hv
  obtain ⟨rfl, hw, hK⟩ := hv
  have C : mC p s m _ meth c cX9_thrown (some .int) wsX9_thrown 1 D cI cZ := ⟨B.exec, B.bytes, B.returns, atoms_spec (ws := wsX9_thrown) B.pre, findClass_of_methodNamed B.named, B.notSynchronized, hml, hK⟩
  have hl := lv_entry ([.ref (q 0)]) (n := 1) (Nat.le_of_ble_eq_true rfl)
  rw [lg_entry_eq]
  generalize (lg_sl ([.ref (q 0)]) ++ List.replicate (1 - (lg_sl ([.ref (q 0)])).length) Slot.unset).toArray = ls at hl ⊢
  have hl : lv_has ls 1 [(0, .ref (q 0))] := hl
  exact w_M_thrown_0 C h ⟨hw, va_S.rf⟩ hl
theorem iM_goesWell : ∀ w ∈ wsX90, w ∈ wsX9_goesWell := by decide +kernel
def fM_goesWell_14 (u : MS) (y0 : Int32) : Option (Int32 × MS) :=
  (mbo y0).bind fun b1 => some (b1, u)
set_option maxRecDepth 20000 in
theorem w_M_goesWell_14 (C : mC p s m args meth c cX9_goesWell (some .boolean) wsX9_goesWell 2 D cI cZ) {uz : MS} {rz : Int32} {u : MS} {y0 : Int32} (h : fM_goesWell_14 u y0 = some (rz, uz)) {H : Heap} {locs : List Loc} {ls : Array Slot} (hI : mI D cI cZ q u s H locs) (hl : lv_has ls 2 [(0, .ref (q 0))]) : W p l e (mR 0 0) s m args below meth c H locs 0 0 (MQ below (mQ D cI cZ q rz uz) args s 0 0 (mF q)) (F0 m 14 ls [.int y0]) := by
  obtain ⟨hx, hb, hr, hts, hown, hlocks, hml, hK⟩ := id C
  unfold fM_goesWell_14 at h
  obtain ⟨b1, eb1, h⟩ := mbind h
  cases h
  exact mg_retz hx hb hr hlocks hK hI dX9_goesWell_14 eb1
def fM_goesWell (u : MS) (x1 : Int32) : Option (Int32 × MS) :=
  (some (mup u 0 0 x1)).bind fun u2 =>
  if x1 = 0 then
    fM_goesWell_14 u2 1
  else
    fM_goesWell_14 u2 0
set_option maxRecDepth 20000 in
theorem w_M_goesWell_0 (C : mC p s m args meth c cX9_goesWell (some .boolean) wsX9_goesWell 2 D cI cZ) {uz : MS} {rz : Int32} {u : MS} {x1 : Int32} (h : fM_goesWell u x1 = some (rz, uz)) {H : Heap} {locs : List Loc} {ls : Array Slot} (hI : mI D cI cZ q u s H locs) (hl : lv_has ls 2 [(0, .ref (q 0)), (1, .int x1)]) : W p l e (mR 0 0) s m args below meth c H locs 0 0 (MQ below (mQ D cI cZ q rz uz) args s 0 0 (mF q)) (F0 m 0 ls []) := by
  obtain ⟨hx, hb, hr, hts, hown, hlocks, hml, hK⟩ := id C
  unfold fM_goesWell at h
  refine lv_aload_n hx hb dX9_goesWell_0 rfl (lv_at hl 0 rfl) ?_
  refine lv_iload_n hx hb dX9_goesWell_1 rfl (lv_at hl 1 rfl) ?_
  obtain ⟨u2, eu2, h⟩ := mbind h
  refine mg_put hx hb hts iM_goesWell hown hK hI 0 (by decide) (hts (.fieldLink RX9 130 "PassageCourtModel" "thrown" "I") (by decide +kernel)) rfl (by decide +kernel) rfl rfl dX9_goesWell_2 (fun H locs hI => ?_)
  have eu2 := Option.some.inj eu2
  rw [eu2] at hI
  refine lv_iload_n hx hb dX9_goesWell_5 rfl (lv_at hl 1 rfl) ?_
  refine lv_if_ne (tgt := 13) hx hb dX9_goesWell_6 (by decide) (fun c3 => ?_) (fun c3 => ?_)
  · replace h := mneg c3 h
    refine lv_iconst (v := 0) hx hb dX9_goesWell_13 (by decide) ?_
    exact w_M_goesWell_14 C h hI (lv_sub hl [0] rfl)
  · replace h := mpos c3 h
    refine lv_iconst (v := 1) hx hb dX9_goesWell_9 (by decide) ?_
    refine lv_goto (tgt := 14) hx hb dX9_goesWell_10 (by decide) ?_
    exact w_M_goesWell_14 C h hI (lv_sub hl [0] rfl)
set_option maxRecDepth 20000 in
theorem cM_goesWell (l : Launch) (D : va_G) (cI cZ : ClassId) (q : Nat → Nat) {u uz : MS} {rz : Int32} {x1 : Int32} (h : fM_goesWell u x1 = some (rz, uz)) : Met l yX9_goesWell wsX9_goesWell (mR 0 0) (va_Pc [.ref (q 0), .int x1] (mPre D cI cZ q u)) (mQ D cI cZ q rz uz) 0 0 (mF q) := by
  refine Met.ofW (cc := cX9_goesWell) (maxL := 2) (ret := (some .boolean)) (by decide) rfl ?_
  intro p e s m args below meth c s₁ B hml hv
  obtain ⟨rfl, hw, hK⟩ := hv
  have C : mC p s m _ meth c cX9_goesWell (some .boolean) wsX9_goesWell 2 D cI cZ := ⟨B.exec, B.bytes, B.returns, atoms_spec (ws := wsX9_goesWell) B.pre, findClass_of_methodNamed B.named, B.notSynchronized, hml, hK⟩
  have hl := lv_entry ([.ref (q 0), .int x1]) (n := 2) (Nat.le_of_ble_eq_true rfl)
  rw [lg_entry_eq]
  generalize (lg_sl ([.ref (q 0), .int x1]) ++ List.replicate (2 - (lg_sl ([.ref (q 0), .int x1])).length) Slot.unset).toArray = ls at hl ⊢
  have hl : lv_has ls 2 [(0, .ref (q 0)), (1, .int x1)] := hl
  exact w_M_goesWell_0 C h ⟨hw, va_S.rf⟩ hl
def fM_in_15 (u : MS) (y0 : Int32) : Option (Int32 × MS) :=
  (mbo y0).bind fun b1 => some (b1, u)
set_option maxRecDepth 20000 in
theorem w_M_in_15 (C : mC p s m args meth c cX9_in (some .boolean) wsX9_in 3 D cI cZ) {uz : MS} {rz : Int32} {u : MS} {y0 : Int32} (h : fM_in_15 u y0 = some (rz, uz)) {H : Heap} {locs : List Loc} {ls : Array Slot} (hI : mI D cI cZ q u s H locs) (hl : lv_has ls 3 []) : W p l e (mR 0 0) s m args below meth c H locs 0 0 (MQ below (mQ D cI cZ q rz uz) args s 0 0 (mF q)) (F0 m 15 ls [.int y0]) := by
  obtain ⟨hx, hb, hr, hts, hown, hlocks, hml, hK⟩ := id C
  unfold fM_in_15 at h
  obtain ⟨b1, eb1, h⟩ := mbind h
  cases h
  exact mg_retz hx hb hr hlocks hK hI dX9_in_15 eb1
def fM_in_14 (u : MS) : Option (Int32 × MS) :=
  fM_in_15 u 0
set_option maxRecDepth 20000 in
theorem w_M_in_14 (C : mC p s m args meth c cX9_in (some .boolean) wsX9_in 3 D cI cZ) {uz : MS} {rz : Int32} {u : MS} (h : fM_in_14 u = some (rz, uz)) {H : Heap} {locs : List Loc} {ls : Array Slot} (hI : mI D cI cZ q u s H locs) (hl : lv_has ls 3 []) : W p l e (mR 0 0) s m args below meth c H locs 0 0 (MQ below (mQ D cI cZ q rz uz) args s 0 0 (mF q)) (F0 m 14 ls []) := by
  obtain ⟨hx, hb, hr, hts, hown, hlocks, hml, hK⟩ := id C
  unfold fM_in_14 at h
  refine lv_iconst (v := 0) hx hb dX9_in_14 (by decide) ?_
  exact w_M_in_15 C h hI (lv_sub hl [] rfl)
def fM_in (u : MS) (x0 x1 x2 : Int32) : Option (Int32 × MS) :=
  if x0 < x1 then
    fM_in_14 u
  else
    if x2 < x0 then
      fM_in_14 u
    else
      fM_in_15 u 1
set_option maxRecDepth 20000 in
theorem w_M_in_0 (C : mC p s m args meth c cX9_in (some .boolean) wsX9_in 3 D cI cZ) {uz : MS} {rz : Int32} {u : MS} {x0 x1 x2 : Int32} (h : fM_in u x0 x1 x2 = some (rz, uz)) {H : Heap} {locs : List Loc} {ls : Array Slot} (hI : mI D cI cZ q u s H locs) (hl : lv_has ls 3 [(0, .int x0), (1, .int x1), (2, .int x2)]) : W p l e (mR 0 0) s m args below meth c H locs 0 0 (MQ below (mQ D cI cZ q rz uz) args s 0 0 (mF q)) (F0 m 0 ls []) := by
  obtain ⟨hx, hb, hr, hts, hown, hlocks, hml, hK⟩ := id C
  unfold fM_in at h
  refine lv_iload_n hx hb dX9_in_0 rfl (lv_at hl 0 rfl) ?_
  refine lv_iload_n hx hb dX9_in_1 rfl (lv_at hl 1 rfl) ?_
  refine lv_icmp_lt (tgt := 14) hx hb dX9_in_2 (by decide) (fun c2 => ?_) (fun c2 => ?_)
  · replace h := mpos c2 h
    exact w_M_in_14 C h hI (lv_sub hl [] rfl)
  · replace h := mneg c2 h
    refine lv_iload_n hx hb dX9_in_5 rfl (lv_at hl 0 rfl) ?_
    refine lv_iload_n hx hb dX9_in_6 rfl (lv_at hl 2 rfl) ?_
    refine lv_icmp_gt (tgt := 14) hx hb dX9_in_7 (by decide) (fun c3 => ?_) (fun c3 => ?_)
    · replace h := mpos c3 h
      exact w_M_in_14 C h hI (lv_sub hl [] rfl)
    · replace h := mneg c3 h
      refine lv_iconst (v := 1) hx hb dX9_in_10 (by decide) ?_
      refine lv_goto (tgt := 15) hx hb dX9_in_11 (by decide) ?_
      exact w_M_in_15 C h hI (lv_sub hl [] rfl)
set_option maxRecDepth 20000 in
theorem cM_in (l : Launch) (D : va_G) (cI cZ : ClassId) (q : Nat → Nat) {u uz : MS} {rz : Int32} {x0 x1 x2 : Int32} (h : fM_in u x0 x1 x2 = some (rz, uz)) : Met l yX9_in wsX9_in (mR 0 0) (va_Pc [.int x0, .int x1, .int x2] (mPre D cI cZ q u)) (mQ D cI cZ q rz uz) 0 0 (mF q) := by
  refine Met.ofW (cc := cX9_in) (maxL := 3) (ret := (some .boolean)) (by decide) rfl ?_
  intro p e s m args below meth c s₁ B hml hv
  obtain ⟨rfl, hw, hK⟩ := hv
  have C : mC p s m _ meth c cX9_in (some .boolean) wsX9_in 3 D cI cZ := ⟨B.exec, B.bytes, B.returns, atoms_spec (ws := wsX9_in) B.pre, findClass_of_methodNamed B.named, B.notSynchronized, hml, hK⟩
  have hl := lv_entry ([.int x0, .int x1, .int x2]) (n := 3) (Nat.le_of_ble_eq_true rfl)
  rw [lg_entry_eq]
  generalize (lg_sl ([.int x0, .int x1, .int x2]) ++ List.replicate (3 - (lg_sl ([.int x0, .int x1, .int x2])).length) Slot.unset).toArray = ls at hl ⊢
  have hl : lv_has ls 3 [(0, .int x0), (1, .int x1), (2, .int x2)] := hl
  exact w_M_in_0 C h ⟨hw, va_S.rf⟩ hl
def fM_has_14 (u : MS) (y0 : Int32) : Option (Int32 × MS) :=
  (mbo y0).bind fun b1 => some (b1, u)
set_option maxRecDepth 20000 in
theorem w_M_has_14 (C : mC p s m args meth c cX9_has (some .boolean) wsX9_has 2 D cI cZ) {uz : MS} {rz : Int32} {u : MS} {y0 : Int32} (h : fM_has_14 u y0 = some (rz, uz)) {H : Heap} {locs : List Loc} {ls : Array Slot} (hI : mI D cI cZ q u s H locs) (hl : lv_has ls 2 []) : W p l e (mR 0 0) s m args below meth c H locs 0 0 (MQ below (mQ D cI cZ q rz uz) args s 0 0 (mF q)) (F0 m 14 ls [.int y0]) := by
  obtain ⟨hx, hb, hr, hts, hown, hlocks, hml, hK⟩ := id C
  unfold fM_has_14 at h
  obtain ⟨b1, eb1, h⟩ := mbind h
  cases h
  exact mg_retz hx hb hr hlocks hK hI dX9_has_14 eb1
def fM_has (u : MS) (x0 x1 : Int32) : Option (Int32 × MS) :=
  if ((x0 >>> (x1 &&& 31)) &&& 1) = 1 then
    fM_has_14 u 1
  else
    fM_has_14 u 0
set_option maxRecDepth 20000 in
theorem w_M_has_0 (C : mC p s m args meth c cX9_has (some .boolean) wsX9_has 2 D cI cZ) {uz : MS} {rz : Int32} {u : MS} {x0 x1 : Int32} (h : fM_has u x0 x1 = some (rz, uz)) {H : Heap} {locs : List Loc} {ls : Array Slot} (hI : mI D cI cZ q u s H locs) (hl : lv_has ls 2 [(0, .int x0), (1, .int x1)]) : W p l e (mR 0 0) s m args below meth c H locs 0 0 (MQ below (mQ D cI cZ q rz uz) args s 0 0 (mF q)) (F0 m 0 ls []) := by
  obtain ⟨hx, hb, hr, hts, hown, hlocks, hml, hK⟩ := id C
  unfold fM_has at h
  refine lv_iload_n hx hb dX9_has_0 rfl (lv_at hl 0 rfl) ?_
  refine lv_iload_n hx hb dX9_has_1 rfl (lv_at hl 1 rfl) ?_
  refine lv_ishr hx hb dX9_has_2 ?_
  refine lv_iconst (v := 1) hx hb dX9_has_3 (by decide) ?_
  refine lv_iand hx hb dX9_has_4 ?_
  refine lv_iconst (v := 1) hx hb dX9_has_5 (by decide) ?_
  refine lv_icmp_ne (tgt := 13) hx hb dX9_has_6 (by decide) (fun c2 => ?_) (fun c2 => ?_)
  · replace h := mneg c2 h
    refine lv_iconst (v := 0) hx hb dX9_has_13 (by decide) ?_
    exact w_M_has_14 C h hI (lv_sub hl [] rfl)
  · replace h := mpos c2 h
    refine lv_iconst (v := 1) hx hb dX9_has_9 (by decide) ?_
    refine lv_goto (tgt := 14) hx hb dX9_has_10 (by decide) ?_
    exact w_M_has_14 C h hI (lv_sub hl [] rfl)
set_option maxRecDepth 20000 in
theorem cM_has (l : Launch) (D : va_G) (cI cZ : ClassId) (q : Nat → Nat) {u uz : MS} {rz : Int32} {x0 x1 : Int32} (h : fM_has u x0 x1 = some (rz, uz)) : Met l yX9_has wsX9_has (mR 0 0) (va_Pc [.int x0, .int x1] (mPre D cI cZ q u)) (mQ D cI cZ q rz uz) 0 0 (mF q) := by
  refine Met.ofW (cc := cX9_has) (maxL := 2) (ret := (some .boolean)) (by decide) rfl ?_
  intro p e s m args below meth c s₁ B hml hv
  obtain ⟨rfl, hw, hK⟩ := hv
  have C : mC p s m _ meth c cX9_has (some .boolean) wsX9_has 2 D cI cZ := ⟨B.exec, B.bytes, B.returns, atoms_spec (ws := wsX9_has) B.pre, findClass_of_methodNamed B.named, B.notSynchronized, hml, hK⟩
  have hl := lv_entry ([.int x0, .int x1]) (n := 2) (Nat.le_of_ble_eq_true rfl)
  rw [lg_entry_eq]
  generalize (lg_sl ([.int x0, .int x1]) ++ List.replicate (2 - (lg_sl ([.int x0, .int x1])).length) Slot.unset).toArray = ls at hl ⊢
  have hl : lv_has ls 2 [(0, .int x0), (1, .int x1)] := hl
  exact w_M_has_0 C h ⟨hw, va_S.rf⟩ hl
theorem iM_isLand : ∀ w ∈ wsX90, w ∈ wsX9_isLand := by decide +kernel
def fM_isLand (u : MS) (x1 : Int32) : Option (Int32 × MS) :=
  mb2 (fM_in u x1 0 ((u 2 0) - 1)) fun r2 u1 =>
  (mbo r2).bind fun b3 => some (b3, u1)
set_option maxRecDepth 20000 in
theorem w_M_isLand_0 (C : mC p s m args meth c cX9_isLand (some .boolean) wsX9_isLand 2 D cI cZ) {uz : MS} {rz : Int32} {u : MS} {x1 : Int32} (h : fM_isLand u x1 = some (rz, uz)) {H : Heap} {locs : List Loc} {ls : Array Slot} (hI : mI D cI cZ q u s H locs) (hl : lv_has ls 2 [(0, .ref (q 0)), (1, .int x1)]) : W p l e (mR 1 22) s m args below meth c H locs 0 0 (MQ below (mQ D cI cZ q rz uz) args s 0 0 (mF q)) (F0 m 0 ls []) := by
  obtain ⟨hx, hb, hr, hts, hown, hlocks, hml, hK⟩ := id C
  unfold fM_isLand at h
  refine lv_iload_n hx hb dX9_isLand_0 rfl (lv_at hl 1 rfl) ?_
  refine lv_iconst (v := 0) hx hb dX9_isLand_1 (by decide) ?_
  refine lv_aload_n hx hb dX9_isLand_2 rfl (lv_at hl 0 rfl) ?_
  refine mg_get hx hb hts iM_isLand hown hK hI 2 (by decide) (hts (.fieldLink RX9 133 "PassageCourtModel" "lands" "I") (by decide +kernel)) rfl dX9_isLand_3 ?_
  refine lv_iconst (v := 1) hx hb dX9_isLand_6 (by decide) ?_
  refine lv_isub hx hb dX9_isLand_7 ?_
  obtain ⟨r2, u1, eu1, h⟩ := mb2_spec h
  refine mg_callS (As := [.int x1, .int 0, .int ((u 2 0) - 1)]) (rest := []) ⟨hx, hb, hml, hown, hts⟩ (cM_in l D cI cZ q eu1) (va_cwS 3 hts gX9_isLand_X9_in rfl rfl rfl (by decide +kernel) ⟨Nat.le_of_ble_eq_true rfl, Nat.le_of_ble_eq_true rfl⟩) hK hI rfl hl.1 rfl (Nat.le_of_ble_eq_true rfl) dX9_isLand_8 ⟨Nat.le_refl _, Nat.le_refl _⟩ (fun H locs hI => ?_)
  obtain ⟨b3, eb3, h⟩ := mbind h
  cases h
  exact mg_retz hx hb hr hlocks hK hI dX9_isLand_11 eb3
set_option maxRecDepth 20000 in
theorem cM_isLand (l : Launch) (D : va_G) (cI cZ : ClassId) (q : Nat → Nat) {u uz : MS} {rz : Int32} {x1 : Int32} (h : fM_isLand u x1 = some (rz, uz)) : Met l yX9_isLand wsX9_isLand (mR 1 22) (va_Pc [.ref (q 0), .int x1] (mPre D cI cZ q u)) (mQ D cI cZ q rz uz) 0 0 (mF q) := by
  refine Met.ofW (cc := cX9_isLand) (maxL := 2) (ret := (some .boolean)) (by decide) rfl ?_
  intro p e s m args below meth c s₁ B hml hv
  obtain ⟨rfl, hw, hK⟩ := hv
  have C : mC p s m _ meth c cX9_isLand (some .boolean) wsX9_isLand 2 D cI cZ := ⟨B.exec, B.bytes, B.returns, atoms_spec (ws := wsX9_isLand) B.pre, findClass_of_methodNamed B.named, B.notSynchronized, hml, hK⟩
  have hl := lv_entry ([.ref (q 0), .int x1]) (n := 2) (Nat.le_of_ble_eq_true rfl)
  rw [lg_entry_eq]
  generalize (lg_sl ([.ref (q 0), .int x1]) ++ List.replicate (2 - (lg_sl ([.ref (q 0), .int x1])).length) Slot.unset).toArray = ls at hl ⊢
  have hl : lv_has ls 2 [(0, .ref (q 0)), (1, .int x1)] := hl
  exact w_M_isLand_0 C h ⟨hw, va_S.rf⟩ hl
theorem iM_isPerson : ∀ w ∈ wsX90, w ∈ wsX9_isPerson := by decide +kernel
def fM_isPerson (u : MS) (x1 : Int32) : Option (Int32 × MS) :=
  mb2 (fM_in u x1 0 ((u 13 0) - 1)) fun r2 u1 =>
  (mbo r2).bind fun b3 => some (b3, u1)
set_option maxRecDepth 20000 in
theorem w_M_isPerson_0 (C : mC p s m args meth c cX9_isPerson (some .boolean) wsX9_isPerson 2 D cI cZ) {uz : MS} {rz : Int32} {u : MS} {x1 : Int32} (h : fM_isPerson u x1 = some (rz, uz)) {H : Heap} {locs : List Loc} {ls : Array Slot} (hI : mI D cI cZ q u s H locs) (hl : lv_has ls 2 [(0, .ref (q 0)), (1, .int x1)]) : W p l e (mR 1 22) s m args below meth c H locs 0 0 (MQ below (mQ D cI cZ q rz uz) args s 0 0 (mF q)) (F0 m 0 ls []) := by
  obtain ⟨hx, hb, hr, hts, hown, hlocks, hml, hK⟩ := id C
  unfold fM_isPerson at h
  refine lv_iload_n hx hb dX9_isPerson_0 rfl (lv_at hl 1 rfl) ?_
  refine lv_iconst (v := 0) hx hb dX9_isPerson_1 (by decide) ?_
  refine lv_aload_n hx hb dX9_isPerson_2 rfl (lv_at hl 0 rfl) ?_
  refine mg_get hx hb hts iM_isPerson hown hK hI 13 (by decide) (hts (.fieldLink RX9 140 "PassageCourtModel" "persons" "I") (by decide +kernel)) rfl dX9_isPerson_3 ?_
  refine lv_iconst (v := 1) hx hb dX9_isPerson_6 (by decide) ?_
  refine lv_isub hx hb dX9_isPerson_7 ?_
  obtain ⟨r2, u1, eu1, h⟩ := mb2_spec h
  refine mg_callS (As := [.int x1, .int 0, .int ((u 13 0) - 1)]) (rest := []) ⟨hx, hb, hml, hown, hts⟩ (cM_in l D cI cZ q eu1) (va_cwS 3 hts gX9_isPerson_X9_in rfl rfl rfl (by decide +kernel) ⟨Nat.le_of_ble_eq_true rfl, Nat.le_of_ble_eq_true rfl⟩) hK hI rfl hl.1 rfl (Nat.le_of_ble_eq_true rfl) dX9_isPerson_8 ⟨Nat.le_refl _, Nat.le_refl _⟩ (fun H locs hI => ?_)
  obtain ⟨b3, eb3, h⟩ := mbind h
  cases h
  exact mg_retz hx hb hr hlocks hK hI dX9_isPerson_11 eb3
set_option maxRecDepth 20000 in
theorem cM_isPerson (l : Launch) (D : va_G) (cI cZ : ClassId) (q : Nat → Nat) {u uz : MS} {rz : Int32} {x1 : Int32} (h : fM_isPerson u x1 = some (rz, uz)) : Met l yX9_isPerson wsX9_isPerson (mR 1 22) (va_Pc [.ref (q 0), .int x1] (mPre D cI cZ q u)) (mQ D cI cZ q rz uz) 0 0 (mF q) := by
  refine Met.ofW (cc := cX9_isPerson) (maxL := 2) (ret := (some .boolean)) (by decide) rfl ?_
  intro p e s m args below meth c s₁ B hml hv
  obtain ⟨rfl, hw, hK⟩ := hv
  have C : mC p s m _ meth c cX9_isPerson (some .boolean) wsX9_isPerson 2 D cI cZ := ⟨B.exec, B.bytes, B.returns, atoms_spec (ws := wsX9_isPerson) B.pre, findClass_of_methodNamed B.named, B.notSynchronized, hml, hK⟩
  have hl := lv_entry ([.ref (q 0), .int x1]) (n := 2) (Nat.le_of_ble_eq_true rfl)
  rw [lg_entry_eq]
  generalize (lg_sl ([.ref (q 0), .int x1]) ++ List.replicate (2 - (lg_sl ([.ref (q 0), .int x1])).length) Slot.unset).toArray = ls at hl ⊢
  have hl : lv_has ls 2 [(0, .ref (q 0)), (1, .int x1)] := hl
  exact w_M_isPerson_0 C h ⟨hw, va_S.rf⟩ hl
theorem iM_isRequest : ∀ w ∈ wsX90, w ∈ wsX9_isRequest := by decide +kernel
def fM_isRequest (u : MS) (x1 : Int32) : Option (Int32 × MS) :=
  mb2 (fM_in u x1 0 ((u 36 0) - 1)) fun r2 u1 =>
  (mbo r2).bind fun b3 => some (b3, u1)
set_option maxRecDepth 20000 in
theorem w_M_isRequest_0 (C : mC p s m args meth c cX9_isRequest (some .boolean) wsX9_isRequest 2 D cI cZ) {uz : MS} {rz : Int32} {u : MS} {x1 : Int32} (h : fM_isRequest u x1 = some (rz, uz)) {H : Heap} {locs : List Loc} {ls : Array Slot} (hI : mI D cI cZ q u s H locs) (hl : lv_has ls 2 [(0, .ref (q 0)), (1, .int x1)]) : W p l e (mR 1 22) s m args below meth c H locs 0 0 (MQ below (mQ D cI cZ q rz uz) args s 0 0 (mF q)) (F0 m 0 ls []) := by
  obtain ⟨hx, hb, hr, hts, hown, hlocks, hml, hK⟩ := id C
  unfold fM_isRequest at h
  refine lv_iload_n hx hb dX9_isRequest_0 rfl (lv_at hl 1 rfl) ?_
  refine lv_iconst (v := 0) hx hb dX9_isRequest_1 (by decide) ?_
  refine lv_aload_n hx hb dX9_isRequest_2 rfl (lv_at hl 0 rfl) ?_
  refine mg_get hx hb hts iM_isRequest hown hK hI 36 (by decide) (hts (.fieldLink RX9 143 "PassageCourtModel" "requests" "I") (by decide +kernel)) rfl dX9_isRequest_3 ?_
  refine lv_iconst (v := 1) hx hb dX9_isRequest_6 (by decide) ?_
  refine lv_isub hx hb dX9_isRequest_7 ?_
  obtain ⟨r2, u1, eu1, h⟩ := mb2_spec h
  refine mg_callS (As := [.int x1, .int 0, .int ((u 36 0) - 1)]) (rest := []) ⟨hx, hb, hml, hown, hts⟩ (cM_in l D cI cZ q eu1) (va_cwS 3 hts gX9_isRequest_X9_in rfl rfl rfl (by decide +kernel) ⟨Nat.le_of_ble_eq_true rfl, Nat.le_of_ble_eq_true rfl⟩) hK hI rfl hl.1 rfl (Nat.le_of_ble_eq_true rfl) dX9_isRequest_8 ⟨Nat.le_refl _, Nat.le_refl _⟩ (fun H locs hI => ?_)
  obtain ⟨b3, eb3, h⟩ := mbind h
  cases h
  exact mg_retz hx hb hr hlocks hK hI dX9_isRequest_11 eb3
set_option maxRecDepth 20000 in
theorem cM_isRequest (l : Launch) (D : va_G) (cI cZ : ClassId) (q : Nat → Nat) {u uz : MS} {rz : Int32} {x1 : Int32} (h : fM_isRequest u x1 = some (rz, uz)) : Met l yX9_isRequest wsX9_isRequest (mR 1 22) (va_Pc [.ref (q 0), .int x1] (mPre D cI cZ q u)) (mQ D cI cZ q rz uz) 0 0 (mF q) := by
  refine Met.ofW (cc := cX9_isRequest) (maxL := 2) (ret := (some .boolean)) (by decide) rfl ?_
  intro p e s m args below meth c s₁ B hml hv
  obtain ⟨rfl, hw, hK⟩ := hv
  have C : mC p s m _ meth c cX9_isRequest (some .boolean) wsX9_isRequest 2 D cI cZ := ⟨B.exec, B.bytes, B.returns, atoms_spec (ws := wsX9_isRequest) B.pre, findClass_of_methodNamed B.named, B.notSynchronized, hml, hK⟩
  have hl := lv_entry ([.ref (q 0), .int x1]) (n := 2) (Nat.le_of_ble_eq_true rfl)
  rw [lg_entry_eq]
  generalize (lg_sl ([.ref (q 0), .int x1]) ++ List.replicate (2 - (lg_sl ([.ref (q 0), .int x1])).length) Slot.unset).toArray = ls at hl ⊢
  have hl : lv_has ls 2 [(0, .ref (q 0)), (1, .int x1)] := hl
  exact w_M_isRequest_0 C h ⟨hw, va_S.rf⟩ hl
theorem iM_land : ∀ w ∈ wsX90, w ∈ wsX9_land := by decide +kernel
def fM_land_30 (u : MS) (x1 x2 x3 x4 y0 : Int32) : Option (Int32 × MS) :=
  mb2 (fM_goesWell u y0) fun r2 u1 =>
  if r2 = 0 then
    some (0, u1)
  else
    (mbo x1).bind fun b4 =>
    (mst u1 3 (u1 2 0) b4).bind fun u5 =>
    (mbo x2).bind fun b6 =>
    (mst u5 4 (u5 2 0) b6).bind fun u7 =>
    (mbo x3).bind fun b8 =>
    (mst u7 5 (u7 2 0) b8).bind fun u9 =>
    (mst u9 6 (u9 2 0) x4).bind fun u10 =>
    (some (mup u10 2 0 ((u10 2 0) + 1))).bind fun u11 =>
    some ((u11 2 0) - 1, u11)
set_option maxRecDepth 20000 in
theorem w_M_land_30 (C : mC p s m args meth c cX9_land (some .int) wsX9_land 5 D cI cZ) {uz : MS} {rz : Int32} {u : MS} {x1 x2 x3 x4 y0 : Int32} (h : fM_land_30 u x1 x2 x3 x4 y0 = some (rz, uz)) {H : Heap} {locs : List Loc} {ls : Array Slot} (hI : mI D cI cZ q u s H locs) (hl : lv_has ls 5 [(0, .ref (q 0)), (1, .int x1), (2, .int x2), (3, .int x3), (4, .int x4)]) : W p l e (mR 1 22) s m args below meth c H locs 0 0 (MQ below (mQ D cI cZ q rz uz) args s 0 0 (mF q)) (F0 m 30 ls [.int y0, .ref (q 0)]) := by
  obtain ⟨hx, hb, hr, hts, hown, hlocks, hml, hK⟩ := id C
  unfold fM_land_30 at h
  obtain ⟨r2, u1, eu1, h⟩ := mb2_spec h
  refine mg_callV (As := [.int y0]) (rest := []) ⟨hx, hb, hml, hown, hts⟩ (cM_goesWell l D cI cZ q eu1) (cwV 1 hts gX9_land_X9_goesWell rfl rfl rfl (by decide +kernel) ⟨Nat.le_of_ble_eq_true rfl, Nat.le_of_ble_eq_true rfl⟩) hK hI rfl hl.1 rfl (Nat.le_of_ble_eq_true rfl) dX9_land_30 ⟨Nat.le_refl _, Nat.le_refl _⟩ (fun H locs hI => ?_)
  refine lv_if_ne (tgt := 38) hx hb dX9_land_33 (by decide) (fun c3 => ?_) (fun c3 => ?_)
  · replace h := mneg c3 h
    refine lv_aload_n hx hb dX9_land_38 rfl (lv_at hl 0 rfl) ?_
    refine mg_get hx hb hts iM_land hown hK hI 3 (by decide) (hts (.fieldLink RX9 7 "PassageCourtModel" "isInRegion" "[Z") (by decide +kernel)) rfl dX9_land_39 ?_
    refine lv_aload_n hx hb dX9_land_42 rfl (lv_at hl 0 rfl) ?_
    refine mg_get hx hb hts iM_land hown hK hI 2 (by decide) (hts (.fieldLink RX9 133 "PassageCourtModel" "lands" "I") (by decide +kernel)) rfl dX9_land_43 ?_
    refine lv_iload_n hx hb dX9_land_46 rfl (lv_at hl 1 rfl) ?_
    obtain ⟨b4, eb4, h⟩ := mbind h
    obtain ⟨u5, eu5, h⟩ := mbind h
    refine mg_zst hx hb hK hI 3 rfl (by decide) eb4 eu5 dX9_land_47 (fun H locs hI => ?_)
    refine lv_aload_n hx hb dX9_land_48 rfl (lv_at hl 0 rfl) ?_
    refine mg_get hx hb hts iM_land hown hK hI 4 (by decide) (hts (.fieldLink RX9 13 "PassageCourtModel" "bySoil" "[Z") (by decide +kernel)) rfl dX9_land_49 ?_
    refine lv_aload_n hx hb dX9_land_52 rfl (lv_at hl 0 rfl) ?_
    refine mg_get hx hb hts iM_land hown hK hI 2 (by decide) (hts (.fieldLink RX9 133 "PassageCourtModel" "lands" "I") (by decide +kernel)) rfl dX9_land_53 ?_
    refine lv_iload_n hx hb dX9_land_56 rfl (lv_at hl 2 rfl) ?_
    obtain ⟨b6, eb6, h⟩ := mbind h
    obtain ⟨u7, eu7, h⟩ := mbind h
    refine mg_zst hx hb hK hI 4 rfl (by decide) eb6 eu7 dX9_land_57 (fun H locs hI => ?_)
    refine lv_aload_n hx hb dX9_land_58 rfl (lv_at hl 0 rfl) ?_
    refine mg_get hx hb hts iM_land hown hK hI 5 (by decide) (hts (.fieldLink RX9 16 "PassageCourtModel" "byDescent" "[Z") (by decide +kernel)) rfl dX9_land_59 ?_
    refine lv_aload_n hx hb dX9_land_62 rfl (lv_at hl 0 rfl) ?_
    refine mg_get hx hb hts iM_land hown hK hI 2 (by decide) (hts (.fieldLink RX9 133 "PassageCourtModel" "lands" "I") (by decide +kernel)) rfl dX9_land_63 ?_
    refine lv_iload_n hx hb dX9_land_66 rfl (lv_at hl 3 rfl) ?_
    obtain ⟨b8, eb8, h⟩ := mbind h
    obtain ⟨u9, eu9, h⟩ := mbind h
    refine mg_zst hx hb hK hI 5 rfl (by decide) eb8 eu9 dX9_land_67 (fun H locs hI => ?_)
    refine lv_aload_n hx hb dX9_land_68 rfl (lv_at hl 0 rfl) ?_
    refine mg_get hx hb hts iM_land hown hK hI 6 (by decide) (hts (.fieldLink RX9 19 "PassageCourtModel" "late" "[I") (by decide +kernel)) rfl dX9_land_69 ?_
    refine lv_aload_n hx hb dX9_land_72 rfl (lv_at hl 0 rfl) ?_
    refine mg_get hx hb hts iM_land hown hK hI 2 (by decide) (hts (.fieldLink RX9 133 "PassageCourtModel" "lands" "I") (by decide +kernel)) rfl dX9_land_73 ?_
    refine lv_iload hx hb dX9_land_76 (lv_at hl 4 rfl) ?_
    obtain ⟨u10, eu10, h⟩ := mbind h
    refine mg_ast hx hb hK hI 6 rfl (by decide) eu10 dX9_land_78 (fun H locs hI => ?_)
    refine lv_aload_n hx hb dX9_land_79 rfl (lv_at hl 0 rfl) ?_
    refine lv_dup hx hb dX9_land_80 rfl ?_
    refine mg_get hx hb hts iM_land hown hK hI 2 (by decide) (hts (.fieldLink RX9 133 "PassageCourtModel" "lands" "I") (by decide +kernel)) rfl dX9_land_81 ?_
    refine lv_iconst (v := 1) hx hb dX9_land_84 (by decide) ?_
    refine lv_iadd hx hb dX9_land_85 ?_
    obtain ⟨u11, eu11, h⟩ := mbind h
    refine mg_put hx hb hts iM_land hown hK hI 2 (by decide) (hts (.fieldLink RX9 133 "PassageCourtModel" "lands" "I") (by decide +kernel)) rfl (by decide +kernel) rfl rfl dX9_land_86 (fun H locs hI => ?_)
    have eu11 := Option.some.inj eu11
    rw [eu11] at hI
    refine lv_aload_n hx hb dX9_land_89 rfl (lv_at hl 0 rfl) ?_
    refine mg_get hx hb hts iM_land hown hK hI 2 (by decide) (hts (.fieldLink RX9 133 "PassageCourtModel" "lands" "I") (by decide +kernel)) rfl dX9_land_90 ?_
    refine lv_iconst (v := 1) hx hb dX9_land_93 (by decide) ?_
    refine lv_isub hx hb dX9_land_94 ?_
    cases h
    exact mg_reti hx hb hr hlocks hK hI dX9_land_95
  · replace h := mpos c3 h
    refine lv_iconst (v := 0) hx hb dX9_land_36 (by decide) ?_
    cases h
    exact mg_reti hx hb hr hlocks hK hI dX9_land_37
def fM_land (u : MS) (x1 x2 x3 x4 : Int32) : Option (Int32 × MS) :=
  mb2 (fM_in u x4 0 30) fun r13 u12 =>
  if r13 = 0 then
    fM_land_30 u12 x1 x2 x3 x4 1
  else
    if (u12 2 0) = 8 then
      fM_land_30 u12 x1 x2 x3 x4 2
    else
      fM_land_30 u12 x1 x2 x3 x4 0
set_option maxRecDepth 20000 in
theorem w_M_land_0 (C : mC p s m args meth c cX9_land (some .int) wsX9_land 5 D cI cZ) {uz : MS} {rz : Int32} {u : MS} {x1 x2 x3 x4 : Int32} (h : fM_land u x1 x2 x3 x4 = some (rz, uz)) {H : Heap} {locs : List Loc} {ls : Array Slot} (hI : mI D cI cZ q u s H locs) (hl : lv_has ls 5 [(0, .ref (q 0)), (1, .int x1), (2, .int x2), (3, .int x3), (4, .int x4)]) : W p l e (mR 1 22) s m args below meth c H locs 0 0 (MQ below (mQ D cI cZ q rz uz) args s 0 0 (mF q)) (F0 m 0 ls []) := by
  obtain ⟨hx, hb, hr, hts, hown, hlocks, hml, hK⟩ := id C
  unfold fM_land at h
  refine lv_aload_n hx hb dX9_land_0 rfl (lv_at hl 0 rfl) ?_
  refine lv_iload hx hb dX9_land_1 (lv_at hl 4 rfl) ?_
  refine lv_iconst (v := 0) hx hb dX9_land_3 (by decide) ?_
  refine lv_bipush (v := 30) hx hb dX9_land_4 (by decide) ?_
  obtain ⟨r13, u12, eu12, h⟩ := mb2_spec h
  refine mg_callS (As := [.int x4, .int 0, .int 30]) (rest := [.ref (q 0)]) ⟨hx, hb, hml, hown, hts⟩ (cM_in l D cI cZ q eu12) (va_cwS 3 hts gX9_land_X9_in rfl rfl rfl (by decide +kernel) ⟨Nat.le_of_ble_eq_true rfl, Nat.le_of_ble_eq_true rfl⟩) hK hI rfl hl.1 rfl (Nat.le_of_ble_eq_true rfl) dX9_land_6 ⟨Nat.le_refl _, Nat.le_refl _⟩ (fun H locs hI => ?_)
  refine lv_if_ne (tgt := 16) hx hb dX9_land_9 (by decide) (fun c14 => ?_) (fun c14 => ?_)
  · replace h := mneg c14 h
    refine lv_aload_n hx hb dX9_land_16 rfl (lv_at hl 0 rfl) ?_
    refine mg_get hx hb hts iM_land hown hK hI 2 (by decide) (hts (.fieldLink RX9 133 "PassageCourtModel" "lands" "I") (by decide +kernel)) rfl dX9_land_17 ?_
    refine lv_bipush (v := 8) hx hb dX9_land_20 (by decide) ?_
    refine lv_icmp_ne (tgt := 29) hx hb dX9_land_22 (by decide) (fun c15 => ?_) (fun c15 => ?_)
    · replace h := mneg c15 h
      refine lv_iconst (v := 0) hx hb dX9_land_29 (by decide) ?_
      exact w_M_land_30 C h hI (lv_sub hl [0, 1, 2, 3, 4] rfl)
    · replace h := mpos c15 h
      refine lv_iconst (v := 2) hx hb dX9_land_25 (by decide) ?_
      refine lv_goto (tgt := 30) hx hb dX9_land_26 (by decide) ?_
      exact w_M_land_30 C h hI (lv_sub hl [0, 1, 2, 3, 4] rfl)
  · replace h := mpos c14 h
    refine lv_iconst (v := 1) hx hb dX9_land_12 (by decide) ?_
    refine lv_goto (tgt := 30) hx hb dX9_land_13 (by decide) ?_
    exact w_M_land_30 C h hI (lv_sub hl [0, 1, 2, 3, 4] rfl)
set_option maxRecDepth 20000 in
theorem cM_land (l : Launch) (D : va_G) (cI cZ : ClassId) (q : Nat → Nat) {u uz : MS} {rz : Int32} {x1 x2 x3 x4 : Int32} (h : fM_land u x1 x2 x3 x4 = some (rz, uz)) : Met l yX9_land wsX9_land (mR 1 22) (va_Pc [.ref (q 0), .int x1, .int x2, .int x3, .int x4] (mPre D cI cZ q u)) (mQ D cI cZ q rz uz) 0 0 (mF q) := by
  refine Met.ofW (cc := cX9_land) (maxL := 5) (ret := (some .int)) (by decide) rfl ?_
  intro p e s m args below meth c s₁ B hml hv
  obtain ⟨rfl, hw, hK⟩ := hv
  have C : mC p s m _ meth c cX9_land (some .int) wsX9_land 5 D cI cZ := ⟨B.exec, B.bytes, B.returns, atoms_spec (ws := wsX9_land) B.pre, findClass_of_methodNamed B.named, B.notSynchronized, hml, hK⟩
  have hl := lv_entry ([.ref (q 0), .int x1, .int x2, .int x3, .int x4]) (n := 5) (Nat.le_of_ble_eq_true rfl)
  rw [lg_entry_eq]
  generalize (lg_sl ([.ref (q 0), .int x1, .int x2, .int x3, .int x4]) ++ List.replicate (5 - (lg_sl ([.ref (q 0), .int x1, .int x2, .int x3, .int x4])).length) Slot.unset).toArray = ls at hl ⊢
  have hl : lv_has ls 5 [(0, .ref (q 0)), (1, .int x1), (2, .int x2), (3, .int x3), (4, .int x4)] := hl
  exact w_M_land_0 C h ⟨hw, va_S.rf⟩ hl
theorem iM_waive : ∀ w ∈ wsX90, w ∈ wsX9_waive := by decide +kernel
def fM_waive_43 (u : MS) (x1 x2 x3 y0 : Int32) : Option (Int32 × MS) :=
  mb2 (fM_goesWell u y0) fun r2 u1 =>
  if r2 = 0 then
    (mbo 0).bind fun b8 => some (b8, u1)
  else
    (mld u1 7 ((8 * x1) + x2)).bind fun r4 =>
    (mbo x3).bind fun b5 =>
    (mst u1 7 ((8 * x1) + x2) b5).bind fun u6 =>
    (mbo r4).bind fun b7 => some (b7, u6)
set_option maxRecDepth 20000 in
theorem w_M_waive_43 (C : mC p s m args meth c cX9_waive (some .boolean) wsX9_waive 6 D cI cZ) {uz : MS} {rz : Int32} {u : MS} {x1 x2 x3 y0 : Int32} (h : fM_waive_43 u x1 x2 x3 y0 = some (rz, uz)) {H : Heap} {locs : List Loc} {ls : Array Slot} (hI : mI D cI cZ q u s H locs) (hl : lv_has ls 6 [(0, .ref (q 0)), (1, .int x1), (2, .int x2), (3, .int x3)]) : W p l e (mR 2 43) s m args below meth c H locs 0 0 (MQ below (mQ D cI cZ q rz uz) args s 0 0 (mF q)) (F0 m 43 ls [.int y0, .ref (q 0)]) := by
  obtain ⟨hx, hb, hr, hts, hown, hlocks, hml, hK⟩ := id C
  unfold fM_waive_43 at h
  obtain ⟨r2, u1, eu1, h⟩ := mb2_spec h
  refine mg_callV (As := [.int y0]) (rest := []) ⟨hx, hb, hml, hown, hts⟩ (cM_goesWell l D cI cZ q eu1) (cwV 1 hts gX9_waive_X9_goesWell rfl rfl rfl (by decide +kernel) ⟨Nat.le_of_ble_eq_true rfl, Nat.le_of_ble_eq_true rfl⟩) hK hI rfl hl.1 rfl (Nat.le_of_ble_eq_true rfl) dX9_waive_43 ⟨Nat.le_refl _, Nat.le_refl _⟩ (fun H locs hI => ?_)
  refine lv_if_ne (tgt := 51) hx hb dX9_waive_46 (by decide) (fun c3 => ?_) (fun c3 => ?_)
  · replace h := mneg c3 h
    refine lv_aload_n hx hb dX9_waive_51 rfl (lv_at hl 0 rfl) ?_
    refine mg_get hx hb hts iM_waive hown hK hI 7 (by decide) (hts (.fieldLink RX9 23 "PassageCourtModel" "waives" "[Z") (by decide +kernel)) rfl dX9_waive_52 ?_
    refine lv_bipush (v := 8) hx hb dX9_waive_55 (by decide) ?_
    refine lv_iload_n hx hb dX9_waive_57 rfl (lv_at hl 1 rfl) ?_
    refine lv_imul hx hb dX9_waive_58 ?_
    refine lv_iload_n hx hb dX9_waive_59 rfl (lv_at hl 2 rfl) ?_
    refine lv_iadd hx hb dX9_waive_60 ?_
    obtain ⟨r4, er4, h⟩ := mbind h
    refine mg_zld hx hb hK hI 7 rfl (by decide) er4 dX9_waive_61 ?_
    refine lv_istore (lv' := [(5, .int r4), (0, .ref (q 0)), (1, .int x1), (2, .int x2), (3, .int x3)]) hx hb dX9_waive_62 hl (by decide) rfl (fun ls hl => ?_)
    refine lv_aload_n hx hb dX9_waive_64 rfl (lv_at hl 1 rfl) ?_
    refine mg_get hx hb hts iM_waive hown hK hI 7 (by decide) (hts (.fieldLink RX9 23 "PassageCourtModel" "waives" "[Z") (by decide +kernel)) rfl dX9_waive_65 ?_
    refine lv_bipush (v := 8) hx hb dX9_waive_68 (by decide) ?_
    refine lv_iload_n hx hb dX9_waive_70 rfl (lv_at hl 2 rfl) ?_
    refine lv_imul hx hb dX9_waive_71 ?_
    refine lv_iload_n hx hb dX9_waive_72 rfl (lv_at hl 3 rfl) ?_
    refine lv_iadd hx hb dX9_waive_73 ?_
    refine lv_iload_n hx hb dX9_waive_74 rfl (lv_at hl 4 rfl) ?_
    obtain ⟨b5, eb5, h⟩ := mbind h
    obtain ⟨u6, eu6, h⟩ := mbind h
    refine mg_zst hx hb hK hI 7 rfl (by decide) eb5 eu6 dX9_waive_75 (fun H locs hI => ?_)
    refine lv_iload hx hb dX9_waive_76 (lv_at hl 0 rfl) ?_
    obtain ⟨b7, eb7, h⟩ := mbind h
    cases h
    exact mg_retz hx hb hr hlocks hK hI dX9_waive_78 eb7
  · replace h := mpos c3 h
    refine lv_iconst (v := 0) hx hb dX9_waive_49 (by decide) ?_
    obtain ⟨b8, eb8, h⟩ := mbind h
    cases h
    exact mg_retz hx hb hr hlocks hK hI dX9_waive_50 eb8
def fM_waive_21 (u : MS) (x1 x2 x3 y0 : Int32) : Option (Int32 × MS) :=
  if y0 = 0 then
    fM_waive_43 u x1 x2 x3 1
  else
    if x1 = x2 then
      fM_waive_43 u x1 x2 x3 2
    else
      fM_waive_43 u x1 x2 x3 0
set_option maxRecDepth 20000 in
theorem w_M_waive_21 (C : mC p s m args meth c cX9_waive (some .boolean) wsX9_waive 6 D cI cZ) {uz : MS} {rz : Int32} {u : MS} {x1 x2 x3 y0 : Int32} (h : fM_waive_21 u x1 x2 x3 y0 = some (rz, uz)) {H : Heap} {locs : List Loc} {ls : Array Slot} (hI : mI D cI cZ q u s H locs) (hl : lv_has ls 6 [(0, .ref (q 0)), (1, .int x1), (2, .int x2), (3, .int x3)]) : W p l e (mR 2 43) s m args below meth c H locs 0 0 (MQ below (mQ D cI cZ q rz uz) args s 0 0 (mF q)) (F0 m 21 ls [.int y0]) := by
  obtain ⟨hx, hb, hr, hts, hown, hlocks, hml, hK⟩ := id C
  unfold fM_waive_21 at h
  refine lv_istore (lv' := [(4, .int y0), (0, .ref (q 0)), (1, .int x1), (2, .int x2), (3, .int x3)]) hx hb dX9_waive_21 hl (by decide) rfl (fun ls hl => ?_)
  refine lv_aload_n hx hb dX9_waive_23 rfl (lv_at hl 1 rfl) ?_
  refine lv_iload hx hb dX9_waive_24 (lv_at hl 0 rfl) ?_
  refine lv_if_ne (tgt := 33) hx hb dX9_waive_26 (by decide) (fun c9 => ?_) (fun c9 => ?_)
  · replace h := mneg c9 h
    refine lv_iload_n hx hb dX9_waive_33 rfl (lv_at hl 2 rfl) ?_
    refine lv_iload_n hx hb dX9_waive_34 rfl (lv_at hl 3 rfl) ?_
    refine lv_icmp_ne (tgt := 42) hx hb dX9_waive_35 (by decide) (fun c10 => ?_) (fun c10 => ?_)
    · replace h := mneg c10 h
      refine lv_iconst (v := 0) hx hb dX9_waive_42 (by decide) ?_
      exact w_M_waive_43 C h hI (lv_sub hl [1, 2, 3, 4] rfl)
    · replace h := mpos c10 h
      refine lv_iconst (v := 2) hx hb dX9_waive_38 (by decide) ?_
      refine lv_goto (tgt := 43) hx hb dX9_waive_39 (by decide) ?_
      exact w_M_waive_43 C h hI (lv_sub hl [1, 2, 3, 4] rfl)
  · replace h := mpos c9 h
    refine lv_iconst (v := 1) hx hb dX9_waive_29 (by decide) ?_
    refine lv_goto (tgt := 43) hx hb dX9_waive_30 (by decide) ?_
    exact w_M_waive_43 C h hI (lv_sub hl [1, 2, 3, 4] rfl)
def fM_waive_20 (u : MS) (x1 x2 x3 : Int32) : Option (Int32 × MS) :=
  fM_waive_21 u x1 x2 x3 0
set_option maxRecDepth 20000 in
theorem w_M_waive_20 (C : mC p s m args meth c cX9_waive (some .boolean) wsX9_waive 6 D cI cZ) {uz : MS} {rz : Int32} {u : MS} {x1 x2 x3 : Int32} (h : fM_waive_20 u x1 x2 x3 = some (rz, uz)) {H : Heap} {locs : List Loc} {ls : Array Slot} (hI : mI D cI cZ q u s H locs) (hl : lv_has ls 6 [(0, .ref (q 0)), (1, .int x1), (2, .int x2), (3, .int x3)]) : W p l e (mR 2 43) s m args below meth c H locs 0 0 (MQ below (mQ D cI cZ q rz uz) args s 0 0 (mF q)) (F0 m 20 ls []) := by
  obtain ⟨hx, hb, hr, hts, hown, hlocks, hml, hK⟩ := id C
  unfold fM_waive_20 at h
  refine lv_iconst (v := 0) hx hb dX9_waive_20 (by decide) ?_
  exact w_M_waive_21 C h hI (lv_sub hl [0, 1, 2, 3] rfl)
def fM_waive (u : MS) (x1 x2 x3 : Int32) : Option (Int32 × MS) :=
  mb2 (fM_isLand u x1) fun r12 u11 =>
  if r12 = 0 then
    fM_waive_20 u11 x1 x2 x3
  else
    mb2 (fM_isLand u11 x2) fun r15 u14 =>
    if r15 = 0 then
      fM_waive_20 u14 x1 x2 x3
    else
      fM_waive_21 u14 x1 x2 x3 1
set_option maxRecDepth 20000 in
theorem w_M_waive_0 (C : mC p s m args meth c cX9_waive (some .boolean) wsX9_waive 6 D cI cZ) {uz : MS} {rz : Int32} {u : MS} {x1 x2 x3 : Int32} (h : fM_waive u x1 x2 x3 = some (rz, uz)) {H : Heap} {locs : List Loc} {ls : Array Slot} (hI : mI D cI cZ q u s H locs) (hl : lv_has ls 6 [(0, .ref (q 0)), (1, .int x1), (2, .int x2), (3, .int x3)]) : W p l e (mR 2 43) s m args below meth c H locs 0 0 (MQ below (mQ D cI cZ q rz uz) args s 0 0 (mF q)) (F0 m 0 ls []) := by
  obtain ⟨hx, hb, hr, hts, hown, hlocks, hml, hK⟩ := id C
  unfold fM_waive at h
  refine lv_aload_n hx hb dX9_waive_0 rfl (lv_at hl 0 rfl) ?_
  refine lv_iload_n hx hb dX9_waive_1 rfl (lv_at hl 1 rfl) ?_
  obtain ⟨r12, u11, eu11, h⟩ := mb2_spec h
  refine mg_callV (As := [.int x1]) (rest := []) ⟨hx, hb, hml, hown, hts⟩ (cM_isLand l D cI cZ q eu11) (cwV 1 hts gX9_waive_X9_isLand rfl rfl rfl (by decide +kernel) ⟨Nat.le_of_ble_eq_true rfl, Nat.le_of_ble_eq_true rfl⟩) hK hI rfl hl.1 rfl (Nat.le_of_ble_eq_true rfl) dX9_waive_2 ⟨Nat.le_refl _, Nat.le_refl _⟩ (fun H locs hI => ?_)
  refine lv_if_eq (tgt := 20) hx hb dX9_waive_5 (by decide) (fun c13 => ?_) (fun c13 => ?_)
  · replace h := mpos c13 h
    exact w_M_waive_20 C h hI (lv_sub hl [0, 1, 2, 3] rfl)
  · replace h := mneg c13 h
    refine lv_aload_n hx hb dX9_waive_8 rfl (lv_at hl 0 rfl) ?_
    refine lv_iload_n hx hb dX9_waive_9 rfl (lv_at hl 2 rfl) ?_
    obtain ⟨r15, u14, eu14, h⟩ := mb2_spec h
    refine mg_callV (As := [.int x2]) (rest := []) ⟨hx, hb, hml, hown, hts⟩ (cM_isLand l D cI cZ q eu14) (cwV 1 hts gX9_waive_X9_isLand rfl rfl rfl (by decide +kernel) ⟨Nat.le_of_ble_eq_true rfl, Nat.le_of_ble_eq_true rfl⟩) hK hI rfl hl.1 rfl (Nat.le_of_ble_eq_true rfl) dX9_waive_10 ⟨Nat.le_refl _, Nat.le_refl _⟩ (fun H locs hI => ?_)
    refine lv_if_eq (tgt := 20) hx hb dX9_waive_13 (by decide) (fun c16 => ?_) (fun c16 => ?_)
    · replace h := mpos c16 h
      exact w_M_waive_20 C h hI (lv_sub hl [0, 1, 2, 3] rfl)
    · replace h := mneg c16 h
      refine lv_iconst (v := 1) hx hb dX9_waive_16 (by decide) ?_
      refine lv_goto (tgt := 21) hx hb dX9_waive_17 (by decide) ?_
      exact w_M_waive_21 C h hI (lv_sub hl [0, 1, 2, 3] rfl)
set_option maxRecDepth 20000 in
theorem cM_waive (l : Launch) (D : va_G) (cI cZ : ClassId) (q : Nat → Nat) {u uz : MS} {rz : Int32} {x1 x2 x3 : Int32} (h : fM_waive u x1 x2 x3 = some (rz, uz)) : Met l yX9_waive wsX9_waive (mR 2 43) (va_Pc [.ref (q 0), .int x1, .int x2, .int x3] (mPre D cI cZ q u)) (mQ D cI cZ q rz uz) 0 0 (mF q) := by
  refine Met.ofW (cc := cX9_waive) (maxL := 6) (ret := (some .boolean)) (by decide) rfl ?_
  intro p e s m args below meth c s₁ B hml hv
  obtain ⟨rfl, hw, hK⟩ := hv
  have C : mC p s m _ meth c cX9_waive (some .boolean) wsX9_waive 6 D cI cZ := ⟨B.exec, B.bytes, B.returns, atoms_spec (ws := wsX9_waive) B.pre, findClass_of_methodNamed B.named, B.notSynchronized, hml, hK⟩
  have hl := lv_entry ([.ref (q 0), .int x1, .int x2, .int x3]) (n := 6) (Nat.le_of_ble_eq_true rfl)
  rw [lg_entry_eq]
  generalize (lg_sl ([.ref (q 0), .int x1, .int x2, .int x3]) ++ List.replicate (6 - (lg_sl ([.ref (q 0), .int x1, .int x2, .int x3])).length) Slot.unset).toArray = ls at hl ⊢
  have hl : lv_has ls 6 [(0, .ref (q 0)), (1, .int x1), (2, .int x2), (3, .int x3)] := hl
  exact w_M_waive_0 C h ⟨hw, va_S.rf⟩ hl
theorem iM_rule : ∀ w ∈ wsX90, w ∈ wsX9_rule := by decide +kernel
def fM_rule_67 (u : MS) (x1 x2 x3 y0 : Int32) : Option (Int32 × MS) :=
  mb2 (fM_goesWell u y0) fun r2 u1 =>
  if r2 = 0 then
    some (0, u1)
  else
    (mst u1 10 (u1 9 0) x1).bind fun u4 =>
    (mst u4 11 (u4 9 0) x2).bind fun u5 =>
    (mst u5 12 (u5 9 0) x3).bind fun u6 =>
    (some (mup u6 9 0 ((u6 9 0) + 1))).bind fun u7 =>
    some (u7 9 0, u7)
set_option maxRecDepth 20000 in
theorem w_M_rule_67 (C : mC p s m args meth c cX9_rule (some .int) wsX9_rule 5 D cI cZ) {uz : MS} {rz : Int32} {u : MS} {x1 x2 x3 y0 : Int32} (h : fM_rule_67 u x1 x2 x3 y0 = some (rz, uz)) {H : Heap} {locs : List Loc} {ls : Array Slot} (hI : mI D cI cZ q u s H locs) (hl : lv_has ls 5 [(0, .ref (q 0)), (1, .int x1), (2, .int x2), (3, .int x3)]) : W p l e (mR 1 22) s m args below meth c H locs 0 0 (MQ below (mQ D cI cZ q rz uz) args s 0 0 (mF q)) (F0 m 67 ls [.int y0, .ref (q 0)]) := by
  obtain ⟨hx, hb, hr, hts, hown, hlocks, hml, hK⟩ := id C
  unfold fM_rule_67 at h
  obtain ⟨r2, u1, eu1, h⟩ := mb2_spec h
  refine mg_callV (As := [.int y0]) (rest := []) ⟨hx, hb, hml, hown, hts⟩ (cM_goesWell l D cI cZ q eu1) (cwV 1 hts gX9_rule_X9_goesWell rfl rfl rfl (by decide +kernel) ⟨Nat.le_of_ble_eq_true rfl, Nat.le_of_ble_eq_true rfl⟩) hK hI rfl hl.1 rfl (Nat.le_of_ble_eq_true rfl) dX9_rule_67 ⟨Nat.le_refl _, Nat.le_refl _⟩ (fun H locs hI => ?_)
  refine lv_if_ne (tgt := 75) hx hb dX9_rule_70 (by decide) (fun c3 => ?_) (fun c3 => ?_)
  · replace h := mneg c3 h
    refine lv_aload_n hx hb dX9_rule_75 rfl (lv_at hl 0 rfl) ?_
    refine mg_get hx hb hts iM_rule hown hK hI 10 (by decide) (hts (.fieldLink RX9 33 "PassageCourtModel" "ruleDay" "[I") (by decide +kernel)) rfl dX9_rule_76 ?_
    refine lv_aload_n hx hb dX9_rule_79 rfl (lv_at hl 0 rfl) ?_
    refine mg_get hx hb hts iM_rule hown hK hI 9 (by decide) (hts (.fieldLink RX9 29 "PassageCourtModel" "rules" "I") (by decide +kernel)) rfl dX9_rule_80 ?_
    refine lv_iload_n hx hb dX9_rule_83 rfl (lv_at hl 1 rfl) ?_
    obtain ⟨u4, eu4, h⟩ := mbind h
    refine mg_ast hx hb hK hI 10 rfl (by decide) eu4 dX9_rule_84 (fun H locs hI => ?_)
    refine lv_aload_n hx hb dX9_rule_85 rfl (lv_at hl 0 rfl) ?_
    refine mg_get hx hb hts iM_rule hown hK hI 11 (by decide) (hts (.fieldLink RX9 36 "PassageCourtModel" "ruleMost" "[I") (by decide +kernel)) rfl dX9_rule_86 ?_
    refine lv_aload_n hx hb dX9_rule_89 rfl (lv_at hl 0 rfl) ?_
    refine mg_get hx hb hts iM_rule hown hK hI 9 (by decide) (hts (.fieldLink RX9 29 "PassageCourtModel" "rules" "I") (by decide +kernel)) rfl dX9_rule_90 ?_
    refine lv_iload_n hx hb dX9_rule_93 rfl (lv_at hl 2 rfl) ?_
    obtain ⟨u5, eu5, h⟩ := mbind h
    refine mg_ast hx hb hK hI 11 rfl (by decide) eu5 dX9_rule_94 (fun H locs hI => ?_)
    refine lv_aload_n hx hb dX9_rule_95 rfl (lv_at hl 0 rfl) ?_
    refine mg_get hx hb hts iM_rule hown hK hI 12 (by decide) (hts (.fieldLink RX9 39 "PassageCourtModel" "ruleWindow" "[I") (by decide +kernel)) rfl dX9_rule_96 ?_
    refine lv_aload_n hx hb dX9_rule_99 rfl (lv_at hl 0 rfl) ?_
    refine mg_get hx hb hts iM_rule hown hK hI 9 (by decide) (hts (.fieldLink RX9 29 "PassageCourtModel" "rules" "I") (by decide +kernel)) rfl dX9_rule_100 ?_
    refine lv_iload_n hx hb dX9_rule_103 rfl (lv_at hl 3 rfl) ?_
    obtain ⟨u6, eu6, h⟩ := mbind h
    refine mg_ast hx hb hK hI 12 rfl (by decide) eu6 dX9_rule_104 (fun H locs hI => ?_)
    refine lv_aload_n hx hb dX9_rule_105 rfl (lv_at hl 0 rfl) ?_
    refine lv_dup hx hb dX9_rule_106 rfl ?_
    refine mg_get hx hb hts iM_rule hown hK hI 9 (by decide) (hts (.fieldLink RX9 29 "PassageCourtModel" "rules" "I") (by decide +kernel)) rfl dX9_rule_107 ?_
    refine lv_iconst (v := 1) hx hb dX9_rule_110 (by decide) ?_
    refine lv_iadd hx hb dX9_rule_111 ?_
    obtain ⟨u7, eu7, h⟩ := mbind h
    refine mg_put hx hb hts iM_rule hown hK hI 9 (by decide) (hts (.fieldLink RX9 29 "PassageCourtModel" "rules" "I") (by decide +kernel)) rfl (by decide +kernel) rfl rfl dX9_rule_112 (fun H locs hI => ?_)
    have eu7 := Option.some.inj eu7
    rw [eu7] at hI
    refine lv_aload_n hx hb dX9_rule_115 rfl (lv_at hl 0 rfl) ?_
    refine mg_get hx hb hts iM_rule hown hK hI 9 (by decide) (hts (.fieldLink RX9 29 "PassageCourtModel" "rules" "I") (by decide +kernel)) rfl dX9_rule_116 ?_
    cases h
    exact mg_reti hx hb hr hlocks hK hI dX9_rule_119
  · replace h := mpos c3 h
    refine lv_iconst (v := 0) hx hb dX9_rule_73 (by decide) ?_
    cases h
    exact mg_reti hx hb hr hlocks hK hI dX9_rule_74
def fM_rule_41 (u : MS) (x1 x2 x3 y0 : Int32) : Option (Int32 × MS) :=
  if y0 = 0 then
    fM_rule_67 u x1 x2 x3 1
  else
    if (u 9 0) = 10 then
      fM_rule_67 u x1 x2 x3 2
    else
      fM_rule_67 u x1 x2 x3 0
set_option maxRecDepth 20000 in
theorem w_M_rule_41 (C : mC p s m args meth c cX9_rule (some .int) wsX9_rule 5 D cI cZ) {uz : MS} {rz : Int32} {u : MS} {x1 x2 x3 y0 : Int32} (h : fM_rule_41 u x1 x2 x3 y0 = some (rz, uz)) {H : Heap} {locs : List Loc} {ls : Array Slot} (hI : mI D cI cZ q u s H locs) (hl : lv_has ls 5 [(0, .ref (q 0)), (1, .int x1), (2, .int x2), (3, .int x3)]) : W p l e (mR 1 22) s m args below meth c H locs 0 0 (MQ below (mQ D cI cZ q rz uz) args s 0 0 (mF q)) (F0 m 41 ls [.int y0]) := by
  obtain ⟨hx, hb, hr, hts, hown, hlocks, hml, hK⟩ := id C
  unfold fM_rule_41 at h
  refine lv_istore (lv' := [(4, .int y0), (0, .ref (q 0)), (1, .int x1), (2, .int x2), (3, .int x3)]) hx hb dX9_rule_41 hl (by decide) rfl (fun ls hl => ?_)
  refine lv_aload_n hx hb dX9_rule_43 rfl (lv_at hl 1 rfl) ?_
  refine lv_iload hx hb dX9_rule_44 (lv_at hl 0 rfl) ?_
  refine lv_if_ne (tgt := 53) hx hb dX9_rule_46 (by decide) (fun c8 => ?_) (fun c8 => ?_)
  · replace h := mneg c8 h
    refine lv_aload_n hx hb dX9_rule_53 rfl (lv_at hl 1 rfl) ?_
    refine mg_get hx hb hts iM_rule hown hK hI 9 (by decide) (hts (.fieldLink RX9 29 "PassageCourtModel" "rules" "I") (by decide +kernel)) rfl dX9_rule_54 ?_
    refine lv_bipush (v := 10) hx hb dX9_rule_57 (by decide) ?_
    refine lv_icmp_ne (tgt := 66) hx hb dX9_rule_59 (by decide) (fun c9 => ?_) (fun c9 => ?_)
    · replace h := mneg c9 h
      refine lv_iconst (v := 0) hx hb dX9_rule_66 (by decide) ?_
      exact w_M_rule_67 C h hI (lv_sub hl [1, 2, 3, 4] rfl)
    · replace h := mpos c9 h
      refine lv_iconst (v := 2) hx hb dX9_rule_62 (by decide) ?_
      refine lv_goto (tgt := 67) hx hb dX9_rule_63 (by decide) ?_
      exact w_M_rule_67 C h hI (lv_sub hl [1, 2, 3, 4] rfl)
  · replace h := mpos c8 h
    refine lv_iconst (v := 1) hx hb dX9_rule_49 (by decide) ?_
    refine lv_goto (tgt := 67) hx hb dX9_rule_50 (by decide) ?_
    exact w_M_rule_67 C h hI (lv_sub hl [1, 2, 3, 4] rfl)
def fM_rule_40 (u : MS) (x1 x2 x3 : Int32) : Option (Int32 × MS) :=
  fM_rule_41 u x1 x2 x3 0
set_option maxRecDepth 20000 in
theorem w_M_rule_40 (C : mC p s m args meth c cX9_rule (some .int) wsX9_rule 5 D cI cZ) {uz : MS} {rz : Int32} {u : MS} {x1 x2 x3 : Int32} (h : fM_rule_40 u x1 x2 x3 = some (rz, uz)) {H : Heap} {locs : List Loc} {ls : Array Slot} (hI : mI D cI cZ q u s H locs) (hl : lv_has ls 5 [(0, .ref (q 0)), (1, .int x1), (2, .int x2), (3, .int x3)]) : W p l e (mR 1 22) s m args below meth c H locs 0 0 (MQ below (mQ D cI cZ q rz uz) args s 0 0 (mF q)) (F0 m 40 ls []) := by
  obtain ⟨hx, hb, hr, hts, hown, hlocks, hml, hK⟩ := id C
  unfold fM_rule_40 at h
  refine lv_iconst (v := 0) hx hb dX9_rule_40 (by decide) ?_
  exact w_M_rule_41 C h hI (lv_sub hl [0, 1, 2, 3] rfl)
def fM_rule (u : MS) (x1 x2 x3 : Int32) : Option (Int32 × MS) :=
  mb2 (fM_in u x1 (u 1 0) 3600) fun r11 u10 =>
  if r11 = 0 then
    fM_rule_40 u10 x1 x2 x3
  else
    mb2 (fM_in u10 x2 0 180) fun r14 u13 =>
    if r14 = 0 then
      fM_rule_40 u13 x1 x2 x3
    else
      mb2 (fM_in u13 x3 1 360) fun r17 u16 =>
      if r17 = 0 then
        fM_rule_40 u16 x1 x2 x3
      else
        fM_rule_41 u16 x1 x2 x3 1
set_option maxRecDepth 20000 in
theorem w_M_rule_0 (C : mC p s m args meth c cX9_rule (some .int) wsX9_rule 5 D cI cZ) {uz : MS} {rz : Int32} {u : MS} {x1 x2 x3 : Int32} (h : fM_rule u x1 x2 x3 = some (rz, uz)) {H : Heap} {locs : List Loc} {ls : Array Slot} (hI : mI D cI cZ q u s H locs) (hl : lv_has ls 5 [(0, .ref (q 0)), (1, .int x1), (2, .int x2), (3, .int x3)]) : W p l e (mR 1 22) s m args below meth c H locs 0 0 (MQ below (mQ D cI cZ q rz uz) args s 0 0 (mF q)) (F0 m 0 ls []) := by
  obtain ⟨hx, hb, hr, hts, hown, hlocks, hml, hK⟩ := id C
  unfold fM_rule at h
  refine lv_iload_n hx hb dX9_rule_0 rfl (lv_at hl 1 rfl) ?_
  refine lv_aload_n hx hb dX9_rule_1 rfl (lv_at hl 0 rfl) ?_
  refine mg_get hx hb hts iM_rule hown hK hI 1 (by decide) (hts (.fieldLink RX9 153 "PassageCourtModel" "today" "I") (by decide +kernel)) rfl dX9_rule_2 ?_
  refine lv_sipush (v := 3600) hx hb dX9_rule_5 (by decide) ?_
  obtain ⟨r11, u10, eu10, h⟩ := mb2_spec h
  refine mg_callS (As := [.int x1, .int (u 1 0), .int 3600]) (rest := []) ⟨hx, hb, hml, hown, hts⟩ (cM_in l D cI cZ q eu10) (va_cwS 3 hts gX9_rule_X9_in rfl rfl rfl (by decide +kernel) ⟨Nat.le_of_ble_eq_true rfl, Nat.le_of_ble_eq_true rfl⟩) hK hI rfl hl.1 rfl (Nat.le_of_ble_eq_true rfl) dX9_rule_8 ⟨Nat.le_refl _, Nat.le_refl _⟩ (fun H locs hI => ?_)
  refine lv_if_eq (tgt := 40) hx hb dX9_rule_11 (by decide) (fun c12 => ?_) (fun c12 => ?_)
  · replace h := mpos c12 h
    exact w_M_rule_40 C h hI (lv_sub hl [0, 1, 2, 3] rfl)
  · replace h := mneg c12 h
    refine lv_iload_n hx hb dX9_rule_14 rfl (lv_at hl 2 rfl) ?_
    refine lv_iconst (v := 0) hx hb dX9_rule_15 (by decide) ?_
    refine lv_sipush (v := 180) hx hb dX9_rule_16 (by decide) ?_
    obtain ⟨r14, u13, eu13, h⟩ := mb2_spec h
    refine mg_callS (As := [.int x2, .int 0, .int 180]) (rest := []) ⟨hx, hb, hml, hown, hts⟩ (cM_in l D cI cZ q eu13) (va_cwS 3 hts gX9_rule_X9_in rfl rfl rfl (by decide +kernel) ⟨Nat.le_of_ble_eq_true rfl, Nat.le_of_ble_eq_true rfl⟩) hK hI rfl hl.1 rfl (Nat.le_of_ble_eq_true rfl) dX9_rule_19 ⟨Nat.le_refl _, Nat.le_refl _⟩ (fun H locs hI => ?_)
    refine lv_if_eq (tgt := 40) hx hb dX9_rule_22 (by decide) (fun c15 => ?_) (fun c15 => ?_)
    · replace h := mpos c15 h
      exact w_M_rule_40 C h hI (lv_sub hl [0, 1, 2, 3] rfl)
    · replace h := mneg c15 h
      refine lv_iload_n hx hb dX9_rule_25 rfl (lv_at hl 3 rfl) ?_
      refine lv_iconst (v := 1) hx hb dX9_rule_26 (by decide) ?_
      refine lv_sipush (v := 360) hx hb dX9_rule_27 (by decide) ?_
      obtain ⟨r17, u16, eu16, h⟩ := mb2_spec h
      refine mg_callS (As := [.int x3, .int 1, .int 360]) (rest := []) ⟨hx, hb, hml, hown, hts⟩ (cM_in l D cI cZ q eu16) (va_cwS 3 hts gX9_rule_X9_in rfl rfl rfl (by decide +kernel) ⟨Nat.le_of_ble_eq_true rfl, Nat.le_of_ble_eq_true rfl⟩) hK hI rfl hl.1 rfl (Nat.le_of_ble_eq_true rfl) dX9_rule_30 ⟨Nat.le_refl _, Nat.le_refl _⟩ (fun H locs hI => ?_)
      refine lv_if_eq (tgt := 40) hx hb dX9_rule_33 (by decide) (fun c18 => ?_) (fun c18 => ?_)
      · replace h := mpos c18 h
        exact w_M_rule_40 C h hI (lv_sub hl [0, 1, 2, 3] rfl)
      · replace h := mneg c18 h
        refine lv_iconst (v := 1) hx hb dX9_rule_36 (by decide) ?_
        refine lv_goto (tgt := 41) hx hb dX9_rule_37 (by decide) ?_
        exact w_M_rule_41 C h hI (lv_sub hl [0, 1, 2, 3] rfl)
set_option maxRecDepth 20000 in
theorem cM_rule (l : Launch) (D : va_G) (cI cZ : ClassId) (q : Nat → Nat) {u uz : MS} {rz : Int32} {x1 x2 x3 : Int32} (h : fM_rule u x1 x2 x3 = some (rz, uz)) : Met l yX9_rule wsX9_rule (mR 1 22) (va_Pc [.ref (q 0), .int x1, .int x2, .int x3] (mPre D cI cZ q u)) (mQ D cI cZ q rz uz) 0 0 (mF q) := by
  refine Met.ofW (cc := cX9_rule) (maxL := 5) (ret := (some .int)) (by decide) rfl ?_
  intro p e s m args below meth c s₁ B hml hv
  obtain ⟨rfl, hw, hK⟩ := hv
  have C : mC p s m _ meth c cX9_rule (some .int) wsX9_rule 5 D cI cZ := ⟨B.exec, B.bytes, B.returns, atoms_spec (ws := wsX9_rule) B.pre, findClass_of_methodNamed B.named, B.notSynchronized, hml, hK⟩
  have hl := lv_entry ([.ref (q 0), .int x1, .int x2, .int x3]) (n := 5) (Nat.le_of_ble_eq_true rfl)
  rw [lg_entry_eq]
  generalize (lg_sl ([.ref (q 0), .int x1, .int x2, .int x3]) ++ List.replicate (5 - (lg_sl ([.ref (q 0), .int x1, .int x2, .int x3])).length) Slot.unset).toArray = ls at hl ⊢
  have hl : lv_has ls 5 [(0, .ref (q 0)), (1, .int x1), (2, .int x2), (3, .int x3)] := hl
  exact w_M_rule_0 C h ⟨hw, va_S.rf⟩ hl
theorem iM_make : ∀ w ∈ wsX90, w ∈ wsX9_make := by decide +kernel
def fM_make (u : MS) (x1 x2 : Int32) : Option (Int32 × MS) :=
  (mst u 15 (u 13 0) x1).bind fun u1 =>
  (mst u1 14 (u1 13 0) x2).bind fun u2 =>
  (mst u2 16 (u2 13 0) ((-1))).bind fun u3 =>
  (mst u3 17 (u3 13 0) ((-1))).bind fun u4 =>
  (mst u4 18 (u4 13 0) ((-1))).bind fun u5 =>
  (mst u5 20 (u5 13 0) ((-1))).bind fun u6 =>
  (some (mup u6 13 0 ((u6 13 0) + 1))).bind fun u7 =>
  some ((u7 13 0) - 1, u7)
set_option maxRecDepth 20000 in
theorem w_M_make_0 (C : mC p s m args meth c cX9_make (some .int) wsX9_make 3 D cI cZ) {uz : MS} {rz : Int32} {u : MS} {x1 x2 : Int32} (h : fM_make u x1 x2 = some (rz, uz)) {H : Heap} {locs : List Loc} {ls : Array Slot} (hI : mI D cI cZ q u s H locs) (hl : lv_has ls 3 [(0, .ref (q 0)), (1, .int x1), (2, .int x2)]) : W p l e (mR 0 0) s m args below meth c H locs 0 0 (MQ below (mQ D cI cZ q rz uz) args s 0 0 (mF q)) (F0 m 0 ls []) := by
  obtain ⟨hx, hb, hr, hts, hown, hlocks, hml, hK⟩ := id C
  unfold fM_make at h
  refine lv_aload_n hx hb dX9_make_0 rfl (lv_at hl 0 rfl) ?_
  refine mg_get hx hb hts iM_make hown hK hI 15 (by decide) (hts (.fieldLink RX9 45 "PassageCourtModel" "nations" "[I") (by decide +kernel)) rfl dX9_make_1 ?_
  refine lv_aload_n hx hb dX9_make_4 rfl (lv_at hl 0 rfl) ?_
  refine mg_get hx hb hts iM_make hown hK hI 13 (by decide) (hts (.fieldLink RX9 140 "PassageCourtModel" "persons" "I") (by decide +kernel)) rfl dX9_make_5 ?_
  refine lv_iload_n hx hb dX9_make_8 rfl (lv_at hl 1 rfl) ?_
  obtain ⟨u1, eu1, h⟩ := mbind h
  refine mg_ast hx hb hK hI 15 rfl (by decide) eu1 dX9_make_9 (fun H locs hI => ?_)
  refine lv_aload_n hx hb dX9_make_10 rfl (lv_at hl 0 rfl) ?_
  refine mg_get hx hb hts iM_make hown hK hI 14 (by decide) (hts (.fieldLink RX9 42 "PassageCourtModel" "born" "[I") (by decide +kernel)) rfl dX9_make_11 ?_
  refine lv_aload_n hx hb dX9_make_14 rfl (lv_at hl 0 rfl) ?_
  refine mg_get hx hb hts iM_make hown hK hI 13 (by decide) (hts (.fieldLink RX9 140 "PassageCourtModel" "persons" "I") (by decide +kernel)) rfl dX9_make_15 ?_
  refine lv_iload_n hx hb dX9_make_18 rfl (lv_at hl 2 rfl) ?_
  obtain ⟨u2, eu2, h⟩ := mbind h
  refine mg_ast hx hb hK hI 14 rfl (by decide) eu2 dX9_make_19 (fun H locs hI => ?_)
  refine lv_aload_n hx hb dX9_make_20 rfl (lv_at hl 0 rfl) ?_
  refine mg_get hx hb hts iM_make hown hK hI 16 (by decide) (hts (.fieldLink RX9 48 "PassageCourtModel" "mother" "[I") (by decide +kernel)) rfl dX9_make_21 ?_
  refine lv_aload_n hx hb dX9_make_24 rfl (lv_at hl 0 rfl) ?_
  refine mg_get hx hb hts iM_make hown hK hI 13 (by decide) (hts (.fieldLink RX9 140 "PassageCourtModel" "persons" "I") (by decide +kernel)) rfl dX9_make_25 ?_
  refine lv_iconst (v := -1) hx hb dX9_make_28 (by decide) ?_
  obtain ⟨u3, eu3, h⟩ := mbind h
  refine mg_ast hx hb hK hI 16 rfl (by decide) eu3 dX9_make_29 (fun H locs hI => ?_)
  refine lv_aload_n hx hb dX9_make_30 rfl (lv_at hl 0 rfl) ?_
  refine mg_get hx hb hts iM_make hown hK hI 17 (by decide) (hts (.fieldLink RX9 51 "PassageCourtModel" "father" "[I") (by decide +kernel)) rfl dX9_make_31 ?_
  refine lv_aload_n hx hb dX9_make_34 rfl (lv_at hl 0 rfl) ?_
  refine mg_get hx hb hts iM_make hown hK hI 13 (by decide) (hts (.fieldLink RX9 140 "PassageCourtModel" "persons" "I") (by decide +kernel)) rfl dX9_make_35 ?_
  refine lv_iconst (v := -1) hx hb dX9_make_38 (by decide) ?_
  obtain ⟨u4, eu4, h⟩ := mbind h
  refine mg_ast hx hb hK hI 17 rfl (by decide) eu4 dX9_make_39 (fun H locs hI => ?_)
  refine lv_aload_n hx hb dX9_make_40 rfl (lv_at hl 0 rfl) ?_
  refine mg_get hx hb hts iM_make hown hK hI 18 (by decide) (hts (.fieldLink RX9 54 "PassageCourtModel" "where" "[I") (by decide +kernel)) rfl dX9_make_41 ?_
  refine lv_aload_n hx hb dX9_make_44 rfl (lv_at hl 0 rfl) ?_
  refine mg_get hx hb hts iM_make hown hK hI 13 (by decide) (hts (.fieldLink RX9 140 "PassageCourtModel" "persons" "I") (by decide +kernel)) rfl dX9_make_45 ?_
  refine lv_iconst (v := -1) hx hb dX9_make_48 (by decide) ?_
  obtain ⟨u5, eu5, h⟩ := mbind h
  refine mg_ast hx hb hK hI 18 rfl (by decide) eu5 dX9_make_49 (fun H locs hI => ?_)
  refine lv_aload_n hx hb dX9_make_50 rfl (lv_at hl 0 rfl) ?_
  refine mg_get hx hb hts iM_make hown hK hI 20 (by decide) (hts (.fieldLink RX9 60 "PassageCourtModel" "cameBy" "[I") (by decide +kernel)) rfl dX9_make_51 ?_
  refine lv_aload_n hx hb dX9_make_54 rfl (lv_at hl 0 rfl) ?_
  refine mg_get hx hb hts iM_make hown hK hI 13 (by decide) (hts (.fieldLink RX9 140 "PassageCourtModel" "persons" "I") (by decide +kernel)) rfl dX9_make_55 ?_
  refine lv_iconst (v := -1) hx hb dX9_make_58 (by decide) ?_
  obtain ⟨u6, eu6, h⟩ := mbind h
  refine mg_ast hx hb hK hI 20 rfl (by decide) eu6 dX9_make_59 (fun H locs hI => ?_)
  refine lv_aload_n hx hb dX9_make_60 rfl (lv_at hl 0 rfl) ?_
  refine lv_dup hx hb dX9_make_61 rfl ?_
  refine mg_get hx hb hts iM_make hown hK hI 13 (by decide) (hts (.fieldLink RX9 140 "PassageCourtModel" "persons" "I") (by decide +kernel)) rfl dX9_make_62 ?_
  refine lv_iconst (v := 1) hx hb dX9_make_65 (by decide) ?_
  refine lv_iadd hx hb dX9_make_66 ?_
  obtain ⟨u7, eu7, h⟩ := mbind h
  refine mg_put hx hb hts iM_make hown hK hI 13 (by decide) (hts (.fieldLink RX9 140 "PassageCourtModel" "persons" "I") (by decide +kernel)) rfl (by decide +kernel) rfl rfl dX9_make_67 (fun H locs hI => ?_)
  have eu7 := Option.some.inj eu7
  rw [eu7] at hI
  refine lv_aload_n hx hb dX9_make_70 rfl (lv_at hl 0 rfl) ?_
  refine mg_get hx hb hts iM_make hown hK hI 13 (by decide) (hts (.fieldLink RX9 140 "PassageCourtModel" "persons" "I") (by decide +kernel)) rfl dX9_make_71 ?_
  refine lv_iconst (v := 1) hx hb dX9_make_74 (by decide) ?_
  refine lv_isub hx hb dX9_make_75 ?_
  cases h
  exact mg_reti hx hb hr hlocks hK hI dX9_make_76
set_option maxRecDepth 20000 in
theorem cM_make (l : Launch) (D : va_G) (cI cZ : ClassId) (q : Nat → Nat) {u uz : MS} {rz : Int32} {x1 x2 : Int32} (h : fM_make u x1 x2 = some (rz, uz)) : Met l yX9_make wsX9_make (mR 0 0) (va_Pc [.ref (q 0), .int x1, .int x2] (mPre D cI cZ q u)) (mQ D cI cZ q rz uz) 0 0 (mF q) := by
  refine Met.ofW (cc := cX9_make) (maxL := 3) (ret := (some .int)) (by decide) rfl ?_
  intro p e s m args below meth c s₁ B hml hv
  obtain ⟨rfl, hw, hK⟩ := hv
  have C : mC p s m _ meth c cX9_make (some .int) wsX9_make 3 D cI cZ := ⟨B.exec, B.bytes, B.returns, atoms_spec (ws := wsX9_make) B.pre, findClass_of_methodNamed B.named, B.notSynchronized, hml, hK⟩
  have hl := lv_entry ([.ref (q 0), .int x1, .int x2]) (n := 3) (Nat.le_of_ble_eq_true rfl)
  rw [lg_entry_eq]
  generalize (lg_sl ([.ref (q 0), .int x1, .int x2]) ++ List.replicate (3 - (lg_sl ([.ref (q 0), .int x1, .int x2])).length) Slot.unset).toArray = ls at hl ⊢
  have hl : lv_has ls 3 [(0, .ref (q 0)), (1, .int x1), (2, .int x2)] := hl
  exact w_M_make_0 C h ⟨hw, va_S.rf⟩ hl
theorem iM_person : ∀ w ∈ wsX90, w ∈ wsX9_person := by decide +kernel
def fM_person_77 (u : MS) (x2 y0 : Int32) : Option (Int32 × MS) :=
  mb2 (fM_make u y0 ((u 1 0) - (360 * x2))) fun r2 u1 =>
  some (r2, u1)
set_option maxRecDepth 20000 in
theorem w_M_person_77 (C : mC p s m args meth c cX9_person (some .int) wsX9_person 4 D cI cZ) {uz : MS} {rz : Int32} {u : MS} {x2 y0 : Int32} (h : fM_person_77 u x2 y0 = some (rz, uz)) {H : Heap} {locs : List Loc} {ls : Array Slot} (hI : mI D cI cZ q u s H locs) (hl : lv_has ls 4 [(0, .ref (q 0)), (2, .int x2)]) : W p l e (mR 2 43) s m args below meth c H locs 0 0 (MQ below (mQ D cI cZ q rz uz) args s 0 0 (mF q)) (F0 m 77 ls [.int y0, .ref (q 0)]) := by
  obtain ⟨hx, hb, hr, hts, hown, hlocks, hml, hK⟩ := id C
  unfold fM_person_77 at h
  refine lv_aload_n hx hb dX9_person_77 rfl (lv_at hl 0 rfl) ?_
  refine mg_get hx hb hts iM_person hown hK hI 1 (by decide) (hts (.fieldLink RX9 153 "PassageCourtModel" "today" "I") (by decide +kernel)) rfl dX9_person_78 ?_
  refine lv_sipush (v := 360) hx hb dX9_person_81 (by decide) ?_
  refine lv_iload_n hx hb dX9_person_84 rfl (lv_at hl 1 rfl) ?_
  refine lv_imul hx hb dX9_person_85 ?_
  refine lv_isub hx hb dX9_person_86 ?_
  obtain ⟨r2, u1, eu1, h⟩ := mb2_spec h
  refine mg_callV (As := [.int y0, .int ((u 1 0) - (360 * x2))]) (rest := []) ⟨hx, hb, hml, hown, hts⟩ (cM_make l D cI cZ q eu1) (cwV 2 hts gX9_person_X9_make rfl rfl rfl (by decide +kernel) ⟨Nat.le_of_ble_eq_true rfl, Nat.le_of_ble_eq_true rfl⟩) hK hI rfl hl.1 rfl (Nat.le_of_ble_eq_true rfl) dX9_person_87 ⟨Nat.le_refl _, Nat.le_refl _⟩ (fun H locs hI => ?_)
  cases h
  exact mg_reti hx hb hr hlocks hK hI dX9_person_90
def fM_person_56 (u : MS) (x1 x2 y0 : Int32) : Option (Int32 × MS) :=
  mb2 (fM_goesWell u y0) fun r4 u3 =>
  if r4 = 0 then
    some (0, u3)
  else
    if x1 = ((-1)) then
      fM_person_77 u3 x2 0
    else
      fM_person_77 u3 x2 (1 <<< (x1 &&& 31))
set_option maxRecDepth 20000 in
theorem w_M_person_56 (C : mC p s m args meth c cX9_person (some .int) wsX9_person 4 D cI cZ) {uz : MS} {rz : Int32} {u : MS} {x1 x2 y0 : Int32} (h : fM_person_56 u x1 x2 y0 = some (rz, uz)) {H : Heap} {locs : List Loc} {ls : Array Slot} (hI : mI D cI cZ q u s H locs) (hl : lv_has ls 4 [(0, .ref (q 0)), (1, .int x1), (2, .int x2)]) : W p l e (mR 2 43) s m args below meth c H locs 0 0 (MQ below (mQ D cI cZ q rz uz) args s 0 0 (mF q)) (F0 m 56 ls [.int y0, .ref (q 0)]) := by
  obtain ⟨hx, hb, hr, hts, hown, hlocks, hml, hK⟩ := id C
  unfold fM_person_56 at h
  obtain ⟨r4, u3, eu3, h⟩ := mb2_spec h
  refine mg_callV (As := [.int y0]) (rest := []) ⟨hx, hb, hml, hown, hts⟩ (cM_goesWell l D cI cZ q eu3) (cwV 1 hts gX9_person_X9_goesWell rfl rfl rfl (by decide +kernel) ⟨Nat.le_of_ble_eq_true rfl, Nat.le_of_ble_eq_true rfl⟩) hK hI rfl hl.1 rfl (Nat.le_of_ble_eq_true rfl) dX9_person_56 ⟨Nat.le_refl _, Nat.le_refl _⟩ (fun H locs hI => ?_)
  refine lv_if_ne (tgt := 64) hx hb dX9_person_59 (by decide) (fun c5 => ?_) (fun c5 => ?_)
  · replace h := mneg c5 h
    refine lv_aload_n hx hb dX9_person_64 rfl (lv_at hl 0 rfl) ?_
    refine lv_iload_n hx hb dX9_person_65 rfl (lv_at hl 1 rfl) ?_
    refine lv_iconst (v := -1) hx hb dX9_person_66 (by decide) ?_
    refine lv_icmp_ne (tgt := 74) hx hb dX9_person_67 (by decide) (fun c6 => ?_) (fun c6 => ?_)
    · replace h := mneg c6 h
      refine lv_iconst (v := 1) hx hb dX9_person_74 (by decide) ?_
      refine lv_iload_n hx hb dX9_person_75 rfl (lv_at hl 1 rfl) ?_
      refine lv_ishl hx hb dX9_person_76 ?_
      exact w_M_person_77 C h hI (lv_sub hl [0, 2] rfl)
    · replace h := mpos c6 h
      refine lv_iconst (v := 0) hx hb dX9_person_70 (by decide) ?_
      refine lv_goto (tgt := 77) hx hb dX9_person_71 (by decide) ?_
      exact w_M_person_77 C h hI (lv_sub hl [0, 2] rfl)
  · replace h := mpos c5 h
    refine lv_iconst (v := 0) hx hb dX9_person_62 (by decide) ?_
    cases h
    exact mg_reti hx hb hr hlocks hK hI dX9_person_63
def fM_person_18 (u : MS) (x1 x2 y0 : Int32) : Option (Int32 × MS) :=
  if y0 = 0 then
    fM_person_56 u x1 x2 1
  else
    mb2 (fM_in u x2 0 99) fun r9 u8 =>
    if r9 = 0 then
      fM_person_56 u8 x1 x2 2
    else
      if (u8 13 0) = 16 then
        fM_person_56 u8 x1 x2 3
      else
        fM_person_56 u8 x1 x2 0
set_option maxRecDepth 20000 in
theorem w_M_person_18 (C : mC p s m args meth c cX9_person (some .int) wsX9_person 4 D cI cZ) {uz : MS} {rz : Int32} {u : MS} {x1 x2 y0 : Int32} (h : fM_person_18 u x1 x2 y0 = some (rz, uz)) {H : Heap} {locs : List Loc} {ls : Array Slot} (hI : mI D cI cZ q u s H locs) (hl : lv_has ls 4 [(0, .ref (q 0)), (1, .int x1), (2, .int x2)]) : W p l e (mR 2 43) s m args below meth c H locs 0 0 (MQ below (mQ D cI cZ q rz uz) args s 0 0 (mF q)) (F0 m 18 ls [.int y0]) := by
  obtain ⟨hx, hb, hr, hts, hown, hlocks, hml, hK⟩ := id C
  unfold fM_person_18 at h
  refine lv_istore_n (lv' := [(3, .int y0), (0, .ref (q 0)), (1, .int x1), (2, .int x2)]) hx hb dX9_person_18 rfl hl (by decide) rfl (fun ls hl => ?_)
  refine lv_aload_n hx hb dX9_person_19 rfl (lv_at hl 1 rfl) ?_
  refine lv_iload_n hx hb dX9_person_20 rfl (lv_at hl 0 rfl) ?_
  refine lv_if_ne (tgt := 28) hx hb dX9_person_21 (by decide) (fun c7 => ?_) (fun c7 => ?_)
  · replace h := mneg c7 h
    refine lv_iload_n hx hb dX9_person_28 rfl (lv_at hl 3 rfl) ?_
    refine lv_iconst (v := 0) hx hb dX9_person_29 (by decide) ?_
    refine lv_bipush (v := 99) hx hb dX9_person_30 (by decide) ?_
    obtain ⟨r9, u8, eu8, h⟩ := mb2_spec h
    refine mg_callS (As := [.int x2, .int 0, .int 99]) (rest := [.ref (q 0)]) ⟨hx, hb, hml, hown, hts⟩ (cM_in l D cI cZ q eu8) (va_cwS 3 hts gX9_person_X9_in rfl rfl rfl (by decide +kernel) ⟨Nat.le_of_ble_eq_true rfl, Nat.le_of_ble_eq_true rfl⟩) hK hI rfl hl.1 rfl (Nat.le_of_ble_eq_true rfl) dX9_person_32 ⟨Nat.le_refl _, Nat.le_refl _⟩ (fun H locs hI => ?_)
    refine lv_if_ne (tgt := 42) hx hb dX9_person_35 (by decide) (fun c10 => ?_) (fun c10 => ?_)
    · replace h := mneg c10 h
      refine lv_aload_n hx hb dX9_person_42 rfl (lv_at hl 1 rfl) ?_
      refine mg_get hx hb hts iM_person hown hK hI 13 (by decide) (hts (.fieldLink RX9 140 "PassageCourtModel" "persons" "I") (by decide +kernel)) rfl dX9_person_43 ?_
      refine lv_bipush (v := 16) hx hb dX9_person_46 (by decide) ?_
      refine lv_icmp_ne (tgt := 55) hx hb dX9_person_48 (by decide) (fun c11 => ?_) (fun c11 => ?_)
      · replace h := mneg c11 h
        refine lv_iconst (v := 0) hx hb dX9_person_55 (by decide) ?_
        exact w_M_person_56 C h hI (lv_sub hl [1, 2, 3] rfl)
      · replace h := mpos c11 h
        refine lv_iconst (v := 3) hx hb dX9_person_51 (by decide) ?_
        refine lv_goto (tgt := 56) hx hb dX9_person_52 (by decide) ?_
        exact w_M_person_56 C h hI (lv_sub hl [1, 2, 3] rfl)
    · replace h := mpos c10 h
      refine lv_iconst (v := 2) hx hb dX9_person_38 (by decide) ?_
      refine lv_goto (tgt := 56) hx hb dX9_person_39 (by decide) ?_
      exact w_M_person_56 C h hI (lv_sub hl [1, 2, 3] rfl)
  · replace h := mpos c7 h
    refine lv_iconst (v := 1) hx hb dX9_person_24 (by decide) ?_
    refine lv_goto (tgt := 56) hx hb dX9_person_25 (by decide) ?_
    exact w_M_person_56 C h hI (lv_sub hl [1, 2, 3] rfl)
def fM_person_13 (u : MS) (x1 x2 : Int32) : Option (Int32 × MS) :=
  fM_person_18 u x1 x2 1
set_option maxRecDepth 20000 in
theorem w_M_person_13 (C : mC p s m args meth c cX9_person (some .int) wsX9_person 4 D cI cZ) {uz : MS} {rz : Int32} {u : MS} {x1 x2 : Int32} (h : fM_person_13 u x1 x2 = some (rz, uz)) {H : Heap} {locs : List Loc} {ls : Array Slot} (hI : mI D cI cZ q u s H locs) (hl : lv_has ls 4 [(0, .ref (q 0)), (1, .int x1), (2, .int x2)]) : W p l e (mR 2 43) s m args below meth c H locs 0 0 (MQ below (mQ D cI cZ q rz uz) args s 0 0 (mF q)) (F0 m 13 ls []) := by
  obtain ⟨hx, hb, hr, hts, hown, hlocks, hml, hK⟩ := id C
  unfold fM_person_13 at h
  refine lv_iconst (v := 1) hx hb dX9_person_13 (by decide) ?_
  refine lv_goto (tgt := 18) hx hb dX9_person_14 (by decide) ?_
  exact w_M_person_18 C h hI (lv_sub hl [0, 1, 2] rfl)
def fM_person (u : MS) (x1 x2 : Int32) : Option (Int32 × MS) :=
  if x1 = ((-1)) then
    fM_person_13 u x1 x2
  else
    mb2 (fM_isLand u x1) fun r14 u13 =>
    if r14 = 0 then
      fM_person_18 u13 x1 x2 0
    else
      fM_person_13 u13 x1 x2
set_option maxRecDepth 20000 in
theorem w_M_person_0 (C : mC p s m args meth c cX9_person (some .int) wsX9_person 4 D cI cZ) {uz : MS} {rz : Int32} {u : MS} {x1 x2 : Int32} (h : fM_person u x1 x2 = some (rz, uz)) {H : Heap} {locs : List Loc} {ls : Array Slot} (hI : mI D cI cZ q u s H locs) (hl : lv_has ls 4 [(0, .ref (q 0)), (1, .int x1), (2, .int x2)]) : W p l e (mR 2 43) s m args below meth c H locs 0 0 (MQ below (mQ D cI cZ q rz uz) args s 0 0 (mF q)) (F0 m 0 ls []) := by
  obtain ⟨hx, hb, hr, hts, hown, hlocks, hml, hK⟩ := id C
  unfold fM_person at h
  refine lv_iload_n hx hb dX9_person_0 rfl (lv_at hl 1 rfl) ?_
  refine lv_iconst (v := -1) hx hb dX9_person_1 (by decide) ?_
  refine lv_icmp_eq (tgt := 13) hx hb dX9_person_2 (by decide) (fun c12 => ?_) (fun c12 => ?_)
  · replace h := mpos c12 h
    exact w_M_person_13 C h hI (lv_sub hl [0, 1, 2] rfl)
  · replace h := mneg c12 h
    refine lv_aload_n hx hb dX9_person_5 rfl (lv_at hl 0 rfl) ?_
    refine lv_iload_n hx hb dX9_person_6 rfl (lv_at hl 1 rfl) ?_
    obtain ⟨r14, u13, eu13, h⟩ := mb2_spec h
    refine mg_callV (As := [.int x1]) (rest := []) ⟨hx, hb, hml, hown, hts⟩ (cM_isLand l D cI cZ q eu13) (cwV 1 hts gX9_person_X9_isLand rfl rfl rfl (by decide +kernel) ⟨Nat.le_of_ble_eq_true rfl, Nat.le_of_ble_eq_true rfl⟩) hK hI rfl hl.1 rfl (Nat.le_of_ble_eq_true rfl) dX9_person_7 ⟨Nat.le_refl _, Nat.le_refl _⟩ (fun H locs hI => ?_)
    refine lv_if_eq (tgt := 17) hx hb dX9_person_10 (by decide) (fun c15 => ?_) (fun c15 => ?_)
    · replace h := mpos c15 h
      refine lv_iconst (v := 0) hx hb dX9_person_17 (by decide) ?_
      exact w_M_person_18 C h hI (lv_sub hl [0, 1, 2] rfl)
    · replace h := mneg c15 h
      exact w_M_person_13 C h hI (lv_sub hl [0, 1, 2] rfl)
set_option maxRecDepth 20000 in
theorem cM_person (l : Launch) (D : va_G) (cI cZ : ClassId) (q : Nat → Nat) {u uz : MS} {rz : Int32} {x1 x2 : Int32} (h : fM_person u x1 x2 = some (rz, uz)) : Met l yX9_person wsX9_person (mR 2 43) (va_Pc [.ref (q 0), .int x1, .int x2] (mPre D cI cZ q u)) (mQ D cI cZ q rz uz) 0 0 (mF q) := by
  refine Met.ofW (cc := cX9_person) (maxL := 4) (ret := (some .int)) (by decide) rfl ?_
  intro p e s m args below meth c s₁ B hml hv
  obtain ⟨rfl, hw, hK⟩ := hv
  have C : mC p s m _ meth c cX9_person (some .int) wsX9_person 4 D cI cZ := ⟨B.exec, B.bytes, B.returns, atoms_spec (ws := wsX9_person) B.pre, findClass_of_methodNamed B.named, B.notSynchronized, hml, hK⟩
  have hl := lv_entry ([.ref (q 0), .int x1, .int x2]) (n := 4) (Nat.le_of_ble_eq_true rfl)
  rw [lg_entry_eq]
  generalize (lg_sl ([.ref (q 0), .int x1, .int x2]) ++ List.replicate (4 - (lg_sl ([.ref (q 0), .int x1, .int x2])).length) Slot.unset).toArray = ls at hl ⊢
  have hl : lv_has ls 4 [(0, .ref (q 0)), (1, .int x1), (2, .int x2)] := hl
  exact w_M_person_0 C h ⟨hw, va_S.rf⟩ hl
end GM0
