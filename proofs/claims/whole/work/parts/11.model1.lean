section GM1
variable {p : Program} {l : Launch} {e : Env} {s : State} {m : MethodId} {args : Array Value} {below : List Frame} {meth : Method} {c : Code} {D : va_G} {cI cZ : ClassId} {q : Nat → Nat}
theorem iM_hasPermit : ∀ w ∈ wsX90, w ∈ wsX9_hasPermit := by decide +kernel
def fM_hasPermit_23 (u : MS) (y0 : Int32) : Option (Int32 × MS) :=
  (mbo y0).bind fun b1 => some (b1, u)
set_option maxRecDepth 20000 in
theorem w_M_hasPermit_23 (C : mC p s m args meth c cX9_hasPermit (some .boolean) wsX9_hasPermit 3 D cI cZ) {uz : MS} {rz : Int32} {u : MS} {y0 : Int32} (h : fM_hasPermit_23 u y0 = some (rz, uz)) {H : Heap} {locs : List Loc} {ls : Array Slot} (hI : mI D cI cZ q u s H locs) (hl : lv_has ls 3 [(0, .ref (q 0))]) : W p l e (mR 0 0) s m args below meth c H locs 0 0 (MQ below (mQ D cI cZ q rz uz) args s 0 0 (mF q)) (F0 m 23 ls [.int y0]) := by
  obtain ⟨hx, hb, hr, hts, hown, hlocks, hml, hK⟩ := id C
  unfold fM_hasPermit_23 at h
  obtain ⟨b1, eb1, h⟩ := mbind h
  cases h
  exact mg_retz hx hb hr hlocks hK hI dX9_hasPermit_23 eb1
def fM_hasPermit (u : MS) (x1 x2 : Int32) : Option (Int32 × MS) :=
  (mld u 23 ((8 * x1) + x2)).bind fun r2 =>
  if r2 < (u 1 0) then
    fM_hasPermit_23 u 0
  else
    fM_hasPermit_23 u 1
set_option maxRecDepth 20000 in
theorem w_M_hasPermit_0 (C : mC p s m args meth c cX9_hasPermit (some .boolean) wsX9_hasPermit 3 D cI cZ) {uz : MS} {rz : Int32} {u : MS} {x1 x2 : Int32} (h : fM_hasPermit u x1 x2 = some (rz, uz)) {H : Heap} {locs : List Loc} {ls : Array Slot} (hI : mI D cI cZ q u s H locs) (hl : lv_has ls 3 [(0, .ref (q 0)), (1, .int x1), (2, .int x2)]) : W p l e (mR 0 0) s m args below meth c H locs 0 0 (MQ below (mQ D cI cZ q rz uz) args s 0 0 (mF q)) (F0 m 0 ls []) := by
  obtain ⟨hx, hb, hr, hts, hown, hlocks, hml, hK⟩ := id C
  unfold fM_hasPermit at h
  refine lv_aload_n hx hb dX9_hasPermit_0 rfl (lv_at hl 0 rfl) ?_
  refine mg_get hx hb hts iM_hasPermit hown hK hI 23 (by decide) (hts (.fieldLink RX9 70 "PassageCourtModel" "permitTo" "[I") (by decide +kernel)) rfl dX9_hasPermit_1 ?_
  refine lv_bipush (v := 8) hx hb dX9_hasPermit_4 (by decide) ?_
  refine lv_iload_n hx hb dX9_hasPermit_6 rfl (lv_at hl 1 rfl) ?_
  refine lv_imul hx hb dX9_hasPermit_7 ?_
  refine lv_iload_n hx hb dX9_hasPermit_8 rfl (lv_at hl 2 rfl) ?_
  refine lv_iadd hx hb dX9_hasPermit_9 ?_
  obtain ⟨r2, er2, h⟩ := mbind h
  refine mg_ald hx hb hK hI 23 rfl (by decide) er2 dX9_hasPermit_10 ?_
  refine lv_aload_n hx hb dX9_hasPermit_11 rfl (lv_at hl 0 rfl) ?_
  refine mg_get hx hb hts iM_hasPermit hown hK hI 1 (by decide) (hts (.fieldLink RX9 153 "PassageCourtModel" "today" "I") (by decide +kernel)) rfl dX9_hasPermit_12 ?_
  refine lv_icmp_lt (tgt := 22) hx hb dX9_hasPermit_15 (by decide) (fun c3 => ?_) (fun c3 => ?_)
  · replace h := mpos c3 h
    refine lv_iconst (v := 0) hx hb dX9_hasPermit_22 (by decide) ?_
    exact w_M_hasPermit_23 C h hI (lv_sub hl [0] rfl)
  · replace h := mneg c3 h
    refine lv_iconst (v := 1) hx hb dX9_hasPermit_18 (by decide) ?_
    refine lv_goto (tgt := 23) hx hb dX9_hasPermit_19 (by decide) ?_
    exact w_M_hasPermit_23 C h hI (lv_sub hl [0] rfl)
set_option maxRecDepth 20000 in
theorem cM_hasPermit (l : Launch) (D : va_G) (cI cZ : ClassId) (q : Nat → Nat) {u uz : MS} {rz : Int32} {x1 x2 : Int32} (h : fM_hasPermit u x1 x2 = some (rz, uz)) : Met l yX9_hasPermit wsX9_hasPermit (mR 0 0) (va_Pc [.ref (q 0), .int x1, .int x2] (mPre D cI cZ q u)) (mQ D cI cZ q rz uz) 0 0 (mF q) := by
  refine Met.ofW (cc := cX9_hasPermit) (maxL := 3) (ret := (some .boolean)) (by decide) rfl ?_
  intro p e s m args below meth c s₁ B hml hv
  obtain ⟨rfl, hw, hK⟩ := hv
  have C : mC p s m _ meth c cX9_hasPermit (some .boolean) wsX9_hasPermit 3 D cI cZ := ⟨B.exec, B.bytes, B.returns, atoms_spec (ws := wsX9_hasPermit) B.pre, findClass_of_methodNamed B.named, B.notSynchronized, hml, hK⟩
  have hl := lv_entry ([.ref (q 0), .int x1, .int x2]) (n := 3) (Nat.le_of_ble_eq_true rfl)
  rw [lg_entry_eq]
  generalize (lg_sl ([.ref (q 0), .int x1, .int x2]) ++ List.replicate (3 - (lg_sl ([.ref (q 0), .int x1, .int x2])).length) Slot.unset).toArray = ls at hl ⊢
  have hl : lv_has ls 3 [(0, .ref (q 0)), (1, .int x1), (2, .int x2)] := hl
  exact w_M_hasPermit_0 C h ⟨hw, va_S.rf⟩ hl
theorem iM_belongs : ∀ w ∈ wsX90, w ∈ wsX9_belongs := by decide +kernel
def fM_belongs_32 (u : MS) (y0 : Int32) : Option (Int32 × MS) :=
  (mbo y0).bind fun b1 => some (b1, u)
set_option maxRecDepth 20000 in
theorem w_M_belongs_32 (C : mC p s m args meth c cX9_belongs (some .boolean) wsX9_belongs 3 D cI cZ) {uz : MS} {rz : Int32} {u : MS} {y0 : Int32} (h : fM_belongs_32 u y0 = some (rz, uz)) {H : Heap} {locs : List Loc} {ls : Array Slot} (hI : mI D cI cZ q u s H locs) (hl : lv_has ls 3 [(0, .ref (q 0))]) : W p l e (mR 1 22) s m args below meth c H locs 0 0 (MQ below (mQ D cI cZ q rz uz) args s 0 0 (mF q)) (F0 m 32 ls [.int y0]) := by
  obtain ⟨hx, hb, hr, hts, hown, hlocks, hml, hK⟩ := id C
  unfold fM_belongs_32 at h
  obtain ⟨b1, eb1, h⟩ := mbind h
  cases h
  exact mg_retz hx hb hr hlocks hK hI dX9_belongs_32 eb1
def fM_belongs_31 (u : MS) : Option (Int32 × MS) :=
  fM_belongs_32 u 0
set_option maxRecDepth 20000 in
theorem w_M_belongs_31 (C : mC p s m args meth c cX9_belongs (some .boolean) wsX9_belongs 3 D cI cZ) {uz : MS} {rz : Int32} {u : MS} (h : fM_belongs_31 u = some (rz, uz)) {H : Heap} {locs : List Loc} {ls : Array Slot} (hI : mI D cI cZ q u s H locs) (hl : lv_has ls 3 [(0, .ref (q 0))]) : W p l e (mR 1 22) s m args below meth c H locs 0 0 (MQ below (mQ D cI cZ q rz uz) args s 0 0 (mF q)) (F0 m 31 ls []) := by
  obtain ⟨hx, hb, hr, hts, hown, hlocks, hml, hK⟩ := id C
  unfold fM_belongs_31 at h
  refine lv_iconst (v := 0) hx hb dX9_belongs_31 (by decide) ?_
  exact w_M_belongs_32 C h hI (lv_sub hl [0] rfl)
def fM_belongs_27 (u : MS) : Option (Int32 × MS) :=
  fM_belongs_32 u 1
set_option maxRecDepth 20000 in
theorem w_M_belongs_27 (C : mC p s m args meth c cX9_belongs (some .boolean) wsX9_belongs 3 D cI cZ) {uz : MS} {rz : Int32} {u : MS} (h : fM_belongs_27 u = some (rz, uz)) {H : Heap} {locs : List Loc} {ls : Array Slot} (hI : mI D cI cZ q u s H locs) (hl : lv_has ls 3 [(0, .ref (q 0))]) : W p l e (mR 1 22) s m args below meth c H locs 0 0 (MQ below (mQ D cI cZ q rz uz) args s 0 0 (mF q)) (F0 m 27 ls []) := by
  obtain ⟨hx, hb, hr, hts, hown, hlocks, hml, hK⟩ := id C
  unfold fM_belongs_27 at h
  refine lv_iconst (v := 1) hx hb dX9_belongs_27 (by decide) ?_
  refine lv_goto (tgt := 32) hx hb dX9_belongs_28 (by decide) ?_
  exact w_M_belongs_32 C h hI (lv_sub hl [0] rfl)
def fM_belongs (u : MS) (x1 x2 : Int32) : Option (Int32 × MS) :=
  if x1 = ((-1)) then
    fM_belongs_31 u
  else
    (mld u 15 x1).bind fun r3 =>
    mb2 (fM_has u r3 x2) fun r5 u4 =>
    if r5 = 0 then
      mb2 (fM_hasPermit u4 x1 x2) fun r8 u7 =>
      if r8 = 0 then
        fM_belongs_31 u7
      else
        fM_belongs_27 u7
    else
      fM_belongs_27 u4
set_option maxRecDepth 20000 in
theorem w_M_belongs_0 (C : mC p s m args meth c cX9_belongs (some .boolean) wsX9_belongs 3 D cI cZ) {uz : MS} {rz : Int32} {u : MS} {x1 x2 : Int32} (h : fM_belongs u x1 x2 = some (rz, uz)) {H : Heap} {locs : List Loc} {ls : Array Slot} (hI : mI D cI cZ q u s H locs) (hl : lv_has ls 3 [(0, .ref (q 0)), (1, .int x1), (2, .int x2)]) : W p l e (mR 1 22) s m args below meth c H locs 0 0 (MQ below (mQ D cI cZ q rz uz) args s 0 0 (mF q)) (F0 m 0 ls []) := by
  obtain ⟨hx, hb, hr, hts, hown, hlocks, hml, hK⟩ := id C
  unfold fM_belongs at h
  refine lv_iload_n hx hb dX9_belongs_0 rfl (lv_at hl 1 rfl) ?_
  refine lv_iconst (v := -1) hx hb dX9_belongs_1 (by decide) ?_
  refine lv_icmp_eq (tgt := 31) hx hb dX9_belongs_2 (by decide) (fun c2 => ?_) (fun c2 => ?_)
  · replace h := mpos c2 h
    exact w_M_belongs_31 C h hI (lv_sub hl [0] rfl)
  · replace h := mneg c2 h
    refine lv_aload_n hx hb dX9_belongs_5 rfl (lv_at hl 0 rfl) ?_
    refine mg_get hx hb hts iM_belongs hown hK hI 15 (by decide) (hts (.fieldLink RX9 45 "PassageCourtModel" "nations" "[I") (by decide +kernel)) rfl dX9_belongs_6 ?_
    refine lv_iload_n hx hb dX9_belongs_9 rfl (lv_at hl 1 rfl) ?_
    obtain ⟨r3, er3, h⟩ := mbind h
    refine mg_ald hx hb hK hI 15 rfl (by decide) er3 dX9_belongs_10 ?_
    refine lv_iload_n hx hb dX9_belongs_11 rfl (lv_at hl 2 rfl) ?_
    obtain ⟨r5, u4, eu4, h⟩ := mb2_spec h
    refine mg_callS (As := [.int r3, .int x2]) (rest := []) ⟨hx, hb, hml, hown, hts⟩ (cM_has l D cI cZ q eu4) (va_cwS 2 hts gX9_belongs_X9_has rfl rfl rfl (by decide +kernel) ⟨Nat.le_of_ble_eq_true rfl, Nat.le_of_ble_eq_true rfl⟩) hK hI rfl hl.1 rfl (Nat.le_of_ble_eq_true rfl) dX9_belongs_12 ⟨Nat.le_refl _, Nat.le_refl _⟩ (fun H locs hI => ?_)
    refine lv_if_ne (tgt := 27) hx hb dX9_belongs_15 (by decide) (fun c6 => ?_) (fun c6 => ?_)
    · replace h := mneg c6 h
      exact w_M_belongs_27 C h hI (lv_sub hl [0] rfl)
    · replace h := mpos c6 h
      refine lv_aload_n hx hb dX9_belongs_18 rfl (lv_at hl 0 rfl) ?_
      refine lv_iload_n hx hb dX9_belongs_19 rfl (lv_at hl 1 rfl) ?_
      refine lv_iload_n hx hb dX9_belongs_20 rfl (lv_at hl 2 rfl) ?_
      obtain ⟨r8, u7, eu7, h⟩ := mb2_spec h
      refine mg_callV (As := [.int x1, .int x2]) (rest := []) ⟨hx, hb, hml, hown, hts⟩ (cM_hasPermit l D cI cZ q eu7) (cwV 2 hts gX9_belongs_X9_hasPermit rfl rfl rfl (by decide +kernel) ⟨Nat.le_of_ble_eq_true rfl, Nat.le_of_ble_eq_true rfl⟩) hK hI rfl hl.1 rfl (Nat.le_of_ble_eq_true rfl) dX9_belongs_21 ⟨Nat.le_refl _, Nat.le_refl _⟩ (fun H locs hI => ?_)
      refine lv_if_eq (tgt := 31) hx hb dX9_belongs_24 (by decide) (fun c9 => ?_) (fun c9 => ?_)
      · replace h := mpos c9 h
        exact w_M_belongs_31 C h hI (lv_sub hl [0] rfl)
      · replace h := mneg c9 h
        exact w_M_belongs_27 C h hI (lv_sub hl [0] rfl)
set_option maxRecDepth 20000 in
theorem cM_belongs (l : Launch) (D : va_G) (cI cZ : ClassId) (q : Nat → Nat) {u uz : MS} {rz : Int32} {x1 x2 : Int32} (h : fM_belongs u x1 x2 = some (rz, uz)) : Met l yX9_belongs wsX9_belongs (mR 1 22) (va_Pc [.ref (q 0), .int x1, .int x2] (mPre D cI cZ q u)) (mQ D cI cZ q rz uz) 0 0 (mF q) := by
  refine Met.ofW (cc := cX9_belongs) (maxL := 3) (ret := (some .boolean)) (by decide) rfl ?_
  intro p e s m args below meth c s₁ B hml hv
  obtain ⟨rfl, hw, hK⟩ := hv
  have C : mC p s m _ meth c cX9_belongs (some .boolean) wsX9_belongs 3 D cI cZ := ⟨B.exec, B.bytes, B.returns, atoms_spec (ws := wsX9_belongs) B.pre, findClass_of_methodNamed B.named, B.notSynchronized, hml, hK⟩
  have hl := lv_entry ([.ref (q 0), .int x1, .int x2]) (n := 3) (Nat.le_of_ble_eq_true rfl)
  rw [lg_entry_eq]
  generalize (lg_sl ([.ref (q 0), .int x1, .int x2]) ++ List.replicate (3 - (lg_sl ([.ref (q 0), .int x1, .int x2])).length) Slot.unset).toArray = ls at hl ⊢
  have hl : lv_has ls 3 [(0, .ref (q 0)), (1, .int x1), (2, .int x2)] := hl
  exact w_M_belongs_0 C h ⟨hw, va_S.rf⟩ hl
theorem iM_isFree : ∀ w ∈ wsX90, w ∈ wsX9_isFree := by decide +kernel
def fM_isFree_81 (rec5 : MS → Int32 → Int32 → Int32 → Int32 → Option (Int32 × MS)) (u : MS) (x1 x2 x4 y0 : Int32) : Option (Int32 × MS) :=
  rec5 u x1 x2 y0 (x4 + 1)
set_option maxRecDepth 20000 in
theorem w_M_isFree_81 (C : mC p s m args meth c cX9_isFree (some .boolean) wsX9_isFree 5 D cI cZ) {uz : MS} {rz : Int32} {rec5 : MS → Int32 → Int32 → Int32 → Int32 → Option (Int32 × MS)} (hrec5 : ∀ {u : MS} {x1 x2 x3 x4 : Int32} (_ : rec5 u x1 x2 x3 x4 = some (rz, uz)) {H : Heap} {locs : List Loc} {ls : Array Slot} (_ : mI D cI cZ q u s H locs) (_ : lv_has ls 5 [(0, .ref (q 0)), (1, .int x1), (2, .int x2), (3, .int x3), (4, .int x4)]), W p l e (mR 1 22) s m args below meth c H locs 0 0 (MQ below (mQ D cI cZ q rz uz) args s 0 0 (mF q)) (F0 m 5 ls [])) {u : MS} {x1 x2 x4 y0 : Int32} (h : fM_isFree_81 rec5 u x1 x2 x4 y0 = some (rz, uz)) {H : Heap} {locs : List Loc} {ls : Array Slot} (hI : mI D cI cZ q u s H locs) (hl : lv_has ls 5 [(0, .ref (q 0)), (1, .int x1), (2, .int x2), (4, .int x4)]) : W p l e (mR 1 22) s m args below meth c H locs 0 0 (MQ below (mQ D cI cZ q rz uz) args s 0 0 (mF q)) (F0 m 81 ls [.int y0]) := by
  obtain ⟨hx, hb, hr, hts, hown, hlocks, hml, hK⟩ := id C
  unfold fM_isFree_81 at h
  refine lv_istore_n (lv' := [(3, .int y0), (0, .ref (q 0)), (1, .int x1), (2, .int x2), (4, .int x4)]) hx hb dX9_isFree_81 rfl hl (by decide) rfl (fun ls hl => ?_)
  refine lv_iinc (v := x4 + 1) (lv' := [(4, .int (x4 + 1)), (3, .int y0), (0, .ref (q 0)), (1, .int x1), (2, .int x2)]) hx hb dX9_isFree_82 hl (k := 4) rfl rfl (by decide) rfl (fun ls hl => ?_)
  refine lv_goto (tgt := 5) hx hb dX9_isFree_85 (by decide) ?_
  exact hrec5 h hI (lv_sub hl [2, 3, 4, 1, 0] rfl)
def fM_isFree_76 (rec5 : MS → Int32 → Int32 → Int32 → Int32 → Option (Int32 × MS)) (u : MS) (x1 x2 x4 : Int32) : Option (Int32 × MS) :=
  fM_isFree_81 rec5 u x1 x2 x4 1
set_option maxRecDepth 20000 in
theorem w_M_isFree_76 (C : mC p s m args meth c cX9_isFree (some .boolean) wsX9_isFree 5 D cI cZ) {uz : MS} {rz : Int32} {rec5 : MS → Int32 → Int32 → Int32 → Int32 → Option (Int32 × MS)} (hrec5 : ∀ {u : MS} {x1 x2 x3 x4 : Int32} (_ : rec5 u x1 x2 x3 x4 = some (rz, uz)) {H : Heap} {locs : List Loc} {ls : Array Slot} (_ : mI D cI cZ q u s H locs) (_ : lv_has ls 5 [(0, .ref (q 0)), (1, .int x1), (2, .int x2), (3, .int x3), (4, .int x4)]), W p l e (mR 1 22) s m args below meth c H locs 0 0 (MQ below (mQ D cI cZ q rz uz) args s 0 0 (mF q)) (F0 m 5 ls [])) {u : MS} {x1 x2 x4 : Int32} (h : fM_isFree_76 rec5 u x1 x2 x4 = some (rz, uz)) {H : Heap} {locs : List Loc} {ls : Array Slot} (hI : mI D cI cZ q u s H locs) (hl : lv_has ls 5 [(0, .ref (q 0)), (1, .int x1), (2, .int x2), (4, .int x4)]) : W p l e (mR 1 22) s m args below meth c H locs 0 0 (MQ below (mQ D cI cZ q rz uz) args s 0 0 (mF q)) (F0 m 76 ls []) := by
  obtain ⟨hx, hb, hr, hts, hown, hlocks, hml, hK⟩ := id C
  unfold fM_isFree_76 at h
  refine lv_iconst (v := 1) hx hb dX9_isFree_76 (by decide) ?_
  refine lv_goto (tgt := 81) hx hb dX9_isFree_77 (by decide) ?_
  exact w_M_isFree_81 C hrec5 h hI (lv_sub hl [0, 1, 2, 3] rfl)
def fM_isFree_80 (rec5 : MS → Int32 → Int32 → Int32 → Int32 → Option (Int32 × MS)) (u : MS) (x1 x2 x4 : Int32) : Option (Int32 × MS) :=
  fM_isFree_81 rec5 u x1 x2 x4 0
set_option maxRecDepth 20000 in
theorem w_M_isFree_80 (C : mC p s m args meth c cX9_isFree (some .boolean) wsX9_isFree 5 D cI cZ) {uz : MS} {rz : Int32} {rec5 : MS → Int32 → Int32 → Int32 → Int32 → Option (Int32 × MS)} (hrec5 : ∀ {u : MS} {x1 x2 x3 x4 : Int32} (_ : rec5 u x1 x2 x3 x4 = some (rz, uz)) {H : Heap} {locs : List Loc} {ls : Array Slot} (_ : mI D cI cZ q u s H locs) (_ : lv_has ls 5 [(0, .ref (q 0)), (1, .int x1), (2, .int x2), (3, .int x3), (4, .int x4)]), W p l e (mR 1 22) s m args below meth c H locs 0 0 (MQ below (mQ D cI cZ q rz uz) args s 0 0 (mF q)) (F0 m 5 ls [])) {u : MS} {x1 x2 x4 : Int32} (h : fM_isFree_80 rec5 u x1 x2 x4 = some (rz, uz)) {H : Heap} {locs : List Loc} {ls : Array Slot} (hI : mI D cI cZ q u s H locs) (hl : lv_has ls 5 [(0, .ref (q 0)), (1, .int x1), (2, .int x2), (4, .int x4)]) : W p l e (mR 1 22) s m args below meth c H locs 0 0 (MQ below (mQ D cI cZ q rz uz) args s 0 0 (mF q)) (F0 m 80 ls []) := by
  obtain ⟨hx, hb, hr, hts, hown, hlocks, hml, hK⟩ := id C
  unfold fM_isFree_80 at h
  refine lv_iconst (v := 0) hx hb dX9_isFree_80 (by decide) ?_
  exact w_M_isFree_81 C hrec5 h hI (lv_sub hl [0, 1, 2, 3] rfl)
def fM_isFree_47 (rec5 : MS → Int32 → Int32 → Int32 → Int32 → Option (Int32 × MS)) (u : MS) (x1 x2 x4 : Int32) : Option (Int32 × MS) :=
  (mld u 3 x2).bind fun r1 =>
  if r1 = 0 then
    fM_isFree_80 rec5 u x1 x2 x4
  else
    (mld u 3 x4).bind fun r3 =>
    if r3 = 0 then
      fM_isFree_80 rec5 u x1 x2 x4
    else
      mb2 (fM_hasPermit u x1 x4) fun r6 u5 =>
      if r6 = 0 then
        fM_isFree_80 rec5 u5 x1 x2 x4
      else
        fM_isFree_76 rec5 u5 x1 x2 x4
set_option maxRecDepth 20000 in
theorem w_M_isFree_47 (C : mC p s m args meth c cX9_isFree (some .boolean) wsX9_isFree 5 D cI cZ) {uz : MS} {rz : Int32} {rec5 : MS → Int32 → Int32 → Int32 → Int32 → Option (Int32 × MS)} (hrec5 : ∀ {u : MS} {x1 x2 x3 x4 : Int32} (_ : rec5 u x1 x2 x3 x4 = some (rz, uz)) {H : Heap} {locs : List Loc} {ls : Array Slot} (_ : mI D cI cZ q u s H locs) (_ : lv_has ls 5 [(0, .ref (q 0)), (1, .int x1), (2, .int x2), (3, .int x3), (4, .int x4)]), W p l e (mR 1 22) s m args below meth c H locs 0 0 (MQ below (mQ D cI cZ q rz uz) args s 0 0 (mF q)) (F0 m 5 ls [])) {u : MS} {x1 x2 x4 : Int32} (h : fM_isFree_47 rec5 u x1 x2 x4 = some (rz, uz)) {H : Heap} {locs : List Loc} {ls : Array Slot} (hI : mI D cI cZ q u s H locs) (hl : lv_has ls 5 [(0, .ref (q 0)), (1, .int x1), (2, .int x2), (4, .int x4)]) : W p l e (mR 1 22) s m args below meth c H locs 0 0 (MQ below (mQ D cI cZ q rz uz) args s 0 0 (mF q)) (F0 m 47 ls []) := by
  obtain ⟨hx, hb, hr, hts, hown, hlocks, hml, hK⟩ := id C
  unfold fM_isFree_47 at h
  refine lv_aload_n hx hb dX9_isFree_47 rfl (lv_at hl 0 rfl) ?_
  refine mg_get hx hb hts iM_isFree hown hK hI 3 (by decide) (hts (.fieldLink RX9 7 "PassageCourtModel" "isInRegion" "[Z") (by decide +kernel)) rfl dX9_isFree_48 ?_
  refine lv_iload_n hx hb dX9_isFree_51 rfl (lv_at hl 2 rfl) ?_
  obtain ⟨r1, er1, h⟩ := mbind h
  refine mg_zld hx hb hK hI 3 rfl (by decide) er1 dX9_isFree_52 ?_
  refine lv_if_eq (tgt := 80) hx hb dX9_isFree_53 (by decide) (fun c2 => ?_) (fun c2 => ?_)
  · replace h := mpos c2 h
    exact w_M_isFree_80 C hrec5 h hI (lv_sub hl [0, 1, 2, 3] rfl)
  · replace h := mneg c2 h
    refine lv_aload_n hx hb dX9_isFree_56 rfl (lv_at hl 0 rfl) ?_
    refine mg_get hx hb hts iM_isFree hown hK hI 3 (by decide) (hts (.fieldLink RX9 7 "PassageCourtModel" "isInRegion" "[Z") (by decide +kernel)) rfl dX9_isFree_57 ?_
    refine lv_iload hx hb dX9_isFree_60 (lv_at hl 3 rfl) ?_
    obtain ⟨r3, er3, h⟩ := mbind h
    refine mg_zld hx hb hK hI 3 rfl (by decide) er3 dX9_isFree_62 ?_
    refine lv_if_eq (tgt := 80) hx hb dX9_isFree_63 (by decide) (fun c4 => ?_) (fun c4 => ?_)
    · replace h := mpos c4 h
      exact w_M_isFree_80 C hrec5 h hI (lv_sub hl [0, 1, 2, 3] rfl)
    · replace h := mneg c4 h
      refine lv_aload_n hx hb dX9_isFree_66 rfl (lv_at hl 0 rfl) ?_
      refine lv_iload_n hx hb dX9_isFree_67 rfl (lv_at hl 1 rfl) ?_
      refine lv_iload hx hb dX9_isFree_68 (lv_at hl 3 rfl) ?_
      obtain ⟨r6, u5, eu5, h⟩ := mb2_spec h
      refine mg_callV (As := [.int x1, .int x4]) (rest := []) ⟨hx, hb, hml, hown, hts⟩ (cM_hasPermit l D cI cZ q eu5) (cwV 2 hts gX9_isFree_X9_hasPermit rfl rfl rfl (by decide +kernel) ⟨Nat.le_of_ble_eq_true rfl, Nat.le_of_ble_eq_true rfl⟩) hK hI rfl hl.1 rfl (Nat.le_of_ble_eq_true rfl) dX9_isFree_70 ⟨Nat.le_refl _, Nat.le_refl _⟩ (fun H locs hI => ?_)
      refine lv_if_eq (tgt := 80) hx hb dX9_isFree_73 (by decide) (fun c7 => ?_) (fun c7 => ?_)
      · replace h := mpos c7 h
        exact w_M_isFree_80 C hrec5 h hI (lv_sub hl [0, 1, 2, 3] rfl)
      · replace h := mneg c7 h
        exact w_M_isFree_76 C hrec5 h hI (lv_sub hl [0, 1, 2, 3] rfl)
def fM_isFree_5 : Nat → MS → Int32 → Int32 → Int32 → Int32 → Option (Int32 × MS)
  | 0, _, _, _, _, _ => none
  | n + 1, u, x1, x2, x3, x4 =>
    if (u 2 0) ≤ x4 then
      (mbo x3).bind fun b9 => some (b9, u)
    else
      if x3 = 0 then
        (mld u 15 x1).bind fun r11 =>
        mb2 (fM_has u r11 x4) fun r13 u12 =>
        if r13 = 0 then
          fM_isFree_47 (fM_isFree_5 n) u12 x1 x2 x4
        else
          (mld u12 7 ((8 * x2) + x4)).bind fun r15 =>
          if r15 = 0 then
            fM_isFree_47 (fM_isFree_5 n) u12 x1 x2 x4
          else
            fM_isFree_76 (fM_isFree_5 n) u12 x1 x2 x4
      else
        fM_isFree_76 (fM_isFree_5 n) u x1 x2 x4
set_option maxRecDepth 20000 in
theorem w_M_isFree_5 (C : mC p s m args meth c cX9_isFree (some .boolean) wsX9_isFree 5 D cI cZ) {uz : MS} {rz : Int32} : ∀ (n : Nat) {u : MS} {x1 x2 x3 x4 : Int32} (h : fM_isFree_5 n u x1 x2 x3 x4 = some (rz, uz)) {H : Heap} {locs : List Loc} {ls : Array Slot} (hI : mI D cI cZ q u s H locs) (hl : lv_has ls 5 [(0, .ref (q 0)), (1, .int x1), (2, .int x2), (3, .int x3), (4, .int x4)]), W p l e (mR 1 22) s m args below meth c H locs 0 0 (MQ below (mQ D cI cZ q rz uz) args s 0 0 (mF q)) (F0 m 5 ls []) := by
  obtain ⟨hx, hb, hr, hts, hown, hlocks, hml, hK⟩ := id C
  intro n
  induction n with
  | zero =>
    intro u x1 x2 x3 x4 h
    cases (show (none : Option _) = _ from h)
  | succ n ih =>
    intro u x1 x2 x3 x4 h H locs ls hI hl
    rw [fM_isFree_5] at h
    refine lv_iload hx hb dX9_isFree_5 (lv_at hl 4 rfl) ?_
    refine lv_aload_n hx hb dX9_isFree_7 rfl (lv_at hl 0 rfl) ?_
    refine mg_get hx hb hts iM_isFree hown hK hI 2 (by decide) (hts (.fieldLink RX9 133 "PassageCourtModel" "lands" "I") (by decide +kernel)) rfl dX9_isFree_8 ?_
    refine lv_icmp_ge (tgt := 88) hx hb dX9_isFree_11 (by decide) (fun c8 => ?_) (fun c8 => ?_)
    · replace h := mpos c8 h
      refine lv_iload_n hx hb dX9_isFree_88 rfl (lv_at hl 3 rfl) ?_
      obtain ⟨b9, eb9, h⟩ := mbind h
      cases h
      exact mg_retz hx hb hr hlocks hK hI dX9_isFree_89 eb9
    · replace h := mneg c8 h
      refine lv_iload_n hx hb dX9_isFree_14 rfl (lv_at hl 3 rfl) ?_
      refine lv_if_ne (tgt := 76) hx hb dX9_isFree_15 (by decide) (fun c10 => ?_) (fun c10 => ?_)
      · replace h := mneg c10 h
        exact w_M_isFree_76 C ih h hI (lv_sub hl [0, 1, 2, 4] rfl)
      · replace h := mpos c10 h
        refine lv_aload_n hx hb dX9_isFree_18 rfl (lv_at hl 0 rfl) ?_
        refine mg_get hx hb hts iM_isFree hown hK hI 15 (by decide) (hts (.fieldLink RX9 45 "PassageCourtModel" "nations" "[I") (by decide +kernel)) rfl dX9_isFree_19 ?_
        refine lv_iload_n hx hb dX9_isFree_22 rfl (lv_at hl 1 rfl) ?_
        obtain ⟨r11, er11, h⟩ := mbind h
        refine mg_ald hx hb hK hI 15 rfl (by decide) er11 dX9_isFree_23 ?_
        refine lv_iload hx hb dX9_isFree_24 (lv_at hl 4 rfl) ?_
        obtain ⟨r13, u12, eu12, h⟩ := mb2_spec h
        refine mg_callS (As := [.int r11, .int x4]) (rest := []) ⟨hx, hb, hml, hown, hts⟩ (cM_has l D cI cZ q eu12) (va_cwS 2 hts gX9_isFree_X9_has rfl rfl rfl (by decide +kernel) ⟨Nat.le_of_ble_eq_true rfl, Nat.le_of_ble_eq_true rfl⟩) hK hI rfl hl.1 rfl (Nat.le_of_ble_eq_true rfl) dX9_isFree_26 ⟨Nat.le_refl _, Nat.le_refl _⟩ (fun H locs hI => ?_)
        refine lv_if_eq (tgt := 47) hx hb dX9_isFree_29 (by decide) (fun c14 => ?_) (fun c14 => ?_)
        · replace h := mpos c14 h
          exact w_M_isFree_47 C ih h hI (lv_sub hl [0, 1, 2, 4] rfl)
        · replace h := mneg c14 h
          refine lv_aload_n hx hb dX9_isFree_32 rfl (lv_at hl 0 rfl) ?_
          refine mg_get hx hb hts iM_isFree hown hK hI 7 (by decide) (hts (.fieldLink RX9 23 "PassageCourtModel" "waives" "[Z") (by decide +kernel)) rfl dX9_isFree_33 ?_
          refine lv_bipush (v := 8) hx hb dX9_isFree_36 (by decide) ?_
          refine lv_iload_n hx hb dX9_isFree_38 rfl (lv_at hl 2 rfl) ?_
          refine lv_imul hx hb dX9_isFree_39 ?_
          refine lv_iload hx hb dX9_isFree_40 (lv_at hl 4 rfl) ?_
          refine lv_iadd hx hb dX9_isFree_42 ?_
          obtain ⟨r15, er15, h⟩ := mbind h
          refine mg_zld hx hb hK hI 7 rfl (by decide) er15 dX9_isFree_43 ?_
          refine lv_if_ne (tgt := 76) hx hb dX9_isFree_44 (by decide) (fun c16 => ?_) (fun c16 => ?_)
          · replace h := mneg c16 h
            exact w_M_isFree_76 C ih h hI (lv_sub hl [0, 1, 2, 4] rfl)
          · replace h := mpos c16 h
            exact w_M_isFree_47 C ih h hI (lv_sub hl [0, 1, 2, 4] rfl)
def fM_isFree (u : MS) (x1 x2 : Int32) : Option (Int32 × MS) :=
  fM_isFree_5 4096 u x1 x2 0 0
set_option maxRecDepth 20000 in
theorem w_M_isFree_0 (C : mC p s m args meth c cX9_isFree (some .boolean) wsX9_isFree 5 D cI cZ) {uz : MS} {rz : Int32} {u : MS} {x1 x2 : Int32} (h : fM_isFree u x1 x2 = some (rz, uz)) {H : Heap} {locs : List Loc} {ls : Array Slot} (hI : mI D cI cZ q u s H locs) (hl : lv_has ls 5 [(0, .ref (q 0)), (1, .int x1), (2, .int x2)]) : W p l e (mR 1 22) s m args below meth c H locs 0 0 (MQ below (mQ D cI cZ q rz uz) args s 0 0 (mF q)) (F0 m 0 ls []) := by
  obtain ⟨hx, hb, hr, hts, hown, hlocks, hml, hK⟩ := id C
  unfold fM_isFree at h
  refine lv_iconst (v := 0) hx hb dX9_isFree_0 (by decide) ?_
  refine lv_istore_n (lv' := [(3, .int 0), (0, .ref (q 0)), (1, .int x1), (2, .int x2)]) hx hb dX9_isFree_1 rfl hl (by decide) rfl (fun ls hl => ?_)
  refine lv_iconst (v := 0) hx hb dX9_isFree_2 (by decide) ?_
  refine lv_istore (lv' := [(4, .int 0), (3, .int 0), (0, .ref (q 0)), (1, .int x1), (2, .int x2)]) hx hb dX9_isFree_3 hl (by decide) rfl (fun ls hl => ?_)
  exact w_M_isFree_5 C 4096 h hI (lv_sub hl [2, 3, 4, 1, 0] rfl)
set_option maxRecDepth 20000 in
theorem cM_isFree (l : Launch) (D : va_G) (cI cZ : ClassId) (q : Nat → Nat) {u uz : MS} {rz : Int32} {x1 x2 : Int32} (h : fM_isFree u x1 x2 = some (rz, uz)) : Met l yX9_isFree wsX9_isFree (mR 1 22) (va_Pc [.ref (q 0), .int x1, .int x2] (mPre D cI cZ q u)) (mQ D cI cZ q rz uz) 0 0 (mF q) := by
  refine Met.ofW (cc := cX9_isFree) (maxL := 5) (ret := (some .boolean)) (by decide) rfl ?_
  intro p e s m args below meth c s₁ B hml hv
  obtain ⟨rfl, hw, hK⟩ := hv
  have C : mC p s m _ meth c cX9_isFree (some .boolean) wsX9_isFree 5 D cI cZ := ⟨B.exec, B.bytes, B.returns, atoms_spec (ws := wsX9_isFree) B.pre, findClass_of_methodNamed B.named, B.notSynchronized, hml, hK⟩
  have hl := lv_entry ([.ref (q 0), .int x1, .int x2]) (n := 5) (Nat.le_of_ble_eq_true rfl)
  rw [lg_entry_eq]
  generalize (lg_sl ([.ref (q 0), .int x1, .int x2]) ++ List.replicate (5 - (lg_sl ([.ref (q 0), .int x1, .int x2])).length) Slot.unset).toArray = ls at hl ⊢
  have hl : lv_has ls 5 [(0, .ref (q 0)), (1, .int x1), (2, .int x2)] := hl
  exact w_M_isFree_0 C h ⟨hw, va_S.rf⟩ hl
theorem iM_isGood : ∀ w ∈ wsX90, w ∈ wsX9_isGood := by decide +kernel
def fM_isGood_92 (u : MS) (y0 : Int32) : Option (Int32 × MS) :=
  (mbo y0).bind fun b1 => some (b1, u)
set_option maxRecDepth 20000 in
theorem w_M_isGood_92 (C : mC p s m args meth c cX9_isGood (some .boolean) wsX9_isGood 4 D cI cZ) {uz : MS} {rz : Int32} {u : MS} {y0 : Int32} (h : fM_isGood_92 u y0 = some (rz, uz)) {H : Heap} {locs : List Loc} {ls : Array Slot} (hI : mI D cI cZ q u s H locs) (hl : lv_has ls 4 [(0, .ref (q 0))]) : W p l e (mR 1 22) s m args below meth c H locs 0 0 (MQ below (mQ D cI cZ q rz uz) args s 0 0 (mF q)) (F0 m 92 ls [.int y0]) := by
  obtain ⟨hx, hb, hr, hts, hown, hlocks, hml, hK⟩ := id C
  unfold fM_isGood_92 at h
  obtain ⟨b1, eb1, h⟩ := mbind h
  cases h
  exact mg_retz hx hb hr hlocks hK hI dX9_isGood_92 eb1
def fM_isGood_91 (u : MS) : Option (Int32 × MS) :=
  fM_isGood_92 u 0
set_option maxRecDepth 20000 in
theorem w_M_isGood_91 (C : mC p s m args meth c cX9_isGood (some .boolean) wsX9_isGood 4 D cI cZ) {uz : MS} {rz : Int32} {u : MS} (h : fM_isGood_91 u = some (rz, uz)) {H : Heap} {locs : List Loc} {ls : Array Slot} (hI : mI D cI cZ q u s H locs) (hl : lv_has ls 4 [(0, .ref (q 0))]) : W p l e (mR 1 22) s m args below meth c H locs 0 0 (MQ below (mQ D cI cZ q rz uz) args s 0 0 (mF q)) (F0 m 91 ls []) := by
  obtain ⟨hx, hb, hr, hts, hown, hlocks, hml, hK⟩ := id C
  unfold fM_isGood_91 at h
  refine lv_iconst (v := 0) hx hb dX9_isGood_91 (by decide) ?_
  exact w_M_isGood_92 C h hI (lv_sub hl [0] rfl)
def fM_isGood_87 (u : MS) : Option (Int32 × MS) :=
  fM_isGood_92 u 1
set_option maxRecDepth 20000 in
theorem w_M_isGood_87 (C : mC p s m args meth c cX9_isGood (some .boolean) wsX9_isGood 4 D cI cZ) {uz : MS} {rz : Int32} {u : MS} (h : fM_isGood_87 u = some (rz, uz)) {H : Heap} {locs : List Loc} {ls : Array Slot} (hI : mI D cI cZ q u s H locs) (hl : lv_has ls 4 [(0, .ref (q 0))]) : W p l e (mR 1 22) s m args below meth c H locs 0 0 (MQ below (mQ D cI cZ q rz uz) args s 0 0 (mF q)) (F0 m 87 ls []) := by
  obtain ⟨hx, hb, hr, hts, hown, hlocks, hml, hK⟩ := id C
  unfold fM_isGood_87 at h
  refine lv_iconst (v := 1) hx hb dX9_isGood_87 (by decide) ?_
  refine lv_goto (tgt := 92) hx hb dX9_isGood_88 (by decide) ?_
  exact w_M_isGood_92 C h hI (lv_sub hl [0] rfl)
def fM_isGood_38 (u : MS) (x1 y0 : Int32) : Option (Int32 × MS) :=
  if y0 = 0 then
    fM_isGood_91 u
  else
    (mld u 31 x1).bind fun r3 =>
    (mld u 32 x1).bind fun r4 =>
    mb2 (fM_in u (u 1 0) r3 r4) fun r6 u5 =>
    if r6 = 0 then
      fM_isGood_91 u5
    else
      (mld u5 34 x1).bind fun r8 =>
      if 0 < r8 then
        fM_isGood_87 u5
      else
        (mld u5 35 x1).bind fun r10 =>
        if r10 = (u5 1 0) then
          fM_isGood_87 u5
        else
          fM_isGood_91 u5
set_option maxRecDepth 20000 in
theorem w_M_isGood_38 (C : mC p s m args meth c cX9_isGood (some .boolean) wsX9_isGood 4 D cI cZ) {uz : MS} {rz : Int32} {u : MS} {x1 y0 : Int32} (h : fM_isGood_38 u x1 y0 = some (rz, uz)) {H : Heap} {locs : List Loc} {ls : Array Slot} (hI : mI D cI cZ q u s H locs) (hl : lv_has ls 4 [(0, .ref (q 0)), (1, .int x1)]) : W p l e (mR 1 22) s m args below meth c H locs 0 0 (MQ below (mQ D cI cZ q rz uz) args s 0 0 (mF q)) (F0 m 38 ls [.int y0]) := by
  obtain ⟨hx, hb, hr, hts, hown, hlocks, hml, hK⟩ := id C
  unfold fM_isGood_38 at h
  refine lv_istore_n (lv' := [(3, .int y0), (0, .ref (q 0)), (1, .int x1)]) hx hb dX9_isGood_38 rfl hl (by decide) rfl (fun ls hl => ?_)
  refine lv_iload_n hx hb dX9_isGood_39 rfl (lv_at hl 0 rfl) ?_
  refine lv_if_eq (tgt := 91) hx hb dX9_isGood_40 (by decide) (fun c2 => ?_) (fun c2 => ?_)
  · replace h := mpos c2 h
    exact w_M_isGood_91 C h hI (lv_sub hl [1] rfl)
  · replace h := mneg c2 h
    refine lv_aload_n hx hb dX9_isGood_43 rfl (lv_at hl 1 rfl) ?_
    refine mg_get hx hb hts iM_isGood hown hK hI 1 (by decide) (hts (.fieldLink RX9 153 "PassageCourtModel" "today" "I") (by decide +kernel)) rfl dX9_isGood_44 ?_
    refine lv_aload_n hx hb dX9_isGood_47 rfl (lv_at hl 1 rfl) ?_
    refine mg_get hx hb hts iM_isGood hown hK hI 31 (by decide) (hts (.fieldLink RX9 91 "PassageCourtModel" "visaFirst" "[I") (by decide +kernel)) rfl dX9_isGood_48 ?_
    refine lv_iload_n hx hb dX9_isGood_51 rfl (lv_at hl 2 rfl) ?_
    obtain ⟨r3, er3, h⟩ := mbind h
    refine mg_ald hx hb hK hI 31 rfl (by decide) er3 dX9_isGood_52 ?_
    refine lv_aload_n hx hb dX9_isGood_53 rfl (lv_at hl 1 rfl) ?_
    refine mg_get hx hb hts iM_isGood hown hK hI 32 (by decide) (hts (.fieldLink RX9 94 "PassageCourtModel" "visaLast" "[I") (by decide +kernel)) rfl dX9_isGood_54 ?_
    refine lv_iload_n hx hb dX9_isGood_57 rfl (lv_at hl 2 rfl) ?_
    obtain ⟨r4, er4, h⟩ := mbind h
    refine mg_ald hx hb hK hI 32 rfl (by decide) er4 dX9_isGood_58 ?_
    obtain ⟨r6, u5, eu5, h⟩ := mb2_spec h
    refine mg_callS (As := [.int (u 1 0), .int r3, .int r4]) (rest := []) ⟨hx, hb, hml, hown, hts⟩ (cM_in l D cI cZ q eu5) (va_cwS 3 hts gX9_isGood_X9_in rfl rfl rfl (by decide +kernel) ⟨Nat.le_of_ble_eq_true rfl, Nat.le_of_ble_eq_true rfl⟩) hK hI rfl hl.1 rfl (Nat.le_of_ble_eq_true rfl) dX9_isGood_59 ⟨Nat.le_refl _, Nat.le_refl _⟩ (fun H locs hI => ?_)
    refine lv_if_eq (tgt := 91) hx hb dX9_isGood_62 (by decide) (fun c7 => ?_) (fun c7 => ?_)
    · replace h := mpos c7 h
      exact w_M_isGood_91 C h hI (lv_sub hl [1] rfl)
    · replace h := mneg c7 h
      refine lv_aload_n hx hb dX9_isGood_65 rfl (lv_at hl 1 rfl) ?_
      refine mg_get hx hb hts iM_isGood hown hK hI 34 (by decide) (hts (.fieldLink RX9 100 "PassageCourtModel" "daysLeft" "[I") (by decide +kernel)) rfl dX9_isGood_66 ?_
      refine lv_iload_n hx hb dX9_isGood_69 rfl (lv_at hl 2 rfl) ?_
      obtain ⟨r8, er8, h⟩ := mbind h
      refine mg_ald hx hb hK hI 34 rfl (by decide) er8 dX9_isGood_70 ?_
      refine lv_if_gt (tgt := 87) hx hb dX9_isGood_71 (by decide) (fun c9 => ?_) (fun c9 => ?_)
      · replace h := mpos c9 h
        exact w_M_isGood_87 C h hI (lv_sub hl [1] rfl)
      · replace h := mneg c9 h
        refine lv_aload_n hx hb dX9_isGood_74 rfl (lv_at hl 1 rfl) ?_
        refine mg_get hx hb hts iM_isGood hown hK hI 35 (by decide) (hts (.fieldLink RX9 103 "PassageCourtModel" "counted" "[I") (by decide +kernel)) rfl dX9_isGood_75 ?_
        refine lv_iload_n hx hb dX9_isGood_78 rfl (lv_at hl 2 rfl) ?_
        obtain ⟨r10, er10, h⟩ := mbind h
        refine mg_ald hx hb hK hI 35 rfl (by decide) er10 dX9_isGood_79 ?_
        refine lv_aload_n hx hb dX9_isGood_80 rfl (lv_at hl 1 rfl) ?_
        refine mg_get hx hb hts iM_isGood hown hK hI 1 (by decide) (hts (.fieldLink RX9 153 "PassageCourtModel" "today" "I") (by decide +kernel)) rfl dX9_isGood_81 ?_
        refine lv_icmp_ne (tgt := 91) hx hb dX9_isGood_84 (by decide) (fun c11 => ?_) (fun c11 => ?_)
        · replace h := mneg c11 h
          exact w_M_isGood_91 C h hI (lv_sub hl [1] rfl)
        · replace h := mpos c11 h
          exact w_M_isGood_87 C h hI (lv_sub hl [1] rfl)
def fM_isGood_33 (u : MS) (x1 : Int32) : Option (Int32 × MS) :=
  fM_isGood_38 u x1 1
set_option maxRecDepth 20000 in
theorem w_M_isGood_33 (C : mC p s m args meth c cX9_isGood (some .boolean) wsX9_isGood 4 D cI cZ) {uz : MS} {rz : Int32} {u : MS} {x1 : Int32} (h : fM_isGood_33 u x1 = some (rz, uz)) {H : Heap} {locs : List Loc} {ls : Array Slot} (hI : mI D cI cZ q u s H locs) (hl : lv_has ls 4 [(0, .ref (q 0)), (1, .int x1)]) : W p l e (mR 1 22) s m args below meth c H locs 0 0 (MQ below (mQ D cI cZ q rz uz) args s 0 0 (mF q)) (F0 m 33 ls []) := by
  obtain ⟨hx, hb, hr, hts, hown, hlocks, hml, hK⟩ := id C
  unfold fM_isGood_33 at h
  refine lv_iconst (v := 1) hx hb dX9_isGood_33 (by decide) ?_
  refine lv_goto (tgt := 38) hx hb dX9_isGood_34 (by decide) ?_
  exact w_M_isGood_38 C h hI (lv_sub hl [0, 1] rfl)
def fM_isGood_37 (u : MS) (x1 : Int32) : Option (Int32 × MS) :=
  fM_isGood_38 u x1 0
set_option maxRecDepth 20000 in
theorem w_M_isGood_37 (C : mC p s m args meth c cX9_isGood (some .boolean) wsX9_isGood 4 D cI cZ) {uz : MS} {rz : Int32} {u : MS} {x1 : Int32} (h : fM_isGood_37 u x1 = some (rz, uz)) {H : Heap} {locs : List Loc} {ls : Array Slot} (hI : mI D cI cZ q u s H locs) (hl : lv_has ls 4 [(0, .ref (q 0)), (1, .int x1)]) : W p l e (mR 1 22) s m args below meth c H locs 0 0 (MQ below (mQ D cI cZ q rz uz) args s 0 0 (mF q)) (F0 m 37 ls []) := by
  obtain ⟨hx, hb, hr, hts, hown, hlocks, hml, hK⟩ := id C
  unfold fM_isGood_37 at h
  refine lv_iconst (v := 0) hx hb dX9_isGood_37 (by decide) ?_
  exact w_M_isGood_38 C h hI (lv_sub hl [0, 1] rfl)
def fM_isGood (u : MS) (x1 x2 : Int32) : Option (Int32 × MS) :=
  (mld u 30 x1).bind fun r12 =>
  if r12 = x2 then
    fM_isGood_33 u x1
  else
    (mld u 30 x1).bind fun r14 =>
    (mld u 3 r14).bind fun r15 =>
    if r15 = 0 then
      fM_isGood_37 u x1
    else
      (mld u 3 x2).bind fun r17 =>
      if r17 = 0 then
        fM_isGood_37 u x1
      else
        fM_isGood_33 u x1
set_option maxRecDepth 20000 in
theorem w_M_isGood_0 (C : mC p s m args meth c cX9_isGood (some .boolean) wsX9_isGood 4 D cI cZ) {uz : MS} {rz : Int32} {u : MS} {x1 x2 : Int32} (h : fM_isGood u x1 x2 = some (rz, uz)) {H : Heap} {locs : List Loc} {ls : Array Slot} (hI : mI D cI cZ q u s H locs) (hl : lv_has ls 4 [(0, .ref (q 0)), (1, .int x1), (2, .int x2)]) : W p l e (mR 1 22) s m args below meth c H locs 0 0 (MQ below (mQ D cI cZ q rz uz) args s 0 0 (mF q)) (F0 m 0 ls []) := by
  obtain ⟨hx, hb, hr, hts, hown, hlocks, hml, hK⟩ := id C
  unfold fM_isGood at h
  refine lv_aload_n hx hb dX9_isGood_0 rfl (lv_at hl 0 rfl) ?_
  refine mg_get hx hb hts iM_isGood hown hK hI 30 (by decide) (hts (.fieldLink RX9 88 "PassageCourtModel" "visaLand" "[I") (by decide +kernel)) rfl dX9_isGood_1 ?_
  refine lv_iload_n hx hb dX9_isGood_4 rfl (lv_at hl 1 rfl) ?_
  obtain ⟨r12, er12, h⟩ := mbind h
  refine mg_ald hx hb hK hI 30 rfl (by decide) er12 dX9_isGood_5 ?_
  refine lv_iload_n hx hb dX9_isGood_6 rfl (lv_at hl 2 rfl) ?_
  refine lv_icmp_eq (tgt := 33) hx hb dX9_isGood_7 (by decide) (fun c13 => ?_) (fun c13 => ?_)
  · replace h := mpos c13 h
    exact w_M_isGood_33 C h hI (lv_sub hl [0, 1] rfl)
  · replace h := mneg c13 h
    refine lv_aload_n hx hb dX9_isGood_10 rfl (lv_at hl 0 rfl) ?_
    refine mg_get hx hb hts iM_isGood hown hK hI 3 (by decide) (hts (.fieldLink RX9 7 "PassageCourtModel" "isInRegion" "[Z") (by decide +kernel)) rfl dX9_isGood_11 ?_
    refine lv_aload_n hx hb dX9_isGood_14 rfl (lv_at hl 0 rfl) ?_
    refine mg_get hx hb hts iM_isGood hown hK hI 30 (by decide) (hts (.fieldLink RX9 88 "PassageCourtModel" "visaLand" "[I") (by decide +kernel)) rfl dX9_isGood_15 ?_
    refine lv_iload_n hx hb dX9_isGood_18 rfl (lv_at hl 1 rfl) ?_
    obtain ⟨r14, er14, h⟩ := mbind h
    refine mg_ald hx hb hK hI 30 rfl (by decide) er14 dX9_isGood_19 ?_
    obtain ⟨r15, er15, h⟩ := mbind h
    refine mg_zld hx hb hK hI 3 rfl (by decide) er15 dX9_isGood_20 ?_
    refine lv_if_eq (tgt := 37) hx hb dX9_isGood_21 (by decide) (fun c16 => ?_) (fun c16 => ?_)
    · replace h := mpos c16 h
      exact w_M_isGood_37 C h hI (lv_sub hl [0, 1] rfl)
    · replace h := mneg c16 h
      refine lv_aload_n hx hb dX9_isGood_24 rfl (lv_at hl 0 rfl) ?_
      refine mg_get hx hb hts iM_isGood hown hK hI 3 (by decide) (hts (.fieldLink RX9 7 "PassageCourtModel" "isInRegion" "[Z") (by decide +kernel)) rfl dX9_isGood_25 ?_
      refine lv_iload_n hx hb dX9_isGood_28 rfl (lv_at hl 2 rfl) ?_
      obtain ⟨r17, er17, h⟩ := mbind h
      refine mg_zld hx hb hK hI 3 rfl (by decide) er17 dX9_isGood_29 ?_
      refine lv_if_eq (tgt := 37) hx hb dX9_isGood_30 (by decide) (fun c18 => ?_) (fun c18 => ?_)
      · replace h := mpos c18 h
        exact w_M_isGood_37 C h hI (lv_sub hl [0, 1] rfl)
      · replace h := mneg c18 h
        exact w_M_isGood_33 C h hI (lv_sub hl [0, 1] rfl)
set_option maxRecDepth 20000 in
theorem cM_isGood (l : Launch) (D : va_G) (cI cZ : ClassId) (q : Nat → Nat) {u uz : MS} {rz : Int32} {x1 x2 : Int32} (h : fM_isGood u x1 x2 = some (rz, uz)) : Met l yX9_isGood wsX9_isGood (mR 1 22) (va_Pc [.ref (q 0), .int x1, .int x2] (mPre D cI cZ q u)) (mQ D cI cZ q rz uz) 0 0 (mF q) := by
  refine Met.ofW (cc := cX9_isGood) (maxL := 4) (ret := (some .boolean)) (by decide) rfl ?_
  intro p e s m args below meth c s₁ B hml hv
  obtain ⟨rfl, hw, hK⟩ := hv
  have C : mC p s m _ meth c cX9_isGood (some .boolean) wsX9_isGood 4 D cI cZ := ⟨B.exec, B.bytes, B.returns, atoms_spec (ws := wsX9_isGood) B.pre, findClass_of_methodNamed B.named, B.notSynchronized, hml, hK⟩
  have hl := lv_entry ([.ref (q 0), .int x1, .int x2]) (n := 4) (Nat.le_of_ble_eq_true rfl)
  rw [lg_entry_eq]
  generalize (lg_sl ([.ref (q 0), .int x1, .int x2]) ++ List.replicate (4 - (lg_sl ([.ref (q 0), .int x1, .int x2])).length) Slot.unset).toArray = ls at hl ⊢
  have hl : lv_has ls 4 [(0, .ref (q 0)), (1, .int x1), (2, .int x2)] := hl
  exact w_M_isGood_0 C h ⟨hw, va_S.rf⟩ hl
theorem iM_ruleOf : ∀ w ∈ wsX90, w ∈ wsX9_ruleOf := by decide +kernel
def fM_ruleOf_42 (rec4 : MS → Int32 → Int32 → Int32 → Option (Int32 × MS)) (u : MS) (x1 x3 y0 : Int32) : Option (Int32 × MS) :=
  rec4 u x1 y0 (x3 + 1)
set_option maxRecDepth 20000 in
theorem w_M_ruleOf_42 (C : mC p s m args meth c cX9_ruleOf (some .int) wsX9_ruleOf 4 D cI cZ) {uz : MS} {rz : Int32} {rec4 : MS → Int32 → Int32 → Int32 → Option (Int32 × MS)} (hrec4 : ∀ {u : MS} {x1 x2 x3 : Int32} (_ : rec4 u x1 x2 x3 = some (rz, uz)) {H : Heap} {locs : List Loc} {ls : Array Slot} (_ : mI D cI cZ q u s H locs) (_ : lv_has ls 4 [(0, .ref (q 0)), (1, .int x1), (2, .int x2), (3, .int x3)]), W p l e (mR 0 0) s m args below meth c H locs 0 0 (MQ below (mQ D cI cZ q rz uz) args s 0 0 (mF q)) (F0 m 4 ls [])) {u : MS} {x1 x3 y0 : Int32} (h : fM_ruleOf_42 rec4 u x1 x3 y0 = some (rz, uz)) {H : Heap} {locs : List Loc} {ls : Array Slot} (hI : mI D cI cZ q u s H locs) (hl : lv_has ls 4 [(0, .ref (q 0)), (1, .int x1), (3, .int x3)]) : W p l e (mR 0 0) s m args below meth c H locs 0 0 (MQ below (mQ D cI cZ q rz uz) args s 0 0 (mF q)) (F0 m 42 ls [.int y0]) := by
  obtain ⟨hx, hb, hr, hts, hown, hlocks, hml, hK⟩ := id C
  unfold fM_ruleOf_42 at h
  refine lv_istore_n (lv' := [(2, .int y0), (0, .ref (q 0)), (1, .int x1), (3, .int x3)]) hx hb dX9_ruleOf_42 rfl hl (by decide) rfl (fun ls hl => ?_)
  refine lv_iinc (v := x3 + 1) (lv' := [(3, .int (x3 + 1)), (2, .int y0), (0, .ref (q 0)), (1, .int x1)]) hx hb dX9_ruleOf_43 hl (k := 3) rfl rfl (by decide) rfl (fun ls hl => ?_)
  refine lv_goto (tgt := 4) hx hb dX9_ruleOf_46 (by decide) ?_
  exact hrec4 h hI (lv_sub hl [2, 3, 1, 0] rfl)
def fM_ruleOf_41 (rec4 : MS → Int32 → Int32 → Int32 → Option (Int32 × MS)) (u : MS) (x1 x2 x3 : Int32) : Option (Int32 × MS) :=
  fM_ruleOf_42 rec4 u x1 x3 x2
set_option maxRecDepth 20000 in
theorem w_M_ruleOf_41 (C : mC p s m args meth c cX9_ruleOf (some .int) wsX9_ruleOf 4 D cI cZ) {uz : MS} {rz : Int32} {rec4 : MS → Int32 → Int32 → Int32 → Option (Int32 × MS)} (hrec4 : ∀ {u : MS} {x1 x2 x3 : Int32} (_ : rec4 u x1 x2 x3 = some (rz, uz)) {H : Heap} {locs : List Loc} {ls : Array Slot} (_ : mI D cI cZ q u s H locs) (_ : lv_has ls 4 [(0, .ref (q 0)), (1, .int x1), (2, .int x2), (3, .int x3)]), W p l e (mR 0 0) s m args below meth c H locs 0 0 (MQ below (mQ D cI cZ q rz uz) args s 0 0 (mF q)) (F0 m 4 ls [])) {u : MS} {x1 x2 x3 : Int32} (h : fM_ruleOf_41 rec4 u x1 x2 x3 = some (rz, uz)) {H : Heap} {locs : List Loc} {ls : Array Slot} (hI : mI D cI cZ q u s H locs) (hl : lv_has ls 4 [(0, .ref (q 0)), (1, .int x1), (2, .int x2), (3, .int x3)]) : W p l e (mR 0 0) s m args below meth c H locs 0 0 (MQ below (mQ D cI cZ q rz uz) args s 0 0 (mF q)) (F0 m 41 ls []) := by
  obtain ⟨hx, hb, hr, hts, hown, hlocks, hml, hK⟩ := id C
  unfold fM_ruleOf_41 at h
  refine lv_iload_n hx hb dX9_ruleOf_41 rfl (lv_at hl 2 rfl) ?_
  exact w_M_ruleOf_42 C hrec4 h hI (lv_sub hl [0, 1, 3] rfl)
def fM_ruleOf_4 : Nat → MS → Int32 → Int32 → Int32 → Option (Int32 × MS)
  | 0, _, _, _, _ => none
  | n + 1, u, x1, x2, x3 =>
    if (u 9 0) ≤ x3 then
      some (x2, u)
    else
      (mld u 10 x3).bind fun r2 =>
      if x1 < r2 then
        fM_ruleOf_41 (fM_ruleOf_4 n) u x1 x2 x3
      else
        (mld u 10 x3).bind fun r4 =>
        (mld u 10 x2).bind fun r5 =>
        if r4 < r5 then
          fM_ruleOf_41 (fM_ruleOf_4 n) u x1 x2 x3
        else
          fM_ruleOf_42 (fM_ruleOf_4 n) u x1 x3 x3
set_option maxRecDepth 20000 in
theorem w_M_ruleOf_4 (C : mC p s m args meth c cX9_ruleOf (some .int) wsX9_ruleOf 4 D cI cZ) {uz : MS} {rz : Int32} : ∀ (n : Nat) {u : MS} {x1 x2 x3 : Int32} (h : fM_ruleOf_4 n u x1 x2 x3 = some (rz, uz)) {H : Heap} {locs : List Loc} {ls : Array Slot} (hI : mI D cI cZ q u s H locs) (hl : lv_has ls 4 [(0, .ref (q 0)), (1, .int x1), (2, .int x2), (3, .int x3)]), W p l e (mR 0 0) s m args below meth c H locs 0 0 (MQ below (mQ D cI cZ q rz uz) args s 0 0 (mF q)) (F0 m 4 ls []) := by
  obtain ⟨hx, hb, hr, hts, hown, hlocks, hml, hK⟩ := id C
  intro n
  induction n with
  | zero =>
    intro u x1 x2 x3 h
    cases (show (none : Option _) = _ from h)
  | succ n ih =>
    intro u x1 x2 x3 h H locs ls hI hl
    rw [fM_ruleOf_4] at h
    refine lv_iload_n hx hb dX9_ruleOf_4 rfl (lv_at hl 3 rfl) ?_
    refine lv_aload_n hx hb dX9_ruleOf_5 rfl (lv_at hl 0 rfl) ?_
    refine mg_get hx hb hts iM_ruleOf hown hK hI 9 (by decide) (hts (.fieldLink RX9 29 "PassageCourtModel" "rules" "I") (by decide +kernel)) rfl dX9_ruleOf_6 ?_
    refine lv_icmp_ge (tgt := 49) hx hb dX9_ruleOf_9 (by decide) (fun c1 => ?_) (fun c1 => ?_)
    · replace h := mpos c1 h
      refine lv_iload_n hx hb dX9_ruleOf_49 rfl (lv_at hl 2 rfl) ?_
      cases h
      exact mg_reti hx hb hr hlocks hK hI dX9_ruleOf_50
    · replace h := mneg c1 h
      refine lv_aload_n hx hb dX9_ruleOf_12 rfl (lv_at hl 0 rfl) ?_
      refine mg_get hx hb hts iM_ruleOf hown hK hI 10 (by decide) (hts (.fieldLink RX9 33 "PassageCourtModel" "ruleDay" "[I") (by decide +kernel)) rfl dX9_ruleOf_13 ?_
      refine lv_iload_n hx hb dX9_ruleOf_16 rfl (lv_at hl 3 rfl) ?_
      obtain ⟨r2, er2, h⟩ := mbind h
      refine mg_ald hx hb hK hI 10 rfl (by decide) er2 dX9_ruleOf_17 ?_
      refine lv_iload_n hx hb dX9_ruleOf_18 rfl (lv_at hl 1 rfl) ?_
      refine lv_icmp_gt (tgt := 41) hx hb dX9_ruleOf_19 (by decide) (fun c3 => ?_) (fun c3 => ?_)
      · replace h := mpos c3 h
        exact w_M_ruleOf_41 C ih h hI (lv_sub hl [0, 1, 2, 3] rfl)
      · replace h := mneg c3 h
        refine lv_aload_n hx hb dX9_ruleOf_22 rfl (lv_at hl 0 rfl) ?_
        refine mg_get hx hb hts iM_ruleOf hown hK hI 10 (by decide) (hts (.fieldLink RX9 33 "PassageCourtModel" "ruleDay" "[I") (by decide +kernel)) rfl dX9_ruleOf_23 ?_
        refine lv_iload_n hx hb dX9_ruleOf_26 rfl (lv_at hl 3 rfl) ?_
        obtain ⟨r4, er4, h⟩ := mbind h
        refine mg_ald hx hb hK hI 10 rfl (by decide) er4 dX9_ruleOf_27 ?_
        refine lv_aload_n hx hb dX9_ruleOf_28 rfl (lv_at hl 0 rfl) ?_
        refine mg_get hx hb hts iM_ruleOf hown hK hI 10 (by decide) (hts (.fieldLink RX9 33 "PassageCourtModel" "ruleDay" "[I") (by decide +kernel)) rfl dX9_ruleOf_29 ?_
        refine lv_iload_n hx hb dX9_ruleOf_32 rfl (lv_at hl 2 rfl) ?_
        obtain ⟨r5, er5, h⟩ := mbind h
        refine mg_ald hx hb hK hI 10 rfl (by decide) er5 dX9_ruleOf_33 ?_
        refine lv_icmp_lt (tgt := 41) hx hb dX9_ruleOf_34 (by decide) (fun c6 => ?_) (fun c6 => ?_)
        · replace h := mpos c6 h
          exact w_M_ruleOf_41 C ih h hI (lv_sub hl [0, 1, 2, 3] rfl)
        · replace h := mneg c6 h
          refine lv_iload_n hx hb dX9_ruleOf_37 rfl (lv_at hl 3 rfl) ?_
          refine lv_goto (tgt := 42) hx hb dX9_ruleOf_38 (by decide) ?_
          exact w_M_ruleOf_42 C ih h hI (lv_sub hl [0, 1, 3] rfl)
def fM_ruleOf (u : MS) (x1 : Int32) : Option (Int32 × MS) :=
  fM_ruleOf_4 4096 u x1 0 1
set_option maxRecDepth 20000 in
theorem w_M_ruleOf_0 (C : mC p s m args meth c cX9_ruleOf (some .int) wsX9_ruleOf 4 D cI cZ) {uz : MS} {rz : Int32} {u : MS} {x1 : Int32} (h : fM_ruleOf u x1 = some (rz, uz)) {H : Heap} {locs : List Loc} {ls : Array Slot} (hI : mI D cI cZ q u s H locs) (hl : lv_has ls 4 [(0, .ref (q 0)), (1, .int x1)]) : W p l e (mR 0 0) s m args below meth c H locs 0 0 (MQ below (mQ D cI cZ q rz uz) args s 0 0 (mF q)) (F0 m 0 ls []) := by
  obtain ⟨hx, hb, hr, hts, hown, hlocks, hml, hK⟩ := id C
  unfold fM_ruleOf at h
  refine lv_iconst (v := 0) hx hb dX9_ruleOf_0 (by decide) ?_
  refine lv_istore_n (lv' := [(2, .int 0), (0, .ref (q 0)), (1, .int x1)]) hx hb dX9_ruleOf_1 rfl hl (by decide) rfl (fun ls hl => ?_)
  refine lv_iconst (v := 1) hx hb dX9_ruleOf_2 (by decide) ?_
  refine lv_istore_n (lv' := [(3, .int 1), (2, .int 0), (0, .ref (q 0)), (1, .int x1)]) hx hb dX9_ruleOf_3 rfl hl (by decide) rfl (fun ls hl => ?_)
  exact w_M_ruleOf_4 C 4096 h hI (lv_sub hl [2, 3, 1, 0] rfl)
set_option maxRecDepth 20000 in
theorem cM_ruleOf (l : Launch) (D : va_G) (cI cZ : ClassId) (q : Nat → Nat) {u uz : MS} {rz : Int32} {x1 : Int32} (h : fM_ruleOf u x1 = some (rz, uz)) : Met l yX9_ruleOf wsX9_ruleOf (mR 0 0) (va_Pc [.ref (q 0), .int x1] (mPre D cI cZ q u)) (mQ D cI cZ q rz uz) 0 0 (mF q) := by
  refine Met.ofW (cc := cX9_ruleOf) (maxL := 4) (ret := (some .int)) (by decide) rfl ?_
  intro p e s m args below meth c s₁ B hml hv
  obtain ⟨rfl, hw, hK⟩ := hv
  have C : mC p s m _ meth c cX9_ruleOf (some .int) wsX9_ruleOf 4 D cI cZ := ⟨B.exec, B.bytes, B.returns, atoms_spec (ws := wsX9_ruleOf) B.pre, findClass_of_methodNamed B.named, B.notSynchronized, hml, hK⟩
  have hl := lv_entry ([.ref (q 0), .int x1]) (n := 4) (Nat.le_of_ble_eq_true rfl)
  rw [lg_entry_eq]
  generalize (lg_sl ([.ref (q 0), .int x1]) ++ List.replicate (4 - (lg_sl ([.ref (q 0), .int x1])).length) Slot.unset).toArray = ls at hl ⊢
  have hl : lv_has ls 4 [(0, .ref (q 0)), (1, .int x1)] := hl
  exact w_M_ruleOf_0 C h ⟨hw, va_S.rf⟩ hl
theorem iM_counts : ∀ w ∈ wsX90, w ∈ wsX9_counts := by decide +kernel
def fM_counts_52 (u : MS) (y0 : Int32) : Option (Int32 × MS) :=
  (mbo y0).bind fun b1 => some (b1, u)
set_option maxRecDepth 20000 in
theorem w_M_counts_52 (C : mC p s m args meth c cX9_counts (some .boolean) wsX9_counts 5 D cI cZ) {uz : MS} {rz : Int32} {u : MS} {y0 : Int32} (h : fM_counts_52 u y0 = some (rz, uz)) {H : Heap} {locs : List Loc} {ls : Array Slot} (hI : mI D cI cZ q u s H locs) (hl : lv_has ls 5 [(0, .ref (q 0))]) : W p l e (mR 0 0) s m args below meth c H locs 0 0 (MQ below (mQ D cI cZ q rz uz) args s 0 0 (mF q)) (F0 m 52 ls [.int y0]) := by
  obtain ⟨hx, hb, hr, hts, hown, hlocks, hml, hK⟩ := id C
  unfold fM_counts_52 at h
  obtain ⟨b1, eb1, h⟩ := mbind h
  cases h
  exact mg_retz hx hb hr hlocks hK hI dX9_counts_52 eb1
def fM_counts_51 (u : MS) : Option (Int32 × MS) :=
  fM_counts_52 u 0
set_option maxRecDepth 20000 in
theorem w_M_counts_51 (C : mC p s m args meth c cX9_counts (some .boolean) wsX9_counts 5 D cI cZ) {uz : MS} {rz : Int32} {u : MS} (h : fM_counts_51 u = some (rz, uz)) {H : Heap} {locs : List Loc} {ls : Array Slot} (hI : mI D cI cZ q u s H locs) (hl : lv_has ls 5 [(0, .ref (q 0))]) : W p l e (mR 0 0) s m args below meth c H locs 0 0 (MQ below (mQ D cI cZ q rz uz) args s 0 0 (mF q)) (F0 m 51 ls []) := by
  obtain ⟨hx, hb, hr, hts, hown, hlocks, hml, hK⟩ := id C
  unfold fM_counts_51 at h
  refine lv_iconst (v := 0) hx hb dX9_counts_51 (by decide) ?_
  exact w_M_counts_52 C h hI (lv_sub hl [0] rfl)
def fM_counts_35 (u : MS) (x3 : Int32) : Option (Int32 × MS) :=
  (mld u 3 (x3 / 10)).bind fun r2 =>
  if r2 = 0 then
    fM_counts_51 u
  else
    fM_counts_52 u 1
set_option maxRecDepth 20000 in
theorem w_M_counts_35 (C : mC p s m args meth c cX9_counts (some .boolean) wsX9_counts 5 D cI cZ) {uz : MS} {rz : Int32} {u : MS} {x3 : Int32} (h : fM_counts_35 u x3 = some (rz, uz)) {H : Heap} {locs : List Loc} {ls : Array Slot} (hI : mI D cI cZ q u s H locs) (hl : lv_has ls 5 [(0, .ref (q 0)), (3, .int x3)]) : W p l e (mR 0 0) s m args below meth c H locs 0 0 (MQ below (mQ D cI cZ q rz uz) args s 0 0 (mF q)) (F0 m 35 ls []) := by
  obtain ⟨hx, hb, hr, hts, hown, hlocks, hml, hK⟩ := id C
  unfold fM_counts_35 at h
  refine lv_aload_n hx hb dX9_counts_35 rfl (lv_at hl 0 rfl) ?_
  refine mg_get hx hb hts iM_counts hown hK hI 3 (by decide) (hts (.fieldLink RX9 7 "PassageCourtModel" "isInRegion" "[Z") (by decide +kernel)) rfl dX9_counts_36 ?_
  refine lv_iload_n hx hb dX9_counts_39 rfl (lv_at hl 1 rfl) ?_
  refine lv_bipush (v := 10) hx hb dX9_counts_40 (by decide) ?_
  refine lv_idiv hx hb dX9_counts_42 (by decide) ?_
  obtain ⟨r2, er2, h⟩ := mbind h
  refine mg_zld hx hb hK hI 3 rfl (by decide) er2 dX9_counts_43 ?_
  refine lv_if_eq (tgt := 51) hx hb dX9_counts_44 (by decide) (fun c3 => ?_) (fun c3 => ?_)
  · replace h := mpos c3 h
    exact w_M_counts_51 C h hI (lv_sub hl [0] rfl)
  · replace h := mneg c3 h
    refine lv_iconst (v := 1) hx hb dX9_counts_47 (by decide) ?_
    refine lv_goto (tgt := 52) hx hb dX9_counts_48 (by decide) ?_
    exact w_M_counts_52 C h hI (lv_sub hl [0] rfl)
def fM_counts (u : MS) (x1 x2 : Int32) : Option (Int32 × MS) :=
  (mld u 22 ((3601 * x1) + x2)).bind fun r4 =>
  if r4 ≤ 0 then
    fM_counts_51 u
  else
    if (r4 - r4 / 10 * 10) = 3 then
      fM_counts_35 u r4
    else
      if (r4 - r4 / 10 * 10) = 4 then
        fM_counts_35 u r4
      else
        fM_counts_51 u
set_option maxRecDepth 20000 in
theorem w_M_counts_0 (C : mC p s m args meth c cX9_counts (some .boolean) wsX9_counts 5 D cI cZ) {uz : MS} {rz : Int32} {u : MS} {x1 x2 : Int32} (h : fM_counts u x1 x2 = some (rz, uz)) {H : Heap} {locs : List Loc} {ls : Array Slot} (hI : mI D cI cZ q u s H locs) (hl : lv_has ls 5 [(0, .ref (q 0)), (1, .int x1), (2, .int x2)]) : W p l e (mR 0 0) s m args below meth c H locs 0 0 (MQ below (mQ D cI cZ q rz uz) args s 0 0 (mF q)) (F0 m 0 ls []) := by
  obtain ⟨hx, hb, hr, hts, hown, hlocks, hml, hK⟩ := id C
  unfold fM_counts at h
  refine lv_aload_n hx hb dX9_counts_0 rfl (lv_at hl 0 rfl) ?_
  refine mg_get hx hb hts iM_counts hown hK hI 22 (by decide) (hts (.fieldLink RX9 67 "PassageCourtModel" "was" "[I") (by decide +kernel)) rfl dX9_counts_1 ?_
  refine lv_sipush (v := 3601) hx hb dX9_counts_4 (by decide) ?_
  refine lv_iload_n hx hb dX9_counts_7 rfl (lv_at hl 1 rfl) ?_
  refine lv_imul hx hb dX9_counts_8 ?_
  refine lv_iload_n hx hb dX9_counts_9 rfl (lv_at hl 2 rfl) ?_
  refine lv_iadd hx hb dX9_counts_10 ?_
  obtain ⟨r4, er4, h⟩ := mbind h
  refine mg_ald hx hb hK hI 22 rfl (by decide) er4 dX9_counts_11 ?_
  refine lv_istore_n (lv' := [(3, .int r4), (0, .ref (q 0)), (1, .int x1), (2, .int x2)]) hx hb dX9_counts_12 rfl hl (by decide) rfl (fun ls hl => ?_)
  refine lv_iload_n hx hb dX9_counts_13 rfl (lv_at hl 0 rfl) ?_
  refine lv_bipush (v := 10) hx hb dX9_counts_14 (by decide) ?_
  refine lv_irem hx hb dX9_counts_16 (by decide) ?_
  refine lv_istore (lv' := [(4, .int (r4 - r4 / 10 * 10)), (3, .int r4), (0, .ref (q 0)), (1, .int x1), (2, .int x2)]) hx hb dX9_counts_17 hl (by decide) rfl (fun ls hl => ?_)
  refine lv_iload_n hx hb dX9_counts_19 rfl (lv_at hl 1 rfl) ?_
  refine lv_if_le (tgt := 51) hx hb dX9_counts_20 (by decide) (fun c5 => ?_) (fun c5 => ?_)
  · replace h := mpos c5 h
    exact w_M_counts_51 C h hI (lv_sub hl [2] rfl)
  · replace h := mneg c5 h
    refine lv_iload hx hb dX9_counts_23 (lv_at hl 0 rfl) ?_
    refine lv_iconst (v := 3) hx hb dX9_counts_25 (by decide) ?_
    refine lv_icmp_eq (tgt := 35) hx hb dX9_counts_26 (by decide) (fun c6 => ?_) (fun c6 => ?_)
    · replace h := mpos c6 h
      exact w_M_counts_35 C h hI (lv_sub hl [2, 1] rfl)
    · replace h := mneg c6 h
      refine lv_iload hx hb dX9_counts_29 (lv_at hl 0 rfl) ?_
      refine lv_iconst (v := 4) hx hb dX9_counts_31 (by decide) ?_
      refine lv_icmp_ne (tgt := 51) hx hb dX9_counts_32 (by decide) (fun c7 => ?_) (fun c7 => ?_)
      · replace h := mneg c7 h
        exact w_M_counts_51 C h hI (lv_sub hl [2] rfl)
      · replace h := mpos c7 h
        exact w_M_counts_35 C h hI (lv_sub hl [2, 1] rfl)
set_option maxRecDepth 20000 in
theorem cM_counts (l : Launch) (D : va_G) (cI cZ : ClassId) (q : Nat → Nat) {u uz : MS} {rz : Int32} {x1 x2 : Int32} (h : fM_counts u x1 x2 = some (rz, uz)) : Met l yX9_counts wsX9_counts (mR 0 0) (va_Pc [.ref (q 0), .int x1, .int x2] (mPre D cI cZ q u)) (mQ D cI cZ q rz uz) 0 0 (mF q) := by
  refine Met.ofW (cc := cX9_counts) (maxL := 5) (ret := (some .boolean)) (by decide) rfl ?_
  intro p e s m args below meth c s₁ B hml hv
  obtain ⟨rfl, hw, hK⟩ := hv
  have C : mC p s m _ meth c cX9_counts (some .boolean) wsX9_counts 5 D cI cZ := ⟨B.exec, B.bytes, B.returns, atoms_spec (ws := wsX9_counts) B.pre, findClass_of_methodNamed B.named, B.notSynchronized, hml, hK⟩
  have hl := lv_entry ([.ref (q 0), .int x1, .int x2]) (n := 5) (Nat.le_of_ble_eq_true rfl)
  rw [lg_entry_eq]
  generalize (lg_sl ([.ref (q 0), .int x1, .int x2]) ++ List.replicate (5 - (lg_sl ([.ref (q 0), .int x1, .int x2])).length) Slot.unset).toArray = ls at hl ⊢
  have hl : lv_has ls 5 [(0, .ref (q 0)), (1, .int x1), (2, .int x2)] := hl
  exact w_M_counts_0 C h ⟨hw, va_S.rf⟩ hl
theorem iM_countTo : ∀ w ∈ wsX90, w ∈ wsX9_countTo := by decide +kernel
def fM_countTo_59 (rec37 : MS → Int32 → Int32 → Int32 → Int32 → Option (Int32 × MS)) (u : MS) (x1 x2 x5 y0 y1 : Int32) : Option (Int32 × MS) :=
  rec37 u x1 x2 (y1 + y0) (x5 + 1)
set_option maxRecDepth 20000 in
theorem w_M_countTo_59 (C : mC p s m args meth c cX9_countTo (some .int) wsX9_countTo 6 D cI cZ) {uz : MS} {rz : Int32} {rec37 : MS → Int32 → Int32 → Int32 → Int32 → Option (Int32 × MS)} (hrec37 : ∀ {u : MS} {x1 x2 x3 x5 : Int32} (_ : rec37 u x1 x2 x3 x5 = some (rz, uz)) {H : Heap} {locs : List Loc} {ls : Array Slot} (_ : mI D cI cZ q u s H locs) (_ : lv_has ls 6 [(0, .ref (q 0)), (1, .int x1), (2, .int x2), (3, .int x3), (5, .int x5)]), W p l e (mR 1 24) s m args below meth c H locs 0 0 (MQ below (mQ D cI cZ q rz uz) args s 0 0 (mF q)) (F0 m 37 ls [])) {u : MS} {x1 x2 x5 y0 y1 : Int32} (h : fM_countTo_59 rec37 u x1 x2 x5 y0 y1 = some (rz, uz)) {H : Heap} {locs : List Loc} {ls : Array Slot} (hI : mI D cI cZ q u s H locs) (hl : lv_has ls 6 [(0, .ref (q 0)), (1, .int x1), (2, .int x2), (5, .int x5)]) : W p l e (mR 1 24) s m args below meth c H locs 0 0 (MQ below (mQ D cI cZ q rz uz) args s 0 0 (mF q)) (F0 m 59 ls [.int y0, .int y1]) := by
  obtain ⟨hx, hb, hr, hts, hown, hlocks, hml, hK⟩ := id C
  unfold fM_countTo_59 at h
  refine lv_iadd hx hb dX9_countTo_59 ?_
  refine lv_istore_n (lv' := [(3, .int (y1 + y0)), (0, .ref (q 0)), (1, .int x1), (2, .int x2), (5, .int x5)]) hx hb dX9_countTo_60 rfl hl (by decide) rfl (fun ls hl => ?_)
  refine lv_iinc (v := x5 + 1) (lv' := [(5, .int (x5 + 1)), (3, .int (y1 + y0)), (0, .ref (q 0)), (1, .int x1), (2, .int x2)]) hx hb dX9_countTo_61 hl (k := 4) rfl rfl (by decide) rfl (fun ls hl => ?_)
  refine lv_goto (tgt := 37) hx hb dX9_countTo_64 (by decide) ?_
  exact hrec37 h hI (lv_sub hl [2, 3, 4, 1, 0] rfl)
def fM_countTo_37 : Nat → MS → Int32 → Int32 → Int32 → Int32 → Option (Int32 × MS)
  | 0, _, _, _, _, _ => none
  | n + 1, u, x1, x2, x3, x5 =>
    if x2 < x5 then
      some (x3, u)
    else
      mb2 (fM_counts u x1 x5) fun r3 u2 =>
      if r3 = 0 then
        fM_countTo_59 (fM_countTo_37 n) u2 x1 x2 x5 0 x3
      else
        fM_countTo_59 (fM_countTo_37 n) u2 x1 x2 x5 1 x3
set_option maxRecDepth 20000 in
theorem w_M_countTo_37 (C : mC p s m args meth c cX9_countTo (some .int) wsX9_countTo 6 D cI cZ) {uz : MS} {rz : Int32} : ∀ (n : Nat) {u : MS} {x1 x2 x3 x5 : Int32} (h : fM_countTo_37 n u x1 x2 x3 x5 = some (rz, uz)) {H : Heap} {locs : List Loc} {ls : Array Slot} (hI : mI D cI cZ q u s H locs) (hl : lv_has ls 6 [(0, .ref (q 0)), (1, .int x1), (2, .int x2), (3, .int x3), (5, .int x5)]), W p l e (mR 1 24) s m args below meth c H locs 0 0 (MQ below (mQ D cI cZ q rz uz) args s 0 0 (mF q)) (F0 m 37 ls []) := by
  obtain ⟨hx, hb, hr, hts, hown, hlocks, hml, hK⟩ := id C
  intro n
  induction n with
  | zero =>
    intro u x1 x2 x3 x5 h
    cases (show (none : Option _) = _ from h)
  | succ n ih =>
    intro u x1 x2 x3 x5 h H locs ls hI hl
    rw [fM_countTo_37] at h
    refine lv_iload hx hb dX9_countTo_37 (lv_at hl 4 rfl) ?_
    refine lv_iload_n hx hb dX9_countTo_39 rfl (lv_at hl 2 rfl) ?_
    refine lv_icmp_gt (tgt := 67) hx hb dX9_countTo_40 (by decide) (fun c1 => ?_) (fun c1 => ?_)
    · replace h := mpos c1 h
      refine lv_iload_n hx hb dX9_countTo_67 rfl (lv_at hl 3 rfl) ?_
      cases h
      exact mg_reti hx hb hr hlocks hK hI dX9_countTo_68
    · replace h := mneg c1 h
      refine lv_iload_n hx hb dX9_countTo_43 rfl (lv_at hl 3 rfl) ?_
      refine lv_aload_n hx hb dX9_countTo_44 rfl (lv_at hl 0 rfl) ?_
      refine lv_iload_n hx hb dX9_countTo_45 rfl (lv_at hl 1 rfl) ?_
      refine lv_iload hx hb dX9_countTo_46 (lv_at hl 4 rfl) ?_
      obtain ⟨r3, u2, eu2, h⟩ := mb2_spec h
      refine mg_callV (As := [.int x1, .int x5]) (rest := [.int x3]) ⟨hx, hb, hml, hown, hts⟩ (cM_counts l D cI cZ q eu2) (cwV 2 hts gX9_countTo_X9_counts rfl rfl rfl (by decide +kernel) ⟨Nat.le_of_ble_eq_true rfl, Nat.le_of_ble_eq_true rfl⟩) hK hI rfl hl.1 rfl (Nat.le_of_ble_eq_true rfl) dX9_countTo_48 ⟨Nat.le_refl _, Nat.le_refl _⟩ (fun H locs hI => ?_)
      refine lv_if_eq (tgt := 58) hx hb dX9_countTo_51 (by decide) (fun c4 => ?_) (fun c4 => ?_)
      · replace h := mpos c4 h
        refine lv_iconst (v := 0) hx hb dX9_countTo_58 (by decide) ?_
        exact w_M_countTo_59 C ih h hI (lv_sub hl [0, 1, 2, 4] rfl)
      · replace h := mneg c4 h
        refine lv_iconst (v := 1) hx hb dX9_countTo_54 (by decide) ?_
        refine lv_goto (tgt := 59) hx hb dX9_countTo_55 (by decide) ?_
        exact w_M_countTo_59 C ih h hI (lv_sub hl [0, 1, 2, 4] rfl)
def fM_countTo_35 (u : MS) (x1 x2 x3 y0 : Int32) : Option (Int32 × MS) :=
  fM_countTo_37 4096 u x1 x2 x3 y0
set_option maxRecDepth 20000 in
theorem w_M_countTo_35 (C : mC p s m args meth c cX9_countTo (some .int) wsX9_countTo 6 D cI cZ) {uz : MS} {rz : Int32} {u : MS} {x1 x2 x3 y0 : Int32} (h : fM_countTo_35 u x1 x2 x3 y0 = some (rz, uz)) {H : Heap} {locs : List Loc} {ls : Array Slot} (hI : mI D cI cZ q u s H locs) (hl : lv_has ls 6 [(0, .ref (q 0)), (1, .int x1), (2, .int x2), (3, .int x3)]) : W p l e (mR 1 24) s m args below meth c H locs 0 0 (MQ below (mQ D cI cZ q rz uz) args s 0 0 (mF q)) (F0 m 35 ls [.int y0]) := by
  obtain ⟨hx, hb, hr, hts, hown, hlocks, hml, hK⟩ := id C
  unfold fM_countTo_35 at h
  refine lv_istore (lv' := [(5, .int y0), (0, .ref (q 0)), (1, .int x1), (2, .int x2), (3, .int x3)]) hx hb dX9_countTo_35 hl (by decide) rfl (fun ls hl => ?_)
  exact w_M_countTo_37 C 4096 h hI (lv_sub hl [1, 2, 3, 4, 0] rfl)
def fM_countTo (u : MS) (x1 x2 : Int32) : Option (Int32 × MS) :=
  mb2 (fM_ruleOf u (u 1 0)) fun r6 u5 =>
  (mld u5 12 r6).bind fun r7 =>
  if 0 ≤ (((u 1 0) - r7) + 1) then
    fM_countTo_35 u5 x1 x2 0 (((u 1 0) - r7) + 1)
  else
    fM_countTo_35 u5 x1 x2 0 0
set_option maxRecDepth 20000 in
theorem w_M_countTo_0 (C : mC p s m args meth c cX9_countTo (some .int) wsX9_countTo 6 D cI cZ) {uz : MS} {rz : Int32} {u : MS} {x1 x2 : Int32} (h : fM_countTo u x1 x2 = some (rz, uz)) {H : Heap} {locs : List Loc} {ls : Array Slot} (hI : mI D cI cZ q u s H locs) (hl : lv_has ls 6 [(0, .ref (q 0)), (1, .int x1), (2, .int x2)]) : W p l e (mR 1 24) s m args below meth c H locs 0 0 (MQ below (mQ D cI cZ q rz uz) args s 0 0 (mF q)) (F0 m 0 ls []) := by
  obtain ⟨hx, hb, hr, hts, hown, hlocks, hml, hK⟩ := id C
  unfold fM_countTo at h
  refine lv_iconst (v := 0) hx hb dX9_countTo_0 (by decide) ?_
  refine lv_istore_n (lv' := [(3, .int 0), (0, .ref (q 0)), (1, .int x1), (2, .int x2)]) hx hb dX9_countTo_1 rfl hl (by decide) rfl (fun ls hl => ?_)
  refine lv_aload_n hx hb dX9_countTo_2 rfl (lv_at hl 1 rfl) ?_
  refine mg_get hx hb hts iM_countTo hown hK hI 1 (by decide) (hts (.fieldLink RX9 153 "PassageCourtModel" "today" "I") (by decide +kernel)) rfl dX9_countTo_3 ?_
  refine lv_aload_n hx hb dX9_countTo_6 rfl (lv_at hl 1 rfl) ?_
  refine mg_get hx hb hts iM_countTo hown hK hI 12 (by decide) (hts (.fieldLink RX9 39 "PassageCourtModel" "ruleWindow" "[I") (by decide +kernel)) rfl dX9_countTo_7 ?_
  refine lv_aload_n hx hb dX9_countTo_10 rfl (lv_at hl 1 rfl) ?_
  refine lv_aload_n hx hb dX9_countTo_11 rfl (lv_at hl 1 rfl) ?_
  refine mg_get hx hb hts iM_countTo hown hK hI 1 (by decide) (hts (.fieldLink RX9 153 "PassageCourtModel" "today" "I") (by decide +kernel)) rfl dX9_countTo_12 ?_
  obtain ⟨r6, u5, eu5, h⟩ := mb2_spec h
  refine mg_callV (As := [.int (u 1 0)]) (rest := [.ref (q 12), .int (u 1 0)]) ⟨hx, hb, hml, hown, hts⟩ (cM_ruleOf l D cI cZ q eu5) (cwV 1 hts gX9_countTo_X9_ruleOf rfl rfl rfl (by decide +kernel) ⟨Nat.le_of_ble_eq_true rfl, Nat.le_of_ble_eq_true rfl⟩) hK hI rfl hl.1 rfl (Nat.le_of_ble_eq_true rfl) dX9_countTo_15 ⟨Nat.le_refl _, Nat.le_refl _⟩ (fun H locs hI => ?_)
  obtain ⟨r7, er7, h⟩ := mbind h
  refine mg_ald hx hb hK hI 12 rfl (by decide) er7 dX9_countTo_18 ?_
  refine lv_isub hx hb dX9_countTo_19 ?_
  refine lv_iconst (v := 1) hx hb dX9_countTo_20 (by decide) ?_
  refine lv_iadd hx hb dX9_countTo_21 ?_
  refine lv_istore (lv' := [(4, .int (((u 1 0) - r7) + 1)), (3, .int 0), (0, .ref (q 0)), (1, .int x1), (2, .int x2)]) hx hb dX9_countTo_22 hl (by decide) rfl (fun ls hl => ?_)
  refine lv_iload hx hb dX9_countTo_24 (lv_at hl 0 rfl) ?_
  refine lv_if_ge (tgt := 33) hx hb dX9_countTo_26 (by decide) (fun c8 => ?_) (fun c8 => ?_)
  · replace h := mpos c8 h
    refine lv_iload hx hb dX9_countTo_33 (lv_at hl 0 rfl) ?_
    exact w_M_countTo_35 C h hI (lv_sub hl [2, 3, 4, 1] rfl)
  · replace h := mneg c8 h
    refine lv_iconst (v := 0) hx hb dX9_countTo_29 (by decide) ?_
    refine lv_goto (tgt := 35) hx hb dX9_countTo_30 (by decide) ?_
    exact w_M_countTo_35 C h hI (lv_sub hl [2, 3, 4, 1] rfl)
set_option maxRecDepth 20000 in
theorem cM_countTo (l : Launch) (D : va_G) (cI cZ : ClassId) (q : Nat → Nat) {u uz : MS} {rz : Int32} {x1 x2 : Int32} (h : fM_countTo u x1 x2 = some (rz, uz)) : Met l yX9_countTo wsX9_countTo (mR 1 24) (va_Pc [.ref (q 0), .int x1, .int x2] (mPre D cI cZ q u)) (mQ D cI cZ q rz uz) 0 0 (mF q) := by
  refine Met.ofW (cc := cX9_countTo) (maxL := 6) (ret := (some .int)) (by decide) rfl ?_
  intro p e s m args below meth c s₁ B hml hv
  obtain ⟨rfl, hw, hK⟩ := hv
  have C : mC p s m _ meth c cX9_countTo (some .int) wsX9_countTo 6 D cI cZ := ⟨B.exec, B.bytes, B.returns, atoms_spec (ws := wsX9_countTo) B.pre, findClass_of_methodNamed B.named, B.notSynchronized, hml, hK⟩
  have hl := lv_entry ([.ref (q 0), .int x1, .int x2]) (n := 6) (Nat.le_of_ble_eq_true rfl)
  rw [lg_entry_eq]
  generalize (lg_sl ([.ref (q 0), .int x1, .int x2]) ++ List.replicate (6 - (lg_sl ([.ref (q 0), .int x1, .int x2])).length) Slot.unset).toArray = ls at hl ⊢
  have hl : lv_has ls 6 [(0, .ref (q 0)), (1, .int x1), (2, .int x2)] := hl
  exact w_M_countTo_0 C h ⟨hw, va_S.rf⟩ hl
theorem iM_hasDays : ∀ w ∈ wsX90, w ∈ wsX9_hasDays := by decide +kernel
def fM_hasDays_62 (u : MS) (y0 : Int32) : Option (Int32 × MS) :=
  (mbo y0).bind fun b1 => some (b1, u)
set_option maxRecDepth 20000 in
theorem w_M_hasDays_62 (C : mC p s m args meth c cX9_hasDays (some .boolean) wsX9_hasDays 4 D cI cZ) {uz : MS} {rz : Int32} {u : MS} {y0 : Int32} (h : fM_hasDays_62 u y0 = some (rz, uz)) {H : Heap} {locs : List Loc} {ls : Array Slot} (hI : mI D cI cZ q u s H locs) (hl : lv_has ls 4 [(0, .ref (q 0))]) : W p l e (mR 2 49) s m args below meth c H locs 0 0 (MQ below (mQ D cI cZ q rz uz) args s 0 0 (mF q)) (F0 m 62 ls [.int y0]) := by
  obtain ⟨hx, hb, hr, hts, hown, hlocks, hml, hK⟩ := id C
  unfold fM_hasDays_62 at h
  obtain ⟨b1, eb1, h⟩ := mbind h
  cases h
  exact mg_retz hx hb hr hlocks hK hI dX9_hasDays_62 eb1
def fM_hasDays (u : MS) (x1 x2 x3 : Int32) : Option (Int32 × MS) :=
  (mld u 3 x2).bind fun r2 =>
  if r2 = 0 then
    if 60 ≤ ((u 1 0) - x3) then
      fM_hasDays_62 u 0
    else
      fM_hasDays_62 u 1
  else
    mb2 (fM_countTo u x1 ((u 1 0) - 1)) fun r6 u5 =>
    mb2 (fM_ruleOf u5 (u5 1 0)) fun r8 u7 =>
    (mld u7 11 r8).bind fun r9 =>
    if r9 < (r6 + 1) then
      fM_hasDays_62 u7 0
    else
      fM_hasDays_62 u7 1
set_option maxRecDepth 20000 in
theorem w_M_hasDays_0 (C : mC p s m args meth c cX9_hasDays (some .boolean) wsX9_hasDays 4 D cI cZ) {uz : MS} {rz : Int32} {u : MS} {x1 x2 x3 : Int32} (h : fM_hasDays u x1 x2 x3 = some (rz, uz)) {H : Heap} {locs : List Loc} {ls : Array Slot} (hI : mI D cI cZ q u s H locs) (hl : lv_has ls 4 [(0, .ref (q 0)), (1, .int x1), (2, .int x2), (3, .int x3)]) : W p l e (mR 2 49) s m args below meth c H locs 0 0 (MQ below (mQ D cI cZ q rz uz) args s 0 0 (mF q)) (F0 m 0 ls []) := by
  obtain ⟨hx, hb, hr, hts, hown, hlocks, hml, hK⟩ := id C
  unfold fM_hasDays at h
  refine lv_aload_n hx hb dX9_hasDays_0 rfl (lv_at hl 0 rfl) ?_
  refine mg_get hx hb hts iM_hasDays hown hK hI 3 (by decide) (hts (.fieldLink RX9 7 "PassageCourtModel" "isInRegion" "[Z") (by decide +kernel)) rfl dX9_hasDays_1 ?_
  refine lv_iload_n hx hb dX9_hasDays_4 rfl (lv_at hl 2 rfl) ?_
  obtain ⟨r2, er2, h⟩ := mbind h
  refine mg_zld hx hb hK hI 3 rfl (by decide) er2 dX9_hasDays_5 ?_
  refine lv_if_eq (tgt := 46) hx hb dX9_hasDays_6 (by decide) (fun c3 => ?_) (fun c3 => ?_)
  · replace h := mpos c3 h
    refine lv_aload_n hx hb dX9_hasDays_46 rfl (lv_at hl 0 rfl) ?_
    refine mg_get hx hb hts iM_hasDays hown hK hI 1 (by decide) (hts (.fieldLink RX9 153 "PassageCourtModel" "today" "I") (by decide +kernel)) rfl dX9_hasDays_47 ?_
    refine lv_iload_n hx hb dX9_hasDays_50 rfl (lv_at hl 3 rfl) ?_
    refine lv_isub hx hb dX9_hasDays_51 ?_
    refine lv_bipush (v := 60) hx hb dX9_hasDays_52 (by decide) ?_
    refine lv_icmp_ge (tgt := 61) hx hb dX9_hasDays_54 (by decide) (fun c4 => ?_) (fun c4 => ?_)
    · replace h := mpos c4 h
      refine lv_iconst (v := 0) hx hb dX9_hasDays_61 (by decide) ?_
      exact w_M_hasDays_62 C h hI (lv_sub hl [0] rfl)
    · replace h := mneg c4 h
      refine lv_iconst (v := 1) hx hb dX9_hasDays_57 (by decide) ?_
      refine lv_goto (tgt := 62) hx hb dX9_hasDays_58 (by decide) ?_
      exact w_M_hasDays_62 C h hI (lv_sub hl [0] rfl)
  · replace h := mneg c3 h
    refine lv_aload_n hx hb dX9_hasDays_9 rfl (lv_at hl 0 rfl) ?_
    refine lv_iload_n hx hb dX9_hasDays_10 rfl (lv_at hl 1 rfl) ?_
    refine lv_aload_n hx hb dX9_hasDays_11 rfl (lv_at hl 0 rfl) ?_
    refine mg_get hx hb hts iM_hasDays hown hK hI 1 (by decide) (hts (.fieldLink RX9 153 "PassageCourtModel" "today" "I") (by decide +kernel)) rfl dX9_hasDays_12 ?_
    refine lv_iconst (v := 1) hx hb dX9_hasDays_15 (by decide) ?_
    refine lv_isub hx hb dX9_hasDays_16 ?_
    obtain ⟨r6, u5, eu5, h⟩ := mb2_spec h
    refine mg_callV (As := [.int x1, .int ((u 1 0) - 1)]) (rest := []) ⟨hx, hb, hml, hown, hts⟩ (cM_countTo l D cI cZ q eu5) (cwV 2 hts gX9_hasDays_X9_countTo rfl rfl rfl (by decide +kernel) ⟨Nat.le_of_ble_eq_true rfl, Nat.le_of_ble_eq_true rfl⟩) hK hI rfl hl.1 rfl (Nat.le_of_ble_eq_true rfl) dX9_hasDays_17 ⟨Nat.le_refl _, Nat.le_refl _⟩ (fun H locs hI => ?_)
    refine lv_iconst (v := 1) hx hb dX9_hasDays_20 (by decide) ?_
    refine lv_iadd hx hb dX9_hasDays_21 ?_
    refine lv_aload_n hx hb dX9_hasDays_22 rfl (lv_at hl 0 rfl) ?_
    refine mg_get hx hb hts iM_hasDays hown hK hI 11 (by decide) (hts (.fieldLink RX9 36 "PassageCourtModel" "ruleMost" "[I") (by decide +kernel)) rfl dX9_hasDays_23 ?_
    refine lv_aload_n hx hb dX9_hasDays_26 rfl (lv_at hl 0 rfl) ?_
    refine lv_aload_n hx hb dX9_hasDays_27 rfl (lv_at hl 0 rfl) ?_
    refine mg_get hx hb hts iM_hasDays hown hK hI 1 (by decide) (hts (.fieldLink RX9 153 "PassageCourtModel" "today" "I") (by decide +kernel)) rfl dX9_hasDays_28 ?_
    obtain ⟨r8, u7, eu7, h⟩ := mb2_spec h
    refine mg_callV (As := [.int (u5 1 0)]) (rest := [.ref (q 11), .int (r6 + 1)]) ⟨hx, hb, hml, hown, hts⟩ (cM_ruleOf l D cI cZ q eu7) (cwV 1 hts gX9_hasDays_X9_ruleOf rfl rfl rfl (by decide +kernel) ⟨Nat.le_of_ble_eq_true rfl, Nat.le_of_ble_eq_true rfl⟩) hK hI rfl hl.1 rfl (Nat.le_of_ble_eq_true rfl) dX9_hasDays_31 ⟨Nat.le_refl _, Nat.le_refl _⟩ (fun H locs hI => ?_)
    obtain ⟨r9, er9, h⟩ := mbind h
    refine mg_ald hx hb hK hI 11 rfl (by decide) er9 dX9_hasDays_34 ?_
    refine lv_icmp_gt (tgt := 42) hx hb dX9_hasDays_35 (by decide) (fun c10 => ?_) (fun c10 => ?_)
    · replace h := mpos c10 h
      refine lv_iconst (v := 0) hx hb dX9_hasDays_42 (by decide) ?_
      refine lv_goto (tgt := 62) hx hb dX9_hasDays_43 (by decide) ?_
      exact w_M_hasDays_62 C h hI (lv_sub hl [0] rfl)
    · replace h := mneg c10 h
      refine lv_iconst (v := 1) hx hb dX9_hasDays_38 (by decide) ?_
      refine lv_goto (tgt := 62) hx hb dX9_hasDays_39 (by decide) ?_
      exact w_M_hasDays_62 C h hI (lv_sub hl [0] rfl)
set_option maxRecDepth 20000 in
theorem cM_hasDays (l : Launch) (D : va_G) (cI cZ : ClassId) (q : Nat → Nat) {u uz : MS} {rz : Int32} {x1 x2 x3 : Int32} (h : fM_hasDays u x1 x2 x3 = some (rz, uz)) : Met l yX9_hasDays wsX9_hasDays (mR 2 49) (va_Pc [.ref (q 0), .int x1, .int x2, .int x3] (mPre D cI cZ q u)) (mQ D cI cZ q rz uz) 0 0 (mF q) := by
  refine Met.ofW (cc := cX9_hasDays) (maxL := 4) (ret := (some .boolean)) (by decide) rfl ?_
  intro p e s m args below meth c s₁ B hml hv
  obtain ⟨rfl, hw, hK⟩ := hv
  have C : mC p s m _ meth c cX9_hasDays (some .boolean) wsX9_hasDays 4 D cI cZ := ⟨B.exec, B.bytes, B.returns, atoms_spec (ws := wsX9_hasDays) B.pre, findClass_of_methodNamed B.named, B.notSynchronized, hml, hK⟩
  have hl := lv_entry ([.ref (q 0), .int x1, .int x2, .int x3]) (n := 4) (Nat.le_of_ble_eq_true rfl)
  rw [lg_entry_eq]
  generalize (lg_sl ([.ref (q 0), .int x1, .int x2, .int x3]) ++ List.replicate (4 - (lg_sl ([.ref (q 0), .int x1, .int x2, .int x3])).length) Slot.unset).toArray = ls at hl ⊢
  have hl : lv_has ls 4 [(0, .ref (q 0)), (1, .int x1), (2, .int x2), (3, .int x3)] := hl
  exact w_M_hasDays_0 C h ⟨hw, va_S.rf⟩ hl
theorem iM_statusIn : ∀ w ∈ wsX90, w ∈ wsX9_statusIn := by decide +kernel
def fM_statusIn_99 (u : MS) : Option (Int32 × MS) :=
  some (4, u)
set_option maxRecDepth 20000 in
theorem w_M_statusIn_99 (C : mC p s m args meth c cX9_statusIn (some .int) wsX9_statusIn 5 D cI cZ) {uz : MS} {rz : Int32} {u : MS} (h : fM_statusIn_99 u = some (rz, uz)) {H : Heap} {locs : List Loc} {ls : Array Slot} (hI : mI D cI cZ q u s H locs) (hl : lv_has ls 5 [(0, .ref (q 0))]) : W p l e (mR 3 72) s m args below meth c H locs 0 0 (MQ below (mQ D cI cZ q rz uz) args s 0 0 (mF q)) (F0 m 99 ls []) := by
  obtain ⟨hx, hb, hr, hts, hown, hlocks, hml, hK⟩ := id C
  unfold fM_statusIn_99 at h
  refine lv_iconst (v := 4) hx hb dX9_statusIn_99 (by decide) ?_
  cases h
  exact mg_reti hx hb hr hlocks hK hI dX9_statusIn_100
def fM_statusIn_153 (u : MS) : Option (Int32 × MS) :=
  some (3, u)
set_option maxRecDepth 20000 in
theorem w_M_statusIn_153 (C : mC p s m args meth c cX9_statusIn (some .int) wsX9_statusIn 5 D cI cZ) {uz : MS} {rz : Int32} {u : MS} (h : fM_statusIn_153 u = some (rz, uz)) {H : Heap} {locs : List Loc} {ls : Array Slot} (hI : mI D cI cZ q u s H locs) (hl : lv_has ls 5 [(0, .ref (q 0))]) : W p l e (mR 3 72) s m args below meth c H locs 0 0 (MQ below (mQ D cI cZ q rz uz) args s 0 0 (mF q)) (F0 m 153 ls []) := by
  obtain ⟨hx, hb, hr, hts, hown, hlocks, hml, hK⟩ := id C
  unfold fM_statusIn_153 at h
  refine lv_iconst (v := 3) hx hb dX9_statusIn_153 (by decide) ?_
  cases h
  exact mg_reti hx hb hr hlocks hK hI dX9_statusIn_154
def fM_statusIn_68 (u : MS) (x1 x2 x3 y0 : Int32) : Option (Int32 × MS) :=
  (mld u 19 x1).bind fun r1 =>
  if r1 = 0 then
    (mld u 21 x1).bind fun r3 =>
    mb2 (fM_hasDays u x1 x2 r3) fun r5 u4 =>
    if r5 = 0 then
      fM_statusIn_99 u4
    else
      if y0 = 0 then
        fM_statusIn_99 u4
      else
        if x3 = 0 then
          (mld u4 20 x1).bind fun r9 =>
          (mld u4 35 r9).bind fun r10 =>
          if r10 = (u4 1 0) then
            fM_statusIn_153 u4
          else
            (mld u4 20 x1).bind fun r12 =>
            (mst u4 35 r12 (u4 1 0)).bind fun u13 =>
            (mld u13 20 x1).bind fun r14 =>
            (mld u13 34 r14).bind fun r15 =>
            (mst u13 34 r14 (r15 - 1)).bind fun u16 =>
            fM_statusIn_153 u16
        else
          fM_statusIn_153 u4
  else
    fM_statusIn_99 u
set_option maxRecDepth 20000 in
theorem w_M_statusIn_68 (C : mC p s m args meth c cX9_statusIn (some .int) wsX9_statusIn 5 D cI cZ) {uz : MS} {rz : Int32} {u : MS} {x1 x2 x3 y0 : Int32} (h : fM_statusIn_68 u x1 x2 x3 y0 = some (rz, uz)) {H : Heap} {locs : List Loc} {ls : Array Slot} (hI : mI D cI cZ q u s H locs) (hl : lv_has ls 5 [(0, .ref (q 0)), (1, .int x1), (2, .int x2), (3, .int x3)]) : W p l e (mR 3 72) s m args below meth c H locs 0 0 (MQ below (mQ D cI cZ q rz uz) args s 0 0 (mF q)) (F0 m 68 ls [.int y0]) := by
  obtain ⟨hx, hb, hr, hts, hown, hlocks, hml, hK⟩ := id C
  unfold fM_statusIn_68 at h
  refine lv_istore (lv' := [(4, .int y0), (0, .ref (q 0)), (1, .int x1), (2, .int x2), (3, .int x3)]) hx hb dX9_statusIn_68 hl (by decide) rfl (fun ls hl => ?_)
  refine lv_aload_n hx hb dX9_statusIn_70 rfl (lv_at hl 1 rfl) ?_
  refine mg_get hx hb hts iM_statusIn hown hK hI 19 (by decide) (hts (.fieldLink RX9 57 "PassageCourtModel" "hasSlipped" "[Z") (by decide +kernel)) rfl dX9_statusIn_71 ?_
  refine lv_iload_n hx hb dX9_statusIn_74 rfl (lv_at hl 2 rfl) ?_
  obtain ⟨r1, er1, h⟩ := mbind h
  refine mg_zld hx hb hK hI 19 rfl (by decide) er1 dX9_statusIn_75 ?_
  refine lv_if_ne (tgt := 99) hx hb dX9_statusIn_76 (by decide) (fun c2 => ?_) (fun c2 => ?_)
  · replace h := mneg c2 h
    exact w_M_statusIn_99 C h hI (lv_sub hl [1] rfl)
  · replace h := mpos c2 h
    refine lv_aload_n hx hb dX9_statusIn_79 rfl (lv_at hl 1 rfl) ?_
    refine lv_iload_n hx hb dX9_statusIn_80 rfl (lv_at hl 2 rfl) ?_
    refine lv_iload_n hx hb dX9_statusIn_81 rfl (lv_at hl 3 rfl) ?_
    refine lv_aload_n hx hb dX9_statusIn_82 rfl (lv_at hl 1 rfl) ?_
    refine mg_get hx hb hts iM_statusIn hown hK hI 21 (by decide) (hts (.fieldLink RX9 63 "PassageCourtModel" "entered" "[I") (by decide +kernel)) rfl dX9_statusIn_83 ?_
    refine lv_iload_n hx hb dX9_statusIn_86 rfl (lv_at hl 2 rfl) ?_
    obtain ⟨r3, er3, h⟩ := mbind h
    refine mg_ald hx hb hK hI 21 rfl (by decide) er3 dX9_statusIn_87 ?_
    obtain ⟨r5, u4, eu4, h⟩ := mb2_spec h
    refine mg_callV (As := [.int x1, .int x2, .int r3]) (rest := []) ⟨hx, hb, hml, hown, hts⟩ (cM_hasDays l D cI cZ q eu4) (cwV 3 hts gX9_statusIn_X9_hasDays rfl rfl rfl (by decide +kernel) ⟨Nat.le_of_ble_eq_true rfl, Nat.le_of_ble_eq_true rfl⟩) hK hI rfl hl.1 rfl (Nat.le_of_ble_eq_true rfl) dX9_statusIn_88 ⟨Nat.le_refl _, Nat.le_refl _⟩ (fun H locs hI => ?_)
    refine lv_if_eq (tgt := 99) hx hb dX9_statusIn_91 (by decide) (fun c6 => ?_) (fun c6 => ?_)
    · replace h := mpos c6 h
      exact w_M_statusIn_99 C h hI (lv_sub hl [1] rfl)
    · replace h := mneg c6 h
      refine lv_iload hx hb dX9_statusIn_94 (lv_at hl 0 rfl) ?_
      refine lv_if_ne (tgt := 101) hx hb dX9_statusIn_96 (by decide) (fun c7 => ?_) (fun c7 => ?_)
      · replace h := mneg c7 h
        refine lv_iload_n hx hb dX9_statusIn_101 rfl (lv_at hl 4 rfl) ?_
        refine lv_if_ne (tgt := 153) hx hb dX9_statusIn_102 (by decide) (fun c8 => ?_) (fun c8 => ?_)
        · replace h := mneg c8 h
          exact w_M_statusIn_153 C h hI (lv_sub hl [1] rfl)
        · replace h := mpos c8 h
          refine lv_aload_n hx hb dX9_statusIn_105 rfl (lv_at hl 1 rfl) ?_
          refine mg_get hx hb hts iM_statusIn hown hK hI 35 (by decide) (hts (.fieldLink RX9 103 "PassageCourtModel" "counted" "[I") (by decide +kernel)) rfl dX9_statusIn_106 ?_
          refine lv_aload_n hx hb dX9_statusIn_109 rfl (lv_at hl 1 rfl) ?_
          refine mg_get hx hb hts iM_statusIn hown hK hI 20 (by decide) (hts (.fieldLink RX9 60 "PassageCourtModel" "cameBy" "[I") (by decide +kernel)) rfl dX9_statusIn_110 ?_
          refine lv_iload_n hx hb dX9_statusIn_113 rfl (lv_at hl 2 rfl) ?_
          obtain ⟨r9, er9, h⟩ := mbind h
          refine mg_ald hx hb hK hI 20 rfl (by decide) er9 dX9_statusIn_114 ?_
          obtain ⟨r10, er10, h⟩ := mbind h
          refine mg_ald hx hb hK hI 35 rfl (by decide) er10 dX9_statusIn_115 ?_
          refine lv_aload_n hx hb dX9_statusIn_116 rfl (lv_at hl 1 rfl) ?_
          refine mg_get hx hb hts iM_statusIn hown hK hI 1 (by decide) (hts (.fieldLink RX9 153 "PassageCourtModel" "today" "I") (by decide +kernel)) rfl dX9_statusIn_117 ?_
          refine lv_icmp_eq (tgt := 153) hx hb dX9_statusIn_120 (by decide) (fun c11 => ?_) (fun c11 => ?_)
          · replace h := mpos c11 h
            exact w_M_statusIn_153 C h hI (lv_sub hl [1] rfl)
          · replace h := mneg c11 h
            refine lv_aload_n hx hb dX9_statusIn_123 rfl (lv_at hl 1 rfl) ?_
            refine mg_get hx hb hts iM_statusIn hown hK hI 35 (by decide) (hts (.fieldLink RX9 103 "PassageCourtModel" "counted" "[I") (by decide +kernel)) rfl dX9_statusIn_124 ?_
            refine lv_aload_n hx hb dX9_statusIn_127 rfl (lv_at hl 1 rfl) ?_
            refine mg_get hx hb hts iM_statusIn hown hK hI 20 (by decide) (hts (.fieldLink RX9 60 "PassageCourtModel" "cameBy" "[I") (by decide +kernel)) rfl dX9_statusIn_128 ?_
            refine lv_iload_n hx hb dX9_statusIn_131 rfl (lv_at hl 2 rfl) ?_
            obtain ⟨r12, er12, h⟩ := mbind h
            refine mg_ald hx hb hK hI 20 rfl (by decide) er12 dX9_statusIn_132 ?_
            refine lv_aload_n hx hb dX9_statusIn_133 rfl (lv_at hl 1 rfl) ?_
            refine mg_get hx hb hts iM_statusIn hown hK hI 1 (by decide) (hts (.fieldLink RX9 153 "PassageCourtModel" "today" "I") (by decide +kernel)) rfl dX9_statusIn_134 ?_
            obtain ⟨u13, eu13, h⟩ := mbind h
            refine mg_ast hx hb hK hI 35 rfl (by decide) eu13 dX9_statusIn_137 (fun H locs hI => ?_)
            refine lv_aload_n hx hb dX9_statusIn_138 rfl (lv_at hl 1 rfl) ?_
            refine mg_get hx hb hts iM_statusIn hown hK hI 34 (by decide) (hts (.fieldLink RX9 100 "PassageCourtModel" "daysLeft" "[I") (by decide +kernel)) rfl dX9_statusIn_139 ?_
            refine lv_aload_n hx hb dX9_statusIn_142 rfl (lv_at hl 1 rfl) ?_
            refine mg_get hx hb hts iM_statusIn hown hK hI 20 (by decide) (hts (.fieldLink RX9 60 "PassageCourtModel" "cameBy" "[I") (by decide +kernel)) rfl dX9_statusIn_143 ?_
            refine lv_iload_n hx hb dX9_statusIn_146 rfl (lv_at hl 2 rfl) ?_
            obtain ⟨r14, er14, h⟩ := mbind h
            refine mg_ald hx hb hK hI 20 rfl (by decide) er14 dX9_statusIn_147 ?_
            refine lv_dup2_11 hx hb dX9_statusIn_148 rfl rfl ?_
            obtain ⟨r15, er15, h⟩ := mbind h
            refine mg_ald hx hb hK hI 34 rfl (by decide) er15 dX9_statusIn_149 ?_
            refine lv_iconst (v := 1) hx hb dX9_statusIn_150 (by decide) ?_
            refine lv_isub hx hb dX9_statusIn_151 ?_
            obtain ⟨u16, eu16, h⟩ := mbind h
            refine mg_ast hx hb hK hI 34 rfl (by decide) eu16 dX9_statusIn_152 (fun H locs hI => ?_)
            exact w_M_statusIn_153 C h hI (lv_sub hl [1] rfl)
      · replace h := mpos c7 h
        exact w_M_statusIn_99 C h hI (lv_sub hl [1] rfl)
def fM_statusIn_63 (u : MS) (x1 x2 x3 : Int32) : Option (Int32 × MS) :=
  fM_statusIn_68 u x1 x2 x3 1
set_option maxRecDepth 20000 in
theorem w_M_statusIn_63 (C : mC p s m args meth c cX9_statusIn (some .int) wsX9_statusIn 5 D cI cZ) {uz : MS} {rz : Int32} {u : MS} {x1 x2 x3 : Int32} (h : fM_statusIn_63 u x1 x2 x3 = some (rz, uz)) {H : Heap} {locs : List Loc} {ls : Array Slot} (hI : mI D cI cZ q u s H locs) (hl : lv_has ls 5 [(0, .ref (q 0)), (1, .int x1), (2, .int x2), (3, .int x3)]) : W p l e (mR 3 72) s m args below meth c H locs 0 0 (MQ below (mQ D cI cZ q rz uz) args s 0 0 (mF q)) (F0 m 63 ls []) := by
  obtain ⟨hx, hb, hr, hts, hown, hlocks, hml, hK⟩ := id C
  unfold fM_statusIn_63 at h
  refine lv_iconst (v := 1) hx hb dX9_statusIn_63 (by decide) ?_
  refine lv_goto (tgt := 68) hx hb dX9_statusIn_64 (by decide) ?_
  exact w_M_statusIn_68 C h hI (lv_sub hl [0, 1, 2, 3] rfl)
def fM_statusIn_67 (u : MS) (x1 x2 x3 : Int32) : Option (Int32 × MS) :=
  fM_statusIn_68 u x1 x2 x3 0
set_option maxRecDepth 20000 in
theorem w_M_statusIn_67 (C : mC p s m args meth c cX9_statusIn (some .int) wsX9_statusIn 5 D cI cZ) {uz : MS} {rz : Int32} {u : MS} {x1 x2 x3 : Int32} (h : fM_statusIn_67 u x1 x2 x3 = some (rz, uz)) {H : Heap} {locs : List Loc} {ls : Array Slot} (hI : mI D cI cZ q u s H locs) (hl : lv_has ls 5 [(0, .ref (q 0)), (1, .int x1), (2, .int x2), (3, .int x3)]) : W p l e (mR 3 72) s m args below meth c H locs 0 0 (MQ below (mQ D cI cZ q rz uz) args s 0 0 (mF q)) (F0 m 67 ls []) := by
  obtain ⟨hx, hb, hr, hts, hown, hlocks, hml, hK⟩ := id C
  unfold fM_statusIn_67 at h
  refine lv_iconst (v := 0) hx hb dX9_statusIn_67 (by decide) ?_
  exact w_M_statusIn_68 C h hI (lv_sub hl [0, 1, 2, 3] rfl)
def fM_statusIn_27 (u : MS) (y0 : Int32) : Option (Int32 × MS) :=
  some (y0, u)
set_option maxRecDepth 20000 in
theorem w_M_statusIn_27 (C : mC p s m args meth c cX9_statusIn (some .int) wsX9_statusIn 5 D cI cZ) {uz : MS} {rz : Int32} {u : MS} {y0 : Int32} (h : fM_statusIn_27 u y0 = some (rz, uz)) {H : Heap} {locs : List Loc} {ls : Array Slot} (hI : mI D cI cZ q u s H locs) (hl : lv_has ls 5 [(0, .ref (q 0))]) : W p l e (mR 3 72) s m args below meth c H locs 0 0 (MQ below (mQ D cI cZ q rz uz) args s 0 0 (mF q)) (F0 m 27 ls [.int y0]) := by
  obtain ⟨hx, hb, hr, hts, hown, hlocks, hml, hK⟩ := id C
  unfold fM_statusIn_27 at h
  cases h
  exact mg_reti hx hb hr hlocks hK hI dX9_statusIn_27
def fM_statusIn (u : MS) (x1 x2 : Int32) : Option (Int32 × MS) :=
  mb2 (fM_belongs u x1 x2) fun r18 u17 =>
  if r18 = 0 then
    mb2 (fM_isFree u17 x1 x2) fun r21 u20 =>
    if r21 = 0 then
      (mld u20 20 x1).bind fun r23 =>
      if r23 = ((-1)) then
        fM_statusIn_67 u20 x1 x2 r21
      else
        (mld u20 20 x1).bind fun r25 =>
        mb2 (fM_isGood u20 r25 x2) fun r27 u26 =>
        if r27 = 0 then
          fM_statusIn_67 u26 x1 x2 r21
        else
          fM_statusIn_63 u26 x1 x2 r21
    else
      fM_statusIn_63 u20 x1 x2 r21
  else
    (mld u17 15 x1).bind fun r29 =>
    mb2 (fM_has u17 r29 x2) fun r31 u30 =>
    if r31 = 0 then
      fM_statusIn_27 u30 2
    else
      fM_statusIn_27 u30 1
set_option maxRecDepth 20000 in
theorem w_M_statusIn_0 (C : mC p s m args meth c cX9_statusIn (some .int) wsX9_statusIn 5 D cI cZ) {uz : MS} {rz : Int32} {u : MS} {x1 x2 : Int32} (h : fM_statusIn u x1 x2 = some (rz, uz)) {H : Heap} {locs : List Loc} {ls : Array Slot} (hI : mI D cI cZ q u s H locs) (hl : lv_has ls 5 [(0, .ref (q 0)), (1, .int x1), (2, .int x2)]) : W p l e (mR 3 72) s m args below meth c H locs 0 0 (MQ below (mQ D cI cZ q rz uz) args s 0 0 (mF q)) (F0 m 0 ls []) := by
  obtain ⟨hx, hb, hr, hts, hown, hlocks, hml, hK⟩ := id C
  unfold fM_statusIn at h
  refine lv_aload_n hx hb dX9_statusIn_0 rfl (lv_at hl 0 rfl) ?_
  refine lv_iload_n hx hb dX9_statusIn_1 rfl (lv_at hl 1 rfl) ?_
  refine lv_iload_n hx hb dX9_statusIn_2 rfl (lv_at hl 2 rfl) ?_
  obtain ⟨r18, u17, eu17, h⟩ := mb2_spec h
  refine mg_callV (As := [.int x1, .int x2]) (rest := []) ⟨hx, hb, hml, hown, hts⟩ (cM_belongs l D cI cZ q eu17) (cwV 2 hts gX9_statusIn_X9_belongs rfl rfl rfl (by decide +kernel) ⟨Nat.le_of_ble_eq_true rfl, Nat.le_of_ble_eq_true rfl⟩) hK hI rfl hl.1 rfl (Nat.le_of_ble_eq_true rfl) dX9_statusIn_3 ⟨Nat.le_refl _, Nat.le_refl _⟩ (fun H locs hI => ?_)
  refine lv_if_eq (tgt := 28) hx hb dX9_statusIn_6 (by decide) (fun c19 => ?_) (fun c19 => ?_)
  · replace h := mpos c19 h
    refine lv_aload_n hx hb dX9_statusIn_28 rfl (lv_at hl 0 rfl) ?_
    refine lv_iload_n hx hb dX9_statusIn_29 rfl (lv_at hl 1 rfl) ?_
    refine lv_iload_n hx hb dX9_statusIn_30 rfl (lv_at hl 2 rfl) ?_
    obtain ⟨r21, u20, eu20, h⟩ := mb2_spec h
    refine mg_callV (As := [.int x1, .int x2]) (rest := []) ⟨hx, hb, hml, hown, hts⟩ (cM_isFree l D cI cZ q eu20) (cwV 2 hts gX9_statusIn_X9_isFree rfl rfl rfl (by decide +kernel) ⟨Nat.le_of_ble_eq_true rfl, Nat.le_of_ble_eq_true rfl⟩) hK hI rfl hl.1 rfl (Nat.le_of_ble_eq_true rfl) dX9_statusIn_31 ⟨Nat.le_refl _, Nat.le_refl _⟩ (fun H locs hI => ?_)
    refine lv_istore_n (lv' := [(3, .int r21), (0, .ref (q 0)), (1, .int x1), (2, .int x2)]) hx hb dX9_statusIn_34 rfl hl (by decide) rfl (fun ls hl => ?_)
    refine lv_iload_n hx hb dX9_statusIn_35 rfl (lv_at hl 0 rfl) ?_
    refine lv_if_ne (tgt := 63) hx hb dX9_statusIn_36 (by decide) (fun c22 => ?_) (fun c22 => ?_)
    · replace h := mneg c22 h
      exact w_M_statusIn_63 C h hI (lv_sub hl [1, 2, 3, 0] rfl)
    · replace h := mpos c22 h
      refine lv_aload_n hx hb dX9_statusIn_39 rfl (lv_at hl 1 rfl) ?_
      refine mg_get hx hb hts iM_statusIn hown hK hI 20 (by decide) (hts (.fieldLink RX9 60 "PassageCourtModel" "cameBy" "[I") (by decide +kernel)) rfl dX9_statusIn_40 ?_
      refine lv_iload_n hx hb dX9_statusIn_43 rfl (lv_at hl 2 rfl) ?_
      obtain ⟨r23, er23, h⟩ := mbind h
      refine mg_ald hx hb hK hI 20 rfl (by decide) er23 dX9_statusIn_44 ?_
      refine lv_iconst (v := -1) hx hb dX9_statusIn_45 (by decide) ?_
      refine lv_icmp_eq (tgt := 67) hx hb dX9_statusIn_46 (by decide) (fun c24 => ?_) (fun c24 => ?_)
      · replace h := mpos c24 h
        exact w_M_statusIn_67 C h hI (lv_sub hl [1, 2, 3, 0] rfl)
      · replace h := mneg c24 h
        refine lv_aload_n hx hb dX9_statusIn_49 rfl (lv_at hl 1 rfl) ?_
        refine lv_aload_n hx hb dX9_statusIn_50 rfl (lv_at hl 1 rfl) ?_
        refine mg_get hx hb hts iM_statusIn hown hK hI 20 (by decide) (hts (.fieldLink RX9 60 "PassageCourtModel" "cameBy" "[I") (by decide +kernel)) rfl dX9_statusIn_51 ?_
        refine lv_iload_n hx hb dX9_statusIn_54 rfl (lv_at hl 2 rfl) ?_
        obtain ⟨r25, er25, h⟩ := mbind h
        refine mg_ald hx hb hK hI 20 rfl (by decide) er25 dX9_statusIn_55 ?_
        refine lv_iload_n hx hb dX9_statusIn_56 rfl (lv_at hl 3 rfl) ?_
        obtain ⟨r27, u26, eu26, h⟩ := mb2_spec h
        refine mg_callV (As := [.int r25, .int x2]) (rest := []) ⟨hx, hb, hml, hown, hts⟩ (cM_isGood l D cI cZ q eu26) (cwV 2 hts gX9_statusIn_X9_isGood rfl rfl rfl (by decide +kernel) ⟨Nat.le_of_ble_eq_true rfl, Nat.le_of_ble_eq_true rfl⟩) hK hI rfl hl.1 rfl (Nat.le_of_ble_eq_true rfl) dX9_statusIn_57 ⟨Nat.le_refl _, Nat.le_refl _⟩ (fun H locs hI => ?_)
        refine lv_if_eq (tgt := 67) hx hb dX9_statusIn_60 (by decide) (fun c28 => ?_) (fun c28 => ?_)
        · replace h := mpos c28 h
          exact w_M_statusIn_67 C h hI (lv_sub hl [1, 2, 3, 0] rfl)
        · replace h := mneg c28 h
          exact w_M_statusIn_63 C h hI (lv_sub hl [1, 2, 3, 0] rfl)
  · replace h := mneg c19 h
    refine lv_aload_n hx hb dX9_statusIn_9 rfl (lv_at hl 0 rfl) ?_
    refine mg_get hx hb hts iM_statusIn hown hK hI 15 (by decide) (hts (.fieldLink RX9 45 "PassageCourtModel" "nations" "[I") (by decide +kernel)) rfl dX9_statusIn_10 ?_
    refine lv_iload_n hx hb dX9_statusIn_13 rfl (lv_at hl 1 rfl) ?_
    obtain ⟨r29, er29, h⟩ := mbind h
    refine mg_ald hx hb hK hI 15 rfl (by decide) er29 dX9_statusIn_14 ?_
    refine lv_iload_n hx hb dX9_statusIn_15 rfl (lv_at hl 2 rfl) ?_
    obtain ⟨r31, u30, eu30, h⟩ := mb2_spec h
    refine mg_callS (As := [.int r29, .int x2]) (rest := []) ⟨hx, hb, hml, hown, hts⟩ (cM_has l D cI cZ q eu30) (va_cwS 2 hts gX9_statusIn_X9_has rfl rfl rfl (by decide +kernel) ⟨Nat.le_of_ble_eq_true rfl, Nat.le_of_ble_eq_true rfl⟩) hK hI rfl hl.1 rfl (Nat.le_of_ble_eq_true rfl) dX9_statusIn_16 ⟨Nat.le_refl _, Nat.le_refl _⟩ (fun H locs hI => ?_)
    refine lv_if_eq (tgt := 26) hx hb dX9_statusIn_19 (by decide) (fun c32 => ?_) (fun c32 => ?_)
    · replace h := mpos c32 h
      refine lv_iconst (v := 2) hx hb dX9_statusIn_26 (by decide) ?_
      exact w_M_statusIn_27 C h hI (lv_sub hl [0] rfl)
    · replace h := mneg c32 h
      refine lv_iconst (v := 1) hx hb dX9_statusIn_22 (by decide) ?_
      refine lv_goto (tgt := 27) hx hb dX9_statusIn_23 (by decide) ?_
      exact w_M_statusIn_27 C h hI (lv_sub hl [0] rfl)
set_option maxRecDepth 20000 in
theorem cM_statusIn (l : Launch) (D : va_G) (cI cZ : ClassId) (q : Nat → Nat) {u uz : MS} {rz : Int32} {x1 x2 : Int32} (h : fM_statusIn u x1 x2 = some (rz, uz)) : Met l yX9_statusIn wsX9_statusIn (mR 3 72) (va_Pc [.ref (q 0), .int x1, .int x2] (mPre D cI cZ q u)) (mQ D cI cZ q rz uz) 0 0 (mF q) := by
  refine Met.ofW (cc := cX9_statusIn) (maxL := 5) (ret := (some .int)) (by decide) rfl ?_
  intro p e s m args below meth c s₁ B hml hv
  obtain ⟨rfl, hw, hK⟩ := hv
  have C : mC p s m _ meth c cX9_statusIn (some .int) wsX9_statusIn 5 D cI cZ := ⟨B.exec, B.bytes, B.returns, atoms_spec (ws := wsX9_statusIn) B.pre, findClass_of_methodNamed B.named, B.notSynchronized, hml, hK⟩
  have hl := lv_entry ([.ref (q 0), .int x1, .int x2]) (n := 5) (Nat.le_of_ble_eq_true rfl)
  rw [lg_entry_eq]
  generalize (lg_sl ([.ref (q 0), .int x1, .int x2]) ++ List.replicate (5 - (lg_sl ([.ref (q 0), .int x1, .int x2])).length) Slot.unset).toArray = ls at hl ⊢
  have hl : lv_has ls 5 [(0, .ref (q 0)), (1, .int x1), (2, .int x2)] := hl
  exact w_M_statusIn_0 C h ⟨hw, va_S.rf⟩ hl
theorem iM_look : ∀ w ∈ wsX90, w ∈ wsX9_look := by decide +kernel
def fM_look (u : MS) (x1 : Int32) : Option (Int32 × MS) :=
  (mld u 18 x1).bind fun r1 =>
  mb2 (fM_statusIn u x1 r1) fun r3 u2 =>
  (mld u2 18 x1).bind fun r4 =>
  (mst u2 22 ((3601 * x1) + (u2 1 0)) ((10 * r4) + r3)).bind fun u5 =>
  some (r3, u5)
set_option maxRecDepth 20000 in
theorem w_M_look_0 (C : mC p s m args meth c cX9_look (some .int) wsX9_look 3 D cI cZ) {uz : MS} {rz : Int32} {u : MS} {x1 : Int32} (h : fM_look u x1 = some (rz, uz)) {H : Heap} {locs : List Loc} {ls : Array Slot} (hI : mI D cI cZ q u s H locs) (hl : lv_has ls 3 [(0, .ref (q 0)), (1, .int x1)]) : W p l e (mR 4 96) s m args below meth c H locs 0 0 (MQ below (mQ D cI cZ q rz uz) args s 0 0 (mF q)) (F0 m 0 ls []) := by
  obtain ⟨hx, hb, hr, hts, hown, hlocks, hml, hK⟩ := id C
  unfold fM_look at h
  refine lv_aload_n hx hb dX9_look_0 rfl (lv_at hl 0 rfl) ?_
  refine lv_iload_n hx hb dX9_look_1 rfl (lv_at hl 1 rfl) ?_
  refine lv_aload_n hx hb dX9_look_2 rfl (lv_at hl 0 rfl) ?_
  refine mg_get hx hb hts iM_look hown hK hI 18 (by decide) (hts (.fieldLink RX9 54 "PassageCourtModel" "where" "[I") (by decide +kernel)) rfl dX9_look_3 ?_
  refine lv_iload_n hx hb dX9_look_6 rfl (lv_at hl 1 rfl) ?_
  obtain ⟨r1, er1, h⟩ := mbind h
  refine mg_ald hx hb hK hI 18 rfl (by decide) er1 dX9_look_7 ?_
  obtain ⟨r3, u2, eu2, h⟩ := mb2_spec h
  refine mg_callV (As := [.int x1, .int r1]) (rest := []) ⟨hx, hb, hml, hown, hts⟩ (cM_statusIn l D cI cZ q eu2) (cwV 2 hts gX9_look_X9_statusIn rfl rfl rfl (by decide +kernel) ⟨Nat.le_of_ble_eq_true rfl, Nat.le_of_ble_eq_true rfl⟩) hK hI rfl hl.1 rfl (Nat.le_of_ble_eq_true rfl) dX9_look_8 ⟨Nat.le_refl _, Nat.le_refl _⟩ (fun H locs hI => ?_)
  refine lv_istore_n (lv' := [(2, .int r3), (0, .ref (q 0)), (1, .int x1)]) hx hb dX9_look_11 rfl hl (by decide) rfl (fun ls hl => ?_)
  refine lv_aload_n hx hb dX9_look_12 rfl (lv_at hl 1 rfl) ?_
  refine mg_get hx hb hts iM_look hown hK hI 22 (by decide) (hts (.fieldLink RX9 67 "PassageCourtModel" "was" "[I") (by decide +kernel)) rfl dX9_look_13 ?_
  refine lv_sipush (v := 3601) hx hb dX9_look_16 (by decide) ?_
  refine lv_iload_n hx hb dX9_look_19 rfl (lv_at hl 2 rfl) ?_
  refine lv_imul hx hb dX9_look_20 ?_
  refine lv_aload_n hx hb dX9_look_21 rfl (lv_at hl 1 rfl) ?_
  refine mg_get hx hb hts iM_look hown hK hI 1 (by decide) (hts (.fieldLink RX9 153 "PassageCourtModel" "today" "I") (by decide +kernel)) rfl dX9_look_22 ?_
  refine lv_iadd hx hb dX9_look_25 ?_
  refine lv_bipush (v := 10) hx hb dX9_look_26 (by decide) ?_
  refine lv_aload_n hx hb dX9_look_28 rfl (lv_at hl 1 rfl) ?_
  refine mg_get hx hb hts iM_look hown hK hI 18 (by decide) (hts (.fieldLink RX9 54 "PassageCourtModel" "where" "[I") (by decide +kernel)) rfl dX9_look_29 ?_
  refine lv_iload_n hx hb dX9_look_32 rfl (lv_at hl 2 rfl) ?_
  obtain ⟨r4, er4, h⟩ := mbind h
  refine mg_ald hx hb hK hI 18 rfl (by decide) er4 dX9_look_33 ?_
  refine lv_imul hx hb dX9_look_34 ?_
  refine lv_iload_n hx hb dX9_look_35 rfl (lv_at hl 0 rfl) ?_
  refine lv_iadd hx hb dX9_look_36 ?_
  obtain ⟨u5, eu5, h⟩ := mbind h
  refine mg_ast hx hb hK hI 22 rfl (by decide) eu5 dX9_look_37 (fun H locs hI => ?_)
  refine lv_iload_n hx hb dX9_look_38 rfl (lv_at hl 0 rfl) ?_
  cases h
  exact mg_reti hx hb hr hlocks hK hI dX9_look_39
set_option maxRecDepth 20000 in
theorem cM_look (l : Launch) (D : va_G) (cI cZ : ClassId) (q : Nat → Nat) {u uz : MS} {rz : Int32} {x1 : Int32} (h : fM_look u x1 = some (rz, uz)) : Met l yX9_look wsX9_look (mR 4 96) (va_Pc [.ref (q 0), .int x1] (mPre D cI cZ q u)) (mQ D cI cZ q rz uz) 0 0 (mF q) := by
  refine Met.ofW (cc := cX9_look) (maxL := 3) (ret := (some .int)) (by decide) rfl ?_
  intro p e s m args below meth c s₁ B hml hv
  obtain ⟨rfl, hw, hK⟩ := hv
  have C : mC p s m _ meth c cX9_look (some .int) wsX9_look 3 D cI cZ := ⟨B.exec, B.bytes, B.returns, atoms_spec (ws := wsX9_look) B.pre, findClass_of_methodNamed B.named, B.notSynchronized, hml, hK⟩
  have hl := lv_entry ([.ref (q 0), .int x1]) (n := 3) (Nat.le_of_ble_eq_true rfl)
  rw [lg_entry_eq]
  generalize (lg_sl ([.ref (q 0), .int x1]) ++ List.replicate (3 - (lg_sl ([.ref (q 0), .int x1])).length) Slot.unset).toArray = ls at hl ⊢
  have hl : lv_has ls 3 [(0, .ref (q 0)), (1, .int x1)] := hl
  exact w_M_look_0 C h ⟨hw, va_S.rf⟩ hl
theorem iM_come : ∀ w ∈ wsX90, w ∈ wsX9_come := by decide +kernel
def fM_come (u : MS) (x1 x2 x3 x4 : Int32) : Option (Int32 × MS) :=
  (mst u 18 x1 x2).bind fun u1 =>
  (mst u1 21 x1 (u1 1 0)).bind fun u2 =>
  (mst u2 20 x1 x3).bind fun u3 =>
  (mbo x4).bind fun b4 =>
  (mst u3 19 x1 b4).bind fun u5 =>
  mb2 (fM_look u5 x1) fun r7 u6 =>
  some (r7, u6)
set_option maxRecDepth 20000 in
theorem w_M_come_0 (C : mC p s m args meth c cX9_come (some .int) wsX9_come 5 D cI cZ) {uz : MS} {rz : Int32} {u : MS} {x1 x2 x3 x4 : Int32} (h : fM_come u x1 x2 x3 x4 = some (rz, uz)) {H : Heap} {locs : List Loc} {ls : Array Slot} (hI : mI D cI cZ q u s H locs) (hl : lv_has ls 5 [(0, .ref (q 0)), (1, .int x1), (2, .int x2), (3, .int x3), (4, .int x4)]) : W p l e (mR 5 118) s m args below meth c H locs 0 0 (MQ below (mQ D cI cZ q rz uz) args s 0 0 (mF q)) (F0 m 0 ls []) := by
  obtain ⟨hx, hb, hr, hts, hown, hlocks, hml, hK⟩ := id C
  unfold fM_come at h
  refine lv_aload_n hx hb dX9_come_0 rfl (lv_at hl 0 rfl) ?_
  refine mg_get hx hb hts iM_come hown hK hI 18 (by decide) (hts (.fieldLink RX9 54 "PassageCourtModel" "where" "[I") (by decide +kernel)) rfl dX9_come_1 ?_
  refine lv_iload_n hx hb dX9_come_4 rfl (lv_at hl 1 rfl) ?_
  refine lv_iload_n hx hb dX9_come_5 rfl (lv_at hl 2 rfl) ?_
  obtain ⟨u1, eu1, h⟩ := mbind h
  refine mg_ast hx hb hK hI 18 rfl (by decide) eu1 dX9_come_6 (fun H locs hI => ?_)
  refine lv_aload_n hx hb dX9_come_7 rfl (lv_at hl 0 rfl) ?_
  refine mg_get hx hb hts iM_come hown hK hI 21 (by decide) (hts (.fieldLink RX9 63 "PassageCourtModel" "entered" "[I") (by decide +kernel)) rfl dX9_come_8 ?_
  refine lv_iload_n hx hb dX9_come_11 rfl (lv_at hl 1 rfl) ?_
  refine lv_aload_n hx hb dX9_come_12 rfl (lv_at hl 0 rfl) ?_
  refine mg_get hx hb hts iM_come hown hK hI 1 (by decide) (hts (.fieldLink RX9 153 "PassageCourtModel" "today" "I") (by decide +kernel)) rfl dX9_come_13 ?_
  obtain ⟨u2, eu2, h⟩ := mbind h
  refine mg_ast hx hb hK hI 21 rfl (by decide) eu2 dX9_come_16 (fun H locs hI => ?_)
  refine lv_aload_n hx hb dX9_come_17 rfl (lv_at hl 0 rfl) ?_
  refine mg_get hx hb hts iM_come hown hK hI 20 (by decide) (hts (.fieldLink RX9 60 "PassageCourtModel" "cameBy" "[I") (by decide +kernel)) rfl dX9_come_18 ?_
  refine lv_iload_n hx hb dX9_come_21 rfl (lv_at hl 1 rfl) ?_
  refine lv_iload_n hx hb dX9_come_22 rfl (lv_at hl 3 rfl) ?_
  obtain ⟨u3, eu3, h⟩ := mbind h
  refine mg_ast hx hb hK hI 20 rfl (by decide) eu3 dX9_come_23 (fun H locs hI => ?_)
  refine lv_aload_n hx hb dX9_come_24 rfl (lv_at hl 0 rfl) ?_
  refine mg_get hx hb hts iM_come hown hK hI 19 (by decide) (hts (.fieldLink RX9 57 "PassageCourtModel" "hasSlipped" "[Z") (by decide +kernel)) rfl dX9_come_25 ?_
  refine lv_iload_n hx hb dX9_come_28 rfl (lv_at hl 1 rfl) ?_
  refine lv_iload hx hb dX9_come_29 (lv_at hl 4 rfl) ?_
  obtain ⟨b4, eb4, h⟩ := mbind h
  obtain ⟨u5, eu5, h⟩ := mbind h
  refine mg_zst hx hb hK hI 19 rfl (by decide) eb4 eu5 dX9_come_31 (fun H locs hI => ?_)
  refine lv_aload_n hx hb dX9_come_32 rfl (lv_at hl 0 rfl) ?_
  refine lv_iload_n hx hb dX9_come_33 rfl (lv_at hl 1 rfl) ?_
  obtain ⟨r7, u6, eu6, h⟩ := mb2_spec h
  refine mg_callV (As := [.int x1]) (rest := []) ⟨hx, hb, hml, hown, hts⟩ (cM_look l D cI cZ q eu6) (cwV 1 hts gX9_come_X9_look rfl rfl rfl (by decide +kernel) ⟨Nat.le_of_ble_eq_true rfl, Nat.le_of_ble_eq_true rfl⟩) hK hI rfl hl.1 rfl (Nat.le_of_ble_eq_true rfl) dX9_come_34 ⟨Nat.le_refl _, Nat.le_refl _⟩ (fun H locs hI => ?_)
  cases h
  exact mg_reti hx hb hr hlocks hK hI dX9_come_37
set_option maxRecDepth 20000 in
theorem cM_come (l : Launch) (D : va_G) (cI cZ : ClassId) (q : Nat → Nat) {u uz : MS} {rz : Int32} {x1 x2 x3 x4 : Int32} (h : fM_come u x1 x2 x3 x4 = some (rz, uz)) : Met l yX9_come wsX9_come (mR 5 118) (va_Pc [.ref (q 0), .int x1, .int x2, .int x3, .int x4] (mPre D cI cZ q u)) (mQ D cI cZ q rz uz) 0 0 (mF q) := by
  refine Met.ofW (cc := cX9_come) (maxL := 5) (ret := (some .int)) (by decide) rfl ?_
  intro p e s m args below meth c s₁ B hml hv
  obtain ⟨rfl, hw, hK⟩ := hv
  have C : mC p s m _ meth c cX9_come (some .int) wsX9_come 5 D cI cZ := ⟨B.exec, B.bytes, B.returns, atoms_spec (ws := wsX9_come) B.pre, findClass_of_methodNamed B.named, B.notSynchronized, hml, hK⟩
  have hl := lv_entry ([.ref (q 0), .int x1, .int x2, .int x3, .int x4]) (n := 5) (Nat.le_of_ble_eq_true rfl)
  rw [lg_entry_eq]
  generalize (lg_sl ([.ref (q 0), .int x1, .int x2, .int x3, .int x4]) ++ List.replicate (5 - (lg_sl ([.ref (q 0), .int x1, .int x2, .int x3, .int x4])).length) Slot.unset).toArray = ls at hl ⊢
  have hl : lv_has ls 5 [(0, .ref (q 0)), (1, .int x1), (2, .int x2), (3, .int x3), (4, .int x4)] := hl
  exact w_M_come_0 C h ⟨hw, va_S.rf⟩ hl
theorem iM_birth : ∀ w ∈ wsX90, w ∈ wsX9_birth := by decide +kernel
def fM_birth_219 (rec131 : MS → Int32 → Int32 → Int32 → Int32 → Int32 → Int32 → Option (Int32 × MS)) (u : MS) (x1 x2 x5 x7 x8 y0 y1 : Int32) : Option (Int32 × MS) :=
  rec131 u x1 x2 x5 (y1 ||| y0) x7 (x8 + 1)
set_option maxRecDepth 20000 in
theorem w_M_birth_219 (C : mC p s m args meth c cX9_birth (some .int) wsX9_birth 10 D cI cZ) {uz : MS} {rz : Int32} {rec131 : MS → Int32 → Int32 → Int32 → Int32 → Int32 → Int32 → Option (Int32 × MS)} (hrec131 : ∀ {u : MS} {x1 x2 x5 x6 x7 x8 : Int32} (_ : rec131 u x1 x2 x5 x6 x7 x8 = some (rz, uz)) {H : Heap} {locs : List Loc} {ls : Array Slot} (_ : mI D cI cZ q u s H locs) (_ : lv_has ls 10 [(0, .ref (q 0)), (1, .int x1), (2, .int x2), (5, .int x5), (6, .int x6), (7, .int x7), (8, .int x8)]), W p l e (mR 6 142) s m args below meth c H locs 0 0 (MQ below (mQ D cI cZ q rz uz) args s 0 0 (mF q)) (F0 m 131 ls [])) {u : MS} {x1 x2 x5 x7 x8 y0 y1 : Int32} (h : fM_birth_219 rec131 u x1 x2 x5 x7 x8 y0 y1 = some (rz, uz)) {H : Heap} {locs : List Loc} {ls : Array Slot} (hI : mI D cI cZ q u s H locs) (hl : lv_has ls 10 [(0, .ref (q 0)), (1, .int x1), (2, .int x2), (5, .int x5), (7, .int x7), (8, .int x8)]) : W p l e (mR 6 142) s m args below meth c H locs 0 0 (MQ below (mQ D cI cZ q rz uz) args s 0 0 (mF q)) (F0 m 219 ls [.int y0, .int y1]) := by
  obtain ⟨hx, hb, hr, hts, hown, hlocks, hml, hK⟩ := id C
  unfold fM_birth_219 at h
  refine lv_ior hx hb dX9_birth_219 ?_
  refine lv_istore (lv' := [(6, .int (y1 ||| y0)), (0, .ref (q 0)), (1, .int x1), (2, .int x2), (5, .int x5), (7, .int x7), (8, .int x8)]) hx hb dX9_birth_220 hl (by decide) rfl (fun ls hl => ?_)
  refine lv_iinc (v := x8 + 1) (lv' := [(8, .int (x8 + 1)), (6, .int (y1 ||| y0)), (0, .ref (q 0)), (1, .int x1), (2, .int x2), (5, .int x5), (7, .int x7)]) hx hb dX9_birth_222 hl (k := 6) rfl rfl (by decide) rfl (fun ls hl => ?_)
  refine lv_goto (tgt := 131) hx hb dX9_birth_225 (by decide) ?_
  exact hrec131 h hI (lv_sub hl [2, 3, 4, 5, 1, 6, 0] rfl)
def fM_birth_211 (rec131 : MS → Int32 → Int32 → Int32 → Int32 → Int32 → Int32 → Option (Int32 × MS)) (u : MS) (x1 x2 x5 x7 x8 y0 : Int32) : Option (Int32 × MS) :=
  fM_birth_219 rec131 u x1 x2 x5 x7 x8 (1 <<< (x8 &&& 31)) y0
set_option maxRecDepth 20000 in
theorem w_M_birth_211 (C : mC p s m args meth c cX9_birth (some .int) wsX9_birth 10 D cI cZ) {uz : MS} {rz : Int32} {rec131 : MS → Int32 → Int32 → Int32 → Int32 → Int32 → Int32 → Option (Int32 × MS)} (hrec131 : ∀ {u : MS} {x1 x2 x5 x6 x7 x8 : Int32} (_ : rec131 u x1 x2 x5 x6 x7 x8 = some (rz, uz)) {H : Heap} {locs : List Loc} {ls : Array Slot} (_ : mI D cI cZ q u s H locs) (_ : lv_has ls 10 [(0, .ref (q 0)), (1, .int x1), (2, .int x2), (5, .int x5), (6, .int x6), (7, .int x7), (8, .int x8)]), W p l e (mR 6 142) s m args below meth c H locs 0 0 (MQ below (mQ D cI cZ q rz uz) args s 0 0 (mF q)) (F0 m 131 ls [])) {u : MS} {x1 x2 x5 x7 x8 y0 : Int32} (h : fM_birth_211 rec131 u x1 x2 x5 x7 x8 y0 = some (rz, uz)) {H : Heap} {locs : List Loc} {ls : Array Slot} (hI : mI D cI cZ q u s H locs) (hl : lv_has ls 10 [(0, .ref (q 0)), (1, .int x1), (2, .int x2), (5, .int x5), (7, .int x7), (8, .int x8)]) : W p l e (mR 6 142) s m args below meth c H locs 0 0 (MQ below (mQ D cI cZ q rz uz) args s 0 0 (mF q)) (F0 m 211 ls [.int y0]) := by
  obtain ⟨hx, hb, hr, hts, hown, hlocks, hml, hK⟩ := id C
  unfold fM_birth_211 at h
  refine lv_iconst (v := 1) hx hb dX9_birth_211 (by decide) ?_
  refine lv_iload hx hb dX9_birth_212 (lv_at hl 5 rfl) ?_
  refine lv_ishl hx hb dX9_birth_214 ?_
  refine lv_goto (tgt := 219) hx hb dX9_birth_215 (by decide) ?_
  exact w_M_birth_219 C hrec131 h hI (lv_sub hl [0, 1, 2, 3, 4, 5] rfl)
def fM_birth_206 (rec131 : MS → Int32 → Int32 → Int32 → Int32 → Int32 → Int32 → Option (Int32 × MS)) (u : MS) (x1 x2 x5 x7 x8 x9 y0 : Int32) : Option (Int32 × MS) :=
  if x9 = 0 then
    fM_birth_219 rec131 u x1 x2 x5 x7 x8 0 y0
  else
    fM_birth_211 rec131 u x1 x2 x5 x7 x8 y0
set_option maxRecDepth 20000 in
theorem w_M_birth_206 (C : mC p s m args meth c cX9_birth (some .int) wsX9_birth 10 D cI cZ) {uz : MS} {rz : Int32} {rec131 : MS → Int32 → Int32 → Int32 → Int32 → Int32 → Int32 → Option (Int32 × MS)} (hrec131 : ∀ {u : MS} {x1 x2 x5 x6 x7 x8 : Int32} (_ : rec131 u x1 x2 x5 x6 x7 x8 = some (rz, uz)) {H : Heap} {locs : List Loc} {ls : Array Slot} (_ : mI D cI cZ q u s H locs) (_ : lv_has ls 10 [(0, .ref (q 0)), (1, .int x1), (2, .int x2), (5, .int x5), (6, .int x6), (7, .int x7), (8, .int x8)]), W p l e (mR 6 142) s m args below meth c H locs 0 0 (MQ below (mQ D cI cZ q rz uz) args s 0 0 (mF q)) (F0 m 131 ls [])) {u : MS} {x1 x2 x5 x7 x8 x9 y0 : Int32} (h : fM_birth_206 rec131 u x1 x2 x5 x7 x8 x9 y0 = some (rz, uz)) {H : Heap} {locs : List Loc} {ls : Array Slot} (hI : mI D cI cZ q u s H locs) (hl : lv_has ls 10 [(0, .ref (q 0)), (1, .int x1), (2, .int x2), (5, .int x5), (7, .int x7), (8, .int x8), (9, .int x9)]) : W p l e (mR 6 142) s m args below meth c H locs 0 0 (MQ below (mQ D cI cZ q rz uz) args s 0 0 (mF q)) (F0 m 206 ls [.int y0]) := by
  obtain ⟨hx, hb, hr, hts, hown, hlocks, hml, hK⟩ := id C
  unfold fM_birth_206 at h
  refine lv_iload hx hb dX9_birth_206 (lv_at hl 6 rfl) ?_
  refine lv_if_eq (tgt := 218) hx hb dX9_birth_208 (by decide) (fun c1 => ?_) (fun c1 => ?_)
  · replace h := mpos c1 h
    refine lv_iconst (v := 0) hx hb dX9_birth_218 (by decide) ?_
    exact w_M_birth_219 C hrec131 h hI (lv_sub hl [0, 1, 2, 3, 4, 5] rfl)
  · replace h := mneg c1 h
    exact w_M_birth_211 C hrec131 h hI (lv_sub hl [0, 1, 2, 3, 4, 5] rfl)
def fM_birth_182 (rec131 : MS → Int32 → Int32 → Int32 → Int32 → Int32 → Int32 → Option (Int32 × MS)) (u : MS) (x1 x2 x5 x6 x7 x8 y0 : Int32) : Option (Int32 × MS) :=
  (mld u 5 x8).bind fun r2 =>
  if r2 = 0 then
    fM_birth_206 rec131 u x1 x2 x5 x7 x8 y0 x6
  else
    mb2 (fM_has u x7 x8) fun r5 u4 =>
    if r5 = 0 then
      fM_birth_206 rec131 u4 x1 x2 x5 x7 x8 y0 x6
    else
      fM_birth_211 rec131 u4 x1 x2 x5 x7 x8 x6
set_option maxRecDepth 20000 in
theorem w_M_birth_182 (C : mC p s m args meth c cX9_birth (some .int) wsX9_birth 10 D cI cZ) {uz : MS} {rz : Int32} {rec131 : MS → Int32 → Int32 → Int32 → Int32 → Int32 → Int32 → Option (Int32 × MS)} (hrec131 : ∀ {u : MS} {x1 x2 x5 x6 x7 x8 : Int32} (_ : rec131 u x1 x2 x5 x6 x7 x8 = some (rz, uz)) {H : Heap} {locs : List Loc} {ls : Array Slot} (_ : mI D cI cZ q u s H locs) (_ : lv_has ls 10 [(0, .ref (q 0)), (1, .int x1), (2, .int x2), (5, .int x5), (6, .int x6), (7, .int x7), (8, .int x8)]), W p l e (mR 6 142) s m args below meth c H locs 0 0 (MQ below (mQ D cI cZ q rz uz) args s 0 0 (mF q)) (F0 m 131 ls [])) {u : MS} {x1 x2 x5 x6 x7 x8 y0 : Int32} (h : fM_birth_182 rec131 u x1 x2 x5 x6 x7 x8 y0 = some (rz, uz)) {H : Heap} {locs : List Loc} {ls : Array Slot} (hI : mI D cI cZ q u s H locs) (hl : lv_has ls 10 [(0, .ref (q 0)), (1, .int x1), (2, .int x2), (5, .int x5), (6, .int x6), (7, .int x7), (8, .int x8)]) : W p l e (mR 6 142) s m args below meth c H locs 0 0 (MQ below (mQ D cI cZ q rz uz) args s 0 0 (mF q)) (F0 m 182 ls [.int y0]) := by
  obtain ⟨hx, hb, hr, hts, hown, hlocks, hml, hK⟩ := id C
  unfold fM_birth_182 at h
  refine lv_istore (lv' := [(9, .int y0), (0, .ref (q 0)), (1, .int x1), (2, .int x2), (5, .int x5), (6, .int x6), (7, .int x7), (8, .int x8)]) hx hb dX9_birth_182 hl (by decide) rfl (fun ls hl => ?_)
  refine lv_iload hx hb dX9_birth_184 (lv_at hl 5 rfl) ?_
  refine lv_aload_n hx hb dX9_birth_186 rfl (lv_at hl 1 rfl) ?_
  refine mg_get hx hb hts iM_birth hown hK hI 5 (by decide) (hts (.fieldLink RX9 16 "PassageCourtModel" "byDescent" "[Z") (by decide +kernel)) rfl dX9_birth_187 ?_
  refine lv_iload hx hb dX9_birth_190 (lv_at hl 7 rfl) ?_
  obtain ⟨r2, er2, h⟩ := mbind h
  refine mg_zld hx hb hK hI 5 rfl (by decide) er2 dX9_birth_192 ?_
  refine lv_if_eq (tgt := 206) hx hb dX9_birth_193 (by decide) (fun c3 => ?_) (fun c3 => ?_)
  · replace h := mpos c3 h
    exact w_M_birth_206 C hrec131 h hI (lv_sub hl [1, 2, 3, 4, 6, 7, 0] rfl)
  · replace h := mneg c3 h
    refine lv_iload hx hb dX9_birth_196 (lv_at hl 6 rfl) ?_
    refine lv_iload hx hb dX9_birth_198 (lv_at hl 7 rfl) ?_
    obtain ⟨r5, u4, eu4, h⟩ := mb2_spec h
    refine mg_callS (As := [.int x7, .int x8]) (rest := [.int x6]) ⟨hx, hb, hml, hown, hts⟩ (cM_has l D cI cZ q eu4) (va_cwS 2 hts gX9_birth_X9_has rfl rfl rfl (by decide +kernel) ⟨Nat.le_of_ble_eq_true rfl, Nat.le_of_ble_eq_true rfl⟩) hK hI rfl hl.1 rfl (Nat.le_of_ble_eq_true rfl) dX9_birth_200 ⟨Nat.le_refl _, Nat.le_refl _⟩ (fun H locs hI => ?_)
    refine lv_if_ne (tgt := 211) hx hb dX9_birth_203 (by decide) (fun c6 => ?_) (fun c6 => ?_)
    · replace h := mneg c6 h
      exact w_M_birth_211 C hrec131 h hI (lv_sub hl [1, 2, 3, 4, 6, 7] rfl)
    · replace h := mpos c6 h
      exact w_M_birth_206 C hrec131 h hI (lv_sub hl [1, 2, 3, 4, 6, 7, 0] rfl)
def fM_birth_181 (rec131 : MS → Int32 → Int32 → Int32 → Int32 → Int32 → Int32 → Option (Int32 × MS)) (u : MS) (x1 x2 x5 x6 x7 x8 : Int32) : Option (Int32 × MS) :=
  fM_birth_182 rec131 u x1 x2 x5 x6 x7 x8 0
set_option maxRecDepth 20000 in
theorem w_M_birth_181 (C : mC p s m args meth c cX9_birth (some .int) wsX9_birth 10 D cI cZ) {uz : MS} {rz : Int32} {rec131 : MS → Int32 → Int32 → Int32 → Int32 → Int32 → Int32 → Option (Int32 × MS)} (hrec131 : ∀ {u : MS} {x1 x2 x5 x6 x7 x8 : Int32} (_ : rec131 u x1 x2 x5 x6 x7 x8 = some (rz, uz)) {H : Heap} {locs : List Loc} {ls : Array Slot} (_ : mI D cI cZ q u s H locs) (_ : lv_has ls 10 [(0, .ref (q 0)), (1, .int x1), (2, .int x2), (5, .int x5), (6, .int x6), (7, .int x7), (8, .int x8)]), W p l e (mR 6 142) s m args below meth c H locs 0 0 (MQ below (mQ D cI cZ q rz uz) args s 0 0 (mF q)) (F0 m 131 ls [])) {u : MS} {x1 x2 x5 x6 x7 x8 : Int32} (h : fM_birth_181 rec131 u x1 x2 x5 x6 x7 x8 = some (rz, uz)) {H : Heap} {locs : List Loc} {ls : Array Slot} (hI : mI D cI cZ q u s H locs) (hl : lv_has ls 10 [(0, .ref (q 0)), (1, .int x1), (2, .int x2), (5, .int x5), (6, .int x6), (7, .int x7), (8, .int x8)]) : W p l e (mR 6 142) s m args below meth c H locs 0 0 (MQ below (mQ D cI cZ q rz uz) args s 0 0 (mF q)) (F0 m 181 ls []) := by
  obtain ⟨hx, hb, hr, hts, hown, hlocks, hml, hK⟩ := id C
  unfold fM_birth_181 at h
  refine lv_iconst (v := 0) hx hb dX9_birth_181 (by decide) ?_
  exact w_M_birth_182 C hrec131 h hI (lv_sub hl [0, 1, 2, 3, 4, 5, 6] rfl)
def fM_birth_177 (rec131 : MS → Int32 → Int32 → Int32 → Int32 → Int32 → Int32 → Option (Int32 × MS)) (u : MS) (x1 x2 x5 x6 x7 x8 : Int32) : Option (Int32 × MS) :=
  fM_birth_182 rec131 u x1 x2 x5 x6 x7 x8 1
set_option maxRecDepth 20000 in
theorem w_M_birth_177 (C : mC p s m args meth c cX9_birth (some .int) wsX9_birth 10 D cI cZ) {uz : MS} {rz : Int32} {rec131 : MS → Int32 → Int32 → Int32 → Int32 → Int32 → Int32 → Option (Int32 × MS)} (hrec131 : ∀ {u : MS} {x1 x2 x5 x6 x7 x8 : Int32} (_ : rec131 u x1 x2 x5 x6 x7 x8 = some (rz, uz)) {H : Heap} {locs : List Loc} {ls : Array Slot} (_ : mI D cI cZ q u s H locs) (_ : lv_has ls 10 [(0, .ref (q 0)), (1, .int x1), (2, .int x2), (5, .int x5), (6, .int x6), (7, .int x7), (8, .int x8)]), W p l e (mR 6 142) s m args below meth c H locs 0 0 (MQ below (mQ D cI cZ q rz uz) args s 0 0 (mF q)) (F0 m 131 ls [])) {u : MS} {x1 x2 x5 x6 x7 x8 : Int32} (h : fM_birth_177 rec131 u x1 x2 x5 x6 x7 x8 = some (rz, uz)) {H : Heap} {locs : List Loc} {ls : Array Slot} (hI : mI D cI cZ q u s H locs) (hl : lv_has ls 10 [(0, .ref (q 0)), (1, .int x1), (2, .int x2), (5, .int x5), (6, .int x6), (7, .int x7), (8, .int x8)]) : W p l e (mR 6 142) s m args below meth c H locs 0 0 (MQ below (mQ D cI cZ q rz uz) args s 0 0 (mF q)) (F0 m 177 ls []) := by
  obtain ⟨hx, hb, hr, hts, hown, hlocks, hml, hK⟩ := id C
  unfold fM_birth_177 at h
  refine lv_iconst (v := 1) hx hb dX9_birth_177 (by decide) ?_
  refine lv_goto (tgt := 182) hx hb dX9_birth_178 (by decide) ?_
  exact w_M_birth_182 C hrec131 h hI (lv_sub hl [0, 1, 2, 3, 4, 5, 6] rfl)
def fM_birth_131 : Nat → MS → Int32 → Int32 → Int32 → Int32 → Int32 → Int32 → Option (Int32 × MS)
  | 0, _, _, _, _, _, _, _ => none
  | n + 1, u, x1, x2, x5, x6, x7, x8 =>
    if (u 2 0) ≤ x8 then
      mb2 (fM_make u x6 (u 1 0)) fun r9 u8 =>
      (mst u8 16 r9 x1).bind fun u10 =>
      (mst u10 17 r9 x2).bind fun u11 =>
      mb2 (fM_come u11 r9 x5 ((-1)) 0) fun r13 u12 =>
      some (r9, u12)
    else
      if x8 = x5 then
        (mld u 4 x8).bind fun r15 =>
        if r15 = 0 then
          fM_birth_181 (fM_birth_131 n) u x1 x2 x5 x6 x7 x8
        else
          mb2 (fM_belongs u x1 x8) fun r18 u17 =>
          if r18 = 0 then
            mb2 (fM_belongs u17 x2 x8) fun r21 u20 =>
            if r21 = 0 then
              fM_birth_181 (fM_birth_131 n) u20 x1 x2 x5 x6 x7 x8
            else
              fM_birth_177 (fM_birth_131 n) u20 x1 x2 x5 x6 x7 x8
          else
            fM_birth_177 (fM_birth_131 n) u17 x1 x2 x5 x6 x7 x8
      else
        fM_birth_181 (fM_birth_131 n) u x1 x2 x5 x6 x7 x8
set_option maxRecDepth 20000 in
theorem w_M_birth_131 (C : mC p s m args meth c cX9_birth (some .int) wsX9_birth 10 D cI cZ) {uz : MS} {rz : Int32} : ∀ (n : Nat) {u : MS} {x1 x2 x5 x6 x7 x8 : Int32} (h : fM_birth_131 n u x1 x2 x5 x6 x7 x8 = some (rz, uz)) {H : Heap} {locs : List Loc} {ls : Array Slot} (hI : mI D cI cZ q u s H locs) (hl : lv_has ls 10 [(0, .ref (q 0)), (1, .int x1), (2, .int x2), (5, .int x5), (6, .int x6), (7, .int x7), (8, .int x8)]), W p l e (mR 6 142) s m args below meth c H locs 0 0 (MQ below (mQ D cI cZ q rz uz) args s 0 0 (mF q)) (F0 m 131 ls []) := by
  obtain ⟨hx, hb, hr, hts, hown, hlocks, hml, hK⟩ := id C
  intro n
  induction n with
  | zero =>
    intro u x1 x2 x5 x6 x7 x8 h
    cases (show (none : Option _) = _ from h)
  | succ n ih =>
    intro u x1 x2 x5 x6 x7 x8 h H locs ls hI hl
    rw [fM_birth_131] at h
    refine lv_iload hx hb dX9_birth_131 (lv_at hl 6 rfl) ?_
    refine lv_aload_n hx hb dX9_birth_133 rfl (lv_at hl 0 rfl) ?_
    refine mg_get hx hb hts iM_birth hown hK hI 2 (by decide) (hts (.fieldLink RX9 133 "PassageCourtModel" "lands" "I") (by decide +kernel)) rfl dX9_birth_134 ?_
    refine lv_icmp_ge (tgt := 228) hx hb dX9_birth_137 (by decide) (fun c7 => ?_) (fun c7 => ?_)
    · replace h := mpos c7 h
      refine lv_aload_n hx hb dX9_birth_228 rfl (lv_at hl 0 rfl) ?_
      refine lv_iload hx hb dX9_birth_229 (lv_at hl 4 rfl) ?_
      refine lv_aload_n hx hb dX9_birth_231 rfl (lv_at hl 0 rfl) ?_
      refine mg_get hx hb hts iM_birth hown hK hI 1 (by decide) (hts (.fieldLink RX9 153 "PassageCourtModel" "today" "I") (by decide +kernel)) rfl dX9_birth_232 ?_
      obtain ⟨r9, u8, eu8, h⟩ := mb2_spec h
      refine mg_callV (As := [.int x6, .int (u 1 0)]) (rest := []) ⟨hx, hb, hml, hown, hts⟩ (cM_make l D cI cZ q eu8) (cwV 2 hts gX9_birth_X9_make rfl rfl rfl (by decide +kernel) ⟨Nat.le_of_ble_eq_true rfl, Nat.le_of_ble_eq_true rfl⟩) hK hI rfl hl.1 rfl (Nat.le_of_ble_eq_true rfl) dX9_birth_235 ⟨Nat.le_refl _, Nat.le_refl _⟩ (fun H locs hI => ?_)
      refine lv_istore (lv' := [(8, .int r9), (0, .ref (q 0)), (1, .int x1), (2, .int x2), (5, .int x5), (6, .int x6), (7, .int x7)]) hx hb dX9_birth_238 hl (by decide) rfl (fun ls hl => ?_)
      refine lv_aload_n hx hb dX9_birth_240 rfl (lv_at hl 1 rfl) ?_
      refine mg_get hx hb hts iM_birth hown hK hI 16 (by decide) (hts (.fieldLink RX9 48 "PassageCourtModel" "mother" "[I") (by decide +kernel)) rfl dX9_birth_241 ?_
      refine lv_iload hx hb dX9_birth_244 (lv_at hl 0 rfl) ?_
      refine lv_iload_n hx hb dX9_birth_246 rfl (lv_at hl 2 rfl) ?_
      obtain ⟨u10, eu10, h⟩ := mbind h
      refine mg_ast hx hb hK hI 16 rfl (by decide) eu10 dX9_birth_247 (fun H locs hI => ?_)
      refine lv_aload_n hx hb dX9_birth_248 rfl (lv_at hl 1 rfl) ?_
      refine mg_get hx hb hts iM_birth hown hK hI 17 (by decide) (hts (.fieldLink RX9 51 "PassageCourtModel" "father" "[I") (by decide +kernel)) rfl dX9_birth_249 ?_
      refine lv_iload hx hb dX9_birth_252 (lv_at hl 0 rfl) ?_
      refine lv_iload_n hx hb dX9_birth_254 rfl (lv_at hl 3 rfl) ?_
      obtain ⟨u11, eu11, h⟩ := mbind h
      refine mg_ast hx hb hK hI 17 rfl (by decide) eu11 dX9_birth_255 (fun H locs hI => ?_)
      refine lv_aload_n hx hb dX9_birth_256 rfl (lv_at hl 1 rfl) ?_
      refine lv_iload hx hb dX9_birth_257 (lv_at hl 0 rfl) ?_
      refine lv_iload hx hb dX9_birth_259 (lv_at hl 4 rfl) ?_
      refine lv_iconst (v := -1) hx hb dX9_birth_261 (by decide) ?_
      refine lv_iconst (v := 0) hx hb dX9_birth_262 (by decide) ?_
      obtain ⟨r13, u12, eu12, h⟩ := mb2_spec h
      refine mg_callV (As := [.int r9, .int x5, .int ((-1)), .int 0]) (rest := []) ⟨hx, hb, hml, hown, hts⟩ (cM_come l D cI cZ q eu12) (cwV 4 hts gX9_birth_X9_come rfl rfl rfl (by decide +kernel) ⟨Nat.le_of_ble_eq_true rfl, Nat.le_of_ble_eq_true rfl⟩) hK hI rfl hl.1 rfl (Nat.le_of_ble_eq_true rfl) dX9_birth_263 ⟨Nat.le_refl _, Nat.le_refl _⟩ (fun H locs hI => ?_)
      refine lv_pop hx hb dX9_birth_266 rfl ?_
      refine lv_iload hx hb dX9_birth_267 (lv_at hl 0 rfl) ?_
      cases h
      exact mg_reti hx hb hr hlocks hK hI dX9_birth_269
    · replace h := mneg c7 h
      refine lv_iload hx hb dX9_birth_140 (lv_at hl 6 rfl) ?_
      refine lv_iload hx hb dX9_birth_142 (lv_at hl 3 rfl) ?_
      refine lv_icmp_ne (tgt := 181) hx hb dX9_birth_144 (by decide) (fun c14 => ?_) (fun c14 => ?_)
      · replace h := mneg c14 h
        exact w_M_birth_181 C ih h hI (lv_sub hl [0, 1, 2, 3, 4, 5, 6] rfl)
      · replace h := mpos c14 h
        refine lv_aload_n hx hb dX9_birth_147 rfl (lv_at hl 0 rfl) ?_
        refine mg_get hx hb hts iM_birth hown hK hI 4 (by decide) (hts (.fieldLink RX9 13 "PassageCourtModel" "bySoil" "[Z") (by decide +kernel)) rfl dX9_birth_148 ?_
        refine lv_iload hx hb dX9_birth_151 (lv_at hl 6 rfl) ?_
        obtain ⟨r15, er15, h⟩ := mbind h
        refine mg_zld hx hb hK hI 4 rfl (by decide) er15 dX9_birth_153 ?_
        refine lv_if_eq (tgt := 181) hx hb dX9_birth_154 (by decide) (fun c16 => ?_) (fun c16 => ?_)
        · replace h := mpos c16 h
          exact w_M_birth_181 C ih h hI (lv_sub hl [0, 1, 2, 3, 4, 5, 6] rfl)
        · replace h := mneg c16 h
          refine lv_aload_n hx hb dX9_birth_157 rfl (lv_at hl 0 rfl) ?_
          refine lv_iload_n hx hb dX9_birth_158 rfl (lv_at hl 1 rfl) ?_
          refine lv_iload hx hb dX9_birth_159 (lv_at hl 6 rfl) ?_
          obtain ⟨r18, u17, eu17, h⟩ := mb2_spec h
          refine mg_callV (As := [.int x1, .int x8]) (rest := []) ⟨hx, hb, hml, hown, hts⟩ (cM_belongs l D cI cZ q eu17) (cwV 2 hts gX9_birth_X9_belongs rfl rfl rfl (by decide +kernel) ⟨Nat.le_of_ble_eq_true rfl, Nat.le_of_ble_eq_true rfl⟩) hK hI rfl hl.1 rfl (Nat.le_of_ble_eq_true rfl) dX9_birth_161 ⟨Nat.le_refl _, Nat.le_refl _⟩ (fun H locs hI => ?_)
          refine lv_if_ne (tgt := 177) hx hb dX9_birth_164 (by decide) (fun c19 => ?_) (fun c19 => ?_)
          · replace h := mneg c19 h
            exact w_M_birth_177 C ih h hI (lv_sub hl [0, 1, 2, 3, 4, 5, 6] rfl)
          · replace h := mpos c19 h
            refine lv_aload_n hx hb dX9_birth_167 rfl (lv_at hl 0 rfl) ?_
            refine lv_iload_n hx hb dX9_birth_168 rfl (lv_at hl 2 rfl) ?_
            refine lv_iload hx hb dX9_birth_169 (lv_at hl 6 rfl) ?_
            obtain ⟨r21, u20, eu20, h⟩ := mb2_spec h
            refine mg_callV (As := [.int x2, .int x8]) (rest := []) ⟨hx, hb, hml, hown, hts⟩ (cM_belongs l D cI cZ q eu20) (cwV 2 hts gX9_birth_X9_belongs rfl rfl rfl (by decide +kernel) ⟨Nat.le_of_ble_eq_true rfl, Nat.le_of_ble_eq_true rfl⟩) hK hI rfl hl.1 rfl (Nat.le_of_ble_eq_true rfl) dX9_birth_171 ⟨Nat.le_refl _, Nat.le_refl _⟩ (fun H locs hI => ?_)
            refine lv_if_eq (tgt := 181) hx hb dX9_birth_174 (by decide) (fun c22 => ?_) (fun c22 => ?_)
            · replace h := mpos c22 h
              exact w_M_birth_181 C ih h hI (lv_sub hl [0, 1, 2, 3, 4, 5, 6] rfl)
            · replace h := mneg c22 h
              exact w_M_birth_177 C ih h hI (lv_sub hl [0, 1, 2, 3, 4, 5, 6] rfl)
def fM_birth_125 (u : MS) (x1 x2 x5 x6 y0 y1 : Int32) : Option (Int32 × MS) :=
  fM_birth_131 4096 u x1 x2 x5 x6 (y1 ||| y0) 0
set_option maxRecDepth 20000 in
theorem w_M_birth_125 (C : mC p s m args meth c cX9_birth (some .int) wsX9_birth 10 D cI cZ) {uz : MS} {rz : Int32} {u : MS} {x1 x2 x5 x6 y0 y1 : Int32} (h : fM_birth_125 u x1 x2 x5 x6 y0 y1 = some (rz, uz)) {H : Heap} {locs : List Loc} {ls : Array Slot} (hI : mI D cI cZ q u s H locs) (hl : lv_has ls 10 [(0, .ref (q 0)), (1, .int x1), (2, .int x2), (5, .int x5), (6, .int x6)]) : W p l e (mR 6 142) s m args below meth c H locs 0 0 (MQ below (mQ D cI cZ q rz uz) args s 0 0 (mF q)) (F0 m 125 ls [.int y0, .int y1]) := by
  obtain ⟨hx, hb, hr, hts, hown, hlocks, hml, hK⟩ := id C
  unfold fM_birth_125 at h
  refine lv_ior hx hb dX9_birth_125 ?_
  refine lv_istore (lv' := [(7, .int (y1 ||| y0)), (0, .ref (q 0)), (1, .int x1), (2, .int x2), (5, .int x5), (6, .int x6)]) hx hb dX9_birth_126 hl (by decide) rfl (fun ls hl => ?_)
  refine lv_iconst (v := 0) hx hb dX9_birth_128 (by decide) ?_
  refine lv_istore (lv' := [(8, .int 0), (7, .int (y1 ||| y0)), (0, .ref (q 0)), (1, .int x1), (2, .int x2), (5, .int x5), (6, .int x6)]) hx hb dX9_birth_129 hl (by decide) rfl (fun ls hl => ?_)
  exact w_M_birth_131 C 4096 h hI (lv_sub hl [2, 3, 4, 5, 6, 1, 0] rfl)
def fM_birth_85 (u : MS) (x1 x2 y0 : Int32) : Option (Int32 × MS) :=
  mb2 (fM_goesWell u y0) fun r24 u23 =>
  if r24 = 0 then
    some (0, u23)
  else
    (mld u23 18 x1).bind fun r26 =>
    (mld u23 15 x1).bind fun r27 =>
    if x2 = ((-1)) then
      fM_birth_125 u23 x1 x2 r26 0 0 r27
    else
      (mld u23 15 x2).bind fun r29 =>
      fM_birth_125 u23 x1 x2 r26 0 r29 r27
set_option maxRecDepth 20000 in
theorem w_M_birth_85 (C : mC p s m args meth c cX9_birth (some .int) wsX9_birth 10 D cI cZ) {uz : MS} {rz : Int32} {u : MS} {x1 x2 y0 : Int32} (h : fM_birth_85 u x1 x2 y0 = some (rz, uz)) {H : Heap} {locs : List Loc} {ls : Array Slot} (hI : mI D cI cZ q u s H locs) (hl : lv_has ls 10 [(0, .ref (q 0)), (1, .int x1), (2, .int x2)]) : W p l e (mR 6 142) s m args below meth c H locs 0 0 (MQ below (mQ D cI cZ q rz uz) args s 0 0 (mF q)) (F0 m 85 ls [.int y0, .ref (q 0)]) := by
  obtain ⟨hx, hb, hr, hts, hown, hlocks, hml, hK⟩ := id C
  unfold fM_birth_85 at h
  obtain ⟨r24, u23, eu23, h⟩ := mb2_spec h
  refine mg_callV (As := [.int y0]) (rest := []) ⟨hx, hb, hml, hown, hts⟩ (cM_goesWell l D cI cZ q eu23) (cwV 1 hts gX9_birth_X9_goesWell rfl rfl rfl (by decide +kernel) ⟨Nat.le_of_ble_eq_true rfl, Nat.le_of_ble_eq_true rfl⟩) hK hI rfl hl.1 rfl (Nat.le_of_ble_eq_true rfl) dX9_birth_85 ⟨Nat.le_refl _, Nat.le_refl _⟩ (fun H locs hI => ?_)
  refine lv_if_ne (tgt := 93) hx hb dX9_birth_88 (by decide) (fun c25 => ?_) (fun c25 => ?_)
  · replace h := mneg c25 h
    refine lv_aload_n hx hb dX9_birth_93 rfl (lv_at hl 0 rfl) ?_
    refine mg_get hx hb hts iM_birth hown hK hI 18 (by decide) (hts (.fieldLink RX9 54 "PassageCourtModel" "where" "[I") (by decide +kernel)) rfl dX9_birth_94 ?_
    refine lv_iload_n hx hb dX9_birth_97 rfl (lv_at hl 1 rfl) ?_
    obtain ⟨r26, er26, h⟩ := mbind h
    refine mg_ald hx hb hK hI 18 rfl (by decide) er26 dX9_birth_98 ?_
    refine lv_istore (lv' := [(5, .int r26), (0, .ref (q 0)), (1, .int x1), (2, .int x2)]) hx hb dX9_birth_99 hl (by decide) rfl (fun ls hl => ?_)
    refine lv_iconst (v := 0) hx hb dX9_birth_101 (by decide) ?_
    refine lv_istore (lv' := [(6, .int 0), (5, .int r26), (0, .ref (q 0)), (1, .int x1), (2, .int x2)]) hx hb dX9_birth_102 hl (by decide) rfl (fun ls hl => ?_)
    refine lv_aload_n hx hb dX9_birth_104 rfl (lv_at hl 2 rfl) ?_
    refine mg_get hx hb hts iM_birth hown hK hI 15 (by decide) (hts (.fieldLink RX9 45 "PassageCourtModel" "nations" "[I") (by decide +kernel)) rfl dX9_birth_105 ?_
    refine lv_iload_n hx hb dX9_birth_108 rfl (lv_at hl 3 rfl) ?_
    obtain ⟨r27, er27, h⟩ := mbind h
    refine mg_ald hx hb hK hI 15 rfl (by decide) er27 dX9_birth_109 ?_
    refine lv_iload_n hx hb dX9_birth_110 rfl (lv_at hl 4 rfl) ?_
    refine lv_iconst (v := -1) hx hb dX9_birth_111 (by decide) ?_
    refine lv_icmp_ne (tgt := 119) hx hb dX9_birth_112 (by decide) (fun c28 => ?_) (fun c28 => ?_)
    · replace h := mneg c28 h
      refine lv_aload_n hx hb dX9_birth_119 rfl (lv_at hl 2 rfl) ?_
      refine mg_get hx hb hts iM_birth hown hK hI 15 (by decide) (hts (.fieldLink RX9 45 "PassageCourtModel" "nations" "[I") (by decide +kernel)) rfl dX9_birth_120 ?_
      refine lv_iload_n hx hb dX9_birth_123 rfl (lv_at hl 4 rfl) ?_
      obtain ⟨r29, er29, h⟩ := mbind h
      refine mg_ald hx hb hK hI 15 rfl (by decide) er29 dX9_birth_124 ?_
      exact w_M_birth_125 C h hI (lv_sub hl [2, 3, 4, 1, 0] rfl)
    · replace h := mpos c28 h
      refine lv_iconst (v := 0) hx hb dX9_birth_115 (by decide) ?_
      refine lv_goto (tgt := 125) hx hb dX9_birth_116 (by decide) ?_
      exact w_M_birth_125 C h hI (lv_sub hl [2, 3, 4, 1, 0] rfl)
  · replace h := mpos c25 h
    refine lv_iconst (v := 0) hx hb dX9_birth_91 (by decide) ?_
    cases h
    exact mg_reti hx hb hr hlocks hK hI dX9_birth_92
def fM_birth_55 (u : MS) (x1 x2 x3 y0 : Int32) : Option (Int32 × MS) :=
  if x3 = 0 then
    fM_birth_85 u x1 x2 1
  else
    if x1 = x2 then
      fM_birth_85 u x1 x2 2
    else
      if y0 = 0 then
        fM_birth_85 u x1 x2 3
      else
        fM_birth_85 u x1 x2 0
set_option maxRecDepth 20000 in
theorem w_M_birth_55 (C : mC p s m args meth c cX9_birth (some .int) wsX9_birth 10 D cI cZ) {uz : MS} {rz : Int32} {u : MS} {x1 x2 x3 y0 : Int32} (h : fM_birth_55 u x1 x2 x3 y0 = some (rz, uz)) {H : Heap} {locs : List Loc} {ls : Array Slot} (hI : mI D cI cZ q u s H locs) (hl : lv_has ls 10 [(0, .ref (q 0)), (1, .int x1), (2, .int x2), (3, .int x3)]) : W p l e (mR 6 142) s m args below meth c H locs 0 0 (MQ below (mQ D cI cZ q rz uz) args s 0 0 (mF q)) (F0 m 55 ls [.int y0]) := by
  obtain ⟨hx, hb, hr, hts, hown, hlocks, hml, hK⟩ := id C
  unfold fM_birth_55 at h
  refine lv_istore (lv' := [(4, .int y0), (0, .ref (q 0)), (1, .int x1), (2, .int x2), (3, .int x3)]) hx hb dX9_birth_55 hl (by decide) rfl (fun ls hl => ?_)
  refine lv_aload_n hx hb dX9_birth_57 rfl (lv_at hl 1 rfl) ?_
  refine lv_iload_n hx hb dX9_birth_58 rfl (lv_at hl 4 rfl) ?_
  refine lv_if_ne (tgt := 66) hx hb dX9_birth_59 (by decide) (fun c30 => ?_) (fun c30 => ?_)
  · replace h := mneg c30 h
    refine lv_iload_n hx hb dX9_birth_66 rfl (lv_at hl 2 rfl) ?_
    refine lv_iload_n hx hb dX9_birth_67 rfl (lv_at hl 3 rfl) ?_
    refine lv_icmp_ne (tgt := 75) hx hb dX9_birth_68 (by decide) (fun c31 => ?_) (fun c31 => ?_)
    · replace h := mneg c31 h
      refine lv_iload hx hb dX9_birth_75 (lv_at hl 0 rfl) ?_
      refine lv_if_eq (tgt := 84) hx hb dX9_birth_77 (by decide) (fun c32 => ?_) (fun c32 => ?_)
      · replace h := mpos c32 h
        refine lv_iconst (v := 3) hx hb dX9_birth_84 (by decide) ?_
        exact w_M_birth_85 C h hI (lv_sub hl [1, 2, 3] rfl)
      · replace h := mneg c32 h
        refine lv_iconst (v := 0) hx hb dX9_birth_80 (by decide) ?_
        refine lv_goto (tgt := 85) hx hb dX9_birth_81 (by decide) ?_
        exact w_M_birth_85 C h hI (lv_sub hl [1, 2, 3] rfl)
    · replace h := mpos c31 h
      refine lv_iconst (v := 2) hx hb dX9_birth_71 (by decide) ?_
      refine lv_goto (tgt := 85) hx hb dX9_birth_72 (by decide) ?_
      exact w_M_birth_85 C h hI (lv_sub hl [1, 2, 3] rfl)
  · replace h := mpos c30 h
    refine lv_iconst (v := 1) hx hb dX9_birth_62 (by decide) ?_
    refine lv_goto (tgt := 85) hx hb dX9_birth_63 (by decide) ?_
    exact w_M_birth_85 C h hI (lv_sub hl [1, 2, 3] rfl)
def fM_birth_54 (u : MS) (x1 x2 x3 : Int32) : Option (Int32 × MS) :=
  fM_birth_55 u x1 x2 x3 0
set_option maxRecDepth 20000 in
theorem w_M_birth_54 (C : mC p s m args meth c cX9_birth (some .int) wsX9_birth 10 D cI cZ) {uz : MS} {rz : Int32} {u : MS} {x1 x2 x3 : Int32} (h : fM_birth_54 u x1 x2 x3 = some (rz, uz)) {H : Heap} {locs : List Loc} {ls : Array Slot} (hI : mI D cI cZ q u s H locs) (hl : lv_has ls 10 [(0, .ref (q 0)), (1, .int x1), (2, .int x2), (3, .int x3)]) : W p l e (mR 6 142) s m args below meth c H locs 0 0 (MQ below (mQ D cI cZ q rz uz) args s 0 0 (mF q)) (F0 m 54 ls []) := by
  obtain ⟨hx, hb, hr, hts, hown, hlocks, hml, hK⟩ := id C
  unfold fM_birth_54 at h
  refine lv_iconst (v := 0) hx hb dX9_birth_54 (by decide) ?_
  exact w_M_birth_55 C h hI (lv_sub hl [0, 1, 2, 3] rfl)
def fM_birth_26 (u : MS) (x1 x2 y0 : Int32) : Option (Int32 × MS) :=
  if y0 = 0 then
    fM_birth_54 u x1 x2 y0
  else
    (mld u 18 x1).bind fun r34 =>
    if r34 = ((-1)) then
      fM_birth_54 u x1 x2 y0
    else
      if 16 ≤ (u 13 0) then
        fM_birth_54 u x1 x2 y0
      else
        fM_birth_55 u x1 x2 y0 1
set_option maxRecDepth 20000 in
theorem w_M_birth_26 (C : mC p s m args meth c cX9_birth (some .int) wsX9_birth 10 D cI cZ) {uz : MS} {rz : Int32} {u : MS} {x1 x2 y0 : Int32} (h : fM_birth_26 u x1 x2 y0 = some (rz, uz)) {H : Heap} {locs : List Loc} {ls : Array Slot} (hI : mI D cI cZ q u s H locs) (hl : lv_has ls 10 [(0, .ref (q 0)), (1, .int x1), (2, .int x2)]) : W p l e (mR 6 142) s m args below meth c H locs 0 0 (MQ below (mQ D cI cZ q rz uz) args s 0 0 (mF q)) (F0 m 26 ls [.int y0]) := by
  obtain ⟨hx, hb, hr, hts, hown, hlocks, hml, hK⟩ := id C
  unfold fM_birth_26 at h
  refine lv_istore_n (lv' := [(3, .int y0), (0, .ref (q 0)), (1, .int x1), (2, .int x2)]) hx hb dX9_birth_26 rfl hl (by decide) rfl (fun ls hl => ?_)
  refine lv_iload_n hx hb dX9_birth_27 rfl (lv_at hl 0 rfl) ?_
  refine lv_if_eq (tgt := 54) hx hb dX9_birth_28 (by decide) (fun c33 => ?_) (fun c33 => ?_)
  · replace h := mpos c33 h
    exact w_M_birth_54 C h hI (lv_sub hl [1, 2, 3, 0] rfl)
  · replace h := mneg c33 h
    refine lv_aload_n hx hb dX9_birth_31 rfl (lv_at hl 1 rfl) ?_
    refine mg_get hx hb hts iM_birth hown hK hI 18 (by decide) (hts (.fieldLink RX9 54 "PassageCourtModel" "where" "[I") (by decide +kernel)) rfl dX9_birth_32 ?_
    refine lv_iload_n hx hb dX9_birth_35 rfl (lv_at hl 2 rfl) ?_
    obtain ⟨r34, er34, h⟩ := mbind h
    refine mg_ald hx hb hK hI 18 rfl (by decide) er34 dX9_birth_36 ?_
    refine lv_iconst (v := -1) hx hb dX9_birth_37 (by decide) ?_
    refine lv_icmp_eq (tgt := 54) hx hb dX9_birth_38 (by decide) (fun c35 => ?_) (fun c35 => ?_)
    · replace h := mpos c35 h
      exact w_M_birth_54 C h hI (lv_sub hl [1, 2, 3, 0] rfl)
    · replace h := mneg c35 h
      refine lv_aload_n hx hb dX9_birth_41 rfl (lv_at hl 1 rfl) ?_
      refine mg_get hx hb hts iM_birth hown hK hI 13 (by decide) (hts (.fieldLink RX9 140 "PassageCourtModel" "persons" "I") (by decide +kernel)) rfl dX9_birth_42 ?_
      refine lv_bipush (v := 16) hx hb dX9_birth_45 (by decide) ?_
      refine lv_icmp_ge (tgt := 54) hx hb dX9_birth_47 (by decide) (fun c36 => ?_) (fun c36 => ?_)
      · replace h := mpos c36 h
        exact w_M_birth_54 C h hI (lv_sub hl [1, 2, 3, 0] rfl)
      · replace h := mneg c36 h
        refine lv_iconst (v := 1) hx hb dX9_birth_50 (by decide) ?_
        refine lv_goto (tgt := 55) hx hb dX9_birth_51 (by decide) ?_
        exact w_M_birth_55 C h hI (lv_sub hl [1, 2, 3, 0] rfl)
def fM_birth_25 (u : MS) (x1 x2 : Int32) : Option (Int32 × MS) :=
  fM_birth_26 u x1 x2 0
set_option maxRecDepth 20000 in
theorem w_M_birth_25 (C : mC p s m args meth c cX9_birth (some .int) wsX9_birth 10 D cI cZ) {uz : MS} {rz : Int32} {u : MS} {x1 x2 : Int32} (h : fM_birth_25 u x1 x2 = some (rz, uz)) {H : Heap} {locs : List Loc} {ls : Array Slot} (hI : mI D cI cZ q u s H locs) (hl : lv_has ls 10 [(0, .ref (q 0)), (1, .int x1), (2, .int x2)]) : W p l e (mR 6 142) s m args below meth c H locs 0 0 (MQ below (mQ D cI cZ q rz uz) args s 0 0 (mF q)) (F0 m 25 ls []) := by
  obtain ⟨hx, hb, hr, hts, hown, hlocks, hml, hK⟩ := id C
  unfold fM_birth_25 at h
  refine lv_iconst (v := 0) hx hb dX9_birth_25 (by decide) ?_
  exact w_M_birth_26 C h hI (lv_sub hl [0, 1, 2] rfl)
def fM_birth_21 (u : MS) (x1 x2 : Int32) : Option (Int32 × MS) :=
  fM_birth_26 u x1 x2 1
set_option maxRecDepth 20000 in
theorem w_M_birth_21 (C : mC p s m args meth c cX9_birth (some .int) wsX9_birth 10 D cI cZ) {uz : MS} {rz : Int32} {u : MS} {x1 x2 : Int32} (h : fM_birth_21 u x1 x2 = some (rz, uz)) {H : Heap} {locs : List Loc} {ls : Array Slot} (hI : mI D cI cZ q u s H locs) (hl : lv_has ls 10 [(0, .ref (q 0)), (1, .int x1), (2, .int x2)]) : W p l e (mR 6 142) s m args below meth c H locs 0 0 (MQ below (mQ D cI cZ q rz uz) args s 0 0 (mF q)) (F0 m 21 ls []) := by
  obtain ⟨hx, hb, hr, hts, hown, hlocks, hml, hK⟩ := id C
  unfold fM_birth_21 at h
  refine lv_iconst (v := 1) hx hb dX9_birth_21 (by decide) ?_
  refine lv_goto (tgt := 26) hx hb dX9_birth_22 (by decide) ?_
  exact w_M_birth_26 C h hI (lv_sub hl [0, 1, 2] rfl)
def fM_birth (u : MS) (x1 x2 : Int32) : Option (Int32 × MS) :=
  mb2 (fM_isPerson u x1) fun r38 u37 =>
  if r38 = 0 then
    fM_birth_25 u37 x1 x2
  else
    if x2 = ((-1)) then
      fM_birth_21 u37 x1 x2
    else
      mb2 (fM_isPerson u37 x2) fun r42 u41 =>
      if r42 = 0 then
        fM_birth_25 u41 x1 x2
      else
        fM_birth_21 u41 x1 x2
set_option maxRecDepth 20000 in
theorem w_M_birth_0 (C : mC p s m args meth c cX9_birth (some .int) wsX9_birth 10 D cI cZ) {uz : MS} {rz : Int32} {u : MS} {x1 x2 : Int32} (h : fM_birth u x1 x2 = some (rz, uz)) {H : Heap} {locs : List Loc} {ls : Array Slot} (hI : mI D cI cZ q u s H locs) (hl : lv_has ls 10 [(0, .ref (q 0)), (1, .int x1), (2, .int x2)]) : W p l e (mR 6 142) s m args below meth c H locs 0 0 (MQ below (mQ D cI cZ q rz uz) args s 0 0 (mF q)) (F0 m 0 ls []) := by
  obtain ⟨hx, hb, hr, hts, hown, hlocks, hml, hK⟩ := id C
  unfold fM_birth at h
  refine lv_aload_n hx hb dX9_birth_0 rfl (lv_at hl 0 rfl) ?_
  refine lv_iload_n hx hb dX9_birth_1 rfl (lv_at hl 1 rfl) ?_
  obtain ⟨r38, u37, eu37, h⟩ := mb2_spec h
  refine mg_callV (As := [.int x1]) (rest := []) ⟨hx, hb, hml, hown, hts⟩ (cM_isPerson l D cI cZ q eu37) (cwV 1 hts gX9_birth_X9_isPerson rfl rfl rfl (by decide +kernel) ⟨Nat.le_of_ble_eq_true rfl, Nat.le_of_ble_eq_true rfl⟩) hK hI rfl hl.1 rfl (Nat.le_of_ble_eq_true rfl) dX9_birth_2 ⟨Nat.le_refl _, Nat.le_refl _⟩ (fun H locs hI => ?_)
  refine lv_if_eq (tgt := 25) hx hb dX9_birth_5 (by decide) (fun c39 => ?_) (fun c39 => ?_)
  · replace h := mpos c39 h
    exact w_M_birth_25 C h hI (lv_sub hl [0, 1, 2] rfl)
  · replace h := mneg c39 h
    refine lv_iload_n hx hb dX9_birth_8 rfl (lv_at hl 2 rfl) ?_
    refine lv_iconst (v := -1) hx hb dX9_birth_9 (by decide) ?_
    refine lv_icmp_eq (tgt := 21) hx hb dX9_birth_10 (by decide) (fun c40 => ?_) (fun c40 => ?_)
    · replace h := mpos c40 h
      exact w_M_birth_21 C h hI (lv_sub hl [0, 1, 2] rfl)
    · replace h := mneg c40 h
      refine lv_aload_n hx hb dX9_birth_13 rfl (lv_at hl 0 rfl) ?_
      refine lv_iload_n hx hb dX9_birth_14 rfl (lv_at hl 2 rfl) ?_
      obtain ⟨r42, u41, eu41, h⟩ := mb2_spec h
      refine mg_callV (As := [.int x2]) (rest := []) ⟨hx, hb, hml, hown, hts⟩ (cM_isPerson l D cI cZ q eu41) (cwV 1 hts gX9_birth_X9_isPerson rfl rfl rfl (by decide +kernel) ⟨Nat.le_of_ble_eq_true rfl, Nat.le_of_ble_eq_true rfl⟩) hK hI rfl hl.1 rfl (Nat.le_of_ble_eq_true rfl) dX9_birth_15 ⟨Nat.le_refl _, Nat.le_refl _⟩ (fun H locs hI => ?_)
      refine lv_if_eq (tgt := 25) hx hb dX9_birth_18 (by decide) (fun c43 => ?_) (fun c43 => ?_)
      · replace h := mpos c43 h
        exact w_M_birth_25 C h hI (lv_sub hl [0, 1, 2] rfl)
      · replace h := mneg c43 h
        exact w_M_birth_21 C h hI (lv_sub hl [0, 1, 2] rfl)
set_option maxRecDepth 20000 in
theorem cM_birth (l : Launch) (D : va_G) (cI cZ : ClassId) (q : Nat → Nat) {u uz : MS} {rz : Int32} {x1 x2 : Int32} (h : fM_birth u x1 x2 = some (rz, uz)) : Met l yX9_birth wsX9_birth (mR 6 142) (va_Pc [.ref (q 0), .int x1, .int x2] (mPre D cI cZ q u)) (mQ D cI cZ q rz uz) 0 0 (mF q) := by
  refine Met.ofW (cc := cX9_birth) (maxL := 10) (ret := (some .int)) (by decide) rfl ?_
  intro p e s m args below meth c s₁ B hml hv
  obtain ⟨rfl, hw, hK⟩ := hv
  have C : mC p s m _ meth c cX9_birth (some .int) wsX9_birth 10 D cI cZ := ⟨B.exec, B.bytes, B.returns, atoms_spec (ws := wsX9_birth) B.pre, findClass_of_methodNamed B.named, B.notSynchronized, hml, hK⟩
  have hl := lv_entry ([.ref (q 0), .int x1, .int x2]) (n := 10) (Nat.le_of_ble_eq_true rfl)
  rw [lg_entry_eq]
  generalize (lg_sl ([.ref (q 0), .int x1, .int x2]) ++ List.replicate (10 - (lg_sl ([.ref (q 0), .int x1, .int x2])).length) Slot.unset).toArray = ls at hl ⊢
  have hl : lv_has ls 10 [(0, .ref (q 0)), (1, .int x1), (2, .int x2)] := hl
  exact w_M_birth_0 C h ⟨hw, va_S.rf⟩ hl
end GM1
