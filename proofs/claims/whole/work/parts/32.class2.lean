section GC2
variable {p : Program} {l : Launch} {e : Env} {s : State} {m : MethodId} {args : Array Value} {below : List Frame} {meth : Method} {c : Code} {D : va_G} {yI yO : ClassId} {z0 : Nat} {ad : Nat → Nat → Nat} {A : Nat → Prop}
theorem iC_Request_countFollowers_X4 : ∀ w ∈ wsX40, w ∈ wsX4_countFollowers := by decide +kernel
def fC_Request_countFollowers (t : Nat) (g : CS) : Option Int32 :=
  (ck g 7 t).bind fun _ =>
  (fC_bitCount (sI g 7 t 7)).bind fun r2 =>
  some r2
set_option maxRecDepth 20000 in
theorem w_C_Request_countFollowers_0 (C : cC p s m args meth c cX4_countFollowers RX4 (some .int) wsX4_countFollowers 1 D yI yO) {t : Nat} {rz : Int32} {g : CS} (h : fC_Request_countFollowers t g = some rz) {H : Heap} {locs : List Loc} {ls : Array Slot} (hX : cX D yI yO z0 ad g A s H locs) (hl : lv_has ls 1 [(0, .ref (ad 7 t))]) : W p l e (mR 1 20) s m args below meth c H locs 0 0 (MQ below (cQ D yI yO z0 ad rz g A) args s 0 0 A) (F0 m 0 ls []) := by
  obtain ⟨hx, hb, hr, hts, hown, hlocks, hml, hK⟩ := id C
  unfold fC_Request_countFollowers at h
  refine lv_aload_n hx hb dX4_countFollowers_0 rfl (lv_at hl 0 rfl) ?_
  obtain ⟨_, hv1, h⟩ := mbind h
  replace hv1 := ck_spec hv1
  refine cg_get hx hb hts iC_Request_countFollowers_X4 hown hK hX 7 t hv1 rfl rfl 7 (by decide) (hts (.fieldLink RX4 30 "PassageCourt$Request" "followers" "I") (by decide +kernel)) (fun _ h9 => h9) rfl dX4_countFollowers_1 ?_
  obtain ⟨r2, er2, h⟩ := mbind h
  refine cg_callS (As := [.int (sI g 7 t 7)]) (rest := []) ⟨hx, hb, hml, hown, hts⟩ (cC_bitCount l D yI yO z0 ad er2) (va_cwS 1 hts gX4_countFollowers_J6_bitCount_0f7a4 rfl rfl rfl (by decide +kernel) ⟨Nat.le_of_ble_eq_true rfl, Nat.le_of_ble_eq_true rfl⟩) hK hX rfl hl.1 rfl (Nat.le_of_ble_eq_true rfl) dX4_countFollowers_4 ⟨Nat.zero_le _, Nat.zero_le _⟩ (fun H locs hX => ?_)
  cases h
  exact cg_reti hx hb hr hlocks hK hX dX4_countFollowers_7
set_option maxRecDepth 20000 in
theorem cC_Request_countFollowers (l : Launch) (D : va_G) (yI yO : ClassId) (z0 : Nat) (ad : Nat → Nat → Nat) {g : CS} {t : Nat} {rz : Int32} (h : fC_Request_countFollowers t g = some rz) : Met l yX4_countFollowers wsX4_countFollowers (mR 1 20) (va_Pc [.ref (ad 7 t)] (cPre D yI yO z0 ad g)) (cQ D yI yO z0 ad rz g (cF ad g)) 0 0 (cF ad g) := by
  refine Met.ofW (cc := cX4_countFollowers) (maxL := 1) (ret := (some .int)) (by decide) rfl ?_
  intro p e s m args below meth c s₁ B hml hv
  obtain ⟨hv0, hw, hK⟩ := hv
  have hv1 : args = [.ref (ad 7 t)].toArray := hv0
  subst hv1
  have C : cC p s m _ meth c cX4_countFollowers RX4 (some .int) wsX4_countFollowers 1 D yI yO := ⟨B.exec, B.bytes, B.returns, atoms_spec (ws := wsX4_countFollowers) B.pre, findClass_of_methodNamed B.named, B.notSynchronized, hml, hK⟩
  have hl := lv_entry ([.ref (ad 7 t)]) (n := 1) (Nat.le_of_ble_eq_true rfl)
  rw [lg_entry_eq]
  generalize (lg_sl ([.ref (ad 7 t)]) ++ List.replicate (1 - (lg_sl ([.ref (ad 7 t)])).length) Slot.unset).toArray = ls at hl ⊢
  have hl : lv_has ls 1 [(0, .ref (ad 7 t))] := hl
  exact w_C_Request_countFollowers_0 C h ⟨hw, fun k i hi => ⟨k, i, hi, rfl⟩, va_S.rf⟩ hl
theorem iC_Request_endIfLate_X4 : ∀ w ∈ wsX40, w ∈ wsX4_endIfLate := by decide +kernel
def fC_Request_endIfLate_29 (t : Nat) (g : CS) : Option CS :=
  some g
set_option maxRecDepth 20000 in
theorem w_C_Request_endIfLate_29 (C : cC p s m args meth c cX4_endIfLate RX4 none wsX4_endIfLate 2 D yI yO) {t : Nat} {gz : CS} {g : CS} (h : fC_Request_endIfLate_29 t g = some gz) {H : Heap} {locs : List Loc} {ls : Array Slot} (hX : cX D yI yO z0 ad g A s H locs) (hl : lv_has ls 2 [(0, .ref (ad 7 t))]) : W p l e (mR 0 0) s m args below meth c H locs 0 0 (MQ below (cQv D yI yO z0 ad gz A) args s 0 0 A) (F0 m 29 ls []) := by
  obtain ⟨hx, hb, hr, hts, hown, hlocks, hml, hK⟩ := id C
  unfold fC_Request_endIfLate_29 at h
  cases h
  exact cg_retv hx hb hr hlocks hK hX dX4_endIfLate_29
def fC_Request_endIfLate_16 (t : Nat) (g : CS) (x1 : Int32) : Option CS :=
  (ck g 7 t).bind fun _ =>
  if x1 ≤ (sI g 7 t 6) then
    fC_Request_endIfLate_29 t g
  else
    (some (uI g 7 t 5 4)).bind fun g3 =>
    fC_Request_endIfLate_29 t g3
set_option maxRecDepth 20000 in
theorem w_C_Request_endIfLate_16 (C : cC p s m args meth c cX4_endIfLate RX4 none wsX4_endIfLate 2 D yI yO) {t : Nat} {gz : CS} {g : CS} {x1 : Int32} (h : fC_Request_endIfLate_16 t g x1 = some gz) {H : Heap} {locs : List Loc} {ls : Array Slot} (hX : cX D yI yO z0 ad g A s H locs) (hl : lv_has ls 2 [(0, .ref (ad 7 t)), (1, .int x1)]) : W p l e (mR 0 0) s m args below meth c H locs 0 0 (MQ below (cQv D yI yO z0 ad gz A) args s 0 0 A) (F0 m 16 ls []) := by
  obtain ⟨hx, hb, hr, hts, hown, hlocks, hml, hK⟩ := id C
  unfold fC_Request_endIfLate_16 at h
  refine lv_iload_n hx hb dX4_endIfLate_16 rfl (lv_at hl 1 rfl) ?_
  refine lv_aload_n hx hb dX4_endIfLate_17 rfl (lv_at hl 0 rfl) ?_
  obtain ⟨_, hv1, h⟩ := mbind h
  replace hv1 := ck_spec hv1
  refine cg_get hx hb hts iC_Request_endIfLate_X4 hown hK hX 7 t hv1 rfl rfl 6 (by decide) (hts (.fieldLink RX4 39 "PassageCourt$Request" "lastDay" "I") (by decide +kernel)) (fun _ h9 => h9) rfl dX4_endIfLate_18 ?_
  refine lv_icmp_le (tgt := 29) hx hb dX4_endIfLate_21 (by decide) (fun c2 => ?_) (fun c2 => ?_)
  · replace h := mpos c2 h
    exact w_C_Request_endIfLate_29 C h hX (lv_sub hl [0] rfl)
  · replace h := mneg c2 h
    refine lv_aload_n hx hb dX4_endIfLate_24 rfl (lv_at hl 0 rfl) ?_
    refine lv_iconst (v := 4) hx hb dX4_endIfLate_25 (by decide) ?_
    obtain ⟨g3, eg3, h⟩ := mbind h
    refine cg_put hx hb hts iC_Request_endIfLate_X4 tyX4 tyX4_ok nmX4 hown hK hX 7 t hv1 rfl rfl 5 (by decide) (hts (.fieldLink RX4 9 "PassageCourt$Request" "state" "I") (by decide +kernel)) (fun _ h9 => h9) rfl (by decide +kernel) rfl rfl (ty := .int) (g1 := (uI g 7 t 5 4)) (Nat.le_of_ble_eq_true rfl) (by unfold cent; rw [sI_up]; rfl) (fun _ _ => rfl) rfl (fun _ _ hab => cent_uI yI yO ad _ _ _ hab) dX4_endIfLate_26 (fun H locs hX => ?_)
    have eg3 := Option.some.inj eg3
    rw [eg3] at hX
    have hv4 : clvb g3 7 t = true := by rw [← eg3]; exact hv1
    exact w_C_Request_endIfLate_29 C h hX (lv_sub hl [0] rfl)
def fC_Request_endIfLate (t : Nat) (g : CS) (x1 : Int32) : Option CS :=
  (ck g 7 t).bind fun _ =>
  if (sI g 7 t 5) = 2 then
    fC_Request_endIfLate_16 t g x1
  else
    if (sI g 7 t 5) = 3 then
      fC_Request_endIfLate_16 t g x1
    else
      fC_Request_endIfLate_29 t g
set_option maxRecDepth 20000 in
theorem w_C_Request_endIfLate_0 (C : cC p s m args meth c cX4_endIfLate RX4 none wsX4_endIfLate 2 D yI yO) {t : Nat} {gz : CS} {g : CS} {x1 : Int32} (h : fC_Request_endIfLate t g x1 = some gz) {H : Heap} {locs : List Loc} {ls : Array Slot} (hX : cX D yI yO z0 ad g A s H locs) (hl : lv_has ls 2 [(0, .ref (ad 7 t)), (1, .int x1)]) : W p l e (mR 0 0) s m args below meth c H locs 0 0 (MQ below (cQv D yI yO z0 ad gz A) args s 0 0 A) (F0 m 0 ls []) := by
  obtain ⟨hx, hb, hr, hts, hown, hlocks, hml, hK⟩ := id C
  unfold fC_Request_endIfLate at h
  refine lv_aload_n hx hb dX4_endIfLate_0 rfl (lv_at hl 0 rfl) ?_
  obtain ⟨_, hv5, h⟩ := mbind h
  replace hv5 := ck_spec hv5
  refine cg_get hx hb hts iC_Request_endIfLate_X4 hown hK hX 7 t hv5 rfl rfl 5 (by decide) (hts (.fieldLink RX4 9 "PassageCourt$Request" "state" "I") (by decide +kernel)) (fun _ h9 => h9) rfl dX4_endIfLate_1 ?_
  refine lv_iconst (v := 2) hx hb dX4_endIfLate_4 (by decide) ?_
  refine lv_icmp_eq (tgt := 16) hx hb dX4_endIfLate_5 (by decide) (fun c6 => ?_) (fun c6 => ?_)
  · replace h := mpos c6 h
    exact w_C_Request_endIfLate_16 C h hX (lv_sub hl [0, 1] rfl)
  · replace h := mneg c6 h
    refine lv_aload_n hx hb dX4_endIfLate_8 rfl (lv_at hl 0 rfl) ?_
    refine cg_get hx hb hts iC_Request_endIfLate_X4 hown hK hX 7 t hv5 rfl rfl 5 (by decide) (hts (.fieldLink RX4 9 "PassageCourt$Request" "state" "I") (by decide +kernel)) (fun _ h9 => h9) rfl dX4_endIfLate_9 ?_
    refine lv_iconst (v := 3) hx hb dX4_endIfLate_12 (by decide) ?_
    refine lv_icmp_ne (tgt := 29) hx hb dX4_endIfLate_13 (by decide) (fun c7 => ?_) (fun c7 => ?_)
    · replace h := mneg c7 h
      exact w_C_Request_endIfLate_29 C h hX (lv_sub hl [0] rfl)
    · replace h := mpos c7 h
      exact w_C_Request_endIfLate_16 C h hX (lv_sub hl [0, 1] rfl)
set_option maxRecDepth 20000 in
theorem cC_Request_endIfLate (l : Launch) (D : va_G) (yI yO : ClassId) (z0 : Nat) (ad : Nat → Nat → Nat) {g : CS} {t : Nat} {gz : CS} {x1 : Int32} (h : fC_Request_endIfLate t g x1 = some gz) : Met l yX4_endIfLate wsX4_endIfLate (mR 0 0) (va_Pc [.ref (ad 7 t), .int x1] (cPre D yI yO z0 ad g)) (cQv D yI yO z0 ad gz (cF ad g)) 0 0 (cF ad g) := by
  refine Met.ofW (cc := cX4_endIfLate) (maxL := 2) (ret := none) (by decide) rfl ?_
  intro p e s m args below meth c s₁ B hml hv
  obtain ⟨hv0, hw, hK⟩ := hv
  have hv1 : args = [.ref (ad 7 t), .int x1].toArray := hv0
  subst hv1
  have C : cC p s m _ meth c cX4_endIfLate RX4 none wsX4_endIfLate 2 D yI yO := ⟨B.exec, B.bytes, B.returns, atoms_spec (ws := wsX4_endIfLate) B.pre, findClass_of_methodNamed B.named, B.notSynchronized, hml, hK⟩
  have hl := lv_entry ([.ref (ad 7 t), .int x1]) (n := 2) (Nat.le_of_ble_eq_true rfl)
  rw [lg_entry_eq]
  generalize (lg_sl ([.ref (ad 7 t), .int x1]) ++ List.replicate (2 - (lg_sl ([.ref (ad 7 t), .int x1])).length) Slot.unset).toArray = ls at hl ⊢
  have hl : lv_has ls 2 [(0, .ref (ad 7 t)), (1, .int x1)] := hl
  exact w_C_Request_endIfLate_0 C h ⟨hw, fun k i hi => ⟨k, i, hi, rfl⟩, va_S.rf⟩ hl
theorem iC_Court_isRootedIn_X1 : ∀ w ∈ wsX10, w ∈ wsX8_isRootedIn := by decide +kernel
theorem iC_Court_isRootedIn_X3 : ∀ w ∈ wsX30, w ∈ wsX8_isRootedIn := by decide +kernel
theorem iC_Court_isRootedIn_X8 : ∀ w ∈ wsX80, w ∈ wsX8_isRootedIn := by decide +kernel
def fC_Court_isRootedIn_31 (g : CS) (xs0 : Int32) : Option Int32 :=
  (mbo xs0).bind fun b1 => some b1
set_option maxRecDepth 20000 in
theorem w_C_Court_isRootedIn_31 (C : cC p s m args meth c cX8_isRootedIn RX8 (some .boolean) wsX8_isRootedIn 3 D yI yO) {rz : Int32} {g : CS} {xs0 : Int32} (h : fC_Court_isRootedIn_31 g xs0 = some rz) {H : Heap} {locs : List Loc} {ls : Array Slot} (hX : cX D yI yO z0 ad g A s H locs) (hl : lv_has ls 3 [(0, .ref (ad 0 0))]) : W p l e (mR 2 43) s m args below meth c H locs 0 0 (MQ below (cQ D yI yO z0 ad rz g A) args s 0 0 A) (F0 m 31 ls [.int xs0]) := by
  obtain ⟨hx, hb, hr, hts, hown, hlocks, hml, hK⟩ := id C
  unfold fC_Court_isRootedIn_31 at h
  obtain ⟨b1, eb1, h⟩ := mbind h
  cases h
  exact cg_retz hx hb hr hlocks hK hX dX8_isRootedIn_31 eb1
def fC_Court_isRootedIn_26 (g : CS) : Option Int32 :=
  fC_Court_isRootedIn_31 g 1
set_option maxRecDepth 20000 in
theorem w_C_Court_isRootedIn_26 (C : cC p s m args meth c cX8_isRootedIn RX8 (some .boolean) wsX8_isRootedIn 3 D yI yO) {rz : Int32} {g : CS} (h : fC_Court_isRootedIn_26 g = some rz) {H : Heap} {locs : List Loc} {ls : Array Slot} (hX : cX D yI yO z0 ad g A s H locs) (hl : lv_has ls 3 [(0, .ref (ad 0 0))]) : W p l e (mR 2 43) s m args below meth c H locs 0 0 (MQ below (cQ D yI yO z0 ad rz g A) args s 0 0 A) (F0 m 26 ls []) := by
  obtain ⟨hx, hb, hr, hts, hown, hlocks, hml, hK⟩ := id C
  unfold fC_Court_isRootedIn_26 at h
  refine lv_iconst (v := 1) hx hb dX8_isRootedIn_26 (by decide) ?_
  refine lv_goto (tgt := 31) hx hb dX8_isRootedIn_27 (by decide) ?_
  exact w_C_Court_isRootedIn_31 C h hX (lv_sub hl [0] rfl)
def fC_Court_isRootedIn (g : CS) (i1 : Nat) (i2 : Nat) : Option Int32 :=
  (ck g 5 i1).bind fun _ =>
  (fC_Person_isOf i1 g i2).bind fun r3 =>
  if r3 = 0 then
    (ck g 4 i2).bind fun _ =>
    (fC_Permits_isValid i1 g (sI g 4 i2 0) (sI g 0 0 6)).bind fun r6 =>
    if r6 = 0 then
      fC_Court_isRootedIn_31 g 0
    else
      fC_Court_isRootedIn_26 g
  else
    fC_Court_isRootedIn_26 g
set_option maxRecDepth 20000 in
theorem w_C_Court_isRootedIn_0 (C : cC p s m args meth c cX8_isRootedIn RX8 (some .boolean) wsX8_isRootedIn 3 D yI yO) {rz : Int32} {g : CS} {i1 : Nat} {i2 : Nat} (h : fC_Court_isRootedIn g i1 i2 = some rz) {H : Heap} {locs : List Loc} {ls : Array Slot} (hX : cX D yI yO z0 ad g A s H locs) (hl : lv_has ls 3 [(0, .ref (ad 0 0)), (1, .ref (ad 5 i1)), (2, .ref (ad 4 i2))]) : W p l e (mR 2 43) s m args below meth c H locs 0 0 (MQ below (cQ D yI yO z0 ad rz g A) args s 0 0 A) (F0 m 0 ls []) := by
  obtain ⟨hx, hb, hr, hts, hown, hlocks, hml, hK⟩ := id C
  unfold fC_Court_isRootedIn at h
  refine lv_aload_n hx hb dX8_isRootedIn_0 rfl (lv_at hl 1 rfl) ?_
  refine lv_aload_n hx hb dX8_isRootedIn_1 rfl (lv_at hl 2 rfl) ?_
  obtain ⟨_, hv2, h⟩ := mbind h
  replace hv2 := ck_spec hv2
  obtain ⟨r3, er3, h⟩ := mbind h
  refine cg_callV (As := [.ref (ad 4 i2)]) (rest := []) ⟨hx, hb, hml, hown, hts⟩ 5 i1 hv2 (ci := 4) rfl rfl (cC_Person_isOf l D yI yO z0 ad er3) (cwV 1 hts gX8_isRootedIn_X3_isOf rfl rfl rfl (by decide +kernel) ⟨Nat.le_of_ble_eq_true rfl, Nat.le_of_ble_eq_true rfl⟩) hK hX rfl hl.1 rfl (Nat.le_of_ble_eq_true rfl) dX8_isRootedIn_2 ⟨Nat.zero_le _, Nat.zero_le _⟩ (fun H locs hX => ?_)
  refine lv_if_ne (tgt := 26) hx hb dX8_isRootedIn_5 (by decide) (fun c4 => ?_) (fun c4 => ?_)
  · replace h := mneg c4 h
    exact w_C_Court_isRootedIn_26 C h hX (lv_sub hl [0] rfl)
  · replace h := mpos c4 h
    refine lv_aload_n hx hb dX8_isRootedIn_8 rfl (lv_at hl 1 rfl) ?_
    refine cg_get hx hb hts iC_Court_isRootedIn_X3 hown hK hX 5 i1 hv2 rfl rfl 7 (by decide) (hts (.fieldLink RX8 279 "PassageCourt$Person" "permits" "LPassageCourt$Permits;") (by decide +kernel)) (fun _ h9 => h9) rfl dX8_isRootedIn_9 ?_
    refine lv_aload_n hx hb dX8_isRootedIn_12 rfl (lv_at hl 2 rfl) ?_
    obtain ⟨_, hv5, h⟩ := mbind h
    replace hv5 := ck_spec hv5
    refine cg_get hx hb hts iC_Court_isRootedIn_X1 hown hK hX 4 i2 hv5 rfl rfl 0 (by decide) (hts (.fieldLink RX8 66 "PassageCourt$Land" "number" "I") (by decide +kernel)) (fun _ h9 => h9) rfl dX8_isRootedIn_13 ?_
    refine lv_aload_n hx hb dX8_isRootedIn_16 rfl (lv_at hl 0 rfl) ?_
    refine cg_get hx hb hts iC_Court_isRootedIn_X8 hown hK hX 0 0 rfl rfl rfl 6 (by decide) (hts (.fieldLink RX8 37 "PassageCourt" "today" "I") (by decide +kernel)) (fun _ h9 => h9) rfl dX8_isRootedIn_17 ?_
    obtain ⟨r6, er6, h⟩ := mbind h
    refine cg_callV (As := [.int (sI g 4 i2 0), .int (sI g 0 0 6)]) (rest := []) ⟨hx, hb, hml, hown, hts⟩ 25 i1 hv2 (ci := 3) rfl rfl (cC_Permits_isValid l D yI yO z0 ad er6) (cwV 2 hts gX8_isRootedIn_X2_isValid rfl rfl rfl (by decide +kernel) ⟨Nat.le_of_ble_eq_true rfl, Nat.le_of_ble_eq_true rfl⟩) hK hX rfl hl.1 rfl (Nat.le_of_ble_eq_true rfl) dX8_isRootedIn_20 ⟨Nat.zero_le _, Nat.zero_le _⟩ (fun H locs hX => ?_)
    refine lv_if_eq (tgt := 30) hx hb dX8_isRootedIn_23 (by decide) (fun c7 => ?_) (fun c7 => ?_)
    · replace h := mpos c7 h
      refine lv_iconst (v := 0) hx hb dX8_isRootedIn_30 (by decide) ?_
      exact w_C_Court_isRootedIn_31 C h hX (lv_sub hl [0] rfl)
    · replace h := mneg c7 h
      exact w_C_Court_isRootedIn_26 C h hX (lv_sub hl [0] rfl)
set_option maxRecDepth 20000 in
theorem cC_Court_isRootedIn (l : Launch) (D : va_G) (yI yO : ClassId) (z0 : Nat) (ad : Nat → Nat → Nat) {g : CS} {rz : Int32} {i1 : Nat} {i2 : Nat} (h : fC_Court_isRootedIn g i1 i2 = some rz) : Met l yX8_isRootedIn wsX8_isRootedIn (mR 2 43) (va_Pc [.ref (ad 0 0), .ref (ad 5 i1), .ref (ad 4 i2)] (cPre D yI yO z0 ad g)) (cQ D yI yO z0 ad rz g (cF ad g)) 0 0 (cF ad g) := by
  refine Met.ofW (cc := cX8_isRootedIn) (maxL := 3) (ret := (some .boolean)) (by decide) rfl ?_
  intro p e s m args below meth c s₁ B hml hv
  obtain ⟨hv0, hw, hK⟩ := hv
  have hv1 : args = [.ref (ad 0 0), .ref (ad 5 i1), .ref (ad 4 i2)].toArray := hv0
  subst hv1
  have C : cC p s m _ meth c cX8_isRootedIn RX8 (some .boolean) wsX8_isRootedIn 3 D yI yO := ⟨B.exec, B.bytes, B.returns, atoms_spec (ws := wsX8_isRootedIn) B.pre, findClass_of_methodNamed B.named, B.notSynchronized, hml, hK⟩
  have hl := lv_entry ([.ref (ad 0 0), .ref (ad 5 i1), .ref (ad 4 i2)]) (n := 3) (Nat.le_of_ble_eq_true rfl)
  rw [lg_entry_eq]
  generalize (lg_sl ([.ref (ad 0 0), .ref (ad 5 i1), .ref (ad 4 i2)]) ++ List.replicate (3 - (lg_sl ([.ref (ad 0 0), .ref (ad 5 i1), .ref (ad 4 i2)])).length) Slot.unset).toArray = ls at hl ⊢
  have hl : lv_has ls 3 [(0, .ref (ad 0 0)), (1, .ref (ad 5 i1)), (2, .ref (ad 4 i2))] := hl
  exact w_C_Court_isRootedIn_0 C h ⟨hw, fun k i hi => ⟨k, i, hi, rfl⟩, va_S.rf⟩ hl
theorem iC_Court_nationsAtBirth_X1 : ∀ w ∈ wsX10, w ∈ wsX8_nationsAtBirth := by decide +kernel
theorem iC_Court_nationsAtBirth_X3 : ∀ w ∈ wsX30, w ∈ wsX8_nationsAtBirth := by decide +kernel
theorem iC_Court_nationsAtBirth_X8 : ∀ w ∈ wsX80, w ∈ wsX8_nationsAtBirth := by decide +kernel
def fC_Court_nationsAtBirth_119 (g : CS) (x5 : Int32) : Option Int32 :=
  some x5
set_option maxRecDepth 20000 in
theorem w_C_Court_nationsAtBirth_119 (C : cC p s m args meth c cX8_nationsAtBirth RX8 (some .int) wsX8_nationsAtBirth 8 D yI yO) {rz : Int32} {g : CS} {x5 : Int32} (h : fC_Court_nationsAtBirth_119 g x5 = some rz) {H : Heap} {locs : List Loc} {ls : Array Slot} (hX : cX D yI yO z0 ad g A s H locs) (hl : lv_has ls 8 [(0, .ref (ad 0 0)), (5, .int x5)]) : W p l e (mR 3 65) s m args below meth c H locs 0 0 (MQ below (cQ D yI yO z0 ad rz g A) args s 0 0 A) (F0 m 119 ls []) := by
  obtain ⟨hx, hb, hr, hts, hown, hlocks, hml, hK⟩ := id C
  unfold fC_Court_nationsAtBirth_119 at h
  refine lv_iload hx hb dX8_nationsAtBirth_119 (lv_at hl 1 rfl) ?_
  cases h
  exact cg_reti hx hb hr hlocks hK hX dX8_nationsAtBirth_121
def fC_Court_nationsAtBirth_110 (g : CS) (i3 : Nat) (x5 : Int32) : Option Int32 :=
  (ck g 4 i3).bind fun _ =>
  (fC_Land_bit i3 g).bind fun r2 =>
  fC_Court_nationsAtBirth_119 g (x5 ||| r2)
set_option maxRecDepth 20000 in
theorem w_C_Court_nationsAtBirth_110 (C : cC p s m args meth c cX8_nationsAtBirth RX8 (some .int) wsX8_nationsAtBirth 8 D yI yO) {rz : Int32} {g : CS} {i3 : Nat} {x5 : Int32} (h : fC_Court_nationsAtBirth_110 g i3 x5 = some rz) {H : Heap} {locs : List Loc} {ls : Array Slot} (hX : cX D yI yO z0 ad g A s H locs) (hl : lv_has ls 8 [(0, .ref (ad 0 0)), (3, .ref (ad 4 i3)), (5, .int x5)]) : W p l e (mR 3 65) s m args below meth c H locs 0 0 (MQ below (cQ D yI yO z0 ad rz g A) args s 0 0 A) (F0 m 110 ls []) := by
  obtain ⟨hx, hb, hr, hts, hown, hlocks, hml, hK⟩ := id C
  unfold fC_Court_nationsAtBirth_110 at h
  refine lv_iload hx hb dX8_nationsAtBirth_110 (lv_at hl 2 rfl) ?_
  refine lv_aload_n hx hb dX8_nationsAtBirth_112 rfl (lv_at hl 1 rfl) ?_
  obtain ⟨_, hv1, h⟩ := mbind h
  replace hv1 := ck_spec hv1
  obtain ⟨r2, er2, h⟩ := mbind h
  refine cg_callV (As := []) (rest := [.int x5]) ⟨hx, hb, hml, hown, hts⟩ 4 i3 hv1 (ci := 2) rfl rfl (cC_Land_bit l D yI yO z0 ad er2) (cwV 0 hts gX8_nationsAtBirth_X1_bit rfl rfl rfl (by decide +kernel) ⟨Nat.le_of_ble_eq_true rfl, Nat.le_of_ble_eq_true rfl⟩) hK hX rfl hl.1 rfl (Nat.le_of_ble_eq_true rfl) dX8_nationsAtBirth_113 ⟨Nat.zero_le _, Nat.zero_le _⟩ (fun H locs hX => ?_)
  refine lv_ior hx hb dX8_nationsAtBirth_116 ?_
  refine lv_istore (lv' := [(5, .int (x5 ||| r2)), (0, .ref (ad 0 0)), (3, .ref (ad 4 i3))]) hx hb dX8_nationsAtBirth_117 hl (by decide) rfl (fun ls hl => ?_)
  exact w_C_Court_nationsAtBirth_119 C h hX (lv_sub hl [1, 0] rfl)
def fC_Court_nationsAtBirth_75 (rec28 : CS → Nat → Option Nat → Nat → Int32 → Int32 → Int32 → Option Int32) (g : CS) (i1 : Nat) (o2 : Option Nat) (i3 : Nat) (x4 : Int32) (x5 : Int32) (x6 : Int32) : Option Int32 :=
  rec28 g i1 o2 i3 x4 x5 (x6 + 1)
set_option maxRecDepth 20000 in
theorem w_C_Court_nationsAtBirth_75 (C : cC p s m args meth c cX8_nationsAtBirth RX8 (some .int) wsX8_nationsAtBirth 8 D yI yO) {rz : Int32} {g : CS} {rec28 : CS → Nat → Option Nat → Nat → Int32 → Int32 → Int32 → Option Int32} (hrec28 : ∀ {i1 : Nat} {o2 : Option Nat} {i3 : Nat} {x4 : Int32} {x5 : Int32} {x6 : Int32}  (_ : rec28 g i1 o2 i3 x4 x5 x6 = some rz) {H : Heap} {locs : List Loc} {ls : Array Slot} (_ : cX D yI yO z0 ad g A s H locs) (_ : lv_has ls 8 [(0, .ref (ad 0 0)), (1, .ref (ad 5 i1)), (2, va_rf (o2.map (ad 5))), (3, .ref (ad 4 i3)), (4, .int x4), (5, .int x5), (6, .int x6)]), W p l e (mR 3 65) s m args below meth c H locs 0 0 (MQ below (cQ D yI yO z0 ad rz g A) args s 0 0 A) (F0 m 28 ls [])) {i1 : Nat} {o2 : Option Nat} {i3 : Nat} {x4 : Int32} {x5 : Int32} {x6 : Int32} (h : fC_Court_nationsAtBirth_75 rec28 g i1 o2 i3 x4 x5 x6 = some rz) {H : Heap} {locs : List Loc} {ls : Array Slot} (hX : cX D yI yO z0 ad g A s H locs) (hl : lv_has ls 8 [(0, .ref (ad 0 0)), (1, .ref (ad 5 i1)), (2, va_rf (o2.map (ad 5))), (3, .ref (ad 4 i3)), (4, .int x4), (5, .int x5), (6, .int x6)]) : W p l e (mR 3 65) s m args below meth c H locs 0 0 (MQ below (cQ D yI yO z0 ad rz g A) args s 0 0 A) (F0 m 75 ls []) := by
  obtain ⟨hx, hb, hr, hts, hown, hlocks, hml, hK⟩ := id C
  unfold fC_Court_nationsAtBirth_75 at h
  refine lv_iinc (v := x6 + 1) (lv' := [(6, .int (x6 + 1)), (0, .ref (ad 0 0)), (1, .ref (ad 5 i1)), (2, va_rf (o2.map (ad 5))), (3, .ref (ad 4 i3)), (4, .int x4), (5, .int x5)]) hx hb dX8_nationsAtBirth_75 hl (k := 6) rfl rfl (by decide) rfl (fun ls hl => ?_)
  refine lv_goto (tgt := 28) hx hb dX8_nationsAtBirth_78 (by decide) ?_
  exact hrec28 h hX (lv_sub hl [1, 2, 3, 4, 5, 6, 0] rfl)
def fC_Court_nationsAtBirth_28 : Nat → CS → Nat → Option Nat → Nat → Int32 → Int32 → Int32 → Option Int32
  | 0, _, _, _, _, _, _, _ => none
  | n + 1, g, i1, o2, i3, x4, x5, x6 =>
    if (nI (sN g 0)) ≤ x6 then
      (ck g 4 i3).bind fun _ =>
      if (sI g 4 i3 2) = 0 then
        fC_Court_nationsAtBirth_119 g x5
      else
        (fC_Court_isRootedIn g i1 i3).bind fun r6 =>
        if r6 = 0 then
          om o2 (
            fC_Court_nationsAtBirth_119 g x5)
            fun v8 =>
            (fC_Court_isRootedIn g v8 i3).bind fun r9 =>
            if r9 = 0 then
              fC_Court_nationsAtBirth_119 g x5
            else
              fC_Court_nationsAtBirth_110 g i3 x5
        else
          fC_Court_nationsAtBirth_110 g i3 x5
    else
      (cget g 0 x6).bind fun v11 =>
      (ck g 4 v11).bind fun _ =>
      if (sI g 4 v11 3) = 0 then
        fC_Court_nationsAtBirth_75 (fC_Court_nationsAtBirth_28 n) g i1 o2 i3 x4 x5 x6
      else
        (fC_Land_bit v11 g).bind fun r14 =>
        fC_Court_nationsAtBirth_75 (fC_Court_nationsAtBirth_28 n) g i1 o2 i3 x4 (x5 ||| (x4 &&& r14)) x6
set_option maxRecDepth 20000 in
theorem w_C_Court_nationsAtBirth_28 (C : cC p s m args meth c cX8_nationsAtBirth RX8 (some .int) wsX8_nationsAtBirth 8 D yI yO) {rz : Int32} {g : CS} : ∀ (n : Nat) {i1 : Nat} {o2 : Option Nat} {i3 : Nat} {x4 : Int32} {x5 : Int32} {x6 : Int32} (h : fC_Court_nationsAtBirth_28 n g i1 o2 i3 x4 x5 x6 = some rz) {H : Heap} {locs : List Loc} {ls : Array Slot} (hX : cX D yI yO z0 ad g A s H locs) (hl : lv_has ls 8 [(0, .ref (ad 0 0)), (1, .ref (ad 5 i1)), (2, va_rf (o2.map (ad 5))), (3, .ref (ad 4 i3)), (4, .int x4), (5, .int x5), (6, .int x6)]), W p l e (mR 3 65) s m args below meth c H locs 0 0 (MQ below (cQ D yI yO z0 ad rz g A) args s 0 0 A) (F0 m 28 ls []) := by
  obtain ⟨hx, hb, hr, hts, hown, hlocks, hml, hK⟩ := id C
  intro n
  induction n with
  | zero =>
    intro i1 o2 i3 x4 x5 x6 h
    cases (show (none : Option _) = _ from h)
  | succ n ih =>
    intro i1 o2 i3 x4 x5 x6 h H locs ls hX hl
    rw [fC_Court_nationsAtBirth_28] at h
    refine lv_iload hx hb dX8_nationsAtBirth_28 (lv_at hl 6 rfl) ?_
    refine lv_aload_n hx hb dX8_nationsAtBirth_30 rfl (lv_at hl 0 rfl) ?_
    refine cg_get hx hb hts iC_Court_nationsAtBirth_X8 hown hK hX 0 0 rfl rfl rfl 0 (by decide) (hts (.fieldLink RX8 12 "PassageCourt" "lands" "Ljava/util/ArrayList;") (by decide +kernel)) (fun _ h9 => h9) rfl dX8_nationsAtBirth_31 ?_
    refine cg_callV (As := []) (rest := [.int x6]) ⟨hx, hb, hml, hown, hts⟩ 1 0 rfl (ci := 0) rfl rfl (cC_List_size l D yI yO z0 ad g 0 (by decide)) (cwV 0 hts gX8_nationsAtBirth_Jx4a65c_size_8abf5 rfl rfl rfl (by decide +kernel) ⟨Nat.le_of_ble_eq_true rfl, Nat.le_of_ble_eq_true rfl⟩) hK hX rfl hl.1 rfl (Nat.le_of_ble_eq_true rfl) dX8_nationsAtBirth_34 ⟨Nat.zero_le _, Nat.zero_le _⟩ (fun H locs hX => ?_)
    refine lv_icmp_ge (tgt := 81) hx hb dX8_nationsAtBirth_37 (by decide) (fun c3 => ?_) (fun c3 => ?_)
    · replace h := mpos c3 h
      refine lv_aload_n hx hb dX8_nationsAtBirth_81 rfl (lv_at hl 3 rfl) ?_
      obtain ⟨_, hv4, h⟩ := mbind h
      replace hv4 := ck_spec hv4
      refine cg_get hx hb hts iC_Court_nationsAtBirth_X1 hown hK hX 4 i3 hv4 rfl rfl 2 (by decide) (hts (.fieldLink RX8 368 "PassageCourt$Land" "bySoil" "Z") (by decide +kernel)) (fun _ h9 => h9) rfl dX8_nationsAtBirth_82 ?_
      refine lv_if_eq (tgt := 119) hx hb dX8_nationsAtBirth_85 (by decide) (fun c5 => ?_) (fun c5 => ?_)
      · replace h := mpos c5 h
        exact w_C_Court_nationsAtBirth_119 C h hX (lv_sub hl [0, 5] rfl)
      · replace h := mneg c5 h
        refine lv_aload_n hx hb dX8_nationsAtBirth_88 rfl (lv_at hl 0 rfl) ?_
        refine lv_aload_n hx hb dX8_nationsAtBirth_89 rfl (lv_at hl 1 rfl) ?_
        refine lv_aload_n hx hb dX8_nationsAtBirth_90 rfl (lv_at hl 3 rfl) ?_
        obtain ⟨r6, er6, h⟩ := mbind h
        refine cg_callV (As := [.ref (ad 5 i1), .ref (ad 4 i3)]) (rest := []) ⟨hx, hb, hml, hown, hts⟩ 0 0 rfl (ci := 9) rfl rfl (cC_Court_isRootedIn l D yI yO z0 ad er6) (cwV 2 hts gX8_nationsAtBirth_X8_isRootedIn rfl rfl rfl (by decide +kernel) ⟨Nat.le_of_ble_eq_true rfl, Nat.le_of_ble_eq_true rfl⟩) hK hX rfl hl.1 rfl (Nat.le_of_ble_eq_true rfl) dX8_nationsAtBirth_91 ⟨Nat.zero_le _, Nat.zero_le _⟩ (fun H locs hX => ?_)
        refine lv_if_ne (tgt := 110) hx hb dX8_nationsAtBirth_94 (by decide) (fun c7 => ?_) (fun c7 => ?_)
        · replace h := mneg c7 h
          exact w_C_Court_nationsAtBirth_110 C h hX (lv_sub hl [0, 3, 5] rfl)
        · replace h := mpos c7 h
          rcases o2 with _ | v8
          · replace h := om_n rfl h
            refine lv_aload_nN hx hb dX8_nationsAtBirth_97 rfl (lv_at hl 2 rfl) ?_
            refine lv_ifnullN (tgt := 119) hx hb dX8_nationsAtBirth_98 (by decide) ?_
            exact w_C_Court_nationsAtBirth_119 C h hX (lv_sub hl [0, 5] rfl)
          · replace h := om_s rfl h
            refine lv_aload_n hx hb dX8_nationsAtBirth_97 rfl (lv_at hl 2 rfl) ?_
            refine lv_ifnull hx hb dX8_nationsAtBirth_98 ?_
            refine lv_aload_n hx hb dX8_nationsAtBirth_101 rfl (lv_at hl 0 rfl) ?_
            refine lv_aload_n hx hb dX8_nationsAtBirth_102 rfl (lv_at hl 2 rfl) ?_
            refine lv_aload_n hx hb dX8_nationsAtBirth_103 rfl (lv_at hl 3 rfl) ?_
            obtain ⟨r9, er9, h⟩ := mbind h
            refine cg_callV (As := [.ref (ad 5 v8), .ref (ad 4 i3)]) (rest := []) ⟨hx, hb, hml, hown, hts⟩ 0 0 rfl (ci := 9) rfl rfl (cC_Court_isRootedIn l D yI yO z0 ad er9) (cwV 2 hts gX8_nationsAtBirth_X8_isRootedIn rfl rfl rfl (by decide +kernel) ⟨Nat.le_of_ble_eq_true rfl, Nat.le_of_ble_eq_true rfl⟩) hK hX rfl hl.1 rfl (Nat.le_of_ble_eq_true rfl) dX8_nationsAtBirth_104 ⟨Nat.zero_le _, Nat.zero_le _⟩ (fun H locs hX => ?_)
            refine lv_if_eq (tgt := 119) hx hb dX8_nationsAtBirth_107 (by decide) (fun c10 => ?_) (fun c10 => ?_)
            · replace h := mpos c10 h
              exact w_C_Court_nationsAtBirth_119 C h hX (lv_sub hl [0, 5] rfl)
            · replace h := mneg c10 h
              exact w_C_Court_nationsAtBirth_110 C h hX (lv_sub hl [0, 3, 5] rfl)
    · replace h := mneg c3 h
      refine lv_aload_n hx hb dX8_nationsAtBirth_40 rfl (lv_at hl 0 rfl) ?_
      refine cg_get hx hb hts iC_Court_nationsAtBirth_X8 hown hK hX 0 0 rfl rfl rfl 0 (by decide) (hts (.fieldLink RX8 12 "PassageCourt" "lands" "Ljava/util/ArrayList;") (by decide +kernel)) (fun _ h9 => h9) rfl dX8_nationsAtBirth_41 ?_
      refine lv_iload hx hb dX8_nationsAtBirth_44 (lv_at hl 6 rfl) ?_
      obtain ⟨v11, ev11, h⟩ := mbind h
      refine cg_callVq (As := [.int x6]) (rest := []) ⟨hx, hb, hml, hown, hts⟩ 1 0 rfl (ci := 0) rfl rfl (cC_List_get l D yI yO z0 ad (by decide) ev11) (cwV 1 hts gX8_nationsAtBirth_Jx4a65c_get_915e3 rfl rfl rfl (by decide +kernel) ⟨Nat.le_of_ble_eq_true rfl, Nat.le_of_ble_eq_true rfl⟩) hK hX rfl hl.1 rfl (Nat.le_of_ble_eq_true rfl) dX8_nationsAtBirth_46 ⟨Nat.zero_le _, Nat.zero_le _⟩ (fun H locs hX => ?_)
      refine W.eq (g2 := F0 m 49 ls [.ref (ad 4 v11)]) rfl ?_
      obtain ⟨_, hv12, h⟩ := mbind h
      replace hv12 := ck_spec hv12
      refine cg_cast hx hb hown (hts (.classLink RX8 57 "PassageCourt$Land") (by decide +kernel)) hK hX 4 v11 hv12 (ci := 2) rfl rfl dX8_nationsAtBirth_49 ?_
      refine lv_astore (lv' := [(7, .ref (ad 4 v11)), (0, .ref (ad 0 0)), (1, .ref (ad 5 i1)), (2, va_rf (o2.map (ad 5))), (3, .ref (ad 4 i3)), (4, .int x4), (5, .int x5), (6, .int x6)]) hx hb dX8_nationsAtBirth_52 hl (by decide) rfl (fun ls hl => ?_)
      refine lv_aload hx hb dX8_nationsAtBirth_54 (lv_at hl 0 rfl) ?_
      refine cg_get hx hb hts iC_Court_nationsAtBirth_X1 hown hK hX 4 v11 hv12 rfl rfl 3 (by decide) (hts (.fieldLink RX8 365 "PassageCourt$Land" "byDescent" "Z") (by decide +kernel)) (fun _ h9 => h9) rfl dX8_nationsAtBirth_56 ?_
      refine lv_if_eq (tgt := 75) hx hb dX8_nationsAtBirth_59 (by decide) (fun c13 => ?_) (fun c13 => ?_)
      · replace h := mpos c13 h
        exact w_C_Court_nationsAtBirth_75 C ih h hX (lv_sub hl [1, 2, 3, 4, 5, 6, 7] rfl)
      · replace h := mneg c13 h
        refine lv_iload hx hb dX8_nationsAtBirth_62 (lv_at hl 6 rfl) ?_
        refine lv_iload hx hb dX8_nationsAtBirth_64 (lv_at hl 5 rfl) ?_
        refine lv_aload hx hb dX8_nationsAtBirth_66 (lv_at hl 0 rfl) ?_
        obtain ⟨r14, er14, h⟩ := mbind h
        refine cg_callV (As := []) (rest := [.int x4, .int x5]) ⟨hx, hb, hml, hown, hts⟩ 4 v11 hv12 (ci := 2) rfl rfl (cC_Land_bit l D yI yO z0 ad er14) (cwV 0 hts gX8_nationsAtBirth_X1_bit rfl rfl rfl (by decide +kernel) ⟨Nat.le_of_ble_eq_true rfl, Nat.le_of_ble_eq_true rfl⟩) hK hX rfl hl.1 rfl (Nat.le_of_ble_eq_true rfl) dX8_nationsAtBirth_68 ⟨Nat.zero_le _, Nat.zero_le _⟩ (fun H locs hX => ?_)
        refine lv_iand hx hb dX8_nationsAtBirth_71 ?_
        refine lv_ior hx hb dX8_nationsAtBirth_72 ?_
        refine lv_istore (lv' := [(5, .int (x5 ||| (x4 &&& r14))), (7, .ref (ad 4 v11)), (0, .ref (ad 0 0)), (1, .ref (ad 5 i1)), (2, va_rf (o2.map (ad 5))), (3, .ref (ad 4 i3)), (4, .int x4), (6, .int x6)]) hx hb dX8_nationsAtBirth_73 hl (by decide) rfl (fun ls hl => ?_)
        exact w_C_Court_nationsAtBirth_75 C ih h hX (lv_sub hl [2, 3, 4, 5, 6, 0, 7] rfl)
def fC_Court_nationsAtBirth_20 (g : CS) (i1 : Nat) (o2 : Option Nat) (i3 : Nat) (xs0 : Int32) : Option Int32 :=
  fC_Court_nationsAtBirth_28 4096 g i1 o2 i3 xs0 0 0
set_option maxRecDepth 20000 in
theorem w_C_Court_nationsAtBirth_20 (C : cC p s m args meth c cX8_nationsAtBirth RX8 (some .int) wsX8_nationsAtBirth 8 D yI yO) {rz : Int32} {g : CS} {i1 : Nat} {o2 : Option Nat} {i3 : Nat} {xs0 : Int32} (h : fC_Court_nationsAtBirth_20 g i1 o2 i3 xs0 = some rz) {H : Heap} {locs : List Loc} {ls : Array Slot} (hX : cX D yI yO z0 ad g A s H locs) (hl : lv_has ls 8 [(0, .ref (ad 0 0)), (1, .ref (ad 5 i1)), (2, va_rf (o2.map (ad 5))), (3, .ref (ad 4 i3))]) : W p l e (mR 3 65) s m args below meth c H locs 0 0 (MQ below (cQ D yI yO z0 ad rz g A) args s 0 0 A) (F0 m 20 ls [.int xs0]) := by
  obtain ⟨hx, hb, hr, hts, hown, hlocks, hml, hK⟩ := id C
  unfold fC_Court_nationsAtBirth_20 at h
  refine lv_istore (lv' := [(4, .int xs0), (0, .ref (ad 0 0)), (1, .ref (ad 5 i1)), (2, va_rf (o2.map (ad 5))), (3, .ref (ad 4 i3))]) hx hb dX8_nationsAtBirth_20 hl (by decide) rfl (fun ls hl => ?_)
  refine lv_iconst (v := 0) hx hb dX8_nationsAtBirth_22 (by decide) ?_
  refine lv_istore (lv' := [(5, .int 0), (4, .int xs0), (0, .ref (ad 0 0)), (1, .ref (ad 5 i1)), (2, va_rf (o2.map (ad 5))), (3, .ref (ad 4 i3))]) hx hb dX8_nationsAtBirth_23 hl (by decide) rfl (fun ls hl => ?_)
  refine lv_iconst (v := 0) hx hb dX8_nationsAtBirth_25 (by decide) ?_
  refine lv_istore (lv' := [(6, .int 0), (5, .int 0), (4, .int xs0), (0, .ref (ad 0 0)), (1, .ref (ad 5 i1)), (2, va_rf (o2.map (ad 5))), (3, .ref (ad 4 i3))]) hx hb dX8_nationsAtBirth_26 hl (by decide) rfl (fun ls hl => ?_)
  exact w_C_Court_nationsAtBirth_28 C 4096 h hX (lv_sub hl [3, 4, 5, 6, 2, 1, 0] rfl)
def fC_Court_nationsAtBirth (g : CS) (i1 : Nat) (o2 : Option Nat) (i3 : Nat) : Option Int32 :=
  om o2 (
    (ck g 5 i1).bind fun _ =>
    fC_Court_nationsAtBirth_20 g i1 none i3 (sI g 5 i1 8))
    fun v15 =>
    (ck g 5 i1).bind fun _ =>
    (ck g 5 v15).bind fun _ =>
    fC_Court_nationsAtBirth_20 g i1 (some v15) i3 ((sI g 5 i1 8) ||| (sI g 5 v15 8))
set_option maxRecDepth 20000 in
theorem w_C_Court_nationsAtBirth_0 (C : cC p s m args meth c cX8_nationsAtBirth RX8 (some .int) wsX8_nationsAtBirth 8 D yI yO) {rz : Int32} {g : CS} {i1 : Nat} {o2 : Option Nat} {i3 : Nat} (h : fC_Court_nationsAtBirth g i1 o2 i3 = some rz) {H : Heap} {locs : List Loc} {ls : Array Slot} (hX : cX D yI yO z0 ad g A s H locs) (hl : lv_has ls 8 [(0, .ref (ad 0 0)), (1, .ref (ad 5 i1)), (2, va_rf (o2.map (ad 5))), (3, .ref (ad 4 i3))]) : W p l e (mR 3 65) s m args below meth c H locs 0 0 (MQ below (cQ D yI yO z0 ad rz g A) args s 0 0 A) (F0 m 0 ls []) := by
  obtain ⟨hx, hb, hr, hts, hown, hlocks, hml, hK⟩ := id C
  unfold fC_Court_nationsAtBirth at h
  rcases o2 with _ | v15
  · replace h := om_n rfl h
    refine lv_aload_nN hx hb dX8_nationsAtBirth_0 rfl (lv_at hl 2 rfl) ?_
    refine lv_ifnonnullN hx hb dX8_nationsAtBirth_1 ?_
    refine lv_aload_n hx hb dX8_nationsAtBirth_4 rfl (lv_at hl 1 rfl) ?_
    obtain ⟨_, hv16, h⟩ := mbind h
    replace hv16 := ck_spec hv16
    refine cg_get hx hb hts iC_Court_nationsAtBirth_X3 hown hK hX 5 i1 hv16 rfl rfl 8 (by decide) (hts (.fieldLink RX8 124 "PassageCourt$Person" "nations" "I") (by decide +kernel)) (fun _ h9 => h9) rfl dX8_nationsAtBirth_5 ?_
    refine lv_goto (tgt := 20) hx hb dX8_nationsAtBirth_8 (by decide) ?_
    exact w_C_Court_nationsAtBirth_20 C h hX (lv_sub hl [0, 1, 2, 3] rfl)
  · replace h := om_s rfl h
    refine lv_aload_n hx hb dX8_nationsAtBirth_0 rfl (lv_at hl 2 rfl) ?_
    refine lv_ifnonnull (tgt := 11) hx hb dX8_nationsAtBirth_1 (by decide) ?_
    refine lv_aload_n hx hb dX8_nationsAtBirth_11 rfl (lv_at hl 1 rfl) ?_
    obtain ⟨_, hv17, h⟩ := mbind h
    replace hv17 := ck_spec hv17
    refine cg_get hx hb hts iC_Court_nationsAtBirth_X3 hown hK hX 5 i1 hv17 rfl rfl 8 (by decide) (hts (.fieldLink RX8 124 "PassageCourt$Person" "nations" "I") (by decide +kernel)) (fun _ h9 => h9) rfl dX8_nationsAtBirth_12 ?_
    refine lv_aload_n hx hb dX8_nationsAtBirth_15 rfl (lv_at hl 2 rfl) ?_
    obtain ⟨_, hv18, h⟩ := mbind h
    replace hv18 := ck_spec hv18
    refine cg_get hx hb hts iC_Court_nationsAtBirth_X3 hown hK hX 5 v15 hv18 rfl rfl 8 (by decide) (hts (.fieldLink RX8 124 "PassageCourt$Person" "nations" "I") (by decide +kernel)) (fun _ h9 => h9) rfl dX8_nationsAtBirth_16 ?_
    refine lv_ior hx hb dX8_nationsAtBirth_19 ?_
    exact w_C_Court_nationsAtBirth_20 C h hX (lv_sub hl [0, 1, 2, 3] rfl)
set_option maxRecDepth 20000 in
theorem cC_Court_nationsAtBirth (l : Launch) (D : va_G) (yI yO : ClassId) (z0 : Nat) (ad : Nat → Nat → Nat) {g : CS} {rz : Int32} {i1 : Nat} {o2 : Option Nat} {i3 : Nat} (h : fC_Court_nationsAtBirth g i1 o2 i3 = some rz) : Met l yX8_nationsAtBirth wsX8_nationsAtBirth (mR 3 65) (va_Pc [.ref (ad 0 0), .ref (ad 5 i1), va_rf (o2.map (ad 5)), .ref (ad 4 i3)] (cPre D yI yO z0 ad g)) (cQ D yI yO z0 ad rz g (cF ad g)) 0 0 (cF ad g) := by
  refine Met.ofW (cc := cX8_nationsAtBirth) (maxL := 8) (ret := (some .int)) (by decide) rfl ?_
  intro p e s m args below meth c s₁ B hml hv
  obtain ⟨hv0, hw, hK⟩ := hv
  rcases o2 with _ | w
  · skip
    have hv1 : args = [.ref (ad 0 0), .ref (ad 5 i1), .null, .ref (ad 4 i3)].toArray := hv0
    subst hv1
    have C : cC p s m _ meth c cX8_nationsAtBirth RX8 (some .int) wsX8_nationsAtBirth 8 D yI yO := ⟨B.exec, B.bytes, B.returns, atoms_spec (ws := wsX8_nationsAtBirth) B.pre, findClass_of_methodNamed B.named, B.notSynchronized, hml, hK⟩
    have hl := lv_entry ([.ref (ad 0 0), .ref (ad 5 i1), .null, .ref (ad 4 i3)]) (n := 8) (Nat.le_of_ble_eq_true rfl)
    rw [lg_entry_eq]
    generalize (lg_sl ([.ref (ad 0 0), .ref (ad 5 i1), .null, .ref (ad 4 i3)]) ++ List.replicate (8 - (lg_sl ([.ref (ad 0 0), .ref (ad 5 i1), .null, .ref (ad 4 i3)])).length) Slot.unset).toArray = ls at hl ⊢
    have hl : lv_has ls 8 [(0, .ref (ad 0 0)), (1, .ref (ad 5 i1)), (2, .null), (3, .ref (ad 4 i3))] := hl
    exact w_C_Court_nationsAtBirth_0 C h ⟨hw, fun k i hi => ⟨k, i, hi, rfl⟩, va_S.rf⟩ hl
  · skip
    have hv1 : args = [.ref (ad 0 0), .ref (ad 5 i1), .ref (ad 5 w), .ref (ad 4 i3)].toArray := hv0
    subst hv1
    have C : cC p s m _ meth c cX8_nationsAtBirth RX8 (some .int) wsX8_nationsAtBirth 8 D yI yO := ⟨B.exec, B.bytes, B.returns, atoms_spec (ws := wsX8_nationsAtBirth) B.pre, findClass_of_methodNamed B.named, B.notSynchronized, hml, hK⟩
    have hl := lv_entry ([.ref (ad 0 0), .ref (ad 5 i1), .ref (ad 5 w), .ref (ad 4 i3)]) (n := 8) (Nat.le_of_ble_eq_true rfl)
    rw [lg_entry_eq]
    generalize (lg_sl ([.ref (ad 0 0), .ref (ad 5 i1), .ref (ad 5 w), .ref (ad 4 i3)]) ++ List.replicate (8 - (lg_sl ([.ref (ad 0 0), .ref (ad 5 i1), .ref (ad 5 w), .ref (ad 4 i3)])).length) Slot.unset).toArray = ls at hl ⊢
    have hl : lv_has ls 8 [(0, .ref (ad 0 0)), (1, .ref (ad 5 i1)), (2, .ref (ad 5 w)), (3, .ref (ad 4 i3))] := hl
    exact w_C_Court_nationsAtBirth_0 C h ⟨hw, fun k i hi => ⟨k, i, hi, rfl⟩, va_S.rf⟩ hl
theorem iC_Court_statusToday_X3 : ∀ w ∈ wsX30, w ∈ wsX8_statusToday := by decide +kernel
theorem iC_Court_statusToday_X8 : ∀ w ∈ wsX80, w ∈ wsX8_statusToday := by decide +kernel
def fC_Court_statusToday_25 (g : CS) (xs0 : Int32) : Option Int32 :=
  some xs0
set_option maxRecDepth 20000 in
theorem w_C_Court_statusToday_25 (C : cC p s m args meth c cX8_statusToday RX8 (some .int) wsX8_statusToday 2 D yI yO) {rz : Int32} {g : CS} {xs0 : Int32} (h : fC_Court_statusToday_25 g xs0 = some rz) {H : Heap} {locs : List Loc} {ls : Array Slot} (hX : cX D yI yO z0 ad g A s H locs) (hl : lv_has ls 2 [(0, .ref (ad 0 0))]) : W p l e (mR 1 21) s m args below meth c H locs 0 0 (MQ below (cQ D yI yO z0 ad rz g A) args s 0 0 A) (F0 m 25 ls [.int xs0]) := by
  obtain ⟨hx, hb, hr, hts, hown, hlocks, hml, hK⟩ := id C
  unfold fC_Court_statusToday_25 at h
  cases h
  exact cg_reti hx hb hr hlocks hK hX dX8_statusToday_25
def fC_Court_statusToday (g : CS) (i1 : Nat) : Option Int32 :=
  (ck g 5 i1).bind fun _ =>
  om (sJ g 5 i1 9) (
    fC_Court_statusToday_25 g 0)
    fun v3 =>
    (fC_Row_at 9 i1 g (sI g 0 0 6)).bind fun r4 =>
    fC_Court_statusToday_25 g (r4 - r4 / 10 * 10)
set_option maxRecDepth 20000 in
theorem w_C_Court_statusToday_0 (C : cC p s m args meth c cX8_statusToday RX8 (some .int) wsX8_statusToday 2 D yI yO) {rz : Int32} {g : CS} {i1 : Nat} (h : fC_Court_statusToday g i1 = some rz) {H : Heap} {locs : List Loc} {ls : Array Slot} (hX : cX D yI yO z0 ad g A s H locs) (hl : lv_has ls 2 [(0, .ref (ad 0 0)), (1, .ref (ad 5 i1))]) : W p l e (mR 1 21) s m args below meth c H locs 0 0 (MQ below (cQ D yI yO z0 ad rz g A) args s 0 0 A) (F0 m 0 ls []) := by
  obtain ⟨hx, hb, hr, hts, hown, hlocks, hml, hK⟩ := id C
  unfold fC_Court_statusToday at h
  refine lv_aload_n hx hb dX8_statusToday_0 rfl (lv_at hl 1 rfl) ?_
  obtain ⟨_, hv1, h⟩ := mbind h
  replace hv1 := ck_spec hv1
  rcases ho2 : sJ g 5 i1 9 with _ | v3
  · replace h := om_n ho2 h
    refine cg_get hx hb hts iC_Court_statusToday_X3 hown hK hX 5 i1 hv1 rfl rfl 9 (by decide) (hts (.fieldLink RX8 110 "PassageCourt$Person" "there" "LPassageCourt$Land;") (by decide +kernel)) (fun _ h9 => h9) (v := .null) (by rw [ho2]; rfl) dX8_statusToday_1 ?_
    refine lv_ifnonnullN hx hb dX8_statusToday_4 ?_
    refine lv_iconst (v := 0) hx hb dX8_statusToday_7 (by decide) ?_
    refine lv_goto (tgt := 25) hx hb dX8_statusToday_8 (by decide) ?_
    exact w_C_Court_statusToday_25 C h hX (lv_sub hl [0] rfl)
  · replace h := om_s ho2 h
    refine cg_get hx hb hts iC_Court_statusToday_X3 hown hK hX 5 i1 hv1 rfl rfl 9 (by decide) (hts (.fieldLink RX8 110 "PassageCourt$Person" "there" "LPassageCourt$Land;") (by decide +kernel)) (fun _ h9 => h9) (v := .ref (ad 4 v3)) (by rw [ho2]; rfl) dX8_statusToday_1 ?_
    refine lv_ifnonnull (tgt := 11) hx hb dX8_statusToday_4 (by decide) ?_
    refine lv_aload_n hx hb dX8_statusToday_11 rfl (lv_at hl 1 rfl) ?_
    refine cg_get hx hb hts iC_Court_statusToday_X3 hown hK hX 5 i1 hv1 rfl rfl 4 (by decide) (hts (.fieldLink RX8 322 "PassageCourt$Person" "days" "LPassageCourt$Row;") (by decide +kernel)) (fun _ h9 => h9) rfl dX8_statusToday_12 ?_
    refine lv_aload_n hx hb dX8_statusToday_15 rfl (lv_at hl 0 rfl) ?_
    refine cg_get hx hb hts iC_Court_statusToday_X8 hown hK hX 0 0 rfl rfl rfl 6 (by decide) (hts (.fieldLink RX8 37 "PassageCourt" "today" "I") (by decide +kernel)) (fun _ h9 => h9) rfl dX8_statusToday_16 ?_
    obtain ⟨r4, er4, h⟩ := mbind h
    refine cg_callV (As := [.int (sI g 0 0 6)]) (rest := []) ⟨hx, hb, hml, hown, hts⟩ 9 i1 hv1 (ci := 6) rfl rfl (cC_Row_at l D yI yO z0 ad ⟨by decide, by decide⟩ er4) (cwV 1 hts gX8_statusToday_X5_at rfl rfl rfl (by decide +kernel) ⟨Nat.le_of_ble_eq_true rfl, Nat.le_of_ble_eq_true rfl⟩) hK hX rfl hl.1 rfl (Nat.le_of_ble_eq_true rfl) dX8_statusToday_19 ⟨Nat.zero_le _, Nat.zero_le _⟩ (fun H locs hX => ?_)
    refine lv_bipush (v := 10) hx hb dX8_statusToday_22 (by decide) ?_
    refine lv_irem hx hb dX8_statusToday_24 (by decide) ?_
    exact w_C_Court_statusToday_25 C h hX (lv_sub hl [0] rfl)
set_option maxRecDepth 20000 in
theorem cC_Court_statusToday (l : Launch) (D : va_G) (yI yO : ClassId) (z0 : Nat) (ad : Nat → Nat → Nat) {g : CS} {rz : Int32} {i1 : Nat} (h : fC_Court_statusToday g i1 = some rz) : Met l yX8_statusToday wsX8_statusToday (mR 1 21) (va_Pc [.ref (ad 0 0), .ref (ad 5 i1)] (cPre D yI yO z0 ad g)) (cQ D yI yO z0 ad rz g (cF ad g)) 0 0 (cF ad g) := by
  refine Met.ofW (cc := cX8_statusToday) (maxL := 2) (ret := (some .int)) (by decide) rfl ?_
  intro p e s m args below meth c s₁ B hml hv
  obtain ⟨hv0, hw, hK⟩ := hv
  have hv1 : args = [.ref (ad 0 0), .ref (ad 5 i1)].toArray := hv0
  subst hv1
  have C : cC p s m _ meth c cX8_statusToday RX8 (some .int) wsX8_statusToday 2 D yI yO := ⟨B.exec, B.bytes, B.returns, atoms_spec (ws := wsX8_statusToday) B.pre, findClass_of_methodNamed B.named, B.notSynchronized, hml, hK⟩
  have hl := lv_entry ([.ref (ad 0 0), .ref (ad 5 i1)]) (n := 2) (Nat.le_of_ble_eq_true rfl)
  rw [lg_entry_eq]
  generalize (lg_sl ([.ref (ad 0 0), .ref (ad 5 i1)]) ++ List.replicate (2 - (lg_sl ([.ref (ad 0 0), .ref (ad 5 i1)])).length) Slot.unset).toArray = ls at hl ⊢
  have hl : lv_has ls 2 [(0, .ref (ad 0 0)), (1, .ref (ad 5 i1))] := hl
  exact w_C_Court_statusToday_0 C h ⟨hw, fun k i hi => ⟨k, i, hi, rfl⟩, va_S.rf⟩ hl
theorem iC_Court_overstayedDays_X3 : ∀ w ∈ wsX30, w ∈ wsX8_overstayedDays := by decide +kernel
theorem iC_Court_overstayedDays_X8 : ∀ w ∈ wsX80, w ∈ wsX8_overstayedDays := by decide +kernel
def fC_Court_overstayedDays_33 (rec7 : CS → Nat → Int32 → Int32 → Option Int32) (g : CS) (i1 : Nat) (x2 : Int32) (x3 : Int32) : Option Int32 :=
  rec7 g i1 x2 (x3 + 1)
set_option maxRecDepth 20000 in
theorem w_C_Court_overstayedDays_33 (C : cC p s m args meth c cX8_overstayedDays RX8 (some .int) wsX8_overstayedDays 4 D yI yO) {rz : Int32} {g : CS} {rec7 : CS → Nat → Int32 → Int32 → Option Int32} (hrec7 : ∀ {i1 : Nat} {x2 : Int32} {x3 : Int32}  (_ : rec7 g i1 x2 x3 = some rz) {H : Heap} {locs : List Loc} {ls : Array Slot} (_ : cX D yI yO z0 ad g A s H locs) (_ : lv_has ls 4 [(0, .ref (ad 0 0)), (1, .ref (ad 5 i1)), (2, .int x2), (3, .int x3)]), W p l e (mR 1 21) s m args below meth c H locs 0 0 (MQ below (cQ D yI yO z0 ad rz g A) args s 0 0 A) (F0 m 7 ls [])) {i1 : Nat} {x2 : Int32} {x3 : Int32} (h : fC_Court_overstayedDays_33 rec7 g i1 x2 x3 = some rz) {H : Heap} {locs : List Loc} {ls : Array Slot} (hX : cX D yI yO z0 ad g A s H locs) (hl : lv_has ls 4 [(0, .ref (ad 0 0)), (1, .ref (ad 5 i1)), (2, .int x2), (3, .int x3)]) : W p l e (mR 1 21) s m args below meth c H locs 0 0 (MQ below (cQ D yI yO z0 ad rz g A) args s 0 0 A) (F0 m 33 ls []) := by
  obtain ⟨hx, hb, hr, hts, hown, hlocks, hml, hK⟩ := id C
  unfold fC_Court_overstayedDays_33 at h
  refine lv_iinc (v := x3 + 1) (lv' := [(3, .int (x3 + 1)), (0, .ref (ad 0 0)), (1, .ref (ad 5 i1)), (2, .int x2)]) hx hb dX8_overstayedDays_33 hl (k := 3) rfl rfl (by decide) rfl (fun ls hl => ?_)
  refine lv_goto (tgt := 7) hx hb dX8_overstayedDays_36 (by decide) ?_
  exact hrec7 h hX (lv_sub hl [1, 2, 3, 0] rfl)
def fC_Court_overstayedDays_7 : Nat → CS → Nat → Int32 → Int32 → Option Int32
  | 0, _, _, _, _ => none
  | n + 1, g, i1, x2, x3 =>
    if (sI g 0 0 6) < x3 then
      some x2
    else
      (ck g 5 i1).bind fun _ =>
      (fC_Row_at 9 i1 g x3).bind fun r3 =>
      if (r3 - r3 / 10 * 10) = 4 then
        fC_Court_overstayedDays_33 (fC_Court_overstayedDays_7 n) g i1 (x2 + 1) x3
      else
        fC_Court_overstayedDays_33 (fC_Court_overstayedDays_7 n) g i1 x2 x3
set_option maxRecDepth 20000 in
theorem w_C_Court_overstayedDays_7 (C : cC p s m args meth c cX8_overstayedDays RX8 (some .int) wsX8_overstayedDays 4 D yI yO) {rz : Int32} {g : CS} : ∀ (n : Nat) {i1 : Nat} {x2 : Int32} {x3 : Int32} (h : fC_Court_overstayedDays_7 n g i1 x2 x3 = some rz) {H : Heap} {locs : List Loc} {ls : Array Slot} (hX : cX D yI yO z0 ad g A s H locs) (hl : lv_has ls 4 [(0, .ref (ad 0 0)), (1, .ref (ad 5 i1)), (2, .int x2), (3, .int x3)]), W p l e (mR 1 21) s m args below meth c H locs 0 0 (MQ below (cQ D yI yO z0 ad rz g A) args s 0 0 A) (F0 m 7 ls []) := by
  obtain ⟨hx, hb, hr, hts, hown, hlocks, hml, hK⟩ := id C
  intro n
  induction n with
  | zero =>
    intro i1 x2 x3 h
    cases (show (none : Option _) = _ from h)
  | succ n ih =>
    intro i1 x2 x3 h H locs ls hX hl
    rw [fC_Court_overstayedDays_7] at h
    refine lv_iload_n hx hb dX8_overstayedDays_7 rfl (lv_at hl 3 rfl) ?_
    refine lv_aload_n hx hb dX8_overstayedDays_8 rfl (lv_at hl 0 rfl) ?_
    refine cg_get hx hb hts iC_Court_overstayedDays_X8 hown hK hX 0 0 rfl rfl rfl 6 (by decide) (hts (.fieldLink RX8 37 "PassageCourt" "today" "I") (by decide +kernel)) (fun _ h9 => h9) rfl dX8_overstayedDays_9 ?_
    refine lv_icmp_gt (tgt := 39) hx hb dX8_overstayedDays_12 (by decide) (fun c1 => ?_) (fun c1 => ?_)
    · replace h := mpos c1 h
      refine lv_iload_n hx hb dX8_overstayedDays_39 rfl (lv_at hl 2 rfl) ?_
      cases h
      exact cg_reti hx hb hr hlocks hK hX dX8_overstayedDays_40
    · replace h := mneg c1 h
      refine lv_aload_n hx hb dX8_overstayedDays_15 rfl (lv_at hl 1 rfl) ?_
      obtain ⟨_, hv2, h⟩ := mbind h
      replace hv2 := ck_spec hv2
      refine cg_get hx hb hts iC_Court_overstayedDays_X3 hown hK hX 5 i1 hv2 rfl rfl 4 (by decide) (hts (.fieldLink RX8 322 "PassageCourt$Person" "days" "LPassageCourt$Row;") (by decide +kernel)) (fun _ h9 => h9) rfl dX8_overstayedDays_16 ?_
      refine lv_iload_n hx hb dX8_overstayedDays_19 rfl (lv_at hl 3 rfl) ?_
      obtain ⟨r3, er3, h⟩ := mbind h
      refine cg_callV (As := [.int x3]) (rest := []) ⟨hx, hb, hml, hown, hts⟩ 9 i1 hv2 (ci := 6) rfl rfl (cC_Row_at l D yI yO z0 ad ⟨by decide, by decide⟩ er3) (cwV 1 hts gX8_overstayedDays_X5_at rfl rfl rfl (by decide +kernel) ⟨Nat.le_of_ble_eq_true rfl, Nat.le_of_ble_eq_true rfl⟩) hK hX rfl hl.1 rfl (Nat.le_of_ble_eq_true rfl) dX8_overstayedDays_20 ⟨Nat.zero_le _, Nat.zero_le _⟩ (fun H locs hX => ?_)
      refine lv_bipush (v := 10) hx hb dX8_overstayedDays_23 (by decide) ?_
      refine lv_irem hx hb dX8_overstayedDays_25 (by decide) ?_
      refine lv_iconst (v := 4) hx hb dX8_overstayedDays_26 (by decide) ?_
      refine lv_icmp_ne (tgt := 33) hx hb dX8_overstayedDays_27 (by decide) (fun c4 => ?_) (fun c4 => ?_)
      · replace h := mneg c4 h
        exact w_C_Court_overstayedDays_33 C ih h hX (lv_sub hl [0, 1, 2, 3] rfl)
      · replace h := mpos c4 h
        refine lv_iinc (v := x2 + 1) (lv' := [(2, .int (x2 + 1)), (0, .ref (ad 0 0)), (1, .ref (ad 5 i1)), (3, .int x3)]) hx hb dX8_overstayedDays_30 hl (k := 2) rfl rfl (by decide) rfl (fun ls hl => ?_)
        exact w_C_Court_overstayedDays_33 C ih h hX (lv_sub hl [1, 2, 0, 3] rfl)
def fC_Court_overstayedDays (g : CS) (i1 : Nat) : Option Int32 :=
  (ck g 5 i1).bind fun _ =>
  fC_Court_overstayedDays_7 4096 g i1 0 (sI g 5 i1 12)
set_option maxRecDepth 20000 in
theorem w_C_Court_overstayedDays_0 (C : cC p s m args meth c cX8_overstayedDays RX8 (some .int) wsX8_overstayedDays 4 D yI yO) {rz : Int32} {g : CS} {i1 : Nat} (h : fC_Court_overstayedDays g i1 = some rz) {H : Heap} {locs : List Loc} {ls : Array Slot} (hX : cX D yI yO z0 ad g A s H locs) (hl : lv_has ls 4 [(0, .ref (ad 0 0)), (1, .ref (ad 5 i1))]) : W p l e (mR 1 21) s m args below meth c H locs 0 0 (MQ below (cQ D yI yO z0 ad rz g A) args s 0 0 A) (F0 m 0 ls []) := by
  obtain ⟨hx, hb, hr, hts, hown, hlocks, hml, hK⟩ := id C
  unfold fC_Court_overstayedDays at h
  refine lv_iconst (v := 0) hx hb dX8_overstayedDays_0 (by decide) ?_
  refine lv_istore_n (lv' := [(2, .int 0), (0, .ref (ad 0 0)), (1, .ref (ad 5 i1))]) hx hb dX8_overstayedDays_1 rfl hl (by decide) rfl (fun ls hl => ?_)
  refine lv_aload_n hx hb dX8_overstayedDays_2 rfl (lv_at hl 2 rfl) ?_
  obtain ⟨_, hv5, h⟩ := mbind h
  replace hv5 := ck_spec hv5
  refine cg_get hx hb hts iC_Court_overstayedDays_X3 hown hK hX 5 i1 hv5 rfl rfl 12 (by decide) (hts (.fieldLink RX8 374 "PassageCourt$Person" "stayFrom" "I") (by decide +kernel)) (fun _ h9 => h9) rfl dX8_overstayedDays_3 ?_
  refine lv_istore_n (lv' := [(3, .int (sI g 5 i1 12)), (2, .int 0), (0, .ref (ad 0 0)), (1, .ref (ad 5 i1))]) hx hb dX8_overstayedDays_6 rfl hl (by decide) rfl (fun ls hl => ?_)
  exact w_C_Court_overstayedDays_7 C 4096 h hX (lv_sub hl [2, 3, 1, 0] rfl)
set_option maxRecDepth 20000 in
theorem cC_Court_overstayedDays (l : Launch) (D : va_G) (yI yO : ClassId) (z0 : Nat) (ad : Nat → Nat → Nat) {g : CS} {rz : Int32} {i1 : Nat} (h : fC_Court_overstayedDays g i1 = some rz) : Met l yX8_overstayedDays wsX8_overstayedDays (mR 1 21) (va_Pc [.ref (ad 0 0), .ref (ad 5 i1)] (cPre D yI yO z0 ad g)) (cQ D yI yO z0 ad rz g (cF ad g)) 0 0 (cF ad g) := by
  refine Met.ofW (cc := cX8_overstayedDays) (maxL := 4) (ret := (some .int)) (by decide) rfl ?_
  intro p e s m args below meth c s₁ B hml hv
  obtain ⟨hv0, hw, hK⟩ := hv
  have hv1 : args = [.ref (ad 0 0), .ref (ad 5 i1)].toArray := hv0
  subst hv1
  have C : cC p s m _ meth c cX8_overstayedDays RX8 (some .int) wsX8_overstayedDays 4 D yI yO := ⟨B.exec, B.bytes, B.returns, atoms_spec (ws := wsX8_overstayedDays) B.pre, findClass_of_methodNamed B.named, B.notSynchronized, hml, hK⟩
  have hl := lv_entry ([.ref (ad 0 0), .ref (ad 5 i1)]) (n := 4) (Nat.le_of_ble_eq_true rfl)
  rw [lg_entry_eq]
  generalize (lg_sl ([.ref (ad 0 0), .ref (ad 5 i1)]) ++ List.replicate (4 - (lg_sl ([.ref (ad 0 0), .ref (ad 5 i1)])).length) Slot.unset).toArray = ls at hl ⊢
  have hl : lv_has ls 4 [(0, .ref (ad 0 0)), (1, .ref (ad 5 i1))] := hl
  exact w_C_Court_overstayedDays_0 C h ⟨hw, fun k i hi => ⟨k, i, hi, rfl⟩, va_S.rf⟩ hl
theorem iC_Court_wasThereEnough_X1 : ∀ w ∈ wsX10, w ∈ wsX8_wasThereEnough := by decide +kernel
theorem iC_Court_wasThereEnough_X3 : ∀ w ∈ wsX30, w ∈ wsX8_wasThereEnough := by decide +kernel
theorem iC_Court_wasThereEnough_X8 : ∀ w ∈ wsX80, w ∈ wsX8_wasThereEnough := by decide +kernel
def fC_Court_wasThereEnough_87 (g : CS) (xs0 : Int32) : Option Int32 :=
  (mbo xs0).bind fun b1 => some b1
set_option maxRecDepth 20000 in
theorem w_C_Court_wasThereEnough_87 (C : cC p s m args meth c cX8_wasThereEnough RX8 (some .boolean) wsX8_wasThereEnough 7 D yI yO) {rz : Int32} {g : CS} {xs0 : Int32} (h : fC_Court_wasThereEnough_87 g xs0 = some rz) {H : Heap} {locs : List Loc} {ls : Array Slot} (hX : cX D yI yO z0 ad g A s H locs) (hl : lv_has ls 7 [(0, .ref (ad 0 0))]) : W p l e (mR 1 21) s m args below meth c H locs 0 0 (MQ below (cQ D yI yO z0 ad rz g A) args s 0 0 A) (F0 m 87 ls [.int xs0]) := by
  obtain ⟨hx, hb, hr, hts, hown, hlocks, hml, hK⟩ := id C
  unfold fC_Court_wasThereEnough_87 at h
  obtain ⟨b1, eb1, h⟩ := mbind h
  cases h
  exact cg_retz hx hb hr hlocks hK hX dX8_wasThereEnough_87 eb1
def fC_Court_wasThereEnough_66 (rec26 : CS → Nat → Nat → Int32 → Int32 → Int32 → Option Int32) (g : CS) (i1 : Nat) (i2 : Nat) (x3 : Int32) (x4 : Int32) (x5 : Int32) : Option Int32 :=
  rec26 g i1 i2 x3 x4 (x5 + 1)
set_option maxRecDepth 20000 in
theorem w_C_Court_wasThereEnough_66 (C : cC p s m args meth c cX8_wasThereEnough RX8 (some .boolean) wsX8_wasThereEnough 7 D yI yO) {rz : Int32} {g : CS} {rec26 : CS → Nat → Nat → Int32 → Int32 → Int32 → Option Int32} (hrec26 : ∀ {i1 : Nat} {i2 : Nat} {x3 : Int32} {x4 : Int32} {x5 : Int32}  (_ : rec26 g i1 i2 x3 x4 x5 = some rz) {H : Heap} {locs : List Loc} {ls : Array Slot} (_ : cX D yI yO z0 ad g A s H locs) (_ : lv_has ls 7 [(0, .ref (ad 0 0)), (1, .ref (ad 5 i1)), (2, .ref (ad 4 i2)), (3, .int x3), (4, .int x4), (5, .int x5)]), W p l e (mR 1 21) s m args below meth c H locs 0 0 (MQ below (cQ D yI yO z0 ad rz g A) args s 0 0 A) (F0 m 26 ls [])) {i1 : Nat} {i2 : Nat} {x3 : Int32} {x4 : Int32} {x5 : Int32} (h : fC_Court_wasThereEnough_66 rec26 g i1 i2 x3 x4 x5 = some rz) {H : Heap} {locs : List Loc} {ls : Array Slot} (hX : cX D yI yO z0 ad g A s H locs) (hl : lv_has ls 7 [(0, .ref (ad 0 0)), (1, .ref (ad 5 i1)), (2, .ref (ad 4 i2)), (3, .int x3), (4, .int x4), (5, .int x5)]) : W p l e (mR 1 21) s m args below meth c H locs 0 0 (MQ below (cQ D yI yO z0 ad rz g A) args s 0 0 A) (F0 m 66 ls []) := by
  obtain ⟨hx, hb, hr, hts, hown, hlocks, hml, hK⟩ := id C
  unfold fC_Court_wasThereEnough_66 at h
  refine lv_iinc (v := x5 + 1) (lv' := [(5, .int (x5 + 1)), (0, .ref (ad 0 0)), (1, .ref (ad 5 i1)), (2, .ref (ad 4 i2)), (3, .int x3), (4, .int x4)]) hx hb dX8_wasThereEnough_66 hl (k := 5) rfl rfl (by decide) rfl (fun ls hl => ?_)
  refine lv_goto (tgt := 26) hx hb dX8_wasThereEnough_69 (by decide) ?_
  exact hrec26 h hX (lv_sub hl [1, 2, 3, 4, 5, 0] rfl)
def fC_Court_wasThereEnough_26 : Nat → CS → Nat → Nat → Int32 → Int32 → Int32 → Option Int32
  | 0, _, _, _, _, _, _ => none
  | n + 1, g, i1, i2, x3, x4, x5 =>
    if (sI g 0 0 6) < x5 then
      if x4 < ((x3 + 1) / 2) then
        fC_Court_wasThereEnough_87 g 0
      else
        fC_Court_wasThereEnough_87 g 1
    else
      (ck g 5 i1).bind fun _ =>
      (fC_Row_at 9 i1 g x5).bind fun r5 =>
      if r5 = 0 then
        fC_Court_wasThereEnough_66 (fC_Court_wasThereEnough_26 n) g i1 i2 x3 x4 x5
      else
        (ck g 4 i2).bind fun _ =>
        if (r5 / 10) = (sI g 4 i2 0) then
          fC_Court_wasThereEnough_66 (fC_Court_wasThereEnough_26 n) g i1 i2 x3 (x4 + 1) x5
        else
          fC_Court_wasThereEnough_66 (fC_Court_wasThereEnough_26 n) g i1 i2 x3 x4 x5
set_option maxRecDepth 20000 in
theorem w_C_Court_wasThereEnough_26 (C : cC p s m args meth c cX8_wasThereEnough RX8 (some .boolean) wsX8_wasThereEnough 7 D yI yO) {rz : Int32} {g : CS} : ∀ (n : Nat) {i1 : Nat} {i2 : Nat} {x3 : Int32} {x4 : Int32} {x5 : Int32} (h : fC_Court_wasThereEnough_26 n g i1 i2 x3 x4 x5 = some rz) {H : Heap} {locs : List Loc} {ls : Array Slot} (hX : cX D yI yO z0 ad g A s H locs) (hl : lv_has ls 7 [(0, .ref (ad 0 0)), (1, .ref (ad 5 i1)), (2, .ref (ad 4 i2)), (3, .int x3), (4, .int x4), (5, .int x5)]), W p l e (mR 1 21) s m args below meth c H locs 0 0 (MQ below (cQ D yI yO z0 ad rz g A) args s 0 0 A) (F0 m 26 ls []) := by
  obtain ⟨hx, hb, hr, hts, hown, hlocks, hml, hK⟩ := id C
  intro n
  induction n with
  | zero =>
    intro i1 i2 x3 x4 x5 h
    cases (show (none : Option _) = _ from h)
  | succ n ih =>
    intro i1 i2 x3 x4 x5 h H locs ls hX hl
    rw [fC_Court_wasThereEnough_26] at h
    refine lv_iload hx hb dX8_wasThereEnough_26 (lv_at hl 5 rfl) ?_
    refine lv_aload_n hx hb dX8_wasThereEnough_28 rfl (lv_at hl 0 rfl) ?_
    refine cg_get hx hb hts iC_Court_wasThereEnough_X8 hown hK hX 0 0 rfl rfl rfl 6 (by decide) (hts (.fieldLink RX8 37 "PassageCourt" "today" "I") (by decide +kernel)) (fun _ h9 => h9) rfl dX8_wasThereEnough_29 ?_
    refine lv_icmp_gt (tgt := 72) hx hb dX8_wasThereEnough_32 (by decide) (fun c2 => ?_) (fun c2 => ?_)
    · replace h := mpos c2 h
      refine lv_iload hx hb dX8_wasThereEnough_72 (lv_at hl 4 rfl) ?_
      refine lv_iload_n hx hb dX8_wasThereEnough_74 rfl (lv_at hl 3 rfl) ?_
      refine lv_iconst (v := 1) hx hb dX8_wasThereEnough_75 (by decide) ?_
      refine lv_iadd hx hb dX8_wasThereEnough_76 ?_
      refine lv_iconst (v := 2) hx hb dX8_wasThereEnough_77 (by decide) ?_
      refine lv_idiv hx hb dX8_wasThereEnough_78 (by decide) ?_
      refine lv_icmp_lt (tgt := 86) hx hb dX8_wasThereEnough_79 (by decide) (fun c3 => ?_) (fun c3 => ?_)
      · replace h := mpos c3 h
        refine lv_iconst (v := 0) hx hb dX8_wasThereEnough_86 (by decide) ?_
        exact w_C_Court_wasThereEnough_87 C h hX (lv_sub hl [0] rfl)
      · replace h := mneg c3 h
        refine lv_iconst (v := 1) hx hb dX8_wasThereEnough_82 (by decide) ?_
        refine lv_goto (tgt := 87) hx hb dX8_wasThereEnough_83 (by decide) ?_
        exact w_C_Court_wasThereEnough_87 C h hX (lv_sub hl [0] rfl)
    · replace h := mneg c2 h
      refine lv_aload_n hx hb dX8_wasThereEnough_35 rfl (lv_at hl 1 rfl) ?_
      obtain ⟨_, hv4, h⟩ := mbind h
      replace hv4 := ck_spec hv4
      refine cg_get hx hb hts iC_Court_wasThereEnough_X3 hown hK hX 5 i1 hv4 rfl rfl 4 (by decide) (hts (.fieldLink RX8 322 "PassageCourt$Person" "days" "LPassageCourt$Row;") (by decide +kernel)) (fun _ h9 => h9) rfl dX8_wasThereEnough_36 ?_
      refine lv_iload hx hb dX8_wasThereEnough_39 (lv_at hl 5 rfl) ?_
      obtain ⟨r5, er5, h⟩ := mbind h
      refine cg_callV (As := [.int x5]) (rest := []) ⟨hx, hb, hml, hown, hts⟩ 9 i1 hv4 (ci := 6) rfl rfl (cC_Row_at l D yI yO z0 ad ⟨by decide, by decide⟩ er5) (cwV 1 hts gX8_wasThereEnough_X5_at rfl rfl rfl (by decide +kernel) ⟨Nat.le_of_ble_eq_true rfl, Nat.le_of_ble_eq_true rfl⟩) hK hX rfl hl.1 rfl (Nat.le_of_ble_eq_true rfl) dX8_wasThereEnough_41 ⟨Nat.zero_le _, Nat.zero_le _⟩ (fun H locs hX => ?_)
      refine lv_istore (lv' := [(6, .int r5), (0, .ref (ad 0 0)), (1, .ref (ad 5 i1)), (2, .ref (ad 4 i2)), (3, .int x3), (4, .int x4), (5, .int x5)]) hx hb dX8_wasThereEnough_44 hl (by decide) rfl (fun ls hl => ?_)
      refine lv_iload hx hb dX8_wasThereEnough_46 (lv_at hl 0 rfl) ?_
      refine lv_if_eq (tgt := 66) hx hb dX8_wasThereEnough_48 (by decide) (fun c6 => ?_) (fun c6 => ?_)
      · replace h := mpos c6 h
        exact w_C_Court_wasThereEnough_66 C ih h hX (lv_sub hl [1, 2, 3, 4, 5, 6] rfl)
      · replace h := mneg c6 h
        refine lv_iload hx hb dX8_wasThereEnough_51 (lv_at hl 0 rfl) ?_
        refine lv_bipush (v := 10) hx hb dX8_wasThereEnough_53 (by decide) ?_
        refine lv_idiv hx hb dX8_wasThereEnough_55 (by decide) ?_
        refine lv_aload_n hx hb dX8_wasThereEnough_56 rfl (lv_at hl 3 rfl) ?_
        obtain ⟨_, hv7, h⟩ := mbind h
        replace hv7 := ck_spec hv7
        refine cg_get hx hb hts iC_Court_wasThereEnough_X1 hown hK hX 4 i2 hv7 rfl rfl 0 (by decide) (hts (.fieldLink RX8 66 "PassageCourt$Land" "number" "I") (by decide +kernel)) (fun _ h9 => h9) rfl dX8_wasThereEnough_57 ?_
        refine lv_icmp_ne (tgt := 66) hx hb dX8_wasThereEnough_60 (by decide) (fun c8 => ?_) (fun c8 => ?_)
        · replace h := mneg c8 h
          exact w_C_Court_wasThereEnough_66 C ih h hX (lv_sub hl [1, 2, 3, 4, 5, 6] rfl)
        · replace h := mpos c8 h
          refine lv_iinc (v := x4 + 1) (lv' := [(4, .int (x4 + 1)), (6, .int r5), (0, .ref (ad 0 0)), (1, .ref (ad 5 i1)), (2, .ref (ad 4 i2)), (3, .int x3), (5, .int x5)]) hx hb dX8_wasThereEnough_63 hl (k := 5) rfl rfl (by decide) rfl (fun ls hl => ?_)
          exact w_C_Court_wasThereEnough_66 C ih h hX (lv_sub hl [2, 3, 4, 5, 0, 6] rfl)
def fC_Court_wasThereEnough (g : CS) (i1 : Nat) (i2 : Nat) : Option Int32 :=
  fC_Court_wasThereEnough_26 4096 g i1 i2 (if ((sI g 0 0 6) + 1) < 360 then ((sI g 0 0 6) + 1) else 360) 0 (((sI g 0 0 6) - (if ((sI g 0 0 6) + 1) < 360 then ((sI g 0 0 6) + 1) else 360)) + 1)
set_option maxRecDepth 20000 in
theorem w_C_Court_wasThereEnough_0 (C : cC p s m args meth c cX8_wasThereEnough RX8 (some .boolean) wsX8_wasThereEnough 7 D yI yO) {rz : Int32} {g : CS} {i1 : Nat} {i2 : Nat} (h : fC_Court_wasThereEnough g i1 i2 = some rz) {H : Heap} {locs : List Loc} {ls : Array Slot} (hX : cX D yI yO z0 ad g A s H locs) (hl : lv_has ls 7 [(0, .ref (ad 0 0)), (1, .ref (ad 5 i1)), (2, .ref (ad 4 i2))]) : W p l e (mR 1 21) s m args below meth c H locs 0 0 (MQ below (cQ D yI yO z0 ad rz g A) args s 0 0 A) (F0 m 0 ls []) := by
  obtain ⟨hx, hb, hr, hts, hown, hlocks, hml, hK⟩ := id C
  unfold fC_Court_wasThereEnough at h
  refine lv_sipush (v := 360) hx hb dX8_wasThereEnough_0 (by decide) ?_
  refine lv_aload_n hx hb dX8_wasThereEnough_3 rfl (lv_at hl 0 rfl) ?_
  refine cg_get hx hb hts iC_Court_wasThereEnough_X8 hown hK hX 0 0 rfl rfl rfl 6 (by decide) (hts (.fieldLink RX8 37 "PassageCourt" "today" "I") (by decide +kernel)) (fun _ h9 => h9) rfl dX8_wasThereEnough_4 ?_
  refine lv_iconst (v := 1) hx hb dX8_wasThereEnough_7 (by decide) ?_
  refine lv_iadd hx hb dX8_wasThereEnough_8 ?_
  refine va_mmin hx hb (hml.trans hl.1.symm) hown (hts (.methodLink RX8 179 Lib.Math.min.name) (by decide +kernel)) (hts (.static Lib.Math.min.name) (by decide +kernel)) (hts (.initialized "java/lang/Math") (by decide +kernel)) (hts (.code Lib.Math.min.name Lib.Math.min.code 2 (some .int)) (by decide +kernel)) (Nat.le_of_ble_eq_true rfl) (Nat.le_of_ble_eq_true rfl) (Nat.le_of_ble_eq_true rfl) (Nat.le_of_ble_eq_true rfl) dX8_wasThereEnough_9 ?_
  refine lv_istore_n (lv' := [(3, .int (if ((sI g 0 0 6) + 1) < 360 then ((sI g 0 0 6) + 1) else 360)), (0, .ref (ad 0 0)), (1, .ref (ad 5 i1)), (2, .ref (ad 4 i2))]) hx hb dX8_wasThereEnough_12 rfl hl (by decide) rfl (fun ls hl => ?_)
  refine lv_iconst (v := 0) hx hb dX8_wasThereEnough_13 (by decide) ?_
  refine lv_istore (lv' := [(4, .int 0), (3, .int (if ((sI g 0 0 6) + 1) < 360 then ((sI g 0 0 6) + 1) else 360)), (0, .ref (ad 0 0)), (1, .ref (ad 5 i1)), (2, .ref (ad 4 i2))]) hx hb dX8_wasThereEnough_14 hl (by decide) rfl (fun ls hl => ?_)
  refine lv_aload_n hx hb dX8_wasThereEnough_16 rfl (lv_at hl 2 rfl) ?_
  refine cg_get hx hb hts iC_Court_wasThereEnough_X8 hown hK hX 0 0 rfl rfl rfl 6 (by decide) (hts (.fieldLink RX8 37 "PassageCourt" "today" "I") (by decide +kernel)) (fun _ h9 => h9) rfl dX8_wasThereEnough_17 ?_
  refine lv_iload_n hx hb dX8_wasThereEnough_20 rfl (lv_at hl 1 rfl) ?_
  refine lv_isub hx hb dX8_wasThereEnough_21 ?_
  refine lv_iconst (v := 1) hx hb dX8_wasThereEnough_22 (by decide) ?_
  refine lv_iadd hx hb dX8_wasThereEnough_23 ?_
  refine lv_istore (lv' := [(5, .int (((sI g 0 0 6) - (if ((sI g 0 0 6) + 1) < 360 then ((sI g 0 0 6) + 1) else 360)) + 1)), (4, .int 0), (3, .int (if ((sI g 0 0 6) + 1) < 360 then ((sI g 0 0 6) + 1) else 360)), (0, .ref (ad 0 0)), (1, .ref (ad 5 i1)), (2, .ref (ad 4 i2))]) hx hb dX8_wasThereEnough_24 hl (by decide) rfl (fun ls hl => ?_)
  exact w_C_Court_wasThereEnough_26 C 4096 h hX (lv_sub hl [3, 4, 5, 2, 1, 0] rfl)
set_option maxRecDepth 20000 in
theorem cC_Court_wasThereEnough (l : Launch) (D : va_G) (yI yO : ClassId) (z0 : Nat) (ad : Nat → Nat → Nat) {g : CS} {rz : Int32} {i1 : Nat} {i2 : Nat} (h : fC_Court_wasThereEnough g i1 i2 = some rz) : Met l yX8_wasThereEnough wsX8_wasThereEnough (mR 1 21) (va_Pc [.ref (ad 0 0), .ref (ad 5 i1), .ref (ad 4 i2)] (cPre D yI yO z0 ad g)) (cQ D yI yO z0 ad rz g (cF ad g)) 0 0 (cF ad g) := by
  refine Met.ofW (cc := cX8_wasThereEnough) (maxL := 7) (ret := (some .boolean)) (by decide) rfl ?_
  intro p e s m args below meth c s₁ B hml hv
  obtain ⟨hv0, hw, hK⟩ := hv
  have hv1 : args = [.ref (ad 0 0), .ref (ad 5 i1), .ref (ad 4 i2)].toArray := hv0
  subst hv1
  have C : cC p s m _ meth c cX8_wasThereEnough RX8 (some .boolean) wsX8_wasThereEnough 7 D yI yO := ⟨B.exec, B.bytes, B.returns, atoms_spec (ws := wsX8_wasThereEnough) B.pre, findClass_of_methodNamed B.named, B.notSynchronized, hml, hK⟩
  have hl := lv_entry ([.ref (ad 0 0), .ref (ad 5 i1), .ref (ad 4 i2)]) (n := 7) (Nat.le_of_ble_eq_true rfl)
  rw [lg_entry_eq]
  generalize (lg_sl ([.ref (ad 0 0), .ref (ad 5 i1), .ref (ad 4 i2)]) ++ List.replicate (7 - (lg_sl ([.ref (ad 0 0), .ref (ad 5 i1), .ref (ad 4 i2)])).length) Slot.unset).toArray = ls at hl ⊢
  have hl : lv_has ls 7 [(0, .ref (ad 0 0)), (1, .ref (ad 5 i1)), (2, .ref (ad 4 i2))] := hl
  exact w_C_Court_wasThereEnough_0 C h ⟨hw, fun k i hi => ⟨k, i, hi, rfl⟩, va_S.rf⟩ hl
theorem iC_Court_ruleToday_X6 : ∀ w ∈ wsX60, w ∈ wsX8_ruleToday := by decide +kernel
theorem iC_Court_ruleToday_X8 : ∀ w ∈ wsX80, w ∈ wsX8_ruleToday := by decide +kernel
def fC_Court_ruleToday_54 (rec7 : CS → Nat → Int32 → Option Nat) (g : CS) (i1 : Nat) (x2 : Int32) : Option Nat :=
  rec7 g i1 (x2 + 1)
set_option maxRecDepth 20000 in
theorem w_C_Court_ruleToday_54 (C : cC p s m args meth c cX8_ruleToday RX8 (some (.object "PassageCourt$Rule")) wsX8_ruleToday 4 D yI yO) {rz : Nat} {g : CS} {rec7 : CS → Nat → Int32 → Option Nat} (hrec7 : ∀ {i1 : Nat} {x2 : Int32}  (_ : rec7 g i1 x2 = some rz) {H : Heap} {locs : List Loc} {ls : Array Slot} (_ : cX D yI yO z0 ad g A s H locs) (_ : lv_has ls 4 [(0, .ref (ad 0 0)), (1, .ref (ad 3 i1)), (2, .int x2)]), W p l e (mR 3 64) s m args below meth c H locs 0 0 (MQ below (cQq D yI yO z0 ad 3 (some rz) g A) args s 0 0 A) (F0 m 7 ls [])) {i1 : Nat} {x2 : Int32} (h : fC_Court_ruleToday_54 rec7 g i1 x2 = some rz) {H : Heap} {locs : List Loc} {ls : Array Slot} (hX : cX D yI yO z0 ad g A s H locs) (hl : lv_has ls 4 [(0, .ref (ad 0 0)), (1, .ref (ad 3 i1)), (2, .int x2)]) : W p l e (mR 3 64) s m args below meth c H locs 0 0 (MQ below (cQq D yI yO z0 ad 3 (some rz) g A) args s 0 0 A) (F0 m 54 ls []) := by
  obtain ⟨hx, hb, hr, hts, hown, hlocks, hml, hK⟩ := id C
  unfold fC_Court_ruleToday_54 at h
  refine lv_iinc (v := x2 + 1) (lv' := [(2, .int (x2 + 1)), (0, .ref (ad 0 0)), (1, .ref (ad 3 i1))]) hx hb dX8_ruleToday_54 hl (k := 2) rfl rfl (by decide) rfl (fun ls hl => ?_)
  refine lv_goto (tgt := 7) hx hb dX8_ruleToday_57 (by decide) ?_
  exact hrec7 h hX (lv_sub hl [1, 2, 0] rfl)
def fC_Court_ruleToday_7 : Nat → CS → Nat → Int32 → Option Nat
  | 0, _, _, _ => none
  | n + 1, g, i1, x2 =>
    if (nI (sN g 4)) ≤ x2 then
      some i1
    else
      (cget g 4 x2).bind fun v2 =>
      (ck g 3 v2).bind fun _ =>
      if (sI g 0 0 6) < (sI g 3 v2 0) then
        fC_Court_ruleToday_54 (fC_Court_ruleToday_7 n) g i1 x2
      else
        (ck g 3 i1).bind fun _ =>
        if (sI g 3 v2 0) < (sI g 3 i1 0) then
          fC_Court_ruleToday_54 (fC_Court_ruleToday_7 n) g i1 x2
        else
          fC_Court_ruleToday_54 (fC_Court_ruleToday_7 n) g v2 x2
set_option maxRecDepth 20000 in
theorem w_C_Court_ruleToday_7 (C : cC p s m args meth c cX8_ruleToday RX8 (some (.object "PassageCourt$Rule")) wsX8_ruleToday 4 D yI yO) {rz : Nat} {g : CS} : ∀ (n : Nat) {i1 : Nat} {x2 : Int32} (h : fC_Court_ruleToday_7 n g i1 x2 = some rz) {H : Heap} {locs : List Loc} {ls : Array Slot} (hX : cX D yI yO z0 ad g A s H locs) (hl : lv_has ls 4 [(0, .ref (ad 0 0)), (1, .ref (ad 3 i1)), (2, .int x2)]), W p l e (mR 3 64) s m args below meth c H locs 0 0 (MQ below (cQq D yI yO z0 ad 3 (some rz) g A) args s 0 0 A) (F0 m 7 ls []) := by
  obtain ⟨hx, hb, hr, hts, hown, hlocks, hml, hK⟩ := id C
  intro n
  induction n with
  | zero =>
    intro i1 x2 h
    cases (show (none : Option _) = _ from h)
  | succ n ih =>
    intro i1 x2 h H locs ls hX hl
    rw [fC_Court_ruleToday_7] at h
    refine lv_iload_n hx hb dX8_ruleToday_7 rfl (lv_at hl 2 rfl) ?_
    refine lv_aload_n hx hb dX8_ruleToday_8 rfl (lv_at hl 0 rfl) ?_
    refine cg_get hx hb hts iC_Court_ruleToday_X8 hown hK hX 0 0 rfl rfl rfl 5 (by decide) (hts (.fieldLink RX8 34 "PassageCourt" "laterRules" "Ljava/util/ArrayList;") (by decide +kernel)) (fun _ h9 => h9) rfl dX8_ruleToday_9 ?_
    refine cg_callV (As := []) (rest := [.int x2]) ⟨hx, hb, hml, hown, hts⟩ 1 4 rfl (ci := 0) rfl rfl (cC_List_size l D yI yO z0 ad g 4 (by decide)) (cwV 0 hts gX8_ruleToday_Jx4a65c_size_8abf5 rfl rfl rfl (by decide +kernel) ⟨Nat.le_of_ble_eq_true rfl, Nat.le_of_ble_eq_true rfl⟩) hK hX rfl hl.1 rfl (Nat.le_of_ble_eq_true rfl) dX8_ruleToday_12 ⟨Nat.zero_le _, Nat.zero_le _⟩ (fun H locs hX => ?_)
    refine lv_icmp_ge (tgt := 60) hx hb dX8_ruleToday_15 (by decide) (fun c1 => ?_) (fun c1 => ?_)
    · replace h := mpos c1 h
      refine lv_aload_n hx hb dX8_ruleToday_60 rfl (lv_at hl 1 rfl) ?_
      cases h
      first | exact cg_retq (k := 3) (o := (some i1)) hx hb hr hlocks hK hX dX8_ruleToday_61 | exact cg_retq (k := 3) (o := (some rz)) hx hb hr hlocks hK hX dX8_ruleToday_61
    · replace h := mneg c1 h
      refine lv_aload_n hx hb dX8_ruleToday_18 rfl (lv_at hl 0 rfl) ?_
      refine cg_get hx hb hts iC_Court_ruleToday_X8 hown hK hX 0 0 rfl rfl rfl 5 (by decide) (hts (.fieldLink RX8 34 "PassageCourt" "laterRules" "Ljava/util/ArrayList;") (by decide +kernel)) (fun _ h9 => h9) rfl dX8_ruleToday_19 ?_
      refine lv_iload_n hx hb dX8_ruleToday_22 rfl (lv_at hl 2 rfl) ?_
      obtain ⟨v2, ev2, h⟩ := mbind h
      refine cg_callVq (As := [.int x2]) (rest := []) ⟨hx, hb, hml, hown, hts⟩ 1 4 rfl (ci := 0) rfl rfl (cC_List_get l D yI yO z0 ad (by decide) ev2) (cwV 1 hts gX8_ruleToday_Jx4a65c_get_915e3 rfl rfl rfl (by decide +kernel) ⟨Nat.le_of_ble_eq_true rfl, Nat.le_of_ble_eq_true rfl⟩) hK hX rfl hl.1 rfl (Nat.le_of_ble_eq_true rfl) dX8_ruleToday_23 ⟨Nat.zero_le _, Nat.zero_le _⟩ (fun H locs hX => ?_)
      refine W.eq (g2 := F0 m 26 ls [.ref (ad 3 v2)]) rfl ?_
      obtain ⟨_, hv3, h⟩ := mbind h
      replace hv3 := ck_spec hv3
      refine cg_cast hx hb hown (hts (.classLink RX8 25 "PassageCourt$Rule") (by decide +kernel)) hK hX 3 v2 hv3 (ci := 7) rfl rfl dX8_ruleToday_26 ?_
      refine lv_astore_n (lv' := [(3, .ref (ad 3 v2)), (0, .ref (ad 0 0)), (1, .ref (ad 3 i1)), (2, .int x2)]) hx hb dX8_ruleToday_29 rfl hl (by decide) rfl (fun ls hl => ?_)
      refine lv_aload_n hx hb dX8_ruleToday_30 rfl (lv_at hl 0 rfl) ?_
      refine cg_get hx hb hts iC_Court_ruleToday_X6 hown hK hX 3 v2 hv3 rfl rfl 0 (by decide) (hts (.fieldLink RX8 400 "PassageCourt$Rule" "from" "I") (by decide +kernel)) (fun _ h9 => h9) rfl dX8_ruleToday_31 ?_
      refine lv_aload_n hx hb dX8_ruleToday_34 rfl (lv_at hl 1 rfl) ?_
      refine cg_get hx hb hts iC_Court_ruleToday_X8 hown hK hX 0 0 rfl rfl rfl 6 (by decide) (hts (.fieldLink RX8 37 "PassageCourt" "today" "I") (by decide +kernel)) (fun _ h9 => h9) rfl dX8_ruleToday_35 ?_
      refine lv_icmp_gt (tgt := 54) hx hb dX8_ruleToday_38 (by decide) (fun c4 => ?_) (fun c4 => ?_)
      · replace h := mpos c4 h
        exact w_C_Court_ruleToday_54 C ih h hX (lv_sub hl [1, 2, 3] rfl)
      · replace h := mneg c4 h
        refine lv_aload_n hx hb dX8_ruleToday_41 rfl (lv_at hl 0 rfl) ?_
        refine cg_get hx hb hts iC_Court_ruleToday_X6 hown hK hX 3 v2 hv3 rfl rfl 0 (by decide) (hts (.fieldLink RX8 400 "PassageCourt$Rule" "from" "I") (by decide +kernel)) (fun _ h9 => h9) rfl dX8_ruleToday_42 ?_
        refine lv_aload_n hx hb dX8_ruleToday_45 rfl (lv_at hl 2 rfl) ?_
        obtain ⟨_, hv5, h⟩ := mbind h
        replace hv5 := ck_spec hv5
        refine cg_get hx hb hts iC_Court_ruleToday_X6 hown hK hX 3 i1 hv5 rfl rfl 0 (by decide) (hts (.fieldLink RX8 400 "PassageCourt$Rule" "from" "I") (by decide +kernel)) (fun _ h9 => h9) rfl dX8_ruleToday_46 ?_
        refine lv_icmp_lt (tgt := 54) hx hb dX8_ruleToday_49 (by decide) (fun c6 => ?_) (fun c6 => ?_)
        · replace h := mpos c6 h
          exact w_C_Court_ruleToday_54 C ih h hX (lv_sub hl [1, 2, 3] rfl)
        · replace h := mneg c6 h
          refine lv_aload_n hx hb dX8_ruleToday_52 rfl (lv_at hl 0 rfl) ?_
          refine lv_astore_n (lv' := [(1, .ref (ad 3 v2)), (3, .ref (ad 3 v2)), (0, .ref (ad 0 0)), (2, .int x2)]) hx hb dX8_ruleToday_53 rfl hl (by decide) rfl (fun ls hl => ?_)
          exact w_C_Court_ruleToday_54 C ih h hX (lv_sub hl [2, 0, 3] rfl)
def fC_Court_ruleToday (g : CS) : Option Nat :=
  fC_Court_ruleToday_7 4096 g 0 0
set_option maxRecDepth 20000 in
theorem w_C_Court_ruleToday_0 (C : cC p s m args meth c cX8_ruleToday RX8 (some (.object "PassageCourt$Rule")) wsX8_ruleToday 4 D yI yO) {rz : Nat} {g : CS} (h : fC_Court_ruleToday g = some rz) {H : Heap} {locs : List Loc} {ls : Array Slot} (hX : cX D yI yO z0 ad g A s H locs) (hl : lv_has ls 4 [(0, .ref (ad 0 0))]) : W p l e (mR 3 64) s m args below meth c H locs 0 0 (MQ below (cQq D yI yO z0 ad 3 (some rz) g A) args s 0 0 A) (F0 m 0 ls []) := by
  obtain ⟨hx, hb, hr, hts, hown, hlocks, hml, hK⟩ := id C
  unfold fC_Court_ruleToday at h
  refine lv_aload_n hx hb dX8_ruleToday_0 rfl (lv_at hl 0 rfl) ?_
  refine cg_get hx hb hts iC_Court_ruleToday_X8 hown hK hX 0 0 rfl rfl rfl 4 (by decide) (hts (.fieldLink RX8 30 "PassageCourt" "firstRule" "LPassageCourt$Rule;") (by decide +kernel)) (fun _ h9 => h9) rfl dX8_ruleToday_1 ?_
  refine lv_astore_n (lv' := [(1, .ref (ad 3 0)), (0, .ref (ad 0 0))]) hx hb dX8_ruleToday_4 rfl hl (by decide) rfl (fun ls hl => ?_)
  refine lv_iconst (v := 0) hx hb dX8_ruleToday_5 (by decide) ?_
  refine lv_istore_n (lv' := [(2, .int 0), (1, .ref (ad 3 0)), (0, .ref (ad 0 0))]) hx hb dX8_ruleToday_6 rfl hl (by decide) rfl (fun ls hl => ?_)
  exact w_C_Court_ruleToday_7 C 4096 h hX (lv_sub hl [2, 1, 0] rfl)
set_option maxRecDepth 20000 in
theorem cC_Court_ruleToday (l : Launch) (D : va_G) (yI yO : ClassId) (z0 : Nat) (ad : Nat → Nat → Nat) {g : CS} {rz : Nat} (h : fC_Court_ruleToday g = some rz) : Met l yX8_ruleToday wsX8_ruleToday (mR 3 64) (va_Pc [.ref (ad 0 0)] (cPre D yI yO z0 ad g)) (cQq D yI yO z0 ad 3 (some rz) g (cF ad g)) 0 0 (cF ad g) := by
  refine Met.ofW (cc := cX8_ruleToday) (maxL := 4) (ret := (some (.object "PassageCourt$Rule"))) (by decide) rfl ?_
  intro p e s m args below meth c s₁ B hml hv
  obtain ⟨hv0, hw, hK⟩ := hv
  have hv1 : args = [.ref (ad 0 0)].toArray := hv0
  subst hv1
  have C : cC p s m _ meth c cX8_ruleToday RX8 (some (.object "PassageCourt$Rule")) wsX8_ruleToday 4 D yI yO := ⟨B.exec, B.bytes, B.returns, atoms_spec (ws := wsX8_ruleToday) B.pre, findClass_of_methodNamed B.named, B.notSynchronized, hml, hK⟩
  have hl := lv_entry ([.ref (ad 0 0)]) (n := 4) (Nat.le_of_ble_eq_true rfl)
  rw [lg_entry_eq]
  generalize (lg_sl ([.ref (ad 0 0)]) ++ List.replicate (4 - (lg_sl ([.ref (ad 0 0)])).length) Slot.unset).toArray = ls at hl ⊢
  have hl : lv_has ls 4 [(0, .ref (ad 0 0))] := hl
  exact w_C_Court_ruleToday_0 C h ⟨hw, fun k i hi => ⟨k, i, hi, rfl⟩, va_S.rf⟩ hl
theorem iC_Court_hasDaysLeft_X1 : ∀ w ∈ wsX10, w ∈ wsX8_hasDaysLeft := by decide +kernel
theorem iC_Court_hasDaysLeft_X3 : ∀ w ∈ wsX30, w ∈ wsX8_hasDaysLeft := by decide +kernel
theorem iC_Court_hasDaysLeft_X6 : ∀ w ∈ wsX60, w ∈ wsX8_hasDaysLeft := by decide +kernel
theorem iC_Court_hasDaysLeft_X8 : ∀ w ∈ wsX80, w ∈ wsX8_hasDaysLeft := by decide +kernel
def fC_Court_hasDaysLeft_76 (g : CS) (xs0 : Int32) : Option Int32 :=
  (mbo xs0).bind fun b1 => some b1
set_option maxRecDepth 20000 in
theorem w_C_Court_hasDaysLeft_76 (C : cC p s m args meth c cX8_hasDaysLeft RX8 (some .boolean) wsX8_hasDaysLeft 5 D yI yO) {rz : Int32} {g : CS} {xs0 : Int32} (h : fC_Court_hasDaysLeft_76 g xs0 = some rz) {H : Heap} {locs : List Loc} {ls : Array Slot} (hX : cX D yI yO z0 ad g A s H locs) (hl : lv_has ls 5 [(0, .ref (ad 0 0))]) : W p l e (mR 4 87) s m args below meth c H locs 0 0 (MQ below (cQ D yI yO z0 ad rz g A) args s 0 0 A) (F0 m 76 ls [.int xs0]) := by
  obtain ⟨hx, hb, hr, hts, hown, hlocks, hml, hK⟩ := id C
  unfold fC_Court_hasDaysLeft_76 at h
  obtain ⟨b1, eb1, h⟩ := mbind h
  cases h
  exact cg_retz hx hb hr hlocks hK hX dX8_hasDaysLeft_76 eb1
def fC_Court_hasDaysLeft_23 (g : CS) (xs0 : Int32) : Option Int32 :=
  (mbo xs0).bind fun b2 => some b2
set_option maxRecDepth 20000 in
theorem w_C_Court_hasDaysLeft_23 (C : cC p s m args meth c cX8_hasDaysLeft RX8 (some .boolean) wsX8_hasDaysLeft 5 D yI yO) {rz : Int32} {g : CS} {xs0 : Int32} (h : fC_Court_hasDaysLeft_23 g xs0 = some rz) {H : Heap} {locs : List Loc} {ls : Array Slot} (hX : cX D yI yO z0 ad g A s H locs) (hl : lv_has ls 5 [(0, .ref (ad 0 0))]) : W p l e (mR 4 87) s m args below meth c H locs 0 0 (MQ below (cQ D yI yO z0 ad rz g A) args s 0 0 A) (F0 m 23 ls [.int xs0]) := by
  obtain ⟨hx, hb, hr, hts, hown, hlocks, hml, hK⟩ := id C
  unfold fC_Court_hasDaysLeft_23 at h
  obtain ⟨b2, eb2, h⟩ := mbind h
  cases h
  exact cg_retz hx hb hr hlocks hK hX dX8_hasDaysLeft_23 eb2
def fC_Court_hasDaysLeft (g : CS) (i1 : Nat) (i2 : Nat) (x3 : Int32) : Option Int32 :=
  (ck g 4 i2).bind fun _ =>
  if (sI g 4 i2 1) = 0 then
    if 60 ≤ ((sI g 0 0 6) - x3) then
      fC_Court_hasDaysLeft_23 g 0
    else
      fC_Court_hasDaysLeft_23 g 1
  else
    (fC_Court_ruleToday g).bind fun v5 =>
    (ck g 5 i1).bind fun _ =>
    (fC_Row_at 10 i1 g ((sI g 0 0 6) - 1)).bind fun r7 =>
    (ck g 3 v5).bind fun _ =>
    (fC_Row_at 10 i1 g ((sI g 0 0 6) - (sI g 3 v5 2))).bind fun r9 =>
    if (sI g 3 v5 1) < ((r7 - r9) + 1) then
      fC_Court_hasDaysLeft_76 g 0
    else
      fC_Court_hasDaysLeft_76 g 1
set_option maxRecDepth 20000 in
theorem w_C_Court_hasDaysLeft_0 (C : cC p s m args meth c cX8_hasDaysLeft RX8 (some .boolean) wsX8_hasDaysLeft 5 D yI yO) {rz : Int32} {g : CS} {i1 : Nat} {i2 : Nat} {x3 : Int32} (h : fC_Court_hasDaysLeft g i1 i2 x3 = some rz) {H : Heap} {locs : List Loc} {ls : Array Slot} (hX : cX D yI yO z0 ad g A s H locs) (hl : lv_has ls 5 [(0, .ref (ad 0 0)), (1, .ref (ad 5 i1)), (2, .ref (ad 4 i2)), (3, .int x3)]) : W p l e (mR 4 87) s m args below meth c H locs 0 0 (MQ below (cQ D yI yO z0 ad rz g A) args s 0 0 A) (F0 m 0 ls []) := by
  obtain ⟨hx, hb, hr, hts, hown, hlocks, hml, hK⟩ := id C
  unfold fC_Court_hasDaysLeft at h
  refine lv_aload_n hx hb dX8_hasDaysLeft_0 rfl (lv_at hl 2 rfl) ?_
  obtain ⟨_, hv3, h⟩ := mbind h
  replace hv3 := ck_spec hv3
  refine cg_get hx hb hts iC_Court_hasDaysLeft_X1 hown hK hX 4 i2 hv3 rfl rfl 1 (by decide) (hts (.fieldLink RX8 165 "PassageCourt$Land" "isInRegion" "Z") (by decide +kernel)) (fun _ h9 => h9) rfl dX8_hasDaysLeft_1 ?_
  refine lv_if_ne (tgt := 24) hx hb dX8_hasDaysLeft_4 (by decide) (fun c4 => ?_) (fun c4 => ?_)
  · replace h := mneg c4 h
    refine lv_aload_n hx hb dX8_hasDaysLeft_24 rfl (lv_at hl 0 rfl) ?_
    obtain ⟨v5, ev5, h⟩ := mbind h
    refine cg_callVq (As := []) (rest := []) ⟨hx, hb, hml, hown, hts⟩ 0 0 rfl (ci := 9) rfl rfl (cC_Court_ruleToday l D yI yO z0 ad ev5) (cwV 0 hts gX8_hasDaysLeft_X8_ruleToday rfl rfl rfl (by decide +kernel) ⟨Nat.le_of_ble_eq_true rfl, Nat.le_of_ble_eq_true rfl⟩) hK hX rfl hl.1 rfl (Nat.le_of_ble_eq_true rfl) dX8_hasDaysLeft_25 ⟨Nat.zero_le _, Nat.zero_le _⟩ (fun H locs hX => ?_)
    refine W.eq (g2 := F0 m 28 ls [.ref (ad 3 v5)]) rfl ?_
    refine lv_astore (lv' := [(4, .ref (ad 3 v5)), (0, .ref (ad 0 0)), (1, .ref (ad 5 i1)), (2, .ref (ad 4 i2)), (3, .int x3)]) hx hb dX8_hasDaysLeft_28 hl (by decide) rfl (fun ls hl => ?_)
    refine lv_aload_n hx hb dX8_hasDaysLeft_30 rfl (lv_at hl 2 rfl) ?_
    obtain ⟨_, hv6, h⟩ := mbind h
    replace hv6 := ck_spec hv6
    refine cg_get hx hb hts iC_Court_hasDaysLeft_X3 hown hK hX 5 i1 hv6 rfl rfl 5 (by decide) (hts (.fieldLink RX8 307 "PassageCourt$Person" "counted" "LPassageCourt$Row;") (by decide +kernel)) (fun _ h9 => h9) rfl dX8_hasDaysLeft_31 ?_
    refine lv_aload_n hx hb dX8_hasDaysLeft_34 rfl (lv_at hl 1 rfl) ?_
    refine cg_get hx hb hts iC_Court_hasDaysLeft_X8 hown hK hX 0 0 rfl rfl rfl 6 (by decide) (hts (.fieldLink RX8 37 "PassageCourt" "today" "I") (by decide +kernel)) (fun _ h9 => h9) rfl dX8_hasDaysLeft_35 ?_
    refine lv_iconst (v := 1) hx hb dX8_hasDaysLeft_38 (by decide) ?_
    refine lv_isub hx hb dX8_hasDaysLeft_39 ?_
    obtain ⟨r7, er7, h⟩ := mbind h
    refine cg_callV (As := [.int ((sI g 0 0 6) - 1)]) (rest := []) ⟨hx, hb, hml, hown, hts⟩ 10 i1 hv6 (ci := 6) rfl rfl (cC_Row_at l D yI yO z0 ad ⟨by decide, by decide⟩ er7) (cwV 1 hts gX8_hasDaysLeft_X5_at rfl rfl rfl (by decide +kernel) ⟨Nat.le_of_ble_eq_true rfl, Nat.le_of_ble_eq_true rfl⟩) hK hX rfl hl.1 rfl (Nat.le_of_ble_eq_true rfl) dX8_hasDaysLeft_40 ⟨Nat.zero_le _, Nat.zero_le _⟩ (fun H locs hX => ?_)
    refine lv_aload_n hx hb dX8_hasDaysLeft_43 rfl (lv_at hl 2 rfl) ?_
    refine cg_get hx hb hts iC_Court_hasDaysLeft_X3 hown hK hX 5 i1 hv6 rfl rfl 5 (by decide) (hts (.fieldLink RX8 307 "PassageCourt$Person" "counted" "LPassageCourt$Row;") (by decide +kernel)) (fun _ h9 => h9) rfl dX8_hasDaysLeft_44 ?_
    refine lv_aload_n hx hb dX8_hasDaysLeft_47 rfl (lv_at hl 1 rfl) ?_
    refine cg_get hx hb hts iC_Court_hasDaysLeft_X8 hown hK hX 0 0 rfl rfl rfl 6 (by decide) (hts (.fieldLink RX8 37 "PassageCourt" "today" "I") (by decide +kernel)) (fun _ h9 => h9) rfl dX8_hasDaysLeft_48 ?_
    refine lv_aload hx hb dX8_hasDaysLeft_51 (lv_at hl 0 rfl) ?_
    obtain ⟨_, hv8, h⟩ := mbind h
    replace hv8 := ck_spec hv8
    refine cg_get hx hb hts iC_Court_hasDaysLeft_X6 hown hK hX 3 v5 hv8 rfl rfl 2 (by decide) (hts (.fieldLink RX8 314 "PassageCourt$Rule" "window" "I") (by decide +kernel)) (fun _ h9 => h9) rfl dX8_hasDaysLeft_53 ?_
    refine lv_isub hx hb dX8_hasDaysLeft_56 ?_
    obtain ⟨r9, er9, h⟩ := mbind h
    refine cg_callV (As := [.int ((sI g 0 0 6) - (sI g 3 v5 2))]) (rest := [.int r7]) ⟨hx, hb, hml, hown, hts⟩ 10 i1 hv6 (ci := 6) rfl rfl (cC_Row_at l D yI yO z0 ad ⟨by decide, by decide⟩ er9) (cwV 1 hts gX8_hasDaysLeft_X5_at rfl rfl rfl (by decide +kernel) ⟨Nat.le_of_ble_eq_true rfl, Nat.le_of_ble_eq_true rfl⟩) hK hX rfl hl.1 rfl (Nat.le_of_ble_eq_true rfl) dX8_hasDaysLeft_57 ⟨Nat.zero_le _, Nat.zero_le _⟩ (fun H locs hX => ?_)
    refine lv_isub hx hb dX8_hasDaysLeft_60 ?_
    refine lv_iconst (v := 1) hx hb dX8_hasDaysLeft_61 (by decide) ?_
    refine lv_iadd hx hb dX8_hasDaysLeft_62 ?_
    refine lv_aload hx hb dX8_hasDaysLeft_63 (lv_at hl 0 rfl) ?_
    refine cg_get hx hb hts iC_Court_hasDaysLeft_X6 hown hK hX 3 v5 hv8 rfl rfl 1 (by decide) (hts (.fieldLink RX8 397 "PassageCourt$Rule" "most" "I") (by decide +kernel)) (fun _ h9 => h9) rfl dX8_hasDaysLeft_65 ?_
    refine lv_icmp_gt (tgt := 75) hx hb dX8_hasDaysLeft_68 (by decide) (fun c10 => ?_) (fun c10 => ?_)
    · replace h := mpos c10 h
      refine lv_iconst (v := 0) hx hb dX8_hasDaysLeft_75 (by decide) ?_
      exact w_C_Court_hasDaysLeft_76 C h hX (lv_sub hl [1] rfl)
    · replace h := mneg c10 h
      refine lv_iconst (v := 1) hx hb dX8_hasDaysLeft_71 (by decide) ?_
      refine lv_goto (tgt := 76) hx hb dX8_hasDaysLeft_72 (by decide) ?_
      exact w_C_Court_hasDaysLeft_76 C h hX (lv_sub hl [1] rfl)
  · replace h := mpos c4 h
    refine lv_aload_n hx hb dX8_hasDaysLeft_7 rfl (lv_at hl 0 rfl) ?_
    refine cg_get hx hb hts iC_Court_hasDaysLeft_X8 hown hK hX 0 0 rfl rfl rfl 6 (by decide) (hts (.fieldLink RX8 37 "PassageCourt" "today" "I") (by decide +kernel)) (fun _ h9 => h9) rfl dX8_hasDaysLeft_8 ?_
    refine lv_iload_n hx hb dX8_hasDaysLeft_11 rfl (lv_at hl 3 rfl) ?_
    refine lv_isub hx hb dX8_hasDaysLeft_12 ?_
    refine lv_bipush (v := 60) hx hb dX8_hasDaysLeft_13 (by decide) ?_
    refine lv_icmp_ge (tgt := 22) hx hb dX8_hasDaysLeft_15 (by decide) (fun c11 => ?_) (fun c11 => ?_)
    · replace h := mpos c11 h
      refine lv_iconst (v := 0) hx hb dX8_hasDaysLeft_22 (by decide) ?_
      exact w_C_Court_hasDaysLeft_23 C h hX (lv_sub hl [0] rfl)
    · replace h := mneg c11 h
      refine lv_iconst (v := 1) hx hb dX8_hasDaysLeft_18 (by decide) ?_
      refine lv_goto (tgt := 23) hx hb dX8_hasDaysLeft_19 (by decide) ?_
      exact w_C_Court_hasDaysLeft_23 C h hX (lv_sub hl [0] rfl)
set_option maxRecDepth 20000 in
theorem cC_Court_hasDaysLeft (l : Launch) (D : va_G) (yI yO : ClassId) (z0 : Nat) (ad : Nat → Nat → Nat) {g : CS} {rz : Int32} {i1 : Nat} {i2 : Nat} {x3 : Int32} (h : fC_Court_hasDaysLeft g i1 i2 x3 = some rz) : Met l yX8_hasDaysLeft wsX8_hasDaysLeft (mR 4 87) (va_Pc [.ref (ad 0 0), .ref (ad 5 i1), .ref (ad 4 i2), .int x3] (cPre D yI yO z0 ad g)) (cQ D yI yO z0 ad rz g (cF ad g)) 0 0 (cF ad g) := by
  refine Met.ofW (cc := cX8_hasDaysLeft) (maxL := 5) (ret := (some .boolean)) (by decide) rfl ?_
  intro p e s m args below meth c s₁ B hml hv
  obtain ⟨hv0, hw, hK⟩ := hv
  have hv1 : args = [.ref (ad 0 0), .ref (ad 5 i1), .ref (ad 4 i2), .int x3].toArray := hv0
  subst hv1
  have C : cC p s m _ meth c cX8_hasDaysLeft RX8 (some .boolean) wsX8_hasDaysLeft 5 D yI yO := ⟨B.exec, B.bytes, B.returns, atoms_spec (ws := wsX8_hasDaysLeft) B.pre, findClass_of_methodNamed B.named, B.notSynchronized, hml, hK⟩
  have hl := lv_entry ([.ref (ad 0 0), .ref (ad 5 i1), .ref (ad 4 i2), .int x3]) (n := 5) (Nat.le_of_ble_eq_true rfl)
  rw [lg_entry_eq]
  generalize (lg_sl ([.ref (ad 0 0), .ref (ad 5 i1), .ref (ad 4 i2), .int x3]) ++ List.replicate (5 - (lg_sl ([.ref (ad 0 0), .ref (ad 5 i1), .ref (ad 4 i2), .int x3])).length) Slot.unset).toArray = ls at hl ⊢
  have hl : lv_has ls 5 [(0, .ref (ad 0 0)), (1, .ref (ad 5 i1)), (2, .ref (ad 4 i2)), (3, .int x3)] := hl
  exact w_C_Court_hasDaysLeft_0 C h ⟨hw, fun k i hi => ⟨k, i, hi, rfl⟩, va_S.rf⟩ hl
end GC2
