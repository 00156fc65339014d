section GC4
variable {p : Program} {l : Launch} {e : Env} {s : State} {m : MethodId} {args : Array Value} {below : List Frame} {meth : Method} {c : Code} {D : va_G} {yI yO : ClassId} {z0 : Nat} {ad : Nat → Nat → Nat} {A : Nat → Prop}
theorem iC_Court_lowestVisa_X3 : ∀ w ∈ wsX30, w ∈ wsX8_lowestVisa := by decide +kernel
theorem iC_Court_lowestVisa_X7 : ∀ w ∈ wsX70, w ∈ wsX8_lowestVisa := by decide +kernel
theorem iC_Court_lowestVisa_X8 : ∀ w ∈ wsX80, w ∈ wsX8_lowestVisa := by decide +kernel
def fC_Court_lowestVisa_62 (rec2 : CS → Nat → Nat → Int32 → Option (Option Nat)) (g : CS) (i1 : Nat) (i2 : Nat) (x3 : Int32) : Option (Option Nat) :=
  rec2 g i1 i2 (x3 + 1)
set_option maxRecDepth 20000 in
theorem w_C_Court_lowestVisa_62 (C : cC p s m args meth c cX8_lowestVisa RX8 (some (.object "PassageCourt$Visa")) wsX8_lowestVisa 5 D yI yO) {rz : Option Nat} {g : CS} {rec2 : CS → Nat → Nat → Int32 → Option (Option Nat)} (hrec2 : ∀ {i1 : Nat} {i2 : Nat} {x3 : Int32}  (_ : rec2 g i1 i2 x3 = some rz) {H : Heap} {locs : List Loc} {ls : Array Slot} (_ : cX D yI yO z0 ad g A s H locs) (_ : lv_has ls 5 [(0, .ref (ad 0 0)), (1, .ref (ad 5 i1)), (2, .ref (ad 4 i2)), (3, .int x3)]), W p l e (mR 3 64) s m args below meth c H locs 0 0 (MQ below (cQq D yI yO z0 ad 6 rz g A) args s 0 0 A) (F0 m 2 ls [])) {i1 : Nat} {i2 : Nat} {x3 : Int32} (h : fC_Court_lowestVisa_62 rec2 g i1 i2 x3 = some rz) {H : Heap} {locs : List Loc} {ls : Array Slot} (hX : cX D yI yO z0 ad g A s H locs) (hl : lv_has ls 5 [(0, .ref (ad 0 0)), (1, .ref (ad 5 i1)), (2, .ref (ad 4 i2)), (3, .int x3)]) : W p l e (mR 3 64) s m args below meth c H locs 0 0 (MQ below (cQq D yI yO z0 ad 6 rz g A) args s 0 0 A) (F0 m 62 ls []) := by
  obtain ⟨hx, hb, hr, hts, hown, hlocks, hml, hK⟩ := id C
  unfold fC_Court_lowestVisa_62 at h
  refine lv_iinc (v := x3 + 1) (lv' := [(3, .int (x3 + 1)), (0, .ref (ad 0 0)), (1, .ref (ad 5 i1)), (2, .ref (ad 4 i2))]) hx hb dX8_lowestVisa_62 hl (k := 3) rfl rfl (by decide) rfl (fun ls hl => ?_)
  refine lv_goto (tgt := 2) hx hb dX8_lowestVisa_65 (by decide) ?_
  exact hrec2 h hX (lv_sub hl [1, 2, 3, 0] rfl)
def fC_Court_lowestVisa_2 : Nat → CS → Nat → Nat → Int32 → Option (Option Nat)
  | 0, _, _, _, _ => none
  | n + 1, g, i1, i2, x3 =>
    if (nI (sN g 2)) ≤ x3 then
      some none
    else
      (cget g 2 x3).bind fun v2 =>
      (ck g 6 v2).bind fun _ =>
      (ck g 5 i1).bind fun _ =>
      if (sI g 6 v2 1) = (sI g 5 i1 0) then
        if (sI g 6 v2 5) ≤ 0 then
          fC_Court_lowestVisa_62 (fC_Court_lowestVisa_2 n) g i1 i2 x3
        else
          (fC_Visa_doesFor v2 g i2 (sI g 0 0 6)).bind fun r7 =>
          if r7 = 0 then
            fC_Court_lowestVisa_62 (fC_Court_lowestVisa_2 n) g i1 i2 x3
          else
            some (some v2)
      else
        fC_Court_lowestVisa_62 (fC_Court_lowestVisa_2 n) g i1 i2 x3
set_option maxRecDepth 20000 in
theorem w_C_Court_lowestVisa_2 (C : cC p s m args meth c cX8_lowestVisa RX8 (some (.object "PassageCourt$Visa")) wsX8_lowestVisa 5 D yI yO) {rz : Option Nat} {g : CS} : ∀ (n : Nat) {i1 : Nat} {i2 : Nat} {x3 : Int32} (h : fC_Court_lowestVisa_2 n g i1 i2 x3 = some rz) {H : Heap} {locs : List Loc} {ls : Array Slot} (hX : cX D yI yO z0 ad g A s H locs) (hl : lv_has ls 5 [(0, .ref (ad 0 0)), (1, .ref (ad 5 i1)), (2, .ref (ad 4 i2)), (3, .int x3)]), W p l e (mR 3 64) s m args below meth c H locs 0 0 (MQ below (cQq D yI yO z0 ad 6 rz g A) args s 0 0 A) (F0 m 2 ls []) := by
  obtain ⟨hx, hb, hr, hts, hown, hlocks, hml, hK⟩ := id C
  intro n
  induction n with
  | zero =>
    intro i1 i2 x3 h
    cases (show (none : Option _) = _ from h)
  | succ n ih =>
    intro i1 i2 x3 h H locs ls hX hl
    rw [fC_Court_lowestVisa_2] at h
    refine lv_iload_n hx hb dX8_lowestVisa_2 rfl (lv_at hl 3 rfl) ?_
    refine lv_aload_n hx hb dX8_lowestVisa_3 rfl (lv_at hl 0 rfl) ?_
    refine cg_get hx hb hts iC_Court_lowestVisa_X8 hown hK hX 0 0 rfl rfl rfl 2 (by decide) (hts (.fieldLink RX8 19 "PassageCourt" "visas" "Ljava/util/ArrayList;") (by decide +kernel)) (fun _ h9 => h9) rfl dX8_lowestVisa_4 ?_
    refine cg_callV (As := []) (rest := [.int x3]) ⟨hx, hb, hml, hown, hts⟩ 1 2 rfl (ci := 0) rfl rfl (cC_List_size l D yI yO z0 ad g 2 (by decide)) (cwV 0 hts gX8_lowestVisa_Jx4a65c_size_8abf5 rfl rfl rfl (by decide +kernel) ⟨Nat.le_of_ble_eq_true rfl, Nat.le_of_ble_eq_true rfl⟩) hK hX rfl hl.1 rfl (Nat.le_of_ble_eq_true rfl) dX8_lowestVisa_7 ⟨Nat.zero_le _, Nat.zero_le _⟩ (fun H locs hX => ?_)
    refine lv_icmp_ge (tgt := 68) hx hb dX8_lowestVisa_10 (by decide) (fun c1 => ?_) (fun c1 => ?_)
    · replace h := mpos c1 h
      refine lv_null hx hb dX8_lowestVisa_68 ?_
      cases h
      first | exact cg_retq (k := 6) (o := none) hx hb hr hlocks hK hX dX8_lowestVisa_69 | exact cg_retq (k := 6) (o := rz) hx hb hr hlocks hK hX dX8_lowestVisa_69
    · replace h := mneg c1 h
      refine lv_aload_n hx hb dX8_lowestVisa_13 rfl (lv_at hl 0 rfl) ?_
      refine cg_get hx hb hts iC_Court_lowestVisa_X8 hown hK hX 0 0 rfl rfl rfl 2 (by decide) (hts (.fieldLink RX8 19 "PassageCourt" "visas" "Ljava/util/ArrayList;") (by decide +kernel)) (fun _ h9 => h9) rfl dX8_lowestVisa_14 ?_
      refine lv_iload_n hx hb dX8_lowestVisa_17 rfl (lv_at hl 3 rfl) ?_
      obtain ⟨v2, ev2, h⟩ := mbind h
      refine cg_callVq (As := [.int x3]) (rest := []) ⟨hx, hb, hml, hown, hts⟩ 1 2 rfl (ci := 0) rfl rfl (cC_List_get l D yI yO z0 ad (by decide) ev2) (cwV 1 hts gX8_lowestVisa_Jx4a65c_get_915e3 rfl rfl rfl (by decide +kernel) ⟨Nat.le_of_ble_eq_true rfl, Nat.le_of_ble_eq_true rfl⟩) hK hX rfl hl.1 rfl (Nat.le_of_ble_eq_true rfl) dX8_lowestVisa_18 ⟨Nat.zero_le _, Nat.zero_le _⟩ (fun H locs hX => ?_)
      refine W.eq (g2 := F0 m 21 ls [.ref (ad 6 v2)]) rfl ?_
      obtain ⟨_, hv3, h⟩ := mbind h
      replace hv3 := ck_spec hv3
      refine cg_cast hx hb hown (hts (.classLink RX8 133 "PassageCourt$Visa") (by decide +kernel)) hK hX 6 v2 hv3 (ci := 8) rfl rfl dX8_lowestVisa_21 ?_
      refine lv_astore (lv' := [(4, .ref (ad 6 v2)), (0, .ref (ad 0 0)), (1, .ref (ad 5 i1)), (2, .ref (ad 4 i2)), (3, .int x3)]) hx hb dX8_lowestVisa_24 hl (by decide) rfl (fun ls hl => ?_)
      refine lv_aload hx hb dX8_lowestVisa_26 (lv_at hl 0 rfl) ?_
      refine cg_get hx hb hts iC_Court_lowestVisa_X7 hown hK hX 6 v2 hv3 rfl rfl 1 (by decide) (hts (.fieldLink RX8 337 "PassageCourt$Visa" "person" "I") (by decide +kernel)) (fun _ h9 => h9) rfl dX8_lowestVisa_28 ?_
      refine lv_aload_n hx hb dX8_lowestVisa_31 rfl (lv_at hl 2 rfl) ?_
      obtain ⟨_, hv4, h⟩ := mbind h
      replace hv4 := ck_spec hv4
      refine cg_get hx hb hts iC_Court_lowestVisa_X3 hown hK hX 5 i1 hv4 rfl rfl 0 (by decide) (hts (.fieldLink RX8 101 "PassageCourt$Person" "number" "I") (by decide +kernel)) (fun _ h9 => h9) rfl dX8_lowestVisa_32 ?_
      refine lv_icmp_ne (tgt := 62) hx hb dX8_lowestVisa_35 (by decide) (fun c5 => ?_) (fun c5 => ?_)
      · replace h := mneg c5 h
        exact w_C_Court_lowestVisa_62 C ih h hX (lv_sub hl [1, 2, 3, 4] rfl)
      · replace h := mpos c5 h
        refine lv_aload hx hb dX8_lowestVisa_38 (lv_at hl 0 rfl) ?_
        refine cg_get hx hb hts iC_Court_lowestVisa_X7 hown hK hX 6 v2 hv3 rfl rfl 5 (by decide) (hts (.fieldLink RX8 138 "PassageCourt$Visa" "entries" "I") (by decide +kernel)) (fun _ h9 => h9) rfl dX8_lowestVisa_40 ?_
        refine lv_if_le (tgt := 62) hx hb dX8_lowestVisa_43 (by decide) (fun c6 => ?_) (fun c6 => ?_)
        · replace h := mpos c6 h
          exact w_C_Court_lowestVisa_62 C ih h hX (lv_sub hl [1, 2, 3, 4] rfl)
        · replace h := mneg c6 h
          refine lv_aload hx hb dX8_lowestVisa_46 (lv_at hl 0 rfl) ?_
          refine lv_aload_n hx hb dX8_lowestVisa_48 rfl (lv_at hl 3 rfl) ?_
          refine lv_aload_n hx hb dX8_lowestVisa_49 rfl (lv_at hl 1 rfl) ?_
          refine cg_get hx hb hts iC_Court_lowestVisa_X8 hown hK hX 0 0 rfl rfl rfl 6 (by decide) (hts (.fieldLink RX8 37 "PassageCourt" "today" "I") (by decide +kernel)) (fun _ h9 => h9) rfl dX8_lowestVisa_50 ?_
          obtain ⟨r7, er7, h⟩ := mbind h
          refine cg_callV (As := [.ref (ad 4 i2), .int (sI g 0 0 6)]) (rest := []) ⟨hx, hb, hml, hown, hts⟩ 6 v2 hv3 (ci := 8) rfl rfl (cC_Visa_doesFor l D yI yO z0 ad er7) (cwV 2 hts gX8_lowestVisa_X7_doesFor rfl rfl rfl (by decide +kernel) ⟨Nat.le_of_ble_eq_true rfl, Nat.le_of_ble_eq_true rfl⟩) hK hX rfl hl.1 rfl (Nat.le_of_ble_eq_true rfl) dX8_lowestVisa_53 ⟨Nat.zero_le _, Nat.zero_le _⟩ (fun H locs hX => ?_)
          refine lv_if_eq (tgt := 62) hx hb dX8_lowestVisa_56 (by decide) (fun c8 => ?_) (fun c8 => ?_)
          · replace h := mpos c8 h
            exact w_C_Court_lowestVisa_62 C ih h hX (lv_sub hl [1, 2, 3, 4] rfl)
          · replace h := mneg c8 h
            refine lv_aload hx hb dX8_lowestVisa_59 (lv_at hl 0 rfl) ?_
            cases h
            first | exact cg_retq (k := 6) (o := (some v2)) hx hb hr hlocks hK hX dX8_lowestVisa_61 | exact cg_retq (k := 6) (o := rz) hx hb hr hlocks hK hX dX8_lowestVisa_61
def fC_Court_lowestVisa (g : CS) (i1 : Nat) (i2 : Nat) : Option (Option Nat) :=
  fC_Court_lowestVisa_2 4096 g i1 i2 0
set_option maxRecDepth 20000 in
theorem w_C_Court_lowestVisa_0 (C : cC p s m args meth c cX8_lowestVisa RX8 (some (.object "PassageCourt$Visa")) wsX8_lowestVisa 5 D yI yO) {rz : Option Nat} {g : CS} {i1 : Nat} {i2 : Nat} (h : fC_Court_lowestVisa g i1 i2 = some rz) {H : Heap} {locs : List Loc} {ls : Array Slot} (hX : cX D yI yO z0 ad g A s H locs) (hl : lv_has ls 5 [(0, .ref (ad 0 0)), (1, .ref (ad 5 i1)), (2, .ref (ad 4 i2))]) : W p l e (mR 3 64) s m args below meth c H locs 0 0 (MQ below (cQq D yI yO z0 ad 6 rz g A) args s 0 0 A) (F0 m 0 ls []) := by
  obtain ⟨hx, hb, hr, hts, hown, hlocks, hml, hK⟩ := id C
  unfold fC_Court_lowestVisa at h
  refine lv_iconst (v := 0) hx hb dX8_lowestVisa_0 (by decide) ?_
  refine lv_istore_n (lv' := [(3, .int 0), (0, .ref (ad 0 0)), (1, .ref (ad 5 i1)), (2, .ref (ad 4 i2))]) hx hb dX8_lowestVisa_1 rfl hl (by decide) rfl (fun ls hl => ?_)
  exact w_C_Court_lowestVisa_2 C 4096 h hX (lv_sub hl [1, 2, 3, 0] rfl)
set_option maxRecDepth 20000 in
theorem cC_Court_lowestVisa (l : Launch) (D : va_G) (yI yO : ClassId) (z0 : Nat) (ad : Nat → Nat → Nat) {g : CS} {rz : Option Nat} {i1 : Nat} {i2 : Nat} (h : fC_Court_lowestVisa g i1 i2 = some rz) : Met l yX8_lowestVisa wsX8_lowestVisa (mR 3 64) (va_Pc [.ref (ad 0 0), .ref (ad 5 i1), .ref (ad 4 i2)] (cPre D yI yO z0 ad g)) (cQq D yI yO z0 ad 6 rz g (cF ad g)) 0 0 (cF ad g) := by
  refine Met.ofW (cc := cX8_lowestVisa) (maxL := 5) (ret := (some (.object "PassageCourt$Visa"))) (by decide) rfl ?_
  intro p e s m args below meth c s₁ B hml hv
  obtain ⟨hv0, hw, hK⟩ := hv
  have hv1 : args = [.ref (ad 0 0), .ref (ad 5 i1), .ref (ad 4 i2)].toArray := hv0
  subst hv1
  have C : cC p s m _ meth c cX8_lowestVisa RX8 (some (.object "PassageCourt$Visa")) wsX8_lowestVisa 5 D yI yO := ⟨B.exec, B.bytes, B.returns, atoms_spec (ws := wsX8_lowestVisa) B.pre, findClass_of_methodNamed B.named, B.notSynchronized, hml, hK⟩
  have hl := lv_entry ([.ref (ad 0 0), .ref (ad 5 i1), .ref (ad 4 i2)]) (n := 5) (Nat.le_of_ble_eq_true rfl)
  rw [lg_entry_eq]
  generalize (lg_sl ([.ref (ad 0 0), .ref (ad 5 i1), .ref (ad 4 i2)]) ++ List.replicate (5 - (lg_sl ([.ref (ad 0 0), .ref (ad 5 i1), .ref (ad 4 i2)])).length) Slot.unset).toArray = ls at hl ⊢
  have hl : lv_has ls 5 [(0, .ref (ad 0 0)), (1, .ref (ad 5 i1)), (2, .ref (ad 4 i2))] := hl
  exact w_C_Court_lowestVisa_0 C h ⟨hw, fun k i hi => ⟨k, i, hi, rfl⟩, va_S.rf⟩ hl
theorem iC_Court_whyNot_X8 : ∀ w ∈ wsX80, w ∈ wsX8_whyNot := by decide +kernel
def fC_Court_whyNot_60 (g : CS) (xs0 : Int32) : Option Int32 :=
  some xs0
set_option maxRecDepth 20000 in
theorem w_C_Court_whyNot_60 (C : cC p s m args meth c cX8_whyNot RX8 (some .int) wsX8_whyNot 3 D yI yO) {rz : Int32} {g : CS} {xs0 : Int32} (h : fC_Court_whyNot_60 g xs0 = some rz) {H : Heap} {locs : List Loc} {ls : Array Slot} (hX : cX D yI yO z0 ad g A s H locs) (hl : lv_has ls 3 [(0, .ref (ad 0 0))]) : W p l e (mR 5 111) s m args below meth c H locs 0 0 (MQ below (cQ D yI yO z0 ad rz g A) args s 0 0 A) (F0 m 60 ls [.int xs0]) := by
  obtain ⟨hx, hb, hr, hts, hown, hlocks, hml, hK⟩ := id C
  unfold fC_Court_whyNot_60 at h
  cases h
  exact cg_reti hx hb hr hlocks hK hX dX8_whyNot_60
def fC_Court_whyNot_42 (g : CS) (i1 : Nat) (i2 : Nat) : Option Int32 :=
  (fC_Court_hasDaysLeft g i1 i2 (sI g 0 0 6)).bind fun r1 =>
  if r1 = 0 then
    fC_Court_whyNot_60 g 3
  else
    fC_Court_whyNot_60 g 0
set_option maxRecDepth 20000 in
theorem w_C_Court_whyNot_42 (C : cC p s m args meth c cX8_whyNot RX8 (some .int) wsX8_whyNot 3 D yI yO) {rz : Int32} {g : CS} {i1 : Nat} {i2 : Nat} (h : fC_Court_whyNot_42 g i1 i2 = some rz) {H : Heap} {locs : List Loc} {ls : Array Slot} (hX : cX D yI yO z0 ad g A s H locs) (hl : lv_has ls 3 [(0, .ref (ad 0 0)), (1, .ref (ad 5 i1)), (2, .ref (ad 4 i2))]) : W p l e (mR 5 111) s m args below meth c H locs 0 0 (MQ below (cQ D yI yO z0 ad rz g A) args s 0 0 A) (F0 m 42 ls []) := by
  obtain ⟨hx, hb, hr, hts, hown, hlocks, hml, hK⟩ := id C
  unfold fC_Court_whyNot_42 at h
  refine lv_aload_n hx hb dX8_whyNot_42 rfl (lv_at hl 0 rfl) ?_
  refine lv_aload_n hx hb dX8_whyNot_43 rfl (lv_at hl 1 rfl) ?_
  refine lv_aload_n hx hb dX8_whyNot_44 rfl (lv_at hl 2 rfl) ?_
  refine lv_aload_n hx hb dX8_whyNot_45 rfl (lv_at hl 0 rfl) ?_
  refine cg_get hx hb hts iC_Court_whyNot_X8 hown hK hX 0 0 rfl rfl rfl 6 (by decide) (hts (.fieldLink RX8 37 "PassageCourt" "today" "I") (by decide +kernel)) (fun _ h9 => h9) rfl dX8_whyNot_46 ?_
  obtain ⟨r1, er1, h⟩ := mbind h
  refine cg_callV (As := [.ref (ad 5 i1), .ref (ad 4 i2), .int (sI g 0 0 6)]) (rest := []) ⟨hx, hb, hml, hown, hts⟩ 0 0 rfl (ci := 9) rfl rfl (cC_Court_hasDaysLeft l D yI yO z0 ad er1) (cwV 3 hts gX8_whyNot_X8_hasDaysLeft rfl rfl rfl (by decide +kernel) ⟨Nat.le_of_ble_eq_true rfl, Nat.le_of_ble_eq_true rfl⟩) hK hX rfl hl.1 rfl (Nat.le_of_ble_eq_true rfl) dX8_whyNot_49 ⟨Nat.zero_le _, Nat.zero_le _⟩ (fun H locs hX => ?_)
  refine lv_if_eq (tgt := 59) hx hb dX8_whyNot_52 (by decide) (fun c2 => ?_) (fun c2 => ?_)
  · replace h := mpos c2 h
    refine lv_iconst (v := 3) hx hb dX8_whyNot_59 (by decide) ?_
    exact w_C_Court_whyNot_60 C h hX (lv_sub hl [0] rfl)
  · replace h := mneg c2 h
    refine lv_iconst (v := 0) hx hb dX8_whyNot_55 (by decide) ?_
    refine lv_goto (tgt := 60) hx hb dX8_whyNot_56 (by decide) ?_
    exact w_C_Court_whyNot_60 C h hX (lv_sub hl [0] rfl)
def fC_Court_whyNot (g : CS) (i1 : Nat) (i2 : Nat) : Option Int32 :=
  (fC_Court_isRootedIn g i1 i2).bind fun r3 =>
  if r3 = 0 then
    (fC_Court_isBannedAt g i1 i2).bind fun r5 =>
    if r5 = 0 then
      (fC_Court_needsVisa g i1 i2).bind fun r7 =>
      if r7 = 0 then
        fC_Court_whyNot_42 g i1 i2
      else
        (fC_Court_lowestVisa g i1 i2).bind fun v9 =>
        om v9 (
          some 2)
          fun v10 =>
          fC_Court_whyNot_42 g i1 i2
    else
      some 1
  else
    some 0
set_option maxRecDepth 20000 in
theorem w_C_Court_whyNot_0 (C : cC p s m args meth c cX8_whyNot RX8 (some .int) wsX8_whyNot 3 D yI yO) {rz : Int32} {g : CS} {i1 : Nat} {i2 : Nat} (h : fC_Court_whyNot g i1 i2 = some rz) {H : Heap} {locs : List Loc} {ls : Array Slot} (hX : cX D yI yO z0 ad g A s H locs) (hl : lv_has ls 3 [(0, .ref (ad 0 0)), (1, .ref (ad 5 i1)), (2, .ref (ad 4 i2))]) : W p l e (mR 5 111) s m args below meth c H locs 0 0 (MQ below (cQ D yI yO z0 ad rz g A) args s 0 0 A) (F0 m 0 ls []) := by
  obtain ⟨hx, hb, hr, hts, hown, hlocks, hml, hK⟩ := id C
  unfold fC_Court_whyNot at h
  refine lv_aload_n hx hb dX8_whyNot_0 rfl (lv_at hl 0 rfl) ?_
  refine lv_aload_n hx hb dX8_whyNot_1 rfl (lv_at hl 1 rfl) ?_
  refine lv_aload_n hx hb dX8_whyNot_2 rfl (lv_at hl 2 rfl) ?_
  obtain ⟨r3, er3, h⟩ := mbind h
  refine cg_callV (As := [.ref (ad 5 i1), .ref (ad 4 i2)]) (rest := []) ⟨hx, hb, hml, hown, hts⟩ 0 0 rfl (ci := 9) rfl rfl (cC_Court_isRootedIn l D yI yO z0 ad er3) (cwV 2 hts gX8_whyNot_X8_isRootedIn rfl rfl rfl (by decide +kernel) ⟨Nat.le_of_ble_eq_true rfl, Nat.le_of_ble_eq_true rfl⟩) hK hX rfl hl.1 rfl (Nat.le_of_ble_eq_true rfl) dX8_whyNot_3 ⟨Nat.zero_le _, Nat.zero_le _⟩ (fun H locs hX => ?_)
  refine lv_if_eq (tgt := 11) hx hb dX8_whyNot_6 (by decide) (fun c4 => ?_) (fun c4 => ?_)
  · replace h := mpos c4 h
    refine lv_aload_n hx hb dX8_whyNot_11 rfl (lv_at hl 0 rfl) ?_
    refine lv_aload_n hx hb dX8_whyNot_12 rfl (lv_at hl 1 rfl) ?_
    refine lv_aload_n hx hb dX8_whyNot_13 rfl (lv_at hl 2 rfl) ?_
    obtain ⟨r5, er5, h⟩ := mbind h
    refine cg_callV (As := [.ref (ad 5 i1), .ref (ad 4 i2)]) (rest := []) ⟨hx, hb, hml, hown, hts⟩ 0 0 rfl (ci := 9) rfl rfl (cC_Court_isBannedAt l D yI yO z0 ad er5) (cwV 2 hts gX8_whyNot_X8_isBannedAt rfl rfl rfl (by decide +kernel) ⟨Nat.le_of_ble_eq_true rfl, Nat.le_of_ble_eq_true rfl⟩) hK hX rfl hl.1 rfl (Nat.le_of_ble_eq_true rfl) dX8_whyNot_14 ⟨Nat.zero_le _, Nat.zero_le _⟩ (fun H locs hX => ?_)
    refine lv_if_eq (tgt := 22) hx hb dX8_whyNot_17 (by decide) (fun c6 => ?_) (fun c6 => ?_)
    · replace h := mpos c6 h
      refine lv_aload_n hx hb dX8_whyNot_22 rfl (lv_at hl 0 rfl) ?_
      refine lv_aload_n hx hb dX8_whyNot_23 rfl (lv_at hl 1 rfl) ?_
      refine lv_aload_n hx hb dX8_whyNot_24 rfl (lv_at hl 2 rfl) ?_
      obtain ⟨r7, er7, h⟩ := mbind h
      refine cg_callV (As := [.ref (ad 5 i1), .ref (ad 4 i2)]) (rest := []) ⟨hx, hb, hml, hown, hts⟩ 0 0 rfl (ci := 9) rfl rfl (cC_Court_needsVisa l D yI yO z0 ad er7) (cwV 2 hts gX8_whyNot_X8_needsVisa rfl rfl rfl (by decide +kernel) ⟨Nat.le_of_ble_eq_true rfl, Nat.le_of_ble_eq_true rfl⟩) hK hX rfl hl.1 rfl (Nat.le_of_ble_eq_true rfl) dX8_whyNot_25 ⟨Nat.zero_le _, Nat.zero_le _⟩ (fun H locs hX => ?_)
      refine lv_if_eq (tgt := 42) hx hb dX8_whyNot_28 (by decide) (fun c8 => ?_) (fun c8 => ?_)
      · replace h := mpos c8 h
        exact w_C_Court_whyNot_42 C h hX (lv_sub hl [0, 1, 2] rfl)
      · replace h := mneg c8 h
        refine lv_aload_n hx hb dX8_whyNot_31 rfl (lv_at hl 0 rfl) ?_
        refine lv_aload_n hx hb dX8_whyNot_32 rfl (lv_at hl 1 rfl) ?_
        refine lv_aload_n hx hb dX8_whyNot_33 rfl (lv_at hl 2 rfl) ?_
        obtain ⟨v9, ev9, h⟩ := mbind h
        refine cg_callVq (As := [.ref (ad 5 i1), .ref (ad 4 i2)]) (rest := []) ⟨hx, hb, hml, hown, hts⟩ 0 0 rfl (ci := 9) rfl rfl (cC_Court_lowestVisa l D yI yO z0 ad ev9) (cwV 2 hts gX8_whyNot_X8_lowestVisa rfl rfl rfl (by decide +kernel) ⟨Nat.le_of_ble_eq_true rfl, Nat.le_of_ble_eq_true rfl⟩) hK hX rfl hl.1 rfl (Nat.le_of_ble_eq_true rfl) dX8_whyNot_34 ⟨Nat.zero_le _, Nat.zero_le _⟩ (fun H locs hX => ?_)
        rcases v9 with _ | v10
        · replace h := om_n rfl h
          refine W.eq (g2 := F0 m 37 ls [.null]) rfl ?_
          refine lv_ifnonnullN hx hb dX8_whyNot_37 ?_
          refine lv_iconst (v := 2) hx hb dX8_whyNot_40 (by decide) ?_
          cases h
          exact cg_reti hx hb hr hlocks hK hX dX8_whyNot_41
        · replace h := om_s rfl h
          refine W.eq (g2 := F0 m 37 ls [.ref (ad 6 v10)]) rfl ?_
          refine lv_ifnonnull (tgt := 42) hx hb dX8_whyNot_37 (by decide) ?_
          exact w_C_Court_whyNot_42 C h hX (lv_sub hl [0, 1, 2] rfl)
    · replace h := mneg c6 h
      refine lv_iconst (v := 1) hx hb dX8_whyNot_20 (by decide) ?_
      cases h
      exact cg_reti hx hb hr hlocks hK hX dX8_whyNot_21
  · replace h := mneg c4 h
    refine lv_iconst (v := 0) hx hb dX8_whyNot_9 (by decide) ?_
    cases h
    exact cg_reti hx hb hr hlocks hK hX dX8_whyNot_10
set_option maxRecDepth 20000 in
theorem cC_Court_whyNot (l : Launch) (D : va_G) (yI yO : ClassId) (z0 : Nat) (ad : Nat → Nat → Nat) {g : CS} {rz : Int32} {i1 : Nat} {i2 : Nat} (h : fC_Court_whyNot g i1 i2 = some rz) : Met l yX8_whyNot wsX8_whyNot (mR 5 111) (va_Pc [.ref (ad 0 0), .ref (ad 5 i1), .ref (ad 4 i2)] (cPre D yI yO z0 ad g)) (cQ D yI yO z0 ad rz g (cF ad g)) 0 0 (cF ad g) := by
  refine Met.ofW (cc := cX8_whyNot) (maxL := 3) (ret := (some .int)) (by decide) rfl ?_
  intro p e s m args below meth c s₁ B hml hv
  obtain ⟨hv0, hw, hK⟩ := hv
  have hv1 : args = [.ref (ad 0 0), .ref (ad 5 i1), .ref (ad 4 i2)].toArray := hv0
  subst hv1
  have C : cC p s m _ meth c cX8_whyNot RX8 (some .int) wsX8_whyNot 3 D yI yO := ⟨B.exec, B.bytes, B.returns, atoms_spec (ws := wsX8_whyNot) B.pre, findClass_of_methodNamed B.named, B.notSynchronized, hml, hK⟩
  have hl := lv_entry ([.ref (ad 0 0), .ref (ad 5 i1), .ref (ad 4 i2)]) (n := 3) (Nat.le_of_ble_eq_true rfl)
  rw [lg_entry_eq]
  generalize (lg_sl ([.ref (ad 0 0), .ref (ad 5 i1), .ref (ad 4 i2)]) ++ List.replicate (3 - (lg_sl ([.ref (ad 0 0), .ref (ad 5 i1), .ref (ad 4 i2)])).length) Slot.unset).toArray = ls at hl ⊢
  have hl : lv_has ls 3 [(0, .ref (ad 0 0)), (1, .ref (ad 5 i1)), (2, .ref (ad 4 i2))] := hl
  exact w_C_Court_whyNot_0 C h ⟨hw, fun k i hi => ⟨k, i, hi, rfl⟩, va_S.rf⟩ hl
theorem iC_Court_hasOpenRequest_X1 : ∀ w ∈ wsX10, w ∈ wsX8_hasOpenRequest := by decide +kernel
theorem iC_Court_hasOpenRequest_X3 : ∀ w ∈ wsX30, w ∈ wsX8_hasOpenRequest := by decide +kernel
theorem iC_Court_hasOpenRequest_X4 : ∀ w ∈ wsX40, w ∈ wsX8_hasOpenRequest := by decide +kernel
theorem iC_Court_hasOpenRequest_X8 : ∀ w ∈ wsX80, w ∈ wsX8_hasOpenRequest := by decide +kernel
def fC_Court_hasOpenRequest_60 (rec2 : CS → Nat → Nat → Int32 → Option Int32) (g : CS) (i1 : Nat) (i2 : Nat) (x3 : Int32) : Option Int32 :=
  rec2 g i1 i2 (x3 + 1)
set_option maxRecDepth 20000 in
theorem w_C_Court_hasOpenRequest_60 (C : cC p s m args meth c cX8_hasOpenRequest RX8 (some .boolean) wsX8_hasOpenRequest 5 D yI yO) {rz : Int32} {g : CS} {rec2 : CS → Nat → Nat → Int32 → Option Int32} (hrec2 : ∀ {i1 : Nat} {i2 : Nat} {x3 : Int32}  (_ : rec2 g i1 i2 x3 = some rz) {H : Heap} {locs : List Loc} {ls : Array Slot} (_ : cX D yI yO z0 ad g A s H locs) (_ : lv_has ls 5 [(0, .ref (ad 0 0)), (1, .ref (ad 5 i1)), (2, .ref (ad 4 i2)), (3, .int x3)]), W p l e (mR 3 64) s m args below meth c H locs 0 0 (MQ below (cQ D yI yO z0 ad rz g A) args s 0 0 A) (F0 m 2 ls [])) {i1 : Nat} {i2 : Nat} {x3 : Int32} (h : fC_Court_hasOpenRequest_60 rec2 g i1 i2 x3 = some rz) {H : Heap} {locs : List Loc} {ls : Array Slot} (hX : cX D yI yO z0 ad g A s H locs) (hl : lv_has ls 5 [(0, .ref (ad 0 0)), (1, .ref (ad 5 i1)), (2, .ref (ad 4 i2)), (3, .int x3)]) : W p l e (mR 3 64) s m args below meth c H locs 0 0 (MQ below (cQ D yI yO z0 ad rz g A) args s 0 0 A) (F0 m 60 ls []) := by
  obtain ⟨hx, hb, hr, hts, hown, hlocks, hml, hK⟩ := id C
  unfold fC_Court_hasOpenRequest_60 at h
  refine lv_iinc (v := x3 + 1) (lv' := [(3, .int (x3 + 1)), (0, .ref (ad 0 0)), (1, .ref (ad 5 i1)), (2, .ref (ad 4 i2))]) hx hb dX8_hasOpenRequest_60 hl (k := 3) rfl rfl (by decide) rfl (fun ls hl => ?_)
  refine lv_goto (tgt := 2) hx hb dX8_hasOpenRequest_63 (by decide) ?_
  exact hrec2 h hX (lv_sub hl [1, 2, 3, 0] rfl)
def fC_Court_hasOpenRequest_2 : Nat → CS → Nat → Nat → Int32 → Option Int32
  | 0, _, _, _, _ => none
  | n + 1, g, i1, i2, x3 =>
    if (nI (sN g 3)) ≤ x3 then
      (mbo 0).bind fun b2 => some b2
    else
      (cget g 3 x3).bind fun v3 =>
      (ck g 7 v3).bind fun _ =>
      (ck g 5 i1).bind fun _ =>
      if (sI g 7 v3 1) = (sI g 5 i1 0) then
        (ck g 4 i2).bind fun _ =>
        if (sI g 7 v3 2) = (sI g 4 i2 0) then
          (fC_Request_isOpen v3 g).bind fun r9 =>
          if r9 = 0 then
            fC_Court_hasOpenRequest_60 (fC_Court_hasOpenRequest_2 n) g i1 i2 x3
          else
            (mbo 1).bind fun b11 => some b11
        else
          fC_Court_hasOpenRequest_60 (fC_Court_hasOpenRequest_2 n) g i1 i2 x3
      else
        fC_Court_hasOpenRequest_60 (fC_Court_hasOpenRequest_2 n) g i1 i2 x3
set_option maxRecDepth 20000 in
theorem w_C_Court_hasOpenRequest_2 (C : cC p s m args meth c cX8_hasOpenRequest RX8 (some .boolean) wsX8_hasOpenRequest 5 D yI yO) {rz : Int32} {g : CS} : ∀ (n : Nat) {i1 : Nat} {i2 : Nat} {x3 : Int32} (h : fC_Court_hasOpenRequest_2 n g i1 i2 x3 = some rz) {H : Heap} {locs : List Loc} {ls : Array Slot} (hX : cX D yI yO z0 ad g A s H locs) (hl : lv_has ls 5 [(0, .ref (ad 0 0)), (1, .ref (ad 5 i1)), (2, .ref (ad 4 i2)), (3, .int x3)]), W p l e (mR 3 64) s m args below meth c H locs 0 0 (MQ below (cQ D yI yO z0 ad rz g A) args s 0 0 A) (F0 m 2 ls []) := by
  obtain ⟨hx, hb, hr, hts, hown, hlocks, hml, hK⟩ := id C
  intro n
  induction n with
  | zero =>
    intro i1 i2 x3 h
    cases (show (none : Option _) = _ from h)
  | succ n ih =>
    intro i1 i2 x3 h H locs ls hX hl
    rw [fC_Court_hasOpenRequest_2] at h
    refine lv_iload_n hx hb dX8_hasOpenRequest_2 rfl (lv_at hl 3 rfl) ?_
    refine lv_aload_n hx hb dX8_hasOpenRequest_3 rfl (lv_at hl 0 rfl) ?_
    refine cg_get hx hb hts iC_Court_hasOpenRequest_X8 hown hK hX 0 0 rfl rfl rfl 3 (by decide) (hts (.fieldLink RX8 22 "PassageCourt" "requests" "Ljava/util/ArrayList;") (by decide +kernel)) (fun _ h9 => h9) rfl dX8_hasOpenRequest_4 ?_
    refine cg_callV (As := []) (rest := [.int x3]) ⟨hx, hb, hml, hown, hts⟩ 1 3 rfl (ci := 0) rfl rfl (cC_List_size l D yI yO z0 ad g 3 (by decide)) (cwV 0 hts gX8_hasOpenRequest_Jx4a65c_size_8abf5 rfl rfl rfl (by decide +kernel) ⟨Nat.le_of_ble_eq_true rfl, Nat.le_of_ble_eq_true rfl⟩) hK hX rfl hl.1 rfl (Nat.le_of_ble_eq_true rfl) dX8_hasOpenRequest_7 ⟨Nat.zero_le _, Nat.zero_le _⟩ (fun H locs hX => ?_)
    refine lv_icmp_ge (tgt := 66) hx hb dX8_hasOpenRequest_10 (by decide) (fun c1 => ?_) (fun c1 => ?_)
    · replace h := mpos c1 h
      refine lv_iconst (v := 0) hx hb dX8_hasOpenRequest_66 (by decide) ?_
      obtain ⟨b2, eb2, h⟩ := mbind h
      cases h
      exact cg_retz hx hb hr hlocks hK hX dX8_hasOpenRequest_67 eb2
    · replace h := mneg c1 h
      refine lv_aload_n hx hb dX8_hasOpenRequest_13 rfl (lv_at hl 0 rfl) ?_
      refine cg_get hx hb hts iC_Court_hasOpenRequest_X8 hown hK hX 0 0 rfl rfl rfl 3 (by decide) (hts (.fieldLink RX8 22 "PassageCourt" "requests" "Ljava/util/ArrayList;") (by decide +kernel)) (fun _ h9 => h9) rfl dX8_hasOpenRequest_14 ?_
      refine lv_iload_n hx hb dX8_hasOpenRequest_17 rfl (lv_at hl 3 rfl) ?_
      obtain ⟨v3, ev3, h⟩ := mbind h
      refine cg_callVq (As := [.int x3]) (rest := []) ⟨hx, hb, hml, hown, hts⟩ 1 3 rfl (ci := 0) rfl rfl (cC_List_get l D yI yO z0 ad (by decide) ev3) (cwV 1 hts gX8_hasOpenRequest_Jx4a65c_get_915e3 rfl rfl rfl (by decide +kernel) ⟨Nat.le_of_ble_eq_true rfl, Nat.le_of_ble_eq_true rfl⟩) hK hX rfl hl.1 rfl (Nat.le_of_ble_eq_true rfl) dX8_hasOpenRequest_18 ⟨Nat.zero_le _, Nat.zero_le _⟩ (fun H locs hX => ?_)
      refine W.eq (g2 := F0 m 21 ls [.ref (ad 7 v3)]) rfl ?_
      obtain ⟨_, hv4, h⟩ := mbind h
      replace hv4 := ck_spec hv4
      refine cg_cast hx hb hown (hts (.classLink RX8 238 "PassageCourt$Request") (by decide +kernel)) hK hX 7 v3 hv4 (ci := 5) rfl rfl dX8_hasOpenRequest_21 ?_
      refine lv_astore (lv' := [(4, .ref (ad 7 v3)), (0, .ref (ad 0 0)), (1, .ref (ad 5 i1)), (2, .ref (ad 4 i2)), (3, .int x3)]) hx hb dX8_hasOpenRequest_24 hl (by decide) rfl (fun ls hl => ?_)
      refine lv_aload hx hb dX8_hasOpenRequest_26 (lv_at hl 0 rfl) ?_
      refine cg_get hx hb hts iC_Court_hasOpenRequest_X4 hown hK hX 7 v3 hv4 rfl rfl 1 (by decide) (hts (.fieldLink RX8 255 "PassageCourt$Request" "person" "I") (by decide +kernel)) (fun _ h9 => h9) rfl dX8_hasOpenRequest_28 ?_
      refine lv_aload_n hx hb dX8_hasOpenRequest_31 rfl (lv_at hl 2 rfl) ?_
      obtain ⟨_, hv5, h⟩ := mbind h
      replace hv5 := ck_spec hv5
      refine cg_get hx hb hts iC_Court_hasOpenRequest_X3 hown hK hX 5 i1 hv5 rfl rfl 0 (by decide) (hts (.fieldLink RX8 101 "PassageCourt$Person" "number" "I") (by decide +kernel)) (fun _ h9 => h9) rfl dX8_hasOpenRequest_32 ?_
      refine lv_icmp_ne (tgt := 60) hx hb dX8_hasOpenRequest_35 (by decide) (fun c6 => ?_) (fun c6 => ?_)
      · replace h := mneg c6 h
        exact w_C_Court_hasOpenRequest_60 C ih h hX (lv_sub hl [1, 2, 3, 4] rfl)
      · replace h := mpos c6 h
        refine lv_aload hx hb dX8_hasOpenRequest_38 (lv_at hl 0 rfl) ?_
        refine cg_get hx hb hts iC_Court_hasOpenRequest_X4 hown hK hX 7 v3 hv4 rfl rfl 2 (by decide) (hts (.fieldLink RX8 415 "PassageCourt$Request" "land" "I") (by decide +kernel)) (fun _ h9 => h9) rfl dX8_hasOpenRequest_40 ?_
        refine lv_aload_n hx hb dX8_hasOpenRequest_43 rfl (lv_at hl 3 rfl) ?_
        obtain ⟨_, hv7, h⟩ := mbind h
        replace hv7 := ck_spec hv7
        refine cg_get hx hb hts iC_Court_hasOpenRequest_X1 hown hK hX 4 i2 hv7 rfl rfl 0 (by decide) (hts (.fieldLink RX8 66 "PassageCourt$Land" "number" "I") (by decide +kernel)) (fun _ h9 => h9) rfl dX8_hasOpenRequest_44 ?_
        refine lv_icmp_ne (tgt := 60) hx hb dX8_hasOpenRequest_47 (by decide) (fun c8 => ?_) (fun c8 => ?_)
        · replace h := mneg c8 h
          exact w_C_Court_hasOpenRequest_60 C ih h hX (lv_sub hl [1, 2, 3, 4] rfl)
        · replace h := mpos c8 h
          refine lv_aload hx hb dX8_hasOpenRequest_50 (lv_at hl 0 rfl) ?_
          obtain ⟨r9, er9, h⟩ := mbind h
          refine cg_callV (As := []) (rest := []) ⟨hx, hb, hml, hown, hts⟩ 7 v3 hv4 (ci := 5) rfl rfl (cC_Request_isOpen l D yI yO z0 ad er9) (cwV 0 hts gX8_hasOpenRequest_X4_isOpen rfl rfl rfl (by decide +kernel) ⟨Nat.le_of_ble_eq_true rfl, Nat.le_of_ble_eq_true rfl⟩) hK hX rfl hl.1 rfl (Nat.le_of_ble_eq_true rfl) dX8_hasOpenRequest_52 ⟨Nat.zero_le _, Nat.zero_le _⟩ (fun H locs hX => ?_)
          refine lv_if_eq (tgt := 60) hx hb dX8_hasOpenRequest_55 (by decide) (fun c10 => ?_) (fun c10 => ?_)
          · replace h := mpos c10 h
            exact w_C_Court_hasOpenRequest_60 C ih h hX (lv_sub hl [1, 2, 3, 4] rfl)
          · replace h := mneg c10 h
            refine lv_iconst (v := 1) hx hb dX8_hasOpenRequest_58 (by decide) ?_
            obtain ⟨b11, eb11, h⟩ := mbind h
            cases h
            exact cg_retz hx hb hr hlocks hK hX dX8_hasOpenRequest_59 eb11
def fC_Court_hasOpenRequest (g : CS) (i1 : Nat) (i2 : Nat) : Option Int32 :=
  fC_Court_hasOpenRequest_2 4096 g i1 i2 0
set_option maxRecDepth 20000 in
theorem w_C_Court_hasOpenRequest_0 (C : cC p s m args meth c cX8_hasOpenRequest RX8 (some .boolean) wsX8_hasOpenRequest 5 D yI yO) {rz : Int32} {g : CS} {i1 : Nat} {i2 : Nat} (h : fC_Court_hasOpenRequest g i1 i2 = some rz) {H : Heap} {locs : List Loc} {ls : Array Slot} (hX : cX D yI yO z0 ad g A s H locs) (hl : lv_has ls 5 [(0, .ref (ad 0 0)), (1, .ref (ad 5 i1)), (2, .ref (ad 4 i2))]) : W p l e (mR 3 64) s m args below meth c H locs 0 0 (MQ below (cQ D yI yO z0 ad rz g A) args s 0 0 A) (F0 m 0 ls []) := by
  obtain ⟨hx, hb, hr, hts, hown, hlocks, hml, hK⟩ := id C
  unfold fC_Court_hasOpenRequest at h
  refine lv_iconst (v := 0) hx hb dX8_hasOpenRequest_0 (by decide) ?_
  refine lv_istore_n (lv' := [(3, .int 0), (0, .ref (ad 0 0)), (1, .ref (ad 5 i1)), (2, .ref (ad 4 i2))]) hx hb dX8_hasOpenRequest_1 rfl hl (by decide) rfl (fun ls hl => ?_)
  exact w_C_Court_hasOpenRequest_2 C 4096 h hX (lv_sub hl [1, 2, 3, 0] rfl)
set_option maxRecDepth 20000 in
theorem cC_Court_hasOpenRequest (l : Launch) (D : va_G) (yI yO : ClassId) (z0 : Nat) (ad : Nat → Nat → Nat) {g : CS} {rz : Int32} {i1 : Nat} {i2 : Nat} (h : fC_Court_hasOpenRequest g i1 i2 = some rz) : Met l yX8_hasOpenRequest wsX8_hasOpenRequest (mR 3 64) (va_Pc [.ref (ad 0 0), .ref (ad 5 i1), .ref (ad 4 i2)] (cPre D yI yO z0 ad g)) (cQ D yI yO z0 ad rz g (cF ad g)) 0 0 (cF ad g) := by
  refine Met.ofW (cc := cX8_hasOpenRequest) (maxL := 5) (ret := (some .boolean)) (by decide) rfl ?_
  intro p e s m args below meth c s₁ B hml hv
  obtain ⟨hv0, hw, hK⟩ := hv
  have hv1 : args = [.ref (ad 0 0), .ref (ad 5 i1), .ref (ad 4 i2)].toArray := hv0
  subst hv1
  have C : cC p s m _ meth c cX8_hasOpenRequest RX8 (some .boolean) wsX8_hasOpenRequest 5 D yI yO := ⟨B.exec, B.bytes, B.returns, atoms_spec (ws := wsX8_hasOpenRequest) B.pre, findClass_of_methodNamed B.named, B.notSynchronized, hml, hK⟩
  have hl := lv_entry ([.ref (ad 0 0), .ref (ad 5 i1), .ref (ad 4 i2)]) (n := 5) (Nat.le_of_ble_eq_true rfl)
  rw [lg_entry_eq]
  generalize (lg_sl ([.ref (ad 0 0), .ref (ad 5 i1), .ref (ad 4 i2)]) ++ List.replicate (5 - (lg_sl ([.ref (ad 0 0), .ref (ad 5 i1), .ref (ad 4 i2)])).length) Slot.unset).toArray = ls at hl ⊢
  have hl : lv_has ls 5 [(0, .ref (ad 0 0)), (1, .ref (ad 5 i1)), (2, .ref (ad 4 i2))] := hl
  exact w_C_Court_hasOpenRequest_0 C h ⟨hw, fun k i hi => ⟨k, i, hi, rfl⟩, va_S.rf⟩ hl
theorem iC_Court_isTooOldFor_X3 : ∀ w ∈ wsX30, w ∈ wsX8_isTooOldFor := by decide +kernel
theorem iC_Court_isTooOldFor_X4 : ∀ w ∈ wsX40, w ∈ wsX8_isTooOldFor := by decide +kernel
def fC_Court_isTooOldFor_52 (g : CS) (xs0 : Int32) : Option Int32 :=
  (mbo xs0).bind fun b1 => some b1
set_option maxRecDepth 20000 in
theorem w_C_Court_isTooOldFor_52 (C : cC p s m args meth c cX8_isTooOldFor RX8 (some .boolean) wsX8_isTooOldFor 4 D yI yO) {rz : Int32} {g : CS} {xs0 : Int32} (h : fC_Court_isTooOldFor_52 g xs0 = some rz) {H : Heap} {locs : List Loc} {ls : Array Slot} (hX : cX D yI yO z0 ad g A s H locs) (hl : lv_has ls 4 [(0, .ref (ad 0 0))]) : W p l e (mR 0 0) s m args below meth c H locs 0 0 (MQ below (cQ D yI yO z0 ad rz g A) args s 0 0 A) (F0 m 52 ls [.int xs0]) := by
  obtain ⟨hx, hb, hr, hts, hown, hlocks, hml, hK⟩ := id C
  unfold fC_Court_isTooOldFor_52 at h
  obtain ⟨b1, eb1, h⟩ := mbind h
  cases h
  exact cg_retz hx hb hr hlocks hK hX dX8_isTooOldFor_52 eb1
def fC_Court_isTooOldFor_51 (g : CS) : Option Int32 :=
  fC_Court_isTooOldFor_52 g 0
set_option maxRecDepth 20000 in
theorem w_C_Court_isTooOldFor_51 (C : cC p s m args meth c cX8_isTooOldFor RX8 (some .boolean) wsX8_isTooOldFor 4 D yI yO) {rz : Int32} {g : CS} (h : fC_Court_isTooOldFor_51 g = some rz) {H : Heap} {locs : List Loc} {ls : Array Slot} (hX : cX D yI yO z0 ad g A s H locs) (hl : lv_has ls 4 [(0, .ref (ad 0 0))]) : W p l e (mR 0 0) s m args below meth c H locs 0 0 (MQ below (cQ D yI yO z0 ad rz g A) args s 0 0 A) (F0 m 51 ls []) := by
  obtain ⟨hx, hb, hr, hts, hown, hlocks, hml, hK⟩ := id C
  unfold fC_Court_isTooOldFor_51 at h
  refine lv_iconst (v := 0) hx hb dX8_isTooOldFor_51 (by decide) ?_
  exact w_C_Court_isTooOldFor_52 C h hX (lv_sub hl [0] rfl)
def fC_Court_isTooOldFor_27 (g : CS) (i1 : Nat) (i2 : Nat) (xs0 : Int32) : Option Int32 :=
  if xs0 = 0 then
    fC_Court_isTooOldFor_51 g
  else
    (ck g 7 i1).bind fun _ =>
    (ck g 5 i2).bind fun _ =>
    if ((sI g 7 i1 4) - (sI g 5 i2 1)) < 6480 then
      fC_Court_isTooOldFor_51 g
    else
      fC_Court_isTooOldFor_52 g 1
set_option maxRecDepth 20000 in
theorem w_C_Court_isTooOldFor_27 (C : cC p s m args meth c cX8_isTooOldFor RX8 (some .boolean) wsX8_isTooOldFor 4 D yI yO) {rz : Int32} {g : CS} {i1 : Nat} {i2 : Nat} {xs0 : Int32} (h : fC_Court_isTooOldFor_27 g i1 i2 xs0 = some rz) {H : Heap} {locs : List Loc} {ls : Array Slot} (hX : cX D yI yO z0 ad g A s H locs) (hl : lv_has ls 4 [(0, .ref (ad 0 0)), (1, .ref (ad 7 i1)), (2, .ref (ad 5 i2))]) : W p l e (mR 0 0) s m args below meth c H locs 0 0 (MQ below (cQ D yI yO z0 ad rz g A) args s 0 0 A) (F0 m 27 ls [.int xs0]) := by
  obtain ⟨hx, hb, hr, hts, hown, hlocks, hml, hK⟩ := id C
  unfold fC_Court_isTooOldFor_27 at h
  refine lv_istore_n (lv' := [(3, .int xs0), (0, .ref (ad 0 0)), (1, .ref (ad 7 i1)), (2, .ref (ad 5 i2))]) hx hb dX8_isTooOldFor_27 rfl hl (by decide) rfl (fun ls hl => ?_)
  refine lv_iload_n hx hb dX8_isTooOldFor_28 rfl (lv_at hl 0 rfl) ?_
  refine lv_if_eq (tgt := 51) hx hb dX8_isTooOldFor_29 (by decide) (fun c2 => ?_) (fun c2 => ?_)
  · replace h := mpos c2 h
    exact w_C_Court_isTooOldFor_51 C h hX (lv_sub hl [1] rfl)
  · replace h := mneg c2 h
    refine lv_aload_n hx hb dX8_isTooOldFor_32 rfl (lv_at hl 2 rfl) ?_
    obtain ⟨_, hv3, h⟩ := mbind h
    replace hv3 := ck_spec hv3
    refine cg_get hx hb hts iC_Court_isTooOldFor_X4 hown hK hX 7 i1 hv3 rfl rfl 4 (by decide) (hts (.fieldLink RX8 276 "PassageCourt$Request" "date" "I") (by decide +kernel)) (fun _ h9 => h9) rfl dX8_isTooOldFor_33 ?_
    refine lv_aload_n hx hb dX8_isTooOldFor_36 rfl (lv_at hl 3 rfl) ?_
    obtain ⟨_, hv4, h⟩ := mbind h
    replace hv4 := ck_spec hv4
    refine cg_get hx hb hts iC_Court_isTooOldFor_X3 hown hK hX 5 i2 hv4 rfl rfl 1 (by decide) (hts (.fieldLink RX8 428 "PassageCourt$Person" "birthday" "I") (by decide +kernel)) (fun _ h9 => h9) rfl dX8_isTooOldFor_37 ?_
    refine lv_isub hx hb dX8_isTooOldFor_40 ?_
    refine lv_sipush (v := 6480) hx hb dX8_isTooOldFor_41 (by decide) ?_
    refine lv_icmp_lt (tgt := 51) hx hb dX8_isTooOldFor_44 (by decide) (fun c5 => ?_) (fun c5 => ?_)
    · replace h := mpos c5 h
      exact w_C_Court_isTooOldFor_51 C h hX (lv_sub hl [1] rfl)
    · replace h := mneg c5 h
      refine lv_iconst (v := 1) hx hb dX8_isTooOldFor_47 (by decide) ?_
      refine lv_goto (tgt := 52) hx hb dX8_isTooOldFor_48 (by decide) ?_
      exact w_C_Court_isTooOldFor_52 C h hX (lv_sub hl [1] rfl)
def fC_Court_isTooOldFor_22 (g : CS) (i1 : Nat) (i2 : Nat) : Option Int32 :=
  fC_Court_isTooOldFor_27 g i1 i2 1
set_option maxRecDepth 20000 in
theorem w_C_Court_isTooOldFor_22 (C : cC p s m args meth c cX8_isTooOldFor RX8 (some .boolean) wsX8_isTooOldFor 4 D yI yO) {rz : Int32} {g : CS} {i1 : Nat} {i2 : Nat} (h : fC_Court_isTooOldFor_22 g i1 i2 = some rz) {H : Heap} {locs : List Loc} {ls : Array Slot} (hX : cX D yI yO z0 ad g A s H locs) (hl : lv_has ls 4 [(0, .ref (ad 0 0)), (1, .ref (ad 7 i1)), (2, .ref (ad 5 i2))]) : W p l e (mR 0 0) s m args below meth c H locs 0 0 (MQ below (cQ D yI yO z0 ad rz g A) args s 0 0 A) (F0 m 22 ls []) := by
  obtain ⟨hx, hb, hr, hts, hown, hlocks, hml, hK⟩ := id C
  unfold fC_Court_isTooOldFor_22 at h
  refine lv_iconst (v := 1) hx hb dX8_isTooOldFor_22 (by decide) ?_
  refine lv_goto (tgt := 27) hx hb dX8_isTooOldFor_23 (by decide) ?_
  exact w_C_Court_isTooOldFor_27 C h hX (lv_sub hl [0, 1, 2] rfl)
def fC_Court_isTooOldFor (g : CS) (i1 : Nat) (i2 : Nat) : Option Int32 :=
  (ck g 5 i2).bind fun _ =>
  (ck g 7 i1).bind fun _ =>
  if (sI g 5 i2 2) = (sI g 7 i1 1) then
    fC_Court_isTooOldFor_22 g i1 i2
  else
    if (sI g 5 i2 3) = (sI g 7 i1 1) then
      fC_Court_isTooOldFor_22 g i1 i2
    else
      fC_Court_isTooOldFor_27 g i1 i2 0
set_option maxRecDepth 20000 in
theorem w_C_Court_isTooOldFor_0 (C : cC p s m args meth c cX8_isTooOldFor RX8 (some .boolean) wsX8_isTooOldFor 4 D yI yO) {rz : Int32} {g : CS} {i1 : Nat} {i2 : Nat} (h : fC_Court_isTooOldFor g i1 i2 = some rz) {H : Heap} {locs : List Loc} {ls : Array Slot} (hX : cX D yI yO z0 ad g A s H locs) (hl : lv_has ls 4 [(0, .ref (ad 0 0)), (1, .ref (ad 7 i1)), (2, .ref (ad 5 i2))]) : W p l e (mR 0 0) s m args below meth c H locs 0 0 (MQ below (cQ D yI yO z0 ad rz g A) args s 0 0 A) (F0 m 0 ls []) := by
  obtain ⟨hx, hb, hr, hts, hown, hlocks, hml, hK⟩ := id C
  unfold fC_Court_isTooOldFor at h
  refine lv_aload_n hx hb dX8_isTooOldFor_0 rfl (lv_at hl 2 rfl) ?_
  obtain ⟨_, hv6, h⟩ := mbind h
  replace hv6 := ck_spec hv6
  refine cg_get hx hb hts iC_Court_isTooOldFor_X3 hown hK hX 5 i2 hv6 rfl rfl 2 (by decide) (hts (.fieldLink RX8 422 "PassageCourt$Person" "mother" "I") (by decide +kernel)) (fun _ h9 => h9) rfl dX8_isTooOldFor_1 ?_
  refine lv_aload_n hx hb dX8_isTooOldFor_4 rfl (lv_at hl 1 rfl) ?_
  obtain ⟨_, hv7, h⟩ := mbind h
  replace hv7 := ck_spec hv7
  refine cg_get hx hb hts iC_Court_isTooOldFor_X4 hown hK hX 7 i1 hv7 rfl rfl 1 (by decide) (hts (.fieldLink RX8 255 "PassageCourt$Request" "person" "I") (by decide +kernel)) (fun _ h9 => h9) rfl dX8_isTooOldFor_5 ?_
  refine lv_icmp_eq (tgt := 22) hx hb dX8_isTooOldFor_8 (by decide) (fun c8 => ?_) (fun c8 => ?_)
  · replace h := mpos c8 h
    exact w_C_Court_isTooOldFor_22 C h hX (lv_sub hl [0, 1, 2] rfl)
  · replace h := mneg c8 h
    refine lv_aload_n hx hb dX8_isTooOldFor_11 rfl (lv_at hl 2 rfl) ?_
    refine cg_get hx hb hts iC_Court_isTooOldFor_X3 hown hK hX 5 i2 hv6 rfl rfl 3 (by decide) (hts (.fieldLink RX8 425 "PassageCourt$Person" "father" "I") (by decide +kernel)) (fun _ h9 => h9) rfl dX8_isTooOldFor_12 ?_
    refine lv_aload_n hx hb dX8_isTooOldFor_15 rfl (lv_at hl 1 rfl) ?_
    refine cg_get hx hb hts iC_Court_isTooOldFor_X4 hown hK hX 7 i1 hv7 rfl rfl 1 (by decide) (hts (.fieldLink RX8 255 "PassageCourt$Request" "person" "I") (by decide +kernel)) (fun _ h9 => h9) rfl dX8_isTooOldFor_16 ?_
    refine lv_icmp_ne (tgt := 26) hx hb dX8_isTooOldFor_19 (by decide) (fun c9 => ?_) (fun c9 => ?_)
    · replace h := mneg c9 h
      refine lv_iconst (v := 0) hx hb dX8_isTooOldFor_26 (by decide) ?_
      exact w_C_Court_isTooOldFor_27 C h hX (lv_sub hl [0, 1, 2] rfl)
    · replace h := mpos c9 h
      exact w_C_Court_isTooOldFor_22 C h hX (lv_sub hl [0, 1, 2] rfl)
set_option maxRecDepth 20000 in
theorem cC_Court_isTooOldFor (l : Launch) (D : va_G) (yI yO : ClassId) (z0 : Nat) (ad : Nat → Nat → Nat) {g : CS} {rz : Int32} {i1 : Nat} {i2 : Nat} (h : fC_Court_isTooOldFor g i1 i2 = some rz) : Met l yX8_isTooOldFor wsX8_isTooOldFor (mR 0 0) (va_Pc [.ref (ad 0 0), .ref (ad 7 i1), .ref (ad 5 i2)] (cPre D yI yO z0 ad g)) (cQ D yI yO z0 ad rz g (cF ad g)) 0 0 (cF ad g) := by
  refine Met.ofW (cc := cX8_isTooOldFor) (maxL := 4) (ret := (some .boolean)) (by decide) rfl ?_
  intro p e s m args below meth c s₁ B hml hv
  obtain ⟨hv0, hw, hK⟩ := hv
  have hv1 : args = [.ref (ad 0 0), .ref (ad 7 i1), .ref (ad 5 i2)].toArray := hv0
  subst hv1
  have C : cC p s m _ meth c cX8_isTooOldFor RX8 (some .boolean) wsX8_isTooOldFor 4 D yI yO := ⟨B.exec, B.bytes, B.returns, atoms_spec (ws := wsX8_isTooOldFor) B.pre, findClass_of_methodNamed B.named, B.notSynchronized, hml, hK⟩
  have hl := lv_entry ([.ref (ad 0 0), .ref (ad 7 i1), .ref (ad 5 i2)]) (n := 4) (Nat.le_of_ble_eq_true rfl)
  rw [lg_entry_eq]
  generalize (lg_sl ([.ref (ad 0 0), .ref (ad 7 i1), .ref (ad 5 i2)]) ++ List.replicate (4 - (lg_sl ([.ref (ad 0 0), .ref (ad 7 i1), .ref (ad 5 i2)])).length) Slot.unset).toArray = ls at hl ⊢
  have hl : lv_has ls 4 [(0, .ref (ad 0 0)), (1, .ref (ad 7 i1)), (2, .ref (ad 5 i2))] := hl
  exact w_C_Court_isTooOldFor_0 C h ⟨hw, fun k i hi => ⟨k, i, hi, rfl⟩, va_S.rf⟩ hl
theorem iC_Court_placeOf_X4 : ∀ w ∈ wsX40, w ∈ wsX8_placeOf := by decide +kernel
theorem iC_Court_placeOf_X8 : ∀ w ∈ wsX80, w ∈ wsX8_placeOf := by decide +kernel
def fC_Court_placeOf_66 (g : CS) (x2 : Int32) : Option Int32 :=
  some x2
set_option maxRecDepth 20000 in
theorem w_C_Court_placeOf_66 (C : cC p s m args meth c cX8_placeOf RX8 (some .int) wsX8_placeOf 4 D yI yO) {rz : Int32} {g : CS} {x2 : Int32} (h : fC_Court_placeOf_66 g x2 = some rz) {H : Heap} {locs : List Loc} {ls : Array Slot} (hX : cX D yI yO z0 ad g A s H locs) (hl : lv_has ls 4 [(0, .ref (ad 0 0)), (2, .int x2)]) : W p l e (mR 3 64) s m args below meth c H locs 0 0 (MQ below (cQ D yI yO z0 ad rz g A) args s 0 0 A) (F0 m 66 ls []) := by
  obtain ⟨hx, hb, hr, hts, hown, hlocks, hml, hK⟩ := id C
  unfold fC_Court_placeOf_66 at h
  refine lv_iload_n hx hb dX8_placeOf_66 rfl (lv_at hl 1 rfl) ?_
  cases h
  exact cg_reti hx hb hr hlocks hK hX dX8_placeOf_67
def fC_Court_placeOf_60 (rec13 : CS → Nat → Int32 → Int32 → Option Int32) (g : CS) (i1 : Nat) (x2 : Int32) (x3 : Int32) : Option Int32 :=
  rec13 g i1 x2 (x3 + 1)
set_option maxRecDepth 20000 in
theorem w_C_Court_placeOf_60 (C : cC p s m args meth c cX8_placeOf RX8 (some .int) wsX8_placeOf 4 D yI yO) {rz : Int32} {g : CS} {rec13 : CS → Nat → Int32 → Int32 → Option Int32} (hrec13 : ∀ {i1 : Nat} {x2 : Int32} {x3 : Int32}  (_ : rec13 g i1 x2 x3 = some rz) {H : Heap} {locs : List Loc} {ls : Array Slot} (_ : cX D yI yO z0 ad g A s H locs) (_ : lv_has ls 4 [(0, .ref (ad 0 0)), (1, .ref (ad 7 i1)), (2, .int x2), (3, .int x3)]), W p l e (mR 3 64) s m args below meth c H locs 0 0 (MQ below (cQ D yI yO z0 ad rz g A) args s 0 0 A) (F0 m 13 ls [])) {i1 : Nat} {x2 : Int32} {x3 : Int32} (h : fC_Court_placeOf_60 rec13 g i1 x2 x3 = some rz) {H : Heap} {locs : List Loc} {ls : Array Slot} (hX : cX D yI yO z0 ad g A s H locs) (hl : lv_has ls 4 [(0, .ref (ad 0 0)), (1, .ref (ad 7 i1)), (2, .int x2), (3, .int x3)]) : W p l e (mR 3 64) s m args below meth c H locs 0 0 (MQ below (cQ D yI yO z0 ad rz g A) args s 0 0 A) (F0 m 60 ls []) := by
  obtain ⟨hx, hb, hr, hts, hown, hlocks, hml, hK⟩ := id C
  unfold fC_Court_placeOf_60 at h
  refine lv_iinc (v := x3 + 1) (lv' := [(3, .int (x3 + 1)), (0, .ref (ad 0 0)), (1, .ref (ad 7 i1)), (2, .int x2)]) hx hb dX8_placeOf_60 hl (k := 3) rfl rfl (by decide) rfl (fun ls hl => ?_)
  refine lv_goto (tgt := 13) hx hb dX8_placeOf_63 (by decide) ?_
  exact hrec13 h hX (lv_sub hl [1, 2, 3, 0] rfl)
def fC_Court_placeOf_13 : Nat → CS → Nat → Int32 → Int32 → Option Int32
  | 0, _, _, _, _ => none
  | n + 1, g, i1, x2, x3 =>
    (ck g 7 i1).bind fun _ =>
    if (sI g 7 i1 0) ≤ x3 then
      fC_Court_placeOf_66 g x2
    else
      if (nI (sN g 3)) ≤ x3 then
        fC_Court_placeOf_66 g x2
      else
        (cget g 3 x3).bind fun v4 =>
        (ck g 7 v4).bind fun _ =>
        (fC_Request_isWaitingFor v4 g (sI g 7 i1 2) (sI g 7 i1 3)).bind fun r6 =>
        if r6 = 0 then
          fC_Court_placeOf_60 (fC_Court_placeOf_13 n) g i1 x2 x3
        else
          fC_Court_placeOf_60 (fC_Court_placeOf_13 n) g i1 (x2 + 1) x3
set_option maxRecDepth 20000 in
theorem w_C_Court_placeOf_13 (C : cC p s m args meth c cX8_placeOf RX8 (some .int) wsX8_placeOf 4 D yI yO) {rz : Int32} {g : CS} : ∀ (n : Nat) {i1 : Nat} {x2 : Int32} {x3 : Int32} (h : fC_Court_placeOf_13 n g i1 x2 x3 = some rz) {H : Heap} {locs : List Loc} {ls : Array Slot} (hX : cX D yI yO z0 ad g A s H locs) (hl : lv_has ls 4 [(0, .ref (ad 0 0)), (1, .ref (ad 7 i1)), (2, .int x2), (3, .int x3)]), W p l e (mR 3 64) s m args below meth c H locs 0 0 (MQ below (cQ D yI yO z0 ad rz g A) args s 0 0 A) (F0 m 13 ls []) := by
  obtain ⟨hx, hb, hr, hts, hown, hlocks, hml, hK⟩ := id C
  intro n
  induction n with
  | zero =>
    intro i1 x2 x3 h
    cases (show (none : Option _) = _ from h)
  | succ n ih =>
    intro i1 x2 x3 h H locs ls hX hl
    rw [fC_Court_placeOf_13] at h
    refine lv_iload_n hx hb dX8_placeOf_13 rfl (lv_at hl 3 rfl) ?_
    refine lv_aload_n hx hb dX8_placeOf_14 rfl (lv_at hl 1 rfl) ?_
    obtain ⟨_, hv1, h⟩ := mbind h
    replace hv1 := ck_spec hv1
    refine cg_get hx hb hts iC_Court_placeOf_X4 hown hK hX 7 i1 hv1 rfl rfl 0 (by decide) (hts (.fieldLink RX8 243 "PassageCourt$Request" "number" "I") (by decide +kernel)) (fun _ h9 => h9) rfl dX8_placeOf_15 ?_
    refine lv_icmp_ge (tgt := 66) hx hb dX8_placeOf_18 (by decide) (fun c2 => ?_) (fun c2 => ?_)
    · replace h := mpos c2 h
      exact w_C_Court_placeOf_66 C h hX (lv_sub hl [0, 2] rfl)
    · replace h := mneg c2 h
      refine lv_iload_n hx hb dX8_placeOf_21 rfl (lv_at hl 3 rfl) ?_
      refine lv_aload_n hx hb dX8_placeOf_22 rfl (lv_at hl 0 rfl) ?_
      refine cg_get hx hb hts iC_Court_placeOf_X8 hown hK hX 0 0 rfl rfl rfl 3 (by decide) (hts (.fieldLink RX8 22 "PassageCourt" "requests" "Ljava/util/ArrayList;") (by decide +kernel)) (fun _ h9 => h9) rfl dX8_placeOf_23 ?_
      refine cg_callV (As := []) (rest := [.int x3]) ⟨hx, hb, hml, hown, hts⟩ 1 3 rfl (ci := 0) rfl rfl (cC_List_size l D yI yO z0 ad g 3 (by decide)) (cwV 0 hts gX8_placeOf_Jx4a65c_size_8abf5 rfl rfl rfl (by decide +kernel) ⟨Nat.le_of_ble_eq_true rfl, Nat.le_of_ble_eq_true rfl⟩) hK hX rfl hl.1 rfl (Nat.le_of_ble_eq_true rfl) dX8_placeOf_26 ⟨Nat.zero_le _, Nat.zero_le _⟩ (fun H locs hX => ?_)
      refine lv_icmp_ge (tgt := 66) hx hb dX8_placeOf_29 (by decide) (fun c3 => ?_) (fun c3 => ?_)
      · replace h := mpos c3 h
        exact w_C_Court_placeOf_66 C h hX (lv_sub hl [0, 2] rfl)
      · replace h := mneg c3 h
        refine lv_aload_n hx hb dX8_placeOf_32 rfl (lv_at hl 0 rfl) ?_
        refine cg_get hx hb hts iC_Court_placeOf_X8 hown hK hX 0 0 rfl rfl rfl 3 (by decide) (hts (.fieldLink RX8 22 "PassageCourt" "requests" "Ljava/util/ArrayList;") (by decide +kernel)) (fun _ h9 => h9) rfl dX8_placeOf_33 ?_
        refine lv_iload_n hx hb dX8_placeOf_36 rfl (lv_at hl 3 rfl) ?_
        obtain ⟨v4, ev4, h⟩ := mbind h
        refine cg_callVq (As := [.int x3]) (rest := []) ⟨hx, hb, hml, hown, hts⟩ 1 3 rfl (ci := 0) rfl rfl (cC_List_get l D yI yO z0 ad (by decide) ev4) (cwV 1 hts gX8_placeOf_Jx4a65c_get_915e3 rfl rfl rfl (by decide +kernel) ⟨Nat.le_of_ble_eq_true rfl, Nat.le_of_ble_eq_true rfl⟩) hK hX rfl hl.1 rfl (Nat.le_of_ble_eq_true rfl) dX8_placeOf_37 ⟨Nat.zero_le _, Nat.zero_le _⟩ (fun H locs hX => ?_)
        refine W.eq (g2 := F0 m 40 ls [.ref (ad 7 v4)]) rfl ?_
        obtain ⟨_, hv5, h⟩ := mbind h
        replace hv5 := ck_spec hv5
        refine cg_cast hx hb hown (hts (.classLink RX8 238 "PassageCourt$Request") (by decide +kernel)) hK hX 7 v4 hv5 (ci := 5) rfl rfl dX8_placeOf_40 ?_
        refine lv_aload_n hx hb dX8_placeOf_43 rfl (lv_at hl 1 rfl) ?_
        refine cg_get hx hb hts iC_Court_placeOf_X4 hown hK hX 7 i1 hv1 rfl rfl 2 (by decide) (hts (.fieldLink RX8 415 "PassageCourt$Request" "land" "I") (by decide +kernel)) (fun _ h9 => h9) rfl dX8_placeOf_44 ?_
        refine lv_aload_n hx hb dX8_placeOf_47 rfl (lv_at hl 1 rfl) ?_
        refine cg_get hx hb hts iC_Court_placeOf_X4 hown hK hX 7 i1 hv1 rfl rfl 3 (by decide) (hts (.fieldLink RX8 431 "PassageCourt$Request" "type" "I") (by decide +kernel)) (fun _ h9 => h9) rfl dX8_placeOf_48 ?_
        obtain ⟨r6, er6, h⟩ := mbind h
        refine cg_callV (As := [.int (sI g 7 i1 2), .int (sI g 7 i1 3)]) (rest := []) ⟨hx, hb, hml, hown, hts⟩ 7 v4 hv5 (ci := 5) rfl rfl (cC_Request_isWaitingFor l D yI yO z0 ad er6) (cwV 2 hts gX8_placeOf_X4_isWaitingFor rfl rfl rfl (by decide +kernel) ⟨Nat.le_of_ble_eq_true rfl, Nat.le_of_ble_eq_true rfl⟩) hK hX rfl hl.1 rfl (Nat.le_of_ble_eq_true rfl) dX8_placeOf_51 ⟨Nat.zero_le _, Nat.zero_le _⟩ (fun H locs hX => ?_)
        refine lv_if_eq (tgt := 60) hx hb dX8_placeOf_54 (by decide) (fun c7 => ?_) (fun c7 => ?_)
        · replace h := mpos c7 h
          exact w_C_Court_placeOf_60 C ih h hX (lv_sub hl [0, 1, 2, 3] rfl)
        · replace h := mneg c7 h
          refine lv_iinc (v := x2 + 1) (lv' := [(2, .int (x2 + 1)), (0, .ref (ad 0 0)), (1, .ref (ad 7 i1)), (3, .int x3)]) hx hb dX8_placeOf_57 hl (k := 2) rfl rfl (by decide) rfl (fun ls hl => ?_)
          exact w_C_Court_placeOf_60 C ih h hX (lv_sub hl [1, 2, 0, 3] rfl)
def fC_Court_placeOf (g : CS) (i1 : Nat) : Option Int32 :=
  (ck g 7 i1).bind fun _ =>
  if (sI g 7 i1 5) = 0 then
    fC_Court_placeOf_13 4096 g i1 0 0
  else
    some ((-1))
set_option maxRecDepth 20000 in
theorem w_C_Court_placeOf_0 (C : cC p s m args meth c cX8_placeOf RX8 (some .int) wsX8_placeOf 4 D yI yO) {rz : Int32} {g : CS} {i1 : Nat} (h : fC_Court_placeOf g i1 = some rz) {H : Heap} {locs : List Loc} {ls : Array Slot} (hX : cX D yI yO z0 ad g A s H locs) (hl : lv_has ls 4 [(0, .ref (ad 0 0)), (1, .ref (ad 7 i1))]) : W p l e (mR 3 64) s m args below meth c H locs 0 0 (MQ below (cQ D yI yO z0 ad rz g A) args s 0 0 A) (F0 m 0 ls []) := by
  obtain ⟨hx, hb, hr, hts, hown, hlocks, hml, hK⟩ := id C
  unfold fC_Court_placeOf at h
  refine lv_aload_n hx hb dX8_placeOf_0 rfl (lv_at hl 1 rfl) ?_
  obtain ⟨_, hv8, h⟩ := mbind h
  replace hv8 := ck_spec hv8
  refine cg_get hx hb hts iC_Court_placeOf_X4 hown hK hX 7 i1 hv8 rfl rfl 5 (by decide) (hts (.fieldLink RX8 248 "PassageCourt$Request" "state" "I") (by decide +kernel)) (fun _ h9 => h9) rfl dX8_placeOf_1 ?_
  refine lv_if_eq (tgt := 9) hx hb dX8_placeOf_4 (by decide) (fun c9 => ?_) (fun c9 => ?_)
  · replace h := mpos c9 h
    refine lv_iconst (v := 0) hx hb dX8_placeOf_9 (by decide) ?_
    refine lv_istore_n (lv' := [(2, .int 0), (0, .ref (ad 0 0)), (1, .ref (ad 7 i1))]) hx hb dX8_placeOf_10 rfl hl (by decide) rfl (fun ls hl => ?_)
    refine lv_iconst (v := 0) hx hb dX8_placeOf_11 (by decide) ?_
    refine lv_istore_n (lv' := [(3, .int 0), (2, .int 0), (0, .ref (ad 0 0)), (1, .ref (ad 7 i1))]) hx hb dX8_placeOf_12 rfl hl (by decide) rfl (fun ls hl => ?_)
    exact w_C_Court_placeOf_13 C 4096 h hX (lv_sub hl [2, 3, 1, 0] rfl)
  · replace h := mneg c9 h
    refine lv_iconst (v := -1) hx hb dX8_placeOf_7 (by decide) ?_
    cases h
    exact cg_reti hx hb hr hlocks hK hX dX8_placeOf_8
set_option maxRecDepth 20000 in
theorem cC_Court_placeOf (l : Launch) (D : va_G) (yI yO : ClassId) (z0 : Nat) (ad : Nat → Nat → Nat) {g : CS} {rz : Int32} {i1 : Nat} (h : fC_Court_placeOf g i1 = some rz) : Met l yX8_placeOf wsX8_placeOf (mR 3 64) (va_Pc [.ref (ad 0 0), .ref (ad 7 i1)] (cPre D yI yO z0 ad g)) (cQ D yI yO z0 ad rz g (cF ad g)) 0 0 (cF ad g) := by
  refine Met.ofW (cc := cX8_placeOf) (maxL := 4) (ret := (some .int)) (by decide) rfl ?_
  intro p e s m args below meth c s₁ B hml hv
  obtain ⟨hv0, hw, hK⟩ := hv
  have hv1 : args = [.ref (ad 0 0), .ref (ad 7 i1)].toArray := hv0
  subst hv1
  have C : cC p s m _ meth c cX8_placeOf RX8 (some .int) wsX8_placeOf 4 D yI yO := ⟨B.exec, B.bytes, B.returns, atoms_spec (ws := wsX8_placeOf) B.pre, findClass_of_methodNamed B.named, B.notSynchronized, hml, hK⟩
  have hl := lv_entry ([.ref (ad 0 0), .ref (ad 7 i1)]) (n := 4) (Nat.le_of_ble_eq_true rfl)
  rw [lg_entry_eq]
  generalize (lg_sl ([.ref (ad 0 0), .ref (ad 7 i1)]) ++ List.replicate (4 - (lg_sl ([.ref (ad 0 0), .ref (ad 7 i1)])).length) Slot.unset).toArray = ls at hl ⊢
  have hl : lv_has ls 4 [(0, .ref (ad 0 0)), (1, .ref (ad 7 i1))] := hl
  exact w_C_Court_placeOf_0 C h ⟨hw, fun k i hi => ⟨k, i, hi, rfl⟩, va_S.rf⟩ hl
theorem iC_Court_grant_X3 : ∀ w ∈ wsX30, w ∈ wsX8_grant := by decide +kernel
theorem iC_Court_grant_X4 : ∀ w ∈ wsX40, w ∈ wsX8_grant := by decide +kernel
theorem iC_Court_grant_X8 : ∀ w ∈ wsX80, w ∈ wsX8_grant := by decide +kernel
def fC_Court_grant_59 (rec7 : CS → Nat → Int32 → Option CS) (g : CS) (i1 : Nat) (x2 : Int32) : Option CS :=
  rec7 g i1 (x2 + 1)
set_option maxRecDepth 20000 in
theorem w_C_Court_grant_59 (C : cC p s m args meth c cX8_grant RX8 none wsX8_grant 3 D yI yO) {gz : CS} {rec7 : CS → Nat → Int32 → Option CS} (hrec7 : ∀ {g : CS} {i1 : Nat} {x2 : Int32}  (_ : rec7 g i1 x2 = some gz) {H : Heap} {locs : List Loc} {ls : Array Slot} (_ : cX D yI yO z0 ad g A s H locs) (_ : lv_has ls 3 [(0, .ref (ad 0 0)), (1, .ref (ad 7 i1)), (2, .int x2)]), W p l e (mR 3 65) s m args below meth c H locs 0 0 (MQ below (cQv D yI yO z0 ad gz A) args s 0 0 A) (F0 m 7 ls [])) {g : CS} {i1 : Nat} {x2 : Int32} (h : fC_Court_grant_59 rec7 g i1 x2 = some gz) {H : Heap} {locs : List Loc} {ls : Array Slot} (hX : cX D yI yO z0 ad g A s H locs) (hl : lv_has ls 3 [(0, .ref (ad 0 0)), (1, .ref (ad 7 i1)), (2, .int x2)]) : W p l e (mR 3 65) s m args below meth c H locs 0 0 (MQ below (cQv D yI yO z0 ad gz A) args s 0 0 A) (F0 m 59 ls []) := by
  obtain ⟨hx, hb, hr, hts, hown, hlocks, hml, hK⟩ := id C
  unfold fC_Court_grant_59 at h
  refine lv_iinc (v := x2 + 1) (lv' := [(2, .int (x2 + 1)), (0, .ref (ad 0 0)), (1, .ref (ad 7 i1))]) hx hb dX8_grant_59 hl (k := 2) rfl rfl (by decide) rfl (fun ls hl => ?_)
  refine lv_goto (tgt := 7) hx hb dX8_grant_62 (by decide) ?_
  exact hrec7 h hX (lv_sub hl [1, 2, 0] rfl)
def fC_Court_grant_34 (rec7 : CS → Nat → Int32 → Option CS) (g : CS) (i1 : Nat) (x2 : Int32) : Option CS :=
  (cget g 1 x2).bind fun v1 =>
  (ck g 5 v1).bind fun _ =>
  (ck g 7 i1).bind fun _ =>
  (fC_Permits_grantOn v1 g (sI g 7 i1 2) (sI g 0 0 6)).bind fun g4 =>
  fC_Court_grant_59 rec7 g4 i1 x2
set_option maxRecDepth 20000 in
theorem w_C_Court_grant_34 (C : cC p s m args meth c cX8_grant RX8 none wsX8_grant 3 D yI yO) {gz : CS} {rec7 : CS → Nat → Int32 → Option CS} (hrec7 : ∀ {g : CS} {i1 : Nat} {x2 : Int32}  (_ : rec7 g i1 x2 = some gz) {H : Heap} {locs : List Loc} {ls : Array Slot} (_ : cX D yI yO z0 ad g A s H locs) (_ : lv_has ls 3 [(0, .ref (ad 0 0)), (1, .ref (ad 7 i1)), (2, .int x2)]), W p l e (mR 3 65) s m args below meth c H locs 0 0 (MQ below (cQv D yI yO z0 ad gz A) args s 0 0 A) (F0 m 7 ls [])) {g : CS} {i1 : Nat} {x2 : Int32} (h : fC_Court_grant_34 rec7 g i1 x2 = some gz) {H : Heap} {locs : List Loc} {ls : Array Slot} (hX : cX D yI yO z0 ad g A s H locs) (hl : lv_has ls 3 [(0, .ref (ad 0 0)), (1, .ref (ad 7 i1)), (2, .int x2)]) : W p l e (mR 3 65) s m args below meth c H locs 0 0 (MQ below (cQv D yI yO z0 ad gz A) args s 0 0 A) (F0 m 34 ls []) := by
  obtain ⟨hx, hb, hr, hts, hown, hlocks, hml, hK⟩ := id C
  unfold fC_Court_grant_34 at h
  refine lv_aload_n hx hb dX8_grant_34 rfl (lv_at hl 0 rfl) ?_
  refine cg_get hx hb hts iC_Court_grant_X8 hown hK hX 0 0 rfl rfl rfl 1 (by decide) (hts (.fieldLink RX8 16 "PassageCourt" "persons" "Ljava/util/ArrayList;") (by decide +kernel)) (fun _ h9 => h9) rfl dX8_grant_35 ?_
  refine lv_iload_n hx hb dX8_grant_38 rfl (lv_at hl 2 rfl) ?_
  obtain ⟨v1, ev1, h⟩ := mbind h
  refine cg_callVq (As := [.int x2]) (rest := []) ⟨hx, hb, hml, hown, hts⟩ 1 1 rfl (ci := 0) rfl rfl (cC_List_get l D yI yO z0 ad (by decide) ev1) (cwV 1 hts gX8_grant_Jx4a65c_get_915e3 rfl rfl rfl (by decide +kernel) ⟨Nat.le_of_ble_eq_true rfl, Nat.le_of_ble_eq_true rfl⟩) hK hX rfl hl.1 rfl (Nat.le_of_ble_eq_true rfl) dX8_grant_39 ⟨Nat.zero_le _, Nat.zero_le _⟩ (fun H locs hX => ?_)
  refine W.eq (g2 := F0 m 42 ls [.ref (ad 5 v1)]) rfl ?_
  obtain ⟨_, hv2, h⟩ := mbind h
  replace hv2 := ck_spec hv2
  refine cg_cast hx hb hown (hts (.classLink RX8 102 "PassageCourt$Person") (by decide +kernel)) hK hX 5 v1 hv2 (ci := 4) rfl rfl dX8_grant_42 ?_
  refine cg_get hx hb hts iC_Court_grant_X3 hown hK hX 5 v1 hv2 rfl rfl 7 (by decide) (hts (.fieldLink RX8 279 "PassageCourt$Person" "permits" "LPassageCourt$Permits;") (by decide +kernel)) (fun _ h9 => h9) rfl dX8_grant_45 ?_
  refine lv_aload_n hx hb dX8_grant_48 rfl (lv_at hl 1 rfl) ?_
  obtain ⟨_, hv3, h⟩ := mbind h
  replace hv3 := ck_spec hv3
  refine cg_get hx hb hts iC_Court_grant_X4 hown hK hX 7 i1 hv3 rfl rfl 2 (by decide) (hts (.fieldLink RX8 415 "PassageCourt$Request" "land" "I") (by decide +kernel)) (fun _ h9 => h9) rfl dX8_grant_49 ?_
  refine lv_aload_n hx hb dX8_grant_52 rfl (lv_at hl 0 rfl) ?_
  refine cg_get hx hb hts iC_Court_grant_X8 hown hK hX 0 0 rfl rfl rfl 6 (by decide) (hts (.fieldLink RX8 37 "PassageCourt" "today" "I") (by decide +kernel)) (fun _ h9 => h9) rfl dX8_grant_53 ?_
  obtain ⟨g4, eg4, h⟩ := mbind h
  refine cg_callVv (As := [.int (sI g 7 i1 2), .int (sI g 0 0 6)]) (rest := []) ⟨hx, hb, hml, hown, hts⟩ 25 v1 hv2 (ci := 3) rfl rfl (cC_Permits_grantOn l D yI yO z0 ad eg4) (cwV 2 hts gX8_grant_X2_grantOn rfl rfl rfl (by decide +kernel) ⟨Nat.le_of_ble_eq_true rfl, Nat.le_of_ble_eq_true rfl⟩) hK hX rfl hl.1 rfl (Nat.le_of_ble_eq_true rfl) dX8_grant_56 ⟨Nat.zero_le _, Nat.zero_le _⟩ (fun H locs hX => ?_)
  exact w_C_Court_grant_59 C hrec7 h hX (lv_sub hl [0, 1, 2] rfl)
def fC_Court_grant_7 : Nat → CS → Nat → Int32 → Option CS
  | 0, _, _, _ => none
  | n + 1, g, i1, x2 =>
    if (nI (sN g 1)) ≤ x2 then
      some g
    else
      (ck g 7 i1).bind fun _ =>
      if (sI g 7 i1 1) = x2 then
        fC_Court_grant_34 (fC_Court_grant_7 n) g i1 x2
      else
        (fC_Request_isFollowedBy i1 g x2).bind fun r8 =>
        if r8 = 0 then
          fC_Court_grant_59 (fC_Court_grant_7 n) g i1 x2
        else
          fC_Court_grant_34 (fC_Court_grant_7 n) g i1 x2
set_option maxRecDepth 20000 in
theorem w_C_Court_grant_7 (C : cC p s m args meth c cX8_grant RX8 none wsX8_grant 3 D yI yO) {gz : CS} : ∀ (n : Nat) {g : CS} {i1 : Nat} {x2 : Int32} (h : fC_Court_grant_7 n g i1 x2 = some gz) {H : Heap} {locs : List Loc} {ls : Array Slot} (hX : cX D yI yO z0 ad g A s H locs) (hl : lv_has ls 3 [(0, .ref (ad 0 0)), (1, .ref (ad 7 i1)), (2, .int x2)]), W p l e (mR 3 65) s m args below meth c H locs 0 0 (MQ below (cQv D yI yO z0 ad gz A) args s 0 0 A) (F0 m 7 ls []) := by
  obtain ⟨hx, hb, hr, hts, hown, hlocks, hml, hK⟩ := id C
  intro n
  induction n with
  | zero =>
    intro g i1 x2 h
    cases (show (none : Option _) = _ from h)
  | succ n ih =>
    intro g i1 x2 h H locs ls hX hl
    rw [fC_Court_grant_7] at h
    refine lv_iload_n hx hb dX8_grant_7 rfl (lv_at hl 2 rfl) ?_
    refine lv_aload_n hx hb dX8_grant_8 rfl (lv_at hl 0 rfl) ?_
    refine cg_get hx hb hts iC_Court_grant_X8 hown hK hX 0 0 rfl rfl rfl 1 (by decide) (hts (.fieldLink RX8 16 "PassageCourt" "persons" "Ljava/util/ArrayList;") (by decide +kernel)) (fun _ h9 => h9) rfl dX8_grant_9 ?_
    refine cg_callV (As := []) (rest := [.int x2]) ⟨hx, hb, hml, hown, hts⟩ 1 1 rfl (ci := 0) rfl rfl (cC_List_size l D yI yO z0 ad g 1 (by decide)) (cwV 0 hts gX8_grant_Jx4a65c_size_8abf5 rfl rfl rfl (by decide +kernel) ⟨Nat.le_of_ble_eq_true rfl, Nat.le_of_ble_eq_true rfl⟩) hK hX rfl hl.1 rfl (Nat.le_of_ble_eq_true rfl) dX8_grant_12 ⟨Nat.zero_le _, Nat.zero_le _⟩ (fun H locs hX => ?_)
    refine lv_icmp_ge (tgt := 65) hx hb dX8_grant_15 (by decide) (fun c5 => ?_) (fun c5 => ?_)
    · replace h := mpos c5 h
      cases h
      exact cg_retv hx hb hr hlocks hK hX dX8_grant_65
    · replace h := mneg c5 h
      refine lv_aload_n hx hb dX8_grant_18 rfl (lv_at hl 1 rfl) ?_
      obtain ⟨_, hv6, h⟩ := mbind h
      replace hv6 := ck_spec hv6
      refine cg_get hx hb hts iC_Court_grant_X4 hown hK hX 7 i1 hv6 rfl rfl 1 (by decide) (hts (.fieldLink RX8 255 "PassageCourt$Request" "person" "I") (by decide +kernel)) (fun _ h9 => h9) rfl dX8_grant_19 ?_
      refine lv_iload_n hx hb dX8_grant_22 rfl (lv_at hl 2 rfl) ?_
      refine lv_icmp_eq (tgt := 34) hx hb dX8_grant_23 (by decide) (fun c7 => ?_) (fun c7 => ?_)
      · replace h := mpos c7 h
        exact w_C_Court_grant_34 C ih h hX (lv_sub hl [0, 1, 2] rfl)
      · replace h := mneg c7 h
        refine lv_aload_n hx hb dX8_grant_26 rfl (lv_at hl 1 rfl) ?_
        refine lv_iload_n hx hb dX8_grant_27 rfl (lv_at hl 2 rfl) ?_
        obtain ⟨r8, er8, h⟩ := mbind h
        refine cg_callV (As := [.int x2]) (rest := []) ⟨hx, hb, hml, hown, hts⟩ 7 i1 hv6 (ci := 5) rfl rfl (cC_Request_isFollowedBy l D yI yO z0 ad er8) (cwV 1 hts gX8_grant_X4_isFollowedBy rfl rfl rfl (by decide +kernel) ⟨Nat.le_of_ble_eq_true rfl, Nat.le_of_ble_eq_true rfl⟩) hK hX rfl hl.1 rfl (Nat.le_of_ble_eq_true rfl) dX8_grant_28 ⟨Nat.zero_le _, Nat.zero_le _⟩ (fun H locs hX => ?_)
        refine lv_if_eq (tgt := 59) hx hb dX8_grant_31 (by decide) (fun c9 => ?_) (fun c9 => ?_)
        · replace h := mpos c9 h
          exact w_C_Court_grant_59 C ih h hX (lv_sub hl [0, 1, 2] rfl)
        · replace h := mneg c9 h
          exact w_C_Court_grant_34 C ih h hX (lv_sub hl [0, 1, 2] rfl)
def fC_Court_grant (g : CS) (i1 : Nat) : Option CS :=
  (ck g 7 i1).bind fun _ =>
  (some (uI g 7 i1 5 1)).bind fun g11 =>
  fC_Court_grant_7 4096 g11 i1 0
set_option maxRecDepth 20000 in
theorem w_C_Court_grant_0 (C : cC p s m args meth c cX8_grant RX8 none wsX8_grant 3 D yI yO) {gz : CS} {g : CS} {i1 : Nat} (h : fC_Court_grant g i1 = some gz) {H : Heap} {locs : List Loc} {ls : Array Slot} (hX : cX D yI yO z0 ad g A s H locs) (hl : lv_has ls 3 [(0, .ref (ad 0 0)), (1, .ref (ad 7 i1))]) : W p l e (mR 3 65) s m args below meth c H locs 0 0 (MQ below (cQv D yI yO z0 ad gz A) args s 0 0 A) (F0 m 0 ls []) := by
  obtain ⟨hx, hb, hr, hts, hown, hlocks, hml, hK⟩ := id C
  unfold fC_Court_grant at h
  refine lv_aload_n hx hb dX8_grant_0 rfl (lv_at hl 1 rfl) ?_
  refine lv_iconst (v := 1) hx hb dX8_grant_1 (by decide) ?_
  obtain ⟨_, hv10, h⟩ := mbind h
  replace hv10 := ck_spec hv10
  obtain ⟨g11, eg11, h⟩ := mbind h
  refine cg_put hx hb hts iC_Court_grant_X4 tyX4 tyX4_ok nmX4 hown hK hX 7 i1 hv10 rfl rfl 5 (by decide) (hts (.fieldLink RX8 248 "PassageCourt$Request" "state" "I") (by decide +kernel)) (fun _ h9 => h9) rfl (by decide +kernel) rfl rfl (ty := .int) (g1 := (uI g 7 i1 5 1)) (Nat.le_of_ble_eq_true rfl) (by unfold cent; rw [sI_up]; rfl) (fun _ _ => rfl) rfl (fun _ _ hab => cent_uI yI yO ad _ _ _ hab) dX8_grant_2 (fun H locs hX => ?_)
  have eg11 := Option.some.inj eg11
  rw [eg11] at hX
  have hv12 : clvb g11 7 i1 = true := by rw [← eg11]; exact hv10
  refine lv_iconst (v := 0) hx hb dX8_grant_5 (by decide) ?_
  refine lv_istore_n (lv' := [(2, .int 0), (0, .ref (ad 0 0)), (1, .ref (ad 7 i1))]) hx hb dX8_grant_6 rfl hl (by decide) rfl (fun ls hl => ?_)
  exact w_C_Court_grant_7 C 4096 h hX (lv_sub hl [1, 2, 0] rfl)
set_option maxRecDepth 20000 in
theorem cC_Court_grant (l : Launch) (D : va_G) (yI yO : ClassId) (z0 : Nat) (ad : Nat → Nat → Nat) {g : CS} {gz : CS} {i1 : Nat} (h : fC_Court_grant g i1 = some gz) : Met l yX8_grant wsX8_grant (mR 3 65) (va_Pc [.ref (ad 0 0), .ref (ad 7 i1)] (cPre D yI yO z0 ad g)) (cQv D yI yO z0 ad gz (cF ad g)) 0 0 (cF ad g) := by
  refine Met.ofW (cc := cX8_grant) (maxL := 3) (ret := none) (by decide) rfl ?_
  intro p e s m args below meth c s₁ B hml hv
  obtain ⟨hv0, hw, hK⟩ := hv
  have hv1 : args = [.ref (ad 0 0), .ref (ad 7 i1)].toArray := hv0
  subst hv1
  have C : cC p s m _ meth c cX8_grant RX8 none wsX8_grant 3 D yI yO := ⟨B.exec, B.bytes, B.returns, atoms_spec (ws := wsX8_grant) B.pre, findClass_of_methodNamed B.named, B.notSynchronized, hml, hK⟩
  have hl := lv_entry ([.ref (ad 0 0), .ref (ad 7 i1)]) (n := 3) (Nat.le_of_ble_eq_true rfl)
  rw [lg_entry_eq]
  generalize (lg_sl ([.ref (ad 0 0), .ref (ad 7 i1)]) ++ List.replicate (3 - (lg_sl ([.ref (ad 0 0), .ref (ad 7 i1)])).length) Slot.unset).toArray = ls at hl ⊢
  have hl : lv_has ls 3 [(0, .ref (ad 0 0)), (1, .ref (ad 7 i1))] := hl
  exact w_C_Court_grant_0 C h ⟨hw, fun k i hi => ⟨k, i, hi, rfl⟩, va_S.rf⟩ hl
theorem iC_Court_grantByQuotas_X1 : ∀ w ∈ wsX10, w ∈ wsX8_grantByQuotas := by decide +kernel
theorem iC_Court_grantByQuotas_X8 : ∀ w ∈ wsX80, w ∈ wsX8_grantByQuotas := by decide +kernel
def fC_Court_grantByQuotas_81 (rec4 : CS → Nat → Int32 → Int32 → Option CS) (g : CS) (i1 : Nat) (x2 : Int32) (x3 : Int32) : Option CS :=
  rec4 g i1 x2 (x3 + 1)
set_option maxRecDepth 20000 in
theorem w_C_Court_grantByQuotas_81 (C : cC p s m args meth c cX8_grantByQuotas RX8 none wsX8_grantByQuotas 6 D yI yO) {gz : CS} {rec4 : CS → Nat → Int32 → Int32 → Option CS} (hrec4 : ∀ {g : CS} {i1 : Nat} {x2 : Int32} {x3 : Int32}  (_ : rec4 g i1 x2 x3 = some gz) {H : Heap} {locs : List Loc} {ls : Array Slot} (_ : cX D yI yO z0 ad g A s H locs) (_ : lv_has ls 6 [(0, .ref (ad 0 0)), (1, .ref (ad 4 i1)), (2, .int x2), (3, .int x3)]), W p l e (mR 4 87) s m args below meth c H locs 0 0 (MQ below (cQv D yI yO z0 ad gz A) args s 0 0 A) (F0 m 4 ls [])) {g : CS} {i1 : Nat} {x2 : Int32} {x3 : Int32} (h : fC_Court_grantByQuotas_81 rec4 g i1 x2 x3 = some gz) {H : Heap} {locs : List Loc} {ls : Array Slot} (hX : cX D yI yO z0 ad g A s H locs) (hl : lv_has ls 6 [(0, .ref (ad 0 0)), (1, .ref (ad 4 i1)), (2, .int x2), (3, .int x3)]) : W p l e (mR 4 87) s m args below meth c H locs 0 0 (MQ below (cQv D yI yO z0 ad gz A) args s 0 0 A) (F0 m 81 ls []) := by
  obtain ⟨hx, hb, hr, hts, hown, hlocks, hml, hK⟩ := id C
  unfold fC_Court_grantByQuotas_81 at h
  refine lv_iinc (v := x3 + 1) (lv' := [(3, .int (x3 + 1)), (0, .ref (ad 0 0)), (1, .ref (ad 4 i1)), (2, .int x2)]) hx hb dX8_grantByQuotas_81 hl (k := 3) rfl rfl (by decide) rfl (fun ls hl => ?_)
  refine lv_goto (tgt := 4) hx hb dX8_grantByQuotas_84 (by decide) ?_
  exact hrec4 h hX (lv_sub hl [1, 2, 3, 0] rfl)
def fC_Court_grantByQuotas_75 (rec4 : CS → Nat → Int32 → Int32 → Option CS) (rec23 : CS → Nat → Int32 → Int32 → Int32 → Option CS) (g : CS) (i1 : Nat) (x2 : Int32) (x3 : Int32) (x4 : Int32) : Option CS :=
  rec23 g i1 x2 x3 (x4 + 1)
set_option maxRecDepth 20000 in
theorem w_C_Court_grantByQuotas_75 (C : cC p s m args meth c cX8_grantByQuotas RX8 none wsX8_grantByQuotas 6 D yI yO) {gz : CS} {rec4 : CS → Nat → Int32 → Int32 → Option CS} (hrec4 : ∀ {g : CS} {i1 : Nat} {x2 : Int32} {x3 : Int32}  (_ : rec4 g i1 x2 x3 = some gz) {H : Heap} {locs : List Loc} {ls : Array Slot} (_ : cX D yI yO z0 ad g A s H locs) (_ : lv_has ls 6 [(0, .ref (ad 0 0)), (1, .ref (ad 4 i1)), (2, .int x2), (3, .int x3)]), W p l e (mR 4 87) s m args below meth c H locs 0 0 (MQ below (cQv D yI yO z0 ad gz A) args s 0 0 A) (F0 m 4 ls [])) {rec23 : CS → Nat → Int32 → Int32 → Int32 → Option CS} (hrec23 : ∀ {g : CS} {i1 : Nat} {x2 : Int32} {x3 : Int32} {x4 : Int32}  (_ : rec23 g i1 x2 x3 x4 = some gz) {H : Heap} {locs : List Loc} {ls : Array Slot} (_ : cX D yI yO z0 ad g A s H locs) (_ : lv_has ls 6 [(0, .ref (ad 0 0)), (1, .ref (ad 4 i1)), (2, .int x2), (3, .int x3), (4, .int x4)]), W p l e (mR 4 87) s m args below meth c H locs 0 0 (MQ below (cQv D yI yO z0 ad gz A) args s 0 0 A) (F0 m 23 ls [])) {g : CS} {i1 : Nat} {x2 : Int32} {x3 : Int32} {x4 : Int32} (h : fC_Court_grantByQuotas_75 rec4 rec23 g i1 x2 x3 x4 = some gz) {H : Heap} {locs : List Loc} {ls : Array Slot} (hX : cX D yI yO z0 ad g A s H locs) (hl : lv_has ls 6 [(0, .ref (ad 0 0)), (1, .ref (ad 4 i1)), (2, .int x2), (3, .int x3), (4, .int x4)]) : W p l e (mR 4 87) s m args below meth c H locs 0 0 (MQ below (cQv D yI yO z0 ad gz A) args s 0 0 A) (F0 m 75 ls []) := by
  obtain ⟨hx, hb, hr, hts, hown, hlocks, hml, hK⟩ := id C
  unfold fC_Court_grantByQuotas_75 at h
  refine lv_iinc (v := x4 + 1) (lv' := [(4, .int (x4 + 1)), (0, .ref (ad 0 0)), (1, .ref (ad 4 i1)), (2, .int x2), (3, .int x3)]) hx hb dX8_grantByQuotas_75 hl (k := 4) rfl rfl (by decide) rfl (fun ls hl => ?_)
  refine lv_goto (tgt := 23) hx hb dX8_grantByQuotas_78 (by decide) ?_
  exact hrec23 h hX (lv_sub hl [1, 2, 3, 4, 0] rfl)
def fC_Court_grantByQuotas_23 (rec4 : CS → Nat → Int32 → Int32 → Option CS) : Nat → CS → Nat → Int32 → Int32 → Int32 → Option CS
  | 0, _, _, _, _, _ => none
  | n + 1, g, i1, x2, x3, x4 =>
    if (nI (sN g 3)) ≤ x4 then
      fC_Court_grantByQuotas_81 rec4 g i1 x2 x3
    else
      if x2 ≤ 0 then
        fC_Court_grantByQuotas_81 rec4 g i1 x2 x3
      else
        (cget g 3 x4).bind fun v3 =>
        (ck g 7 v3).bind fun _ =>
        (ck g 4 i1).bind fun _ =>
        (fC_Request_isWaitingFor v3 g (sI g 4 i1 0) x3).bind fun r6 =>
        if r6 = 0 then
          fC_Court_grantByQuotas_75 rec4 (fC_Court_grantByQuotas_23 rec4 n) g i1 x2 x3 x4
        else
          (fC_Court_grant g v3).bind fun g8 =>
          fC_Court_grantByQuotas_75 rec4 (fC_Court_grantByQuotas_23 rec4 n) g8 i1 (x2 + (-1)) x3 x4
set_option maxRecDepth 20000 in
theorem w_C_Court_grantByQuotas_23 (C : cC p s m args meth c cX8_grantByQuotas RX8 none wsX8_grantByQuotas 6 D yI yO) {gz : CS} {rec4 : CS → Nat → Int32 → Int32 → Option CS} (hrec4 : ∀ {g : CS} {i1 : Nat} {x2 : Int32} {x3 : Int32}  (_ : rec4 g i1 x2 x3 = some gz) {H : Heap} {locs : List Loc} {ls : Array Slot} (_ : cX D yI yO z0 ad g A s H locs) (_ : lv_has ls 6 [(0, .ref (ad 0 0)), (1, .ref (ad 4 i1)), (2, .int x2), (3, .int x3)]), W p l e (mR 4 87) s m args below meth c H locs 0 0 (MQ below (cQv D yI yO z0 ad gz A) args s 0 0 A) (F0 m 4 ls [])) : ∀ (n : Nat) {g : CS} {i1 : Nat} {x2 : Int32} {x3 : Int32} {x4 : Int32} (h : fC_Court_grantByQuotas_23 rec4 n g i1 x2 x3 x4 = some gz) {H : Heap} {locs : List Loc} {ls : Array Slot} (hX : cX D yI yO z0 ad g A s H locs) (hl : lv_has ls 6 [(0, .ref (ad 0 0)), (1, .ref (ad 4 i1)), (2, .int x2), (3, .int x3), (4, .int x4)]), W p l e (mR 4 87) s m args below meth c H locs 0 0 (MQ below (cQv D yI yO z0 ad gz A) args s 0 0 A) (F0 m 23 ls []) := by
  obtain ⟨hx, hb, hr, hts, hown, hlocks, hml, hK⟩ := id C
  intro n
  induction n with
  | zero =>
    intro g i1 x2 x3 x4 h
    cases (show (none : Option _) = _ from h)
  | succ n ih =>
    intro g i1 x2 x3 x4 h H locs ls hX hl
    rw [fC_Court_grantByQuotas_23] at h
    refine lv_iload hx hb dX8_grantByQuotas_23 (lv_at hl 4 rfl) ?_
    refine lv_aload_n hx hb dX8_grantByQuotas_25 rfl (lv_at hl 0 rfl) ?_
    refine cg_get hx hb hts iC_Court_grantByQuotas_X8 hown hK hX 0 0 rfl rfl rfl 3 (by decide) (hts (.fieldLink RX8 22 "PassageCourt" "requests" "Ljava/util/ArrayList;") (by decide +kernel)) (fun _ h9 => h9) rfl dX8_grantByQuotas_26 ?_
    refine cg_callV (As := []) (rest := [.int x4]) ⟨hx, hb, hml, hown, hts⟩ 1 3 rfl (ci := 0) rfl rfl (cC_List_size l D yI yO z0 ad g 3 (by decide)) (cwV 0 hts gX8_grantByQuotas_Jx4a65c_size_8abf5 rfl rfl rfl (by decide +kernel) ⟨Nat.le_of_ble_eq_true rfl, Nat.le_of_ble_eq_true rfl⟩) hK hX rfl hl.1 rfl (Nat.le_of_ble_eq_true rfl) dX8_grantByQuotas_29 ⟨Nat.zero_le _, Nat.zero_le _⟩ (fun H locs hX => ?_)
    refine lv_icmp_ge (tgt := 81) hx hb dX8_grantByQuotas_32 (by decide) (fun c1 => ?_) (fun c1 => ?_)
    · replace h := mpos c1 h
      exact w_C_Court_grantByQuotas_81 C hrec4 h hX (lv_sub hl [0, 1, 2, 3] rfl)
    · replace h := mneg c1 h
      refine lv_iload_n hx hb dX8_grantByQuotas_35 rfl (lv_at hl 2 rfl) ?_
      refine lv_if_le (tgt := 81) hx hb dX8_grantByQuotas_36 (by decide) (fun c2 => ?_) (fun c2 => ?_)
      · replace h := mpos c2 h
        exact w_C_Court_grantByQuotas_81 C hrec4 h hX (lv_sub hl [0, 1, 2, 3] rfl)
      · replace h := mneg c2 h
        refine lv_aload_n hx hb dX8_grantByQuotas_39 rfl (lv_at hl 0 rfl) ?_
        refine cg_get hx hb hts iC_Court_grantByQuotas_X8 hown hK hX 0 0 rfl rfl rfl 3 (by decide) (hts (.fieldLink RX8 22 "PassageCourt" "requests" "Ljava/util/ArrayList;") (by decide +kernel)) (fun _ h9 => h9) rfl dX8_grantByQuotas_40 ?_
        refine lv_iload hx hb dX8_grantByQuotas_43 (lv_at hl 4 rfl) ?_
        obtain ⟨v3, ev3, h⟩ := mbind h
        refine cg_callVq (As := [.int x4]) (rest := []) ⟨hx, hb, hml, hown, hts⟩ 1 3 rfl (ci := 0) rfl rfl (cC_List_get l D yI yO z0 ad (by decide) ev3) (cwV 1 hts gX8_grantByQuotas_Jx4a65c_get_915e3 rfl rfl rfl (by decide +kernel) ⟨Nat.le_of_ble_eq_true rfl, Nat.le_of_ble_eq_true rfl⟩) hK hX rfl hl.1 rfl (Nat.le_of_ble_eq_true rfl) dX8_grantByQuotas_45 ⟨Nat.zero_le _, Nat.zero_le _⟩ (fun H locs hX => ?_)
        refine W.eq (g2 := F0 m 48 ls [.ref (ad 7 v3)]) rfl ?_
        obtain ⟨_, hv4, h⟩ := mbind h
        replace hv4 := ck_spec hv4
        refine cg_cast hx hb hown (hts (.classLink RX8 238 "PassageCourt$Request") (by decide +kernel)) hK hX 7 v3 hv4 (ci := 5) rfl rfl dX8_grantByQuotas_48 ?_
        refine lv_astore (lv' := [(5, .ref (ad 7 v3)), (0, .ref (ad 0 0)), (1, .ref (ad 4 i1)), (2, .int x2), (3, .int x3), (4, .int x4)]) hx hb dX8_grantByQuotas_51 hl (by decide) rfl (fun ls hl => ?_)
        refine lv_aload hx hb dX8_grantByQuotas_53 (lv_at hl 0 rfl) ?_
        refine lv_aload_n hx hb dX8_grantByQuotas_55 rfl (lv_at hl 2 rfl) ?_
        obtain ⟨_, hv5, h⟩ := mbind h
        replace hv5 := ck_spec hv5
        refine cg_get hx hb hts iC_Court_grantByQuotas_X1 hown hK hX 4 i1 hv5 rfl rfl 0 (by decide) (hts (.fieldLink RX8 66 "PassageCourt$Land" "number" "I") (by decide +kernel)) (fun _ h9 => h9) rfl dX8_grantByQuotas_56 ?_
        refine lv_iload_n hx hb dX8_grantByQuotas_59 rfl (lv_at hl 4 rfl) ?_
        obtain ⟨r6, er6, h⟩ := mbind h
        refine cg_callV (As := [.int (sI g 4 i1 0), .int x3]) (rest := []) ⟨hx, hb, hml, hown, hts⟩ 7 v3 hv4 (ci := 5) rfl rfl (cC_Request_isWaitingFor l D yI yO z0 ad er6) (cwV 2 hts gX8_grantByQuotas_X4_isWaitingFor rfl rfl rfl (by decide +kernel) ⟨Nat.le_of_ble_eq_true rfl, Nat.le_of_ble_eq_true rfl⟩) hK hX rfl hl.1 rfl (Nat.le_of_ble_eq_true rfl) dX8_grantByQuotas_60 ⟨Nat.zero_le _, Nat.zero_le _⟩ (fun H locs hX => ?_)
        refine lv_if_eq (tgt := 75) hx hb dX8_grantByQuotas_63 (by decide) (fun c7 => ?_) (fun c7 => ?_)
        · replace h := mpos c7 h
          exact w_C_Court_grantByQuotas_75 C hrec4 ih h hX (lv_sub hl [1, 2, 3, 4, 5] rfl)
        · replace h := mneg c7 h
          refine lv_aload_n hx hb dX8_grantByQuotas_66 rfl (lv_at hl 1 rfl) ?_
          refine lv_aload hx hb dX8_grantByQuotas_67 (lv_at hl 0 rfl) ?_
          obtain ⟨g8, eg8, h⟩ := mbind h
          refine cg_callVv (As := [.ref (ad 7 v3)]) (rest := []) ⟨hx, hb, hml, hown, hts⟩ 0 0 rfl (ci := 9) rfl rfl (cC_Court_grant l D yI yO z0 ad eg8) (cwV 1 hts gX8_grantByQuotas_X8_grant rfl rfl rfl (by decide +kernel) ⟨Nat.le_of_ble_eq_true rfl, Nat.le_of_ble_eq_true rfl⟩) hK hX rfl hl.1 rfl (Nat.le_of_ble_eq_true rfl) dX8_grantByQuotas_69 ⟨Nat.zero_le _, Nat.zero_le _⟩ (fun H locs hX => ?_)
          refine lv_iinc (v := x2 + (-1)) (lv' := [(2, .int (x2 + (-1))), (5, .ref (ad 7 v3)), (0, .ref (ad 0 0)), (1, .ref (ad 4 i1)), (3, .int x3), (4, .int x4)]) hx hb dX8_grantByQuotas_72 hl (k := 3) rfl rfl (by decide) rfl (fun ls hl => ?_)
          exact w_C_Court_grantByQuotas_75 C hrec4 ih h hX (lv_sub hl [2, 3, 0, 4, 5] rfl)
def fC_Court_grantByQuotas_4 : Nat → CS → Nat → Int32 → Int32 → Option CS
  | 0, _, _, _, _ => none
  | n + 1, g, i1, x2, x3 =>
    if 3 ≤ x3 then
      some g
    else
      (ck g 4 i1).bind fun _ =>
      (fC_Row_at 8 i1 g x3).bind fun r11 =>
      fC_Court_grantByQuotas_23 (fC_Court_grantByQuotas_4 n) 4096 g i1 (x2 + r11) x3 0
set_option maxRecDepth 20000 in
theorem w_C_Court_grantByQuotas_4 (C : cC p s m args meth c cX8_grantByQuotas RX8 none wsX8_grantByQuotas 6 D yI yO) {gz : CS} : ∀ (n : Nat) {g : CS} {i1 : Nat} {x2 : Int32} {x3 : Int32} (h : fC_Court_grantByQuotas_4 n g i1 x2 x3 = some gz) {H : Heap} {locs : List Loc} {ls : Array Slot} (hX : cX D yI yO z0 ad g A s H locs) (hl : lv_has ls 6 [(0, .ref (ad 0 0)), (1, .ref (ad 4 i1)), (2, .int x2), (3, .int x3)]), W p l e (mR 4 87) s m args below meth c H locs 0 0 (MQ below (cQv D yI yO z0 ad gz A) args s 0 0 A) (F0 m 4 ls []) := by
  obtain ⟨hx, hb, hr, hts, hown, hlocks, hml, hK⟩ := id C
  intro n
  induction n with
  | zero =>
    intro g i1 x2 x3 h
    cases (show (none : Option _) = _ from h)
  | succ n ih =>
    intro g i1 x2 x3 h H locs ls hX hl
    rw [fC_Court_grantByQuotas_4] at h
    refine lv_iload_n hx hb dX8_grantByQuotas_4 rfl (lv_at hl 3 rfl) ?_
    refine lv_iconst (v := 3) hx hb dX8_grantByQuotas_5 (by decide) ?_
    refine lv_icmp_ge (tgt := 87) hx hb dX8_grantByQuotas_6 (by decide) (fun c9 => ?_) (fun c9 => ?_)
    · replace h := mpos c9 h
      cases h
      exact cg_retv hx hb hr hlocks hK hX dX8_grantByQuotas_87
    · replace h := mneg c9 h
      refine lv_iload_n hx hb dX8_grantByQuotas_9 rfl (lv_at hl 2 rfl) ?_
      refine lv_aload_n hx hb dX8_grantByQuotas_10 rfl (lv_at hl 1 rfl) ?_
      obtain ⟨_, hv10, h⟩ := mbind h
      replace hv10 := ck_spec hv10
      refine cg_get hx hb hts iC_Court_grantByQuotas_X1 hown hK hX 4 i1 hv10 rfl rfl 5 (by decide) (hts (.fieldLink RX8 220 "PassageCourt$Land" "quotas" "LPassageCourt$Row;") (by decide +kernel)) (fun _ h9 => h9) rfl dX8_grantByQuotas_11 ?_
      refine lv_iload_n hx hb dX8_grantByQuotas_14 rfl (lv_at hl 3 rfl) ?_
      obtain ⟨r11, er11, h⟩ := mbind h
      refine cg_callV (As := [.int x3]) (rest := [.int x2]) ⟨hx, hb, hml, hown, hts⟩ 8 i1 hv10 (ci := 6) rfl rfl (cC_Row_at l D yI yO z0 ad ⟨by decide, by decide⟩ er11) (cwV 1 hts gX8_grantByQuotas_X5_at rfl rfl rfl (by decide +kernel) ⟨Nat.le_of_ble_eq_true rfl, Nat.le_of_ble_eq_true rfl⟩) hK hX rfl hl.1 rfl (Nat.le_of_ble_eq_true rfl) dX8_grantByQuotas_15 ⟨Nat.zero_le _, Nat.zero_le _⟩ (fun H locs hX => ?_)
      refine lv_iadd hx hb dX8_grantByQuotas_18 ?_
      refine lv_istore_n (lv' := [(2, .int (x2 + r11)), (0, .ref (ad 0 0)), (1, .ref (ad 4 i1)), (3, .int x3)]) hx hb dX8_grantByQuotas_19 rfl hl (by decide) rfl (fun ls hl => ?_)
      refine lv_iconst (v := 0) hx hb dX8_grantByQuotas_20 (by decide) ?_
      refine lv_istore (lv' := [(4, .int 0), (2, .int (x2 + r11)), (0, .ref (ad 0 0)), (1, .ref (ad 4 i1)), (3, .int x3)]) hx hb dX8_grantByQuotas_21 hl (by decide) rfl (fun ls hl => ?_)
      exact w_C_Court_grantByQuotas_23 C ih 4096 h hX (lv_sub hl [2, 3, 1, 4, 0] rfl)
def fC_Court_grantByQuotas (g : CS) (i1 : Nat) : Option CS :=
  fC_Court_grantByQuotas_4 4096 g i1 0 0
set_option maxRecDepth 20000 in
theorem w_C_Court_grantByQuotas_0 (C : cC p s m args meth c cX8_grantByQuotas RX8 none wsX8_grantByQuotas 6 D yI yO) {gz : CS} {g : CS} {i1 : Nat} (h : fC_Court_grantByQuotas g i1 = some gz) {H : Heap} {locs : List Loc} {ls : Array Slot} (hX : cX D yI yO z0 ad g A s H locs) (hl : lv_has ls 6 [(0, .ref (ad 0 0)), (1, .ref (ad 4 i1))]) : W p l e (mR 4 87) s m args below meth c H locs 0 0 (MQ below (cQv D yI yO z0 ad gz A) args s 0 0 A) (F0 m 0 ls []) := by
  obtain ⟨hx, hb, hr, hts, hown, hlocks, hml, hK⟩ := id C
  unfold fC_Court_grantByQuotas at h
  refine lv_iconst (v := 0) hx hb dX8_grantByQuotas_0 (by decide) ?_
  refine lv_istore_n (lv' := [(2, .int 0), (0, .ref (ad 0 0)), (1, .ref (ad 4 i1))]) hx hb dX8_grantByQuotas_1 rfl hl (by decide) rfl (fun ls hl => ?_)
  refine lv_iconst (v := 0) hx hb dX8_grantByQuotas_2 (by decide) ?_
  refine lv_istore_n (lv' := [(3, .int 0), (2, .int 0), (0, .ref (ad 0 0)), (1, .ref (ad 4 i1))]) hx hb dX8_grantByQuotas_3 rfl hl (by decide) rfl (fun ls hl => ?_)
  exact w_C_Court_grantByQuotas_4 C 4096 h hX (lv_sub hl [2, 3, 1, 0] rfl)
set_option maxRecDepth 20000 in
theorem cC_Court_grantByQuotas (l : Launch) (D : va_G) (yI yO : ClassId) (z0 : Nat) (ad : Nat → Nat → Nat) {g : CS} {gz : CS} {i1 : Nat} (h : fC_Court_grantByQuotas g i1 = some gz) : Met l yX8_grantByQuotas wsX8_grantByQuotas (mR 4 87) (va_Pc [.ref (ad 0 0), .ref (ad 4 i1)] (cPre D yI yO z0 ad g)) (cQv D yI yO z0 ad gz (cF ad g)) 0 0 (cF ad g) := by
  refine Met.ofW (cc := cX8_grantByQuotas) (maxL := 6) (ret := none) (by decide) rfl ?_
  intro p e s m args below meth c s₁ B hml hv
  obtain ⟨hv0, hw, hK⟩ := hv
  have hv1 : args = [.ref (ad 0 0), .ref (ad 4 i1)].toArray := hv0
  subst hv1
  have C : cC p s m _ meth c cX8_grantByQuotas RX8 none wsX8_grantByQuotas 6 D yI yO := ⟨B.exec, B.bytes, B.returns, atoms_spec (ws := wsX8_grantByQuotas) B.pre, findClass_of_methodNamed B.named, B.notSynchronized, hml, hK⟩
  have hl := lv_entry ([.ref (ad 0 0), .ref (ad 4 i1)]) (n := 6) (Nat.le_of_ble_eq_true rfl)
  rw [lg_entry_eq]
  generalize (lg_sl ([.ref (ad 0 0), .ref (ad 4 i1)]) ++ List.replicate (6 - (lg_sl ([.ref (ad 0 0), .ref (ad 4 i1)])).length) Slot.unset).toArray = ls at hl ⊢
  have hl : lv_has ls 6 [(0, .ref (ad 0 0)), (1, .ref (ad 4 i1))] := hl
  exact w_C_Court_grantByQuotas_0 C h ⟨hw, fun k i hi => ⟨k, i, hi, rfl⟩, va_S.rf⟩ hl
theorem iC_Court_beginDay_X8 : ∀ w ∈ wsX80, w ∈ wsX8_beginDay := by decide +kernel
def fC_Court_beginDay_126 (g : CS) : Option CS :=
  some g
set_option maxRecDepth 20000 in
theorem w_C_Court_beginDay_126 (C : cC p s m args meth c cX8_beginDay RX8 none wsX8_beginDay 2 D yI yO) {gz : CS} {g : CS} (h : fC_Court_beginDay_126 g = some gz) {H : Heap} {locs : List Loc} {ls : Array Slot} (hX : cX D yI yO z0 ad g A s H locs) (hl : lv_has ls 2 [(0, .ref (ad 0 0))]) : W p l e (mR 7 157) s m args below meth c H locs 0 0 (MQ below (cQv D yI yO z0 ad gz A) args s 0 0 A) (F0 m 126 ls []) := by
  obtain ⟨hx, hb, hr, hts, hown, hlocks, hml, hK⟩ := id C
  unfold fC_Court_beginDay_126 at h
  cases h
  exact cg_retv hx hb hr hlocks hK hX dX8_beginDay_126
def fC_Court_beginDay_94 : Nat → CS → Int32 → Option CS
  | 0, _, _ => none
  | n + 1, g, x1 =>
    if (nI (sN g 0)) ≤ x1 then
      fC_Court_beginDay_126 g
    else
      (cget g 0 x1).bind fun v2 =>
      (ck g 4 v2).bind fun _ =>
      (fC_Court_grantByQuotas g v2).bind fun g4 =>
      fC_Court_beginDay_94 n g4 (x1 + 1)
set_option maxRecDepth 20000 in
theorem w_C_Court_beginDay_94 (C : cC p s m args meth c cX8_beginDay RX8 none wsX8_beginDay 2 D yI yO) {gz : CS} : ∀ (n : Nat) {g : CS} {x1 : Int32} (h : fC_Court_beginDay_94 n g x1 = some gz) {H : Heap} {locs : List Loc} {ls : Array Slot} (hX : cX D yI yO z0 ad g A s H locs) (hl : lv_has ls 2 [(0, .ref (ad 0 0)), (1, .int x1)]), W p l e (mR 7 157) s m args below meth c H locs 0 0 (MQ below (cQv D yI yO z0 ad gz A) args s 0 0 A) (F0 m 94 ls []) := by
  obtain ⟨hx, hb, hr, hts, hown, hlocks, hml, hK⟩ := id C
  intro n
  induction n with
  | zero =>
    intro g x1 h
    cases (show (none : Option _) = _ from h)
  | succ n ih =>
    intro g x1 h H locs ls hX hl
    rw [fC_Court_beginDay_94] at h
    refine lv_iload_n hx hb dX8_beginDay_94 rfl (lv_at hl 1 rfl) ?_
    refine lv_aload_n hx hb dX8_beginDay_95 rfl (lv_at hl 0 rfl) ?_
    refine cg_get hx hb hts iC_Court_beginDay_X8 hown hK hX 0 0 rfl rfl rfl 0 (by decide) (hts (.fieldLink RX8 12 "PassageCourt" "lands" "Ljava/util/ArrayList;") (by decide +kernel)) (fun _ h9 => h9) rfl dX8_beginDay_96 ?_
    refine cg_callV (As := []) (rest := [.int x1]) ⟨hx, hb, hml, hown, hts⟩ 1 0 rfl (ci := 0) rfl rfl (cC_List_size l D yI yO z0 ad g 0 (by decide)) (cwV 0 hts gX8_beginDay_Jx4a65c_size_8abf5 rfl rfl rfl (by decide +kernel) ⟨Nat.le_of_ble_eq_true rfl, Nat.le_of_ble_eq_true rfl⟩) hK hX rfl hl.1 rfl (Nat.le_of_ble_eq_true rfl) dX8_beginDay_99 ⟨Nat.zero_le _, Nat.zero_le _⟩ (fun H locs hX => ?_)
    refine lv_icmp_ge (tgt := 126) hx hb dX8_beginDay_102 (by decide) (fun c1 => ?_) (fun c1 => ?_)
    · replace h := mpos c1 h
      exact w_C_Court_beginDay_126 C h hX (lv_sub hl [0] rfl)
    · replace h := mneg c1 h
      refine lv_aload_n hx hb dX8_beginDay_105 rfl (lv_at hl 0 rfl) ?_
      refine lv_aload_n hx hb dX8_beginDay_106 rfl (lv_at hl 0 rfl) ?_
      refine cg_get hx hb hts iC_Court_beginDay_X8 hown hK hX 0 0 rfl rfl rfl 0 (by decide) (hts (.fieldLink RX8 12 "PassageCourt" "lands" "Ljava/util/ArrayList;") (by decide +kernel)) (fun _ h9 => h9) rfl dX8_beginDay_107 ?_
      refine lv_iload_n hx hb dX8_beginDay_110 rfl (lv_at hl 1 rfl) ?_
      obtain ⟨v2, ev2, h⟩ := mbind h
      refine cg_callVq (As := [.int x1]) (rest := [.ref (ad 0 0)]) ⟨hx, hb, hml, hown, hts⟩ 1 0 rfl (ci := 0) rfl rfl (cC_List_get l D yI yO z0 ad (by decide) ev2) (cwV 1 hts gX8_beginDay_Jx4a65c_get_915e3 rfl rfl rfl (by decide +kernel) ⟨Nat.le_of_ble_eq_true rfl, Nat.le_of_ble_eq_true rfl⟩) hK hX rfl hl.1 rfl (Nat.le_of_ble_eq_true rfl) dX8_beginDay_111 ⟨Nat.zero_le _, Nat.zero_le _⟩ (fun H locs hX => ?_)
      refine W.eq (g2 := F0 m 114 ls [.ref (ad 4 v2), .ref (ad 0 0)]) rfl ?_
      obtain ⟨_, hv3, h⟩ := mbind h
      replace hv3 := ck_spec hv3
      refine cg_cast hx hb hown (hts (.classLink RX8 57 "PassageCourt$Land") (by decide +kernel)) hK hX 4 v2 hv3 (ci := 2) rfl rfl dX8_beginDay_114 ?_
      obtain ⟨g4, eg4, h⟩ := mbind h
      refine cg_callVv (As := [.ref (ad 4 v2)]) (rest := []) ⟨hx, hb, hml, hown, hts⟩ 0 0 rfl (ci := 9) rfl rfl (cC_Court_grantByQuotas l D yI yO z0 ad eg4) (cwV 1 hts gX8_beginDay_X8_grantByQuotas rfl rfl rfl (by decide +kernel) ⟨Nat.le_of_ble_eq_true rfl, Nat.le_of_ble_eq_true rfl⟩) hK hX rfl hl.1 rfl (Nat.le_of_ble_eq_true rfl) dX8_beginDay_117 ⟨Nat.zero_le _, Nat.zero_le _⟩ (fun H locs hX => ?_)
      refine lv_iinc (v := x1 + 1) (lv' := [(1, .int (x1 + 1)), (0, .ref (ad 0 0))]) hx hb dX8_beginDay_120 hl (k := 1) rfl rfl (by decide) rfl (fun ls hl => ?_)
      refine lv_goto (tgt := 94) hx hb dX8_beginDay_123 (by decide) ?_
      exact ih h hX (lv_sub hl [1, 0] rfl)
def fC_Court_beginDay_49 : Nat → CS → Int32 → Option CS
  | 0, _, _ => none
  | n + 1, g, x1 =>
    if (nI (sN g 1)) ≤ x1 then
      if ((sI g 0 0 6) - (sI g 0 0 6) / 360 * 360) = 0 then
        fC_Court_beginDay_94 4096 g 0
      else
        fC_Court_beginDay_126 g
    else
      (cget g 1 x1).bind fun v7 =>
      (ck g 5 v7).bind fun _ =>
      (fC_Court_lookAt g v7).bind fun g9 =>
      fC_Court_beginDay_49 n g9 (x1 + 1)
set_option maxRecDepth 20000 in
theorem w_C_Court_beginDay_49 (C : cC p s m args meth c cX8_beginDay RX8 none wsX8_beginDay 2 D yI yO) {gz : CS} : ∀ (n : Nat) {g : CS} {x1 : Int32} (h : fC_Court_beginDay_49 n g x1 = some gz) {H : Heap} {locs : List Loc} {ls : Array Slot} (hX : cX D yI yO z0 ad g A s H locs) (hl : lv_has ls 2 [(0, .ref (ad 0 0)), (1, .int x1)]), W p l e (mR 7 157) s m args below meth c H locs 0 0 (MQ below (cQv D yI yO z0 ad gz A) args s 0 0 A) (F0 m 49 ls []) := by
  obtain ⟨hx, hb, hr, hts, hown, hlocks, hml, hK⟩ := id C
  intro n
  induction n with
  | zero =>
    intro g x1 h
    cases (show (none : Option _) = _ from h)
  | succ n ih =>
    intro g x1 h H locs ls hX hl
    rw [fC_Court_beginDay_49] at h
    refine lv_iload_n hx hb dX8_beginDay_49 rfl (lv_at hl 1 rfl) ?_
    refine lv_aload_n hx hb dX8_beginDay_50 rfl (lv_at hl 0 rfl) ?_
    refine cg_get hx hb hts iC_Court_beginDay_X8 hown hK hX 0 0 rfl rfl rfl 1 (by decide) (hts (.fieldLink RX8 16 "PassageCourt" "persons" "Ljava/util/ArrayList;") (by decide +kernel)) (fun _ h9 => h9) rfl dX8_beginDay_51 ?_
    refine cg_callV (As := []) (rest := [.int x1]) ⟨hx, hb, hml, hown, hts⟩ 1 1 rfl (ci := 0) rfl rfl (cC_List_size l D yI yO z0 ad g 1 (by decide)) (cwV 0 hts gX8_beginDay_Jx4a65c_size_8abf5 rfl rfl rfl (by decide +kernel) ⟨Nat.le_of_ble_eq_true rfl, Nat.le_of_ble_eq_true rfl⟩) hK hX rfl hl.1 rfl (Nat.le_of_ble_eq_true rfl) dX8_beginDay_54 ⟨Nat.zero_le _, Nat.zero_le _⟩ (fun H locs hX => ?_)
    refine lv_icmp_ge (tgt := 81) hx hb dX8_beginDay_57 (by decide) (fun c5 => ?_) (fun c5 => ?_)
    · replace h := mpos c5 h
      refine lv_aload_n hx hb dX8_beginDay_81 rfl (lv_at hl 0 rfl) ?_
      refine cg_get hx hb hts iC_Court_beginDay_X8 hown hK hX 0 0 rfl rfl rfl 6 (by decide) (hts (.fieldLink RX8 37 "PassageCourt" "today" "I") (by decide +kernel)) (fun _ h9 => h9) rfl dX8_beginDay_82 ?_
      refine lv_sipush (v := 360) hx hb dX8_beginDay_85 (by decide) ?_
      refine lv_irem hx hb dX8_beginDay_88 (by decide) ?_
      refine lv_if_ne (tgt := 126) hx hb dX8_beginDay_89 (by decide) (fun c6 => ?_) (fun c6 => ?_)
      · replace h := mneg c6 h
        exact w_C_Court_beginDay_126 C h hX (lv_sub hl [0] rfl)
      · replace h := mpos c6 h
        refine lv_iconst (v := 0) hx hb dX8_beginDay_92 (by decide) ?_
        refine lv_istore_n (lv' := [(1, .int 0), (0, .ref (ad 0 0))]) hx hb dX8_beginDay_93 rfl hl (by decide) rfl (fun ls hl => ?_)
        exact w_C_Court_beginDay_94 C 4096 h hX (lv_sub hl [1, 0] rfl)
    · replace h := mneg c5 h
      refine lv_aload_n hx hb dX8_beginDay_60 rfl (lv_at hl 0 rfl) ?_
      refine lv_aload_n hx hb dX8_beginDay_61 rfl (lv_at hl 0 rfl) ?_
      refine cg_get hx hb hts iC_Court_beginDay_X8 hown hK hX 0 0 rfl rfl rfl 1 (by decide) (hts (.fieldLink RX8 16 "PassageCourt" "persons" "Ljava/util/ArrayList;") (by decide +kernel)) (fun _ h9 => h9) rfl dX8_beginDay_62 ?_
      refine lv_iload_n hx hb dX8_beginDay_65 rfl (lv_at hl 1 rfl) ?_
      obtain ⟨v7, ev7, h⟩ := mbind h
      refine cg_callVq (As := [.int x1]) (rest := [.ref (ad 0 0)]) ⟨hx, hb, hml, hown, hts⟩ 1 1 rfl (ci := 0) rfl rfl (cC_List_get l D yI yO z0 ad (by decide) ev7) (cwV 1 hts gX8_beginDay_Jx4a65c_get_915e3 rfl rfl rfl (by decide +kernel) ⟨Nat.le_of_ble_eq_true rfl, Nat.le_of_ble_eq_true rfl⟩) hK hX rfl hl.1 rfl (Nat.le_of_ble_eq_true rfl) dX8_beginDay_66 ⟨Nat.zero_le _, Nat.zero_le _⟩ (fun H locs hX => ?_)
      refine W.eq (g2 := F0 m 69 ls [.ref (ad 5 v7), .ref (ad 0 0)]) rfl ?_
      obtain ⟨_, hv8, h⟩ := mbind h
      replace hv8 := ck_spec hv8
      refine cg_cast hx hb hown (hts (.classLink RX8 102 "PassageCourt$Person") (by decide +kernel)) hK hX 5 v7 hv8 (ci := 4) rfl rfl dX8_beginDay_69 ?_
      obtain ⟨g9, eg9, h⟩ := mbind h
      refine cg_callVv (As := [.ref (ad 5 v7)]) (rest := []) ⟨hx, hb, hml, hown, hts⟩ 0 0 rfl (ci := 9) rfl rfl (cC_Court_lookAt l D yI yO z0 ad eg9) (cwV 1 hts gX8_beginDay_X8_lookAt rfl rfl rfl (by decide +kernel) ⟨Nat.le_of_ble_eq_true rfl, Nat.le_of_ble_eq_true rfl⟩) hK hX rfl hl.1 rfl (Nat.le_of_ble_eq_true rfl) dX8_beginDay_72 ⟨Nat.zero_le _, Nat.zero_le _⟩ (fun H locs hX => ?_)
      refine lv_iinc (v := x1 + 1) (lv' := [(1, .int (x1 + 1)), (0, .ref (ad 0 0))]) hx hb dX8_beginDay_75 hl (k := 1) rfl rfl (by decide) rfl (fun ls hl => ?_)
      refine lv_goto (tgt := 49) hx hb dX8_beginDay_78 (by decide) ?_
      exact ih h hX (lv_sub hl [1, 0] rfl)
def fC_Court_beginDay_12 : Nat → CS → Int32 → Option CS
  | 0, _, _ => none
  | n + 1, g, x1 =>
    if (nI (sN g 3)) ≤ x1 then
      fC_Court_beginDay_49 4096 g 0
    else
      (cget g 3 x1).bind fun v11 =>
      (ck g 7 v11).bind fun _ =>
      (fC_Request_endIfLate v11 g (sI g 0 0 6)).bind fun g13 =>
      fC_Court_beginDay_12 n g13 (x1 + 1)
set_option maxRecDepth 20000 in
theorem w_C_Court_beginDay_12 (C : cC p s m args meth c cX8_beginDay RX8 none wsX8_beginDay 2 D yI yO) {gz : CS} : ∀ (n : Nat) {g : CS} {x1 : Int32} (h : fC_Court_beginDay_12 n g x1 = some gz) {H : Heap} {locs : List Loc} {ls : Array Slot} (hX : cX D yI yO z0 ad g A s H locs) (hl : lv_has ls 2 [(0, .ref (ad 0 0)), (1, .int x1)]), W p l e (mR 7 157) s m args below meth c H locs 0 0 (MQ below (cQv D yI yO z0 ad gz A) args s 0 0 A) (F0 m 12 ls []) := by
  obtain ⟨hx, hb, hr, hts, hown, hlocks, hml, hK⟩ := id C
  intro n
  induction n with
  | zero =>
    intro g x1 h
    cases (show (none : Option _) = _ from h)
  | succ n ih =>
    intro g x1 h H locs ls hX hl
    rw [fC_Court_beginDay_12] at h
    refine lv_iload_n hx hb dX8_beginDay_12 rfl (lv_at hl 1 rfl) ?_
    refine lv_aload_n hx hb dX8_beginDay_13 rfl (lv_at hl 0 rfl) ?_
    refine cg_get hx hb hts iC_Court_beginDay_X8 hown hK hX 0 0 rfl rfl rfl 3 (by decide) (hts (.fieldLink RX8 22 "PassageCourt" "requests" "Ljava/util/ArrayList;") (by decide +kernel)) (fun _ h9 => h9) rfl dX8_beginDay_14 ?_
    refine cg_callV (As := []) (rest := [.int x1]) ⟨hx, hb, hml, hown, hts⟩ 1 3 rfl (ci := 0) rfl rfl (cC_List_size l D yI yO z0 ad g 3 (by decide)) (cwV 0 hts gX8_beginDay_Jx4a65c_size_8abf5 rfl rfl rfl (by decide +kernel) ⟨Nat.le_of_ble_eq_true rfl, Nat.le_of_ble_eq_true rfl⟩) hK hX rfl hl.1 rfl (Nat.le_of_ble_eq_true rfl) dX8_beginDay_17 ⟨Nat.zero_le _, Nat.zero_le _⟩ (fun H locs hX => ?_)
    refine lv_icmp_ge (tgt := 47) hx hb dX8_beginDay_20 (by decide) (fun c10 => ?_) (fun c10 => ?_)
    · replace h := mpos c10 h
      refine lv_iconst (v := 0) hx hb dX8_beginDay_47 (by decide) ?_
      refine lv_istore_n (lv' := [(1, .int 0), (0, .ref (ad 0 0))]) hx hb dX8_beginDay_48 rfl hl (by decide) rfl (fun ls hl => ?_)
      exact w_C_Court_beginDay_49 C 4096 h hX (lv_sub hl [1, 0] rfl)
    · replace h := mneg c10 h
      refine lv_aload_n hx hb dX8_beginDay_23 rfl (lv_at hl 0 rfl) ?_
      refine cg_get hx hb hts iC_Court_beginDay_X8 hown hK hX 0 0 rfl rfl rfl 3 (by decide) (hts (.fieldLink RX8 22 "PassageCourt" "requests" "Ljava/util/ArrayList;") (by decide +kernel)) (fun _ h9 => h9) rfl dX8_beginDay_24 ?_
      refine lv_iload_n hx hb dX8_beginDay_27 rfl (lv_at hl 1 rfl) ?_
      obtain ⟨v11, ev11, h⟩ := mbind h
      refine cg_callVq (As := [.int x1]) (rest := []) ⟨hx, hb, hml, hown, hts⟩ 1 3 rfl (ci := 0) rfl rfl (cC_List_get l D yI yO z0 ad (by decide) ev11) (cwV 1 hts gX8_beginDay_Jx4a65c_get_915e3 rfl rfl rfl (by decide +kernel) ⟨Nat.le_of_ble_eq_true rfl, Nat.le_of_ble_eq_true rfl⟩) hK hX rfl hl.1 rfl (Nat.le_of_ble_eq_true rfl) dX8_beginDay_28 ⟨Nat.zero_le _, Nat.zero_le _⟩ (fun H locs hX => ?_)
      refine W.eq (g2 := F0 m 31 ls [.ref (ad 7 v11)]) rfl ?_
      obtain ⟨_, hv12, h⟩ := mbind h
      replace hv12 := ck_spec hv12
      refine cg_cast hx hb hown (hts (.classLink RX8 238 "PassageCourt$Request") (by decide +kernel)) hK hX 7 v11 hv12 (ci := 5) rfl rfl dX8_beginDay_31 ?_
      refine lv_aload_n hx hb dX8_beginDay_34 rfl (lv_at hl 0 rfl) ?_
      refine cg_get hx hb hts iC_Court_beginDay_X8 hown hK hX 0 0 rfl rfl rfl 6 (by decide) (hts (.fieldLink RX8 37 "PassageCourt" "today" "I") (by decide +kernel)) (fun _ h9 => h9) rfl dX8_beginDay_35 ?_
      obtain ⟨g13, eg13, h⟩ := mbind h
      refine cg_callVv (As := [.int (sI g 0 0 6)]) (rest := []) ⟨hx, hb, hml, hown, hts⟩ 7 v11 hv12 (ci := 5) rfl rfl (cC_Request_endIfLate l D yI yO z0 ad eg13) (cwV 1 hts gX8_beginDay_X4_endIfLate rfl rfl rfl (by decide +kernel) ⟨Nat.le_of_ble_eq_true rfl, Nat.le_of_ble_eq_true rfl⟩) hK hX rfl hl.1 rfl (Nat.le_of_ble_eq_true rfl) dX8_beginDay_38 ⟨Nat.zero_le _, Nat.zero_le _⟩ (fun H locs hX => ?_)
      refine lv_iinc (v := x1 + 1) (lv' := [(1, .int (x1 + 1)), (0, .ref (ad 0 0))]) hx hb dX8_beginDay_41 hl (k := 1) rfl rfl (by decide) rfl (fun ls hl => ?_)
      refine lv_goto (tgt := 12) hx hb dX8_beginDay_44 (by decide) ?_
      exact ih h hX (lv_sub hl [1, 0] rfl)
def fC_Court_beginDay (g : CS) : Option CS :=
  (some (uI g 0 0 6 ((sI g 0 0 6) + 1))).bind fun g14 =>
  fC_Court_beginDay_12 4096 g14 0
set_option maxRecDepth 20000 in
theorem w_C_Court_beginDay_0 (C : cC p s m args meth c cX8_beginDay RX8 none wsX8_beginDay 2 D yI yO) {gz : CS} {g : CS} (h : fC_Court_beginDay g = some gz) {H : Heap} {locs : List Loc} {ls : Array Slot} (hX : cX D yI yO z0 ad g A s H locs) (hl : lv_has ls 2 [(0, .ref (ad 0 0))]) : W p l e (mR 7 157) s m args below meth c H locs 0 0 (MQ below (cQv D yI yO z0 ad gz A) args s 0 0 A) (F0 m 0 ls []) := by
  obtain ⟨hx, hb, hr, hts, hown, hlocks, hml, hK⟩ := id C
  unfold fC_Court_beginDay at h
  refine lv_aload_n hx hb dX8_beginDay_0 rfl (lv_at hl 0 rfl) ?_
  refine lv_dup hx hb dX8_beginDay_1 rfl ?_
  refine cg_get hx hb hts iC_Court_beginDay_X8 hown hK hX 0 0 rfl rfl rfl 6 (by decide) (hts (.fieldLink RX8 37 "PassageCourt" "today" "I") (by decide +kernel)) (fun _ h9 => h9) rfl dX8_beginDay_2 ?_
  refine lv_iconst (v := 1) hx hb dX8_beginDay_5 (by decide) ?_
  refine lv_iadd hx hb dX8_beginDay_6 ?_
  obtain ⟨g14, eg14, h⟩ := mbind h
  refine cg_put hx hb hts iC_Court_beginDay_X8 tyX8 tyX8_ok nmX8 hown hK hX 0 0 rfl rfl rfl 6 (by decide) (hts (.fieldLink RX8 37 "PassageCourt" "today" "I") (by decide +kernel)) (fun _ h9 => h9) rfl (by decide +kernel) rfl rfl (ty := .int) (g1 := (uI g 0 0 6 ((sI g 0 0 6) + 1))) (Nat.le_of_ble_eq_true rfl) (by unfold cent; rw [sI_up]; rfl) (fun _ _ => rfl) rfl (fun _ _ hab => cent_uI yI yO ad _ _ _ hab) dX8_beginDay_7 (fun H locs hX => ?_)
  have eg14 := Option.some.inj eg14
  rw [eg14] at hX
  refine lv_iconst (v := 0) hx hb dX8_beginDay_10 (by decide) ?_
  refine lv_istore_n (lv' := [(1, .int 0), (0, .ref (ad 0 0))]) hx hb dX8_beginDay_11 rfl hl (by decide) rfl (fun ls hl => ?_)
  exact w_C_Court_beginDay_12 C 4096 h hX (lv_sub hl [1, 0] rfl)
set_option maxRecDepth 20000 in
theorem cC_Court_beginDay (l : Launch) (D : va_G) (yI yO : ClassId) (z0 : Nat) (ad : Nat → Nat → Nat) {g : CS} {gz : CS} (h : fC_Court_beginDay g = some gz) : Met l yX8_beginDay wsX8_beginDay (mR 7 157) (va_Pc [.ref (ad 0 0)] (cPre D yI yO z0 ad g)) (cQv D yI yO z0 ad gz (cF ad g)) 0 0 (cF ad g) := by
  refine Met.ofW (cc := cX8_beginDay) (maxL := 2) (ret := none) (by decide) rfl ?_
  intro p e s m args below meth c s₁ B hml hv
  obtain ⟨hv0, hw, hK⟩ := hv
  have hv1 : args = [.ref (ad 0 0)].toArray := hv0
  subst hv1
  have C : cC p s m _ meth c cX8_beginDay RX8 none wsX8_beginDay 2 D yI yO := ⟨B.exec, B.bytes, B.returns, atoms_spec (ws := wsX8_beginDay) B.pre, findClass_of_methodNamed B.named, B.notSynchronized, hml, hK⟩
  have hl := lv_entry ([.ref (ad 0 0)]) (n := 2) (Nat.le_of_ble_eq_true rfl)
  rw [lg_entry_eq]
  generalize (lg_sl ([.ref (ad 0 0)]) ++ List.replicate (2 - (lg_sl ([.ref (ad 0 0)])).length) Slot.unset).toArray = ls at hl ⊢
  have hl : lv_has ls 2 [(0, .ref (ad 0 0))] := hl
  exact w_C_Court_beginDay_0 C h ⟨hw, fun k i hi => ⟨k, i, hi, rfl⟩, va_S.rf⟩ hl
end GC4
