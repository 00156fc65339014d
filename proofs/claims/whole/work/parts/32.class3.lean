section GC3
variable {p : Program} {l : Launch} {e : Env} {s : State} {m : MethodId} {args : Array Value} {below : List Frame} {meth : Method} {c : Code} {D : va_G} {yI yO : ClassId} {z0 : Nat} {ad : Nat → Nat → Nat} {A : Nat → Prop}
theorem iC_Court_isFreeOfVisas_X1 : ∀ w ∈ wsX10, w ∈ wsX8_isFreeOfVisas := by decide +kernel
theorem iC_Court_isFreeOfVisas_X3 : ∀ w ∈ wsX30, w ∈ wsX8_isFreeOfVisas := by decide +kernel
theorem iC_Court_isFreeOfVisas_X8 : ∀ w ∈ wsX80, w ∈ wsX8_isFreeOfVisas := by decide +kernel
def fC_Court_isFreeOfVisas_81 (g : CS) (x3 : Int32) : Option Int32 :=
  (mbo x3).bind fun b1 => some b1
set_option maxRecDepth 20000 in
theorem w_C_Court_isFreeOfVisas_81 (C : cC p s m args meth c cX8_isFreeOfVisas RX8 (some .boolean) wsX8_isFreeOfVisas 5 D yI yO) {rz : Int32} {g : CS} {x3 : Int32} (h : fC_Court_isFreeOfVisas_81 g x3 = some rz) {H : Heap} {locs : List Loc} {ls : Array Slot} (hX : cX D yI yO z0 ad g A s H locs) (hl : lv_has ls 5 [(0, .ref (ad 0 0)), (3, .int x3)]) : W p l e (mR 3 64) s m args below meth c H locs 0 0 (MQ below (cQ D yI yO z0 ad rz g A) args s 0 0 A) (F0 m 81 ls []) := by
  obtain ⟨hx, hb, hr, hts, hown, hlocks, hml, hK⟩ := id C
  unfold fC_Court_isFreeOfVisas_81 at h
  refine lv_iload_n hx hb dX8_isFreeOfVisas_81 rfl (lv_at hl 1 rfl) ?_
  obtain ⟨b1, eb1, h⟩ := mbind h
  cases h
  exact cg_retz hx hb hr hlocks hK hX dX8_isFreeOfVisas_82 eb1
def fC_Court_isFreeOfVisas_74 (rec12 : CS → Nat → Nat → Int32 → Int32 → Option Int32) (g : CS) (i1 : Nat) (i2 : Nat) (x4 : Int32) (xs0 : Int32) : Option Int32 :=
  rec12 g i1 i2 xs0 (x4 + 1)
set_option maxRecDepth 20000 in
theorem w_C_Court_isFreeOfVisas_74 (C : cC p s m args meth c cX8_isFreeOfVisas RX8 (some .boolean) wsX8_isFreeOfVisas 5 D yI yO) {rz : Int32} {g : CS} {rec12 : CS → Nat → Nat → Int32 → Int32 → Option Int32} (hrec12 : ∀ {i1 : Nat} {i2 : Nat} {x3 : Int32} {x4 : Int32}  (_ : rec12 g i1 i2 x3 x4 = some rz) {H : Heap} {locs : List Loc} {ls : Array Slot} (_ : cX D yI yO z0 ad g A s H locs) (_ : lv_has ls 5 [(0, .ref (ad 0 0)), (1, .ref (ad 5 i1)), (2, .ref (ad 4 i2)), (3, .int x3), (4, .int x4)]), W p l e (mR 3 64) s m args below meth c H locs 0 0 (MQ below (cQ D yI yO z0 ad rz g A) args s 0 0 A) (F0 m 12 ls [])) {i1 : Nat} {i2 : Nat} {x4 : Int32} {xs0 : Int32} (h : fC_Court_isFreeOfVisas_74 rec12 g i1 i2 x4 xs0 = some rz) {H : Heap} {locs : List Loc} {ls : Array Slot} (hX : cX D yI yO z0 ad g A s H locs) (hl : lv_has ls 5 [(0, .ref (ad 0 0)), (1, .ref (ad 5 i1)), (2, .ref (ad 4 i2)), (4, .int x4)]) : W p l e (mR 3 64) s m args below meth c H locs 0 0 (MQ below (cQ D yI yO z0 ad rz g A) args s 0 0 A) (F0 m 74 ls [.int xs0]) := by
  obtain ⟨hx, hb, hr, hts, hown, hlocks, hml, hK⟩ := id C
  unfold fC_Court_isFreeOfVisas_74 at h
  refine lv_istore_n (lv' := [(3, .int xs0), (0, .ref (ad 0 0)), (1, .ref (ad 5 i1)), (2, .ref (ad 4 i2)), (4, .int x4)]) hx hb dX8_isFreeOfVisas_74 rfl hl (by decide) rfl (fun ls hl => ?_)
  refine lv_iinc (v := x4 + 1) (lv' := [(4, .int (x4 + 1)), (3, .int xs0), (0, .ref (ad 0 0)), (1, .ref (ad 5 i1)), (2, .ref (ad 4 i2))]) hx hb dX8_isFreeOfVisas_75 hl (k := 4) rfl rfl (by decide) rfl (fun ls hl => ?_)
  refine lv_goto (tgt := 12) hx hb dX8_isFreeOfVisas_78 (by decide) ?_
  exact hrec12 h hX (lv_sub hl [2, 3, 4, 1, 0] rfl)
def fC_Court_isFreeOfVisas_73 (rec12 : CS → Nat → Nat → Int32 → Int32 → Option Int32) (g : CS) (i1 : Nat) (i2 : Nat) (x4 : Int32) : Option Int32 :=
  fC_Court_isFreeOfVisas_74 rec12 g i1 i2 x4 0
set_option maxRecDepth 20000 in
theorem w_C_Court_isFreeOfVisas_73 (C : cC p s m args meth c cX8_isFreeOfVisas RX8 (some .boolean) wsX8_isFreeOfVisas 5 D yI yO) {rz : Int32} {g : CS} {rec12 : CS → Nat → Nat → Int32 → Int32 → Option Int32} (hrec12 : ∀ {i1 : Nat} {i2 : Nat} {x3 : Int32} {x4 : Int32}  (_ : rec12 g i1 i2 x3 x4 = some rz) {H : Heap} {locs : List Loc} {ls : Array Slot} (_ : cX D yI yO z0 ad g A s H locs) (_ : lv_has ls 5 [(0, .ref (ad 0 0)), (1, .ref (ad 5 i1)), (2, .ref (ad 4 i2)), (3, .int x3), (4, .int x4)]), W p l e (mR 3 64) s m args below meth c H locs 0 0 (MQ below (cQ D yI yO z0 ad rz g A) args s 0 0 A) (F0 m 12 ls [])) {i1 : Nat} {i2 : Nat} {x4 : Int32} (h : fC_Court_isFreeOfVisas_73 rec12 g i1 i2 x4 = some rz) {H : Heap} {locs : List Loc} {ls : Array Slot} (hX : cX D yI yO z0 ad g A s H locs) (hl : lv_has ls 5 [(0, .ref (ad 0 0)), (1, .ref (ad 5 i1)), (2, .ref (ad 4 i2)), (4, .int x4)]) : W p l e (mR 3 64) s m args below meth c H locs 0 0 (MQ below (cQ D yI yO z0 ad rz g A) args s 0 0 A) (F0 m 73 ls []) := by
  obtain ⟨hx, hb, hr, hts, hown, hlocks, hml, hK⟩ := id C
  unfold fC_Court_isFreeOfVisas_73 at h
  refine lv_iconst (v := 0) hx hb dX8_isFreeOfVisas_73 (by decide) ?_
  exact w_C_Court_isFreeOfVisas_74 C hrec12 h hX (lv_sub hl [0, 1, 2, 3] rfl)
def fC_Court_isFreeOfVisas_12 : Nat → CS → Nat → Nat → Int32 → Int32 → Option Int32
  | 0, _, _, _, _, _ => none
  | n + 1, g, i1, i2, x3, x4 =>
    if (nI (sN g 0)) ≤ x4 then
      fC_Court_isFreeOfVisas_81 g x3
    else
      (ck g 4 i2).bind fun _ =>
      if (sI g 4 i2 1) = 0 then
        fC_Court_isFreeOfVisas_81 g x3
      else
        if x3 = 0 then
          (cget g 0 x4).bind fun v6 =>
          (ck g 4 v6).bind fun _ =>
          if (sI g 4 v6 1) = 0 then
            fC_Court_isFreeOfVisas_73 (fC_Court_isFreeOfVisas_12 n) g i1 i2 x4
          else
            (ck g 5 i1).bind fun _ =>
            (fC_Permits_isValid i1 g x4 (sI g 0 0 6)).bind fun r10 =>
            if r10 = 0 then
              fC_Court_isFreeOfVisas_73 (fC_Court_isFreeOfVisas_12 n) g i1 i2 x4
            else
              fC_Court_isFreeOfVisas_74 (fC_Court_isFreeOfVisas_12 n) g i1 i2 x4 1
        else
          fC_Court_isFreeOfVisas_81 g x3
set_option maxRecDepth 20000 in
theorem w_C_Court_isFreeOfVisas_12 (C : cC p s m args meth c cX8_isFreeOfVisas RX8 (some .boolean) wsX8_isFreeOfVisas 5 D yI yO) {rz : Int32} {g : CS} : ∀ (n : Nat) {i1 : Nat} {i2 : Nat} {x3 : Int32} {x4 : Int32} (h : fC_Court_isFreeOfVisas_12 n g i1 i2 x3 x4 = some rz) {H : Heap} {locs : List Loc} {ls : Array Slot} (hX : cX D yI yO z0 ad g A s H locs) (hl : lv_has ls 5 [(0, .ref (ad 0 0)), (1, .ref (ad 5 i1)), (2, .ref (ad 4 i2)), (3, .int x3), (4, .int x4)]), W p l e (mR 3 64) s m args below meth c H locs 0 0 (MQ below (cQ D yI yO z0 ad rz g A) args s 0 0 A) (F0 m 12 ls []) := by
  obtain ⟨hx, hb, hr, hts, hown, hlocks, hml, hK⟩ := id C
  intro n
  induction n with
  | zero =>
    intro i1 i2 x3 x4 h
    cases (show (none : Option _) = _ from h)
  | succ n ih =>
    intro i1 i2 x3 x4 h H locs ls hX hl
    rw [fC_Court_isFreeOfVisas_12] at h
    refine lv_iload hx hb dX8_isFreeOfVisas_12 (lv_at hl 4 rfl) ?_
    refine lv_aload_n hx hb dX8_isFreeOfVisas_14 rfl (lv_at hl 0 rfl) ?_
    refine cg_get hx hb hts iC_Court_isFreeOfVisas_X8 hown hK hX 0 0 rfl rfl rfl 0 (by decide) (hts (.fieldLink RX8 12 "PassageCourt" "lands" "Ljava/util/ArrayList;") (by decide +kernel)) (fun _ h9 => h9) rfl dX8_isFreeOfVisas_15 ?_
    refine cg_callV (As := []) (rest := [.int x4]) ⟨hx, hb, hml, hown, hts⟩ 1 0 rfl (ci := 0) rfl rfl (cC_List_size l D yI yO z0 ad g 0 (by decide)) (cwV 0 hts gX8_isFreeOfVisas_Jx4a65c_size_8abf5 rfl rfl rfl (by decide +kernel) ⟨Nat.le_of_ble_eq_true rfl, Nat.le_of_ble_eq_true rfl⟩) hK hX rfl hl.1 rfl (Nat.le_of_ble_eq_true rfl) dX8_isFreeOfVisas_18 ⟨Nat.zero_le _, Nat.zero_le _⟩ (fun H locs hX => ?_)
    refine lv_icmp_ge (tgt := 81) hx hb dX8_isFreeOfVisas_21 (by decide) (fun c2 => ?_) (fun c2 => ?_)
    · replace h := mpos c2 h
      exact w_C_Court_isFreeOfVisas_81 C h hX (lv_sub hl [0, 3] rfl)
    · replace h := mneg c2 h
      refine lv_aload_n hx hb dX8_isFreeOfVisas_24 rfl (lv_at hl 2 rfl) ?_
      obtain ⟨_, hv3, h⟩ := mbind h
      replace hv3 := ck_spec hv3
      refine cg_get hx hb hts iC_Court_isFreeOfVisas_X1 hown hK hX 4 i2 hv3 rfl rfl 1 (by decide) (hts (.fieldLink RX8 165 "PassageCourt$Land" "isInRegion" "Z") (by decide +kernel)) (fun _ h9 => h9) rfl dX8_isFreeOfVisas_25 ?_
      refine lv_if_eq (tgt := 81) hx hb dX8_isFreeOfVisas_28 (by decide) (fun c4 => ?_) (fun c4 => ?_)
      · replace h := mpos c4 h
        exact w_C_Court_isFreeOfVisas_81 C h hX (lv_sub hl [0, 3] rfl)
      · replace h := mneg c4 h
        refine lv_iload_n hx hb dX8_isFreeOfVisas_31 rfl (lv_at hl 3 rfl) ?_
        refine lv_if_ne (tgt := 81) hx hb dX8_isFreeOfVisas_32 (by decide) (fun c5 => ?_) (fun c5 => ?_)
        · replace h := mneg c5 h
          exact w_C_Court_isFreeOfVisas_81 C h hX (lv_sub hl [0, 3] rfl)
        · replace h := mpos c5 h
          refine lv_aload_n hx hb dX8_isFreeOfVisas_35 rfl (lv_at hl 0 rfl) ?_
          refine cg_get hx hb hts iC_Court_isFreeOfVisas_X8 hown hK hX 0 0 rfl rfl rfl 0 (by decide) (hts (.fieldLink RX8 12 "PassageCourt" "lands" "Ljava/util/ArrayList;") (by decide +kernel)) (fun _ h9 => h9) rfl dX8_isFreeOfVisas_36 ?_
          refine lv_iload hx hb dX8_isFreeOfVisas_39 (lv_at hl 4 rfl) ?_
          obtain ⟨v6, ev6, h⟩ := mbind h
          refine cg_callVq (As := [.int x4]) (rest := []) ⟨hx, hb, hml, hown, hts⟩ 1 0 rfl (ci := 0) rfl rfl (cC_List_get l D yI yO z0 ad (by decide) ev6) (cwV 1 hts gX8_isFreeOfVisas_Jx4a65c_get_915e3 rfl rfl rfl (by decide +kernel) ⟨Nat.le_of_ble_eq_true rfl, Nat.le_of_ble_eq_true rfl⟩) hK hX rfl hl.1 rfl (Nat.le_of_ble_eq_true rfl) dX8_isFreeOfVisas_41 ⟨Nat.zero_le _, Nat.zero_le _⟩ (fun H locs hX => ?_)
          refine W.eq (g2 := F0 m 44 ls [.ref (ad 4 v6)]) rfl ?_
          obtain ⟨_, hv7, h⟩ := mbind h
          replace hv7 := ck_spec hv7
          refine cg_cast hx hb hown (hts (.classLink RX8 57 "PassageCourt$Land") (by decide +kernel)) hK hX 4 v6 hv7 (ci := 2) rfl rfl dX8_isFreeOfVisas_44 ?_
          refine cg_get hx hb hts iC_Court_isFreeOfVisas_X1 hown hK hX 4 v6 hv7 rfl rfl 1 (by decide) (hts (.fieldLink RX8 165 "PassageCourt$Land" "isInRegion" "Z") (by decide +kernel)) (fun _ h9 => h9) rfl dX8_isFreeOfVisas_47 ?_
          refine lv_if_eq (tgt := 73) hx hb dX8_isFreeOfVisas_50 (by decide) (fun c8 => ?_) (fun c8 => ?_)
          · replace h := mpos c8 h
            exact w_C_Court_isFreeOfVisas_73 C ih h hX (lv_sub hl [0, 1, 2, 4] rfl)
          · replace h := mneg c8 h
            refine lv_aload_n hx hb dX8_isFreeOfVisas_53 rfl (lv_at hl 1 rfl) ?_
            obtain ⟨_, hv9, h⟩ := mbind h
            replace hv9 := ck_spec hv9
            refine cg_get hx hb hts iC_Court_isFreeOfVisas_X3 hown hK hX 5 i1 hv9 rfl rfl 7 (by decide) (hts (.fieldLink RX8 279 "PassageCourt$Person" "permits" "LPassageCourt$Permits;") (by decide +kernel)) (fun _ h9 => h9) rfl dX8_isFreeOfVisas_54 ?_
            refine lv_iload hx hb dX8_isFreeOfVisas_57 (lv_at hl 4 rfl) ?_
            refine lv_aload_n hx hb dX8_isFreeOfVisas_59 rfl (lv_at hl 0 rfl) ?_
            refine cg_get hx hb hts iC_Court_isFreeOfVisas_X8 hown hK hX 0 0 rfl rfl rfl 6 (by decide) (hts (.fieldLink RX8 37 "PassageCourt" "today" "I") (by decide +kernel)) (fun _ h9 => h9) rfl dX8_isFreeOfVisas_60 ?_
            obtain ⟨r10, er10, h⟩ := mbind h
            refine cg_callV (As := [.int x4, .int (sI g 0 0 6)]) (rest := []) ⟨hx, hb, hml, hown, hts⟩ 25 i1 hv9 (ci := 3) rfl rfl (cC_Permits_isValid l D yI yO z0 ad er10) (cwV 2 hts gX8_isFreeOfVisas_X2_isValid rfl rfl rfl (by decide +kernel) ⟨Nat.le_of_ble_eq_true rfl, Nat.le_of_ble_eq_true rfl⟩) hK hX rfl hl.1 rfl (Nat.le_of_ble_eq_true rfl) dX8_isFreeOfVisas_63 ⟨Nat.zero_le _, Nat.zero_le _⟩ (fun H locs hX => ?_)
            refine lv_if_eq (tgt := 73) hx hb dX8_isFreeOfVisas_66 (by decide) (fun c11 => ?_) (fun c11 => ?_)
            · replace h := mpos c11 h
              exact w_C_Court_isFreeOfVisas_73 C ih h hX (lv_sub hl [0, 1, 2, 4] rfl)
            · replace h := mneg c11 h
              refine lv_iconst (v := 1) hx hb dX8_isFreeOfVisas_69 (by decide) ?_
              refine lv_goto (tgt := 74) hx hb dX8_isFreeOfVisas_70 (by decide) ?_
              exact w_C_Court_isFreeOfVisas_74 C ih h hX (lv_sub hl [0, 1, 2, 4] rfl)
def fC_Court_isFreeOfVisas (g : CS) (i1 : Nat) (i2 : Nat) : Option Int32 :=
  (ck g 5 i1).bind fun _ =>
  (ck g 4 i2).bind fun _ =>
  (fC_Land_waivesFor i2 g (sI g 5 i1 8)).bind fun r14 =>
  fC_Court_isFreeOfVisas_12 4096 g i1 i2 r14 0
set_option maxRecDepth 20000 in
theorem w_C_Court_isFreeOfVisas_0 (C : cC p s m args meth c cX8_isFreeOfVisas RX8 (some .boolean) wsX8_isFreeOfVisas 5 D yI yO) {rz : Int32} {g : CS} {i1 : Nat} {i2 : Nat} (h : fC_Court_isFreeOfVisas g i1 i2 = some rz) {H : Heap} {locs : List Loc} {ls : Array Slot} (hX : cX D yI yO z0 ad g A s H locs) (hl : lv_has ls 5 [(0, .ref (ad 0 0)), (1, .ref (ad 5 i1)), (2, .ref (ad 4 i2))]) : W p l e (mR 3 64) s m args below meth c H locs 0 0 (MQ below (cQ D yI yO z0 ad rz g A) args s 0 0 A) (F0 m 0 ls []) := by
  obtain ⟨hx, hb, hr, hts, hown, hlocks, hml, hK⟩ := id C
  unfold fC_Court_isFreeOfVisas at h
  refine lv_aload_n hx hb dX8_isFreeOfVisas_0 rfl (lv_at hl 2 rfl) ?_
  refine lv_aload_n hx hb dX8_isFreeOfVisas_1 rfl (lv_at hl 1 rfl) ?_
  obtain ⟨_, hv12, h⟩ := mbind h
  replace hv12 := ck_spec hv12
  refine cg_get hx hb hts iC_Court_isFreeOfVisas_X3 hown hK hX 5 i1 hv12 rfl rfl 8 (by decide) (hts (.fieldLink RX8 124 "PassageCourt$Person" "nations" "I") (by decide +kernel)) (fun _ h9 => h9) rfl dX8_isFreeOfVisas_2 ?_
  obtain ⟨_, hv13, h⟩ := mbind h
  replace hv13 := ck_spec hv13
  obtain ⟨r14, er14, h⟩ := mbind h
  refine cg_callV (As := [.int (sI g 5 i1 8)]) (rest := []) ⟨hx, hb, hml, hown, hts⟩ 4 i2 hv13 (ci := 2) rfl rfl (cC_Land_waivesFor l D yI yO z0 ad er14) (cwV 1 hts gX8_isFreeOfVisas_X1_waivesFor rfl rfl rfl (by decide +kernel) ⟨Nat.le_of_ble_eq_true rfl, Nat.le_of_ble_eq_true rfl⟩) hK hX rfl hl.1 rfl (Nat.le_of_ble_eq_true rfl) dX8_isFreeOfVisas_5 ⟨Nat.zero_le _, Nat.zero_le _⟩ (fun H locs hX => ?_)
  refine lv_istore_n (lv' := [(3, .int r14), (0, .ref (ad 0 0)), (1, .ref (ad 5 i1)), (2, .ref (ad 4 i2))]) hx hb dX8_isFreeOfVisas_8 rfl hl (by decide) rfl (fun ls hl => ?_)
  refine lv_iconst (v := 0) hx hb dX8_isFreeOfVisas_9 (by decide) ?_
  refine lv_istore (lv' := [(4, .int 0), (3, .int r14), (0, .ref (ad 0 0)), (1, .ref (ad 5 i1)), (2, .ref (ad 4 i2))]) hx hb dX8_isFreeOfVisas_10 hl (by decide) rfl (fun ls hl => ?_)
  exact w_C_Court_isFreeOfVisas_12 C 4096 h hX (lv_sub hl [2, 3, 4, 1, 0] rfl)
set_option maxRecDepth 20000 in
theorem cC_Court_isFreeOfVisas (l : Launch) (D : va_G) (yI yO : ClassId) (z0 : Nat) (ad : Nat → Nat → Nat) {g : CS} {rz : Int32} {i1 : Nat} {i2 : Nat} (h : fC_Court_isFreeOfVisas g i1 i2 = some rz) : Met l yX8_isFreeOfVisas wsX8_isFreeOfVisas (mR 3 64) (va_Pc [.ref (ad 0 0), .ref (ad 5 i1), .ref (ad 4 i2)] (cPre D yI yO z0 ad g)) (cQ D yI yO z0 ad rz g (cF ad g)) 0 0 (cF ad g) := by
  refine Met.ofW (cc := cX8_isFreeOfVisas) (maxL := 5) (ret := (some .boolean)) (by decide) rfl ?_
  intro p e s m args below meth c s₁ B hml hv
  obtain ⟨hv0, hw, hK⟩ := hv
  have hv1 : args = [.ref (ad 0 0), .ref (ad 5 i1), .ref (ad 4 i2)].toArray := hv0
  subst hv1
  have C : cC p s m _ meth c cX8_isFreeOfVisas RX8 (some .boolean) wsX8_isFreeOfVisas 5 D yI yO := ⟨B.exec, B.bytes, B.returns, atoms_spec (ws := wsX8_isFreeOfVisas) B.pre, findClass_of_methodNamed B.named, B.notSynchronized, hml, hK⟩
  have hl := lv_entry ([.ref (ad 0 0), .ref (ad 5 i1), .ref (ad 4 i2)]) (n := 5) (Nat.le_of_ble_eq_true rfl)
  rw [lg_entry_eq]
  generalize (lg_sl ([.ref (ad 0 0), .ref (ad 5 i1), .ref (ad 4 i2)]) ++ List.replicate (5 - (lg_sl ([.ref (ad 0 0), .ref (ad 5 i1), .ref (ad 4 i2)])).length) Slot.unset).toArray = ls at hl ⊢
  have hl : lv_has ls 5 [(0, .ref (ad 0 0)), (1, .ref (ad 5 i1)), (2, .ref (ad 4 i2))] := hl
  exact w_C_Court_isFreeOfVisas_0 C h ⟨hw, fun k i hi => ⟨k, i, hi, rfl⟩, va_S.rf⟩ hl
theorem iC_Court_statusIn_X1 : ∀ w ∈ wsX10, w ∈ wsX8_statusIn := by decide +kernel
theorem iC_Court_statusIn_X3 : ∀ w ∈ wsX30, w ∈ wsX8_statusIn := by decide +kernel
theorem iC_Court_statusIn_X8 : ∀ w ∈ wsX80, w ∈ wsX8_statusIn := by decide +kernel
def fC_Court_statusIn_96 (g : CS) (xs0 : Int32) : Option Int32 :=
  some xs0
set_option maxRecDepth 20000 in
theorem w_C_Court_statusIn_96 (C : cC p s m args meth c cX8_statusIn RX8 (some .int) wsX8_statusIn 4 D yI yO) {rz : Int32} {g : CS} {xs0 : Int32} (h : fC_Court_statusIn_96 g xs0 = some rz) {H : Heap} {locs : List Loc} {ls : Array Slot} (hX : cX D yI yO z0 ad g A s H locs) (hl : lv_has ls 4 [(0, .ref (ad 0 0))]) : W p l e (mR 5 111) s m args below meth c H locs 0 0 (MQ below (cQ D yI yO z0 ad rz g A) args s 0 0 A) (F0 m 96 ls [.int xs0]) := by
  obtain ⟨hx, hb, hr, hts, hown, hlocks, hml, hK⟩ := id C
  unfold fC_Court_statusIn_96 at h
  cases h
  exact cg_reti hx hb hr hlocks hK hX dX8_statusIn_96
def fC_Court_statusIn_86 (g : CS) (xs0 : Int32) : Option Int32 :=
  if xs0 = 0 then
    fC_Court_statusIn_96 g 4
  else
    fC_Court_statusIn_96 g 3
set_option maxRecDepth 20000 in
theorem w_C_Court_statusIn_86 (C : cC p s m args meth c cX8_statusIn RX8 (some .int) wsX8_statusIn 4 D yI yO) {rz : Int32} {g : CS} {xs0 : Int32} (h : fC_Court_statusIn_86 g xs0 = some rz) {H : Heap} {locs : List Loc} {ls : Array Slot} (hX : cX D yI yO z0 ad g A s H locs) (hl : lv_has ls 4 [(0, .ref (ad 0 0))]) : W p l e (mR 5 111) s m args below meth c H locs 0 0 (MQ below (cQ D yI yO z0 ad rz g A) args s 0 0 A) (F0 m 86 ls [.int xs0]) := by
  obtain ⟨hx, hb, hr, hts, hown, hlocks, hml, hK⟩ := id C
  unfold fC_Court_statusIn_86 at h
  refine lv_istore_n (lv' := [(3, .int xs0), (0, .ref (ad 0 0))]) hx hb dX8_statusIn_86 rfl hl (by decide) rfl (fun ls hl => ?_)
  refine lv_iload_n hx hb dX8_statusIn_87 rfl (lv_at hl 0 rfl) ?_
  refine lv_if_eq (tgt := 95) hx hb dX8_statusIn_88 (by decide) (fun c1 => ?_) (fun c1 => ?_)
  · replace h := mpos c1 h
    refine lv_iconst (v := 4) hx hb dX8_statusIn_95 (by decide) ?_
    exact w_C_Court_statusIn_96 C h hX (lv_sub hl [1] rfl)
  · replace h := mneg c1 h
    refine lv_iconst (v := 3) hx hb dX8_statusIn_91 (by decide) ?_
    refine lv_goto (tgt := 96) hx hb dX8_statusIn_92 (by decide) ?_
    exact w_C_Court_statusIn_96 C h hX (lv_sub hl [1] rfl)
def fC_Court_statusIn_85 (g : CS) : Option Int32 :=
  fC_Court_statusIn_86 g 0
set_option maxRecDepth 20000 in
theorem w_C_Court_statusIn_85 (C : cC p s m args meth c cX8_statusIn RX8 (some .int) wsX8_statusIn 4 D yI yO) {rz : Int32} {g : CS} (h : fC_Court_statusIn_85 g = some rz) {H : Heap} {locs : List Loc} {ls : Array Slot} (hX : cX D yI yO z0 ad g A s H locs) (hl : lv_has ls 4 [(0, .ref (ad 0 0))]) : W p l e (mR 5 111) s m args below meth c H locs 0 0 (MQ below (cQ D yI yO z0 ad rz g A) args s 0 0 A) (F0 m 85 ls []) := by
  obtain ⟨hx, hb, hr, hts, hown, hlocks, hml, hK⟩ := id C
  unfold fC_Court_statusIn_85 at h
  refine lv_iconst (v := 0) hx hb dX8_statusIn_85 (by decide) ?_
  exact w_C_Court_statusIn_86 C h hX (lv_sub hl [0] rfl)
def fC_Court_statusIn_81 (g : CS) : Option Int32 :=
  fC_Court_statusIn_86 g 1
set_option maxRecDepth 20000 in
theorem w_C_Court_statusIn_81 (C : cC p s m args meth c cX8_statusIn RX8 (some .int) wsX8_statusIn 4 D yI yO) {rz : Int32} {g : CS} (h : fC_Court_statusIn_81 g = some rz) {H : Heap} {locs : List Loc} {ls : Array Slot} (hX : cX D yI yO z0 ad g A s H locs) (hl : lv_has ls 4 [(0, .ref (ad 0 0))]) : W p l e (mR 5 111) s m args below meth c H locs 0 0 (MQ below (cQ D yI yO z0 ad rz g A) args s 0 0 A) (F0 m 81 ls []) := by
  obtain ⟨hx, hb, hr, hts, hown, hlocks, hml, hK⟩ := id C
  unfold fC_Court_statusIn_81 at h
  refine lv_iconst (v := 1) hx hb dX8_statusIn_81 (by decide) ?_
  refine lv_goto (tgt := 86) hx hb dX8_statusIn_82 (by decide) ?_
  exact w_C_Court_statusIn_86 C h hX (lv_sub hl [0] rfl)
def fC_Court_statusIn (g : CS) (i1 : Nat) (i2 : Nat) : Option Int32 :=
  (ck g 5 i1).bind fun _ =>
  (fC_Person_isOf i1 g i2).bind fun r3 =>
  if r3 = 0 then
    (ck g 4 i2).bind fun _ =>
    (fC_Permits_isValid i1 g (sI g 4 i2 0) (sI g 0 0 6)).bind fun r6 =>
    if r6 = 0 then
      if (sI g 5 i1 11) = 0 then
        (fC_Court_hasDaysLeft g i1 i2 (sI g 5 i1 12)).bind fun r9 =>
        if r9 = 0 then
          fC_Court_statusIn_85 g
        else
          (fC_Court_isFreeOfVisas g i1 i2).bind fun r11 =>
          if r11 = 0 then
            om (sJ g 5 i1 10) (
              fC_Court_statusIn_85 g)
              fun v14 =>
              om (sJ g 5 i1 10) (
                none)
                fun v16 =>
                (ck g 6 v16).bind fun _ =>
                (fC_Visa_doesFor v16 g i2 (sI g 0 0 6)).bind fun r18 =>
                if r18 = 0 then
                  fC_Court_statusIn_85 g
                else
                  fC_Court_statusIn_81 g
          else
            fC_Court_statusIn_81 g
      else
        fC_Court_statusIn_85 g
    else
      some 2
  else
    some 1
set_option maxRecDepth 20000 in
theorem w_C_Court_statusIn_0 (C : cC p s m args meth c cX8_statusIn RX8 (some .int) wsX8_statusIn 4 D yI yO) {rz : Int32} {g : CS} {i1 : Nat} {i2 : Nat} (h : fC_Court_statusIn g i1 i2 = some rz) {H : Heap} {locs : List Loc} {ls : Array Slot} (hX : cX D yI yO z0 ad g A s H locs) (hl : lv_has ls 4 [(0, .ref (ad 0 0)), (1, .ref (ad 5 i1)), (2, .ref (ad 4 i2))]) : W p l e (mR 5 111) s m args below meth c H locs 0 0 (MQ below (cQ D yI yO z0 ad rz g A) args s 0 0 A) (F0 m 0 ls []) := by
  obtain ⟨hx, hb, hr, hts, hown, hlocks, hml, hK⟩ := id C
  unfold fC_Court_statusIn at h
  refine lv_aload_n hx hb dX8_statusIn_0 rfl (lv_at hl 1 rfl) ?_
  refine lv_aload_n hx hb dX8_statusIn_1 rfl (lv_at hl 2 rfl) ?_
  obtain ⟨_, hv2, h⟩ := mbind h
  replace hv2 := ck_spec hv2
  obtain ⟨r3, er3, h⟩ := mbind h
  refine cg_callV (As := [.ref (ad 4 i2)]) (rest := []) ⟨hx, hb, hml, hown, hts⟩ 5 i1 hv2 (ci := 4) rfl rfl (cC_Person_isOf l D yI yO z0 ad er3) (cwV 1 hts gX8_statusIn_X3_isOf rfl rfl rfl (by decide +kernel) ⟨Nat.le_of_ble_eq_true rfl, Nat.le_of_ble_eq_true rfl⟩) hK hX rfl hl.1 rfl (Nat.le_of_ble_eq_true rfl) dX8_statusIn_2 ⟨Nat.zero_le _, Nat.zero_le _⟩ (fun H locs hX => ?_)
  refine lv_if_eq (tgt := 10) hx hb dX8_statusIn_5 (by decide) (fun c4 => ?_) (fun c4 => ?_)
  · replace h := mpos c4 h
    refine lv_aload_n hx hb dX8_statusIn_10 rfl (lv_at hl 1 rfl) ?_
    refine cg_get hx hb hts iC_Court_statusIn_X3 hown hK hX 5 i1 hv2 rfl rfl 7 (by decide) (hts (.fieldLink RX8 279 "PassageCourt$Person" "permits" "LPassageCourt$Permits;") (by decide +kernel)) (fun _ h9 => h9) rfl dX8_statusIn_11 ?_
    refine lv_aload_n hx hb dX8_statusIn_14 rfl (lv_at hl 2 rfl) ?_
    obtain ⟨_, hv5, h⟩ := mbind h
    replace hv5 := ck_spec hv5
    refine cg_get hx hb hts iC_Court_statusIn_X1 hown hK hX 4 i2 hv5 rfl rfl 0 (by decide) (hts (.fieldLink RX8 66 "PassageCourt$Land" "number" "I") (by decide +kernel)) (fun _ h9 => h9) rfl dX8_statusIn_15 ?_
    refine lv_aload_n hx hb dX8_statusIn_18 rfl (lv_at hl 0 rfl) ?_
    refine cg_get hx hb hts iC_Court_statusIn_X8 hown hK hX 0 0 rfl rfl rfl 6 (by decide) (hts (.fieldLink RX8 37 "PassageCourt" "today" "I") (by decide +kernel)) (fun _ h9 => h9) rfl dX8_statusIn_19 ?_
    obtain ⟨r6, er6, h⟩ := mbind h
    refine cg_callV (As := [.int (sI g 4 i2 0), .int (sI g 0 0 6)]) (rest := []) ⟨hx, hb, hml, hown, hts⟩ 25 i1 hv2 (ci := 3) rfl rfl (cC_Permits_isValid l D yI yO z0 ad er6) (cwV 2 hts gX8_statusIn_X2_isValid rfl rfl rfl (by decide +kernel) ⟨Nat.le_of_ble_eq_true rfl, Nat.le_of_ble_eq_true rfl⟩) hK hX rfl hl.1 rfl (Nat.le_of_ble_eq_true rfl) dX8_statusIn_22 ⟨Nat.zero_le _, Nat.zero_le _⟩ (fun H locs hX => ?_)
    refine lv_if_eq (tgt := 30) hx hb dX8_statusIn_25 (by decide) (fun c7 => ?_) (fun c7 => ?_)
    · replace h := mpos c7 h
      refine lv_aload_n hx hb dX8_statusIn_30 rfl (lv_at hl 1 rfl) ?_
      refine cg_get hx hb hts iC_Court_statusIn_X3 hown hK hX 5 i1 hv2 rfl rfl 11 (by decide) (hts (.fieldLink RX8 377 "PassageCourt$Person" "hasSlipped" "Z") (by decide +kernel)) (fun _ h9 => h9) rfl dX8_statusIn_31 ?_
      refine lv_if_ne (tgt := 85) hx hb dX8_statusIn_34 (by decide) (fun c8 => ?_) (fun c8 => ?_)
      · replace h := mneg c8 h
        exact w_C_Court_statusIn_85 C h hX (lv_sub hl [0] rfl)
      · replace h := mpos c8 h
        refine lv_aload_n hx hb dX8_statusIn_37 rfl (lv_at hl 0 rfl) ?_
        refine lv_aload_n hx hb dX8_statusIn_38 rfl (lv_at hl 1 rfl) ?_
        refine lv_aload_n hx hb dX8_statusIn_39 rfl (lv_at hl 2 rfl) ?_
        refine lv_aload_n hx hb dX8_statusIn_40 rfl (lv_at hl 1 rfl) ?_
        refine cg_get hx hb hts iC_Court_statusIn_X3 hown hK hX 5 i1 hv2 rfl rfl 12 (by decide) (hts (.fieldLink RX8 374 "PassageCourt$Person" "stayFrom" "I") (by decide +kernel)) (fun _ h9 => h9) rfl dX8_statusIn_41 ?_
        obtain ⟨r9, er9, h⟩ := mbind h
        refine cg_callV (As := [.ref (ad 5 i1), .ref (ad 4 i2), .int (sI g 5 i1 12)]) (rest := []) ⟨hx, hb, hml, hown, hts⟩ 0 0 rfl (ci := 9) rfl rfl (cC_Court_hasDaysLeft l D yI yO z0 ad er9) (cwV 3 hts gX8_statusIn_X8_hasDaysLeft rfl rfl rfl (by decide +kernel) ⟨Nat.le_of_ble_eq_true rfl, Nat.le_of_ble_eq_true rfl⟩) hK hX rfl hl.1 rfl (Nat.le_of_ble_eq_true rfl) dX8_statusIn_44 ⟨Nat.zero_le _, Nat.zero_le _⟩ (fun H locs hX => ?_)
        refine lv_if_eq (tgt := 85) hx hb dX8_statusIn_47 (by decide) (fun c10 => ?_) (fun c10 => ?_)
        · replace h := mpos c10 h
          exact w_C_Court_statusIn_85 C h hX (lv_sub hl [0] rfl)
        · replace h := mneg c10 h
          refine lv_aload_n hx hb dX8_statusIn_50 rfl (lv_at hl 0 rfl) ?_
          refine lv_aload_n hx hb dX8_statusIn_51 rfl (lv_at hl 1 rfl) ?_
          refine lv_aload_n hx hb dX8_statusIn_52 rfl (lv_at hl 2 rfl) ?_
          obtain ⟨r11, er11, h⟩ := mbind h
          refine cg_callV (As := [.ref (ad 5 i1), .ref (ad 4 i2)]) (rest := []) ⟨hx, hb, hml, hown, hts⟩ 0 0 rfl (ci := 9) rfl rfl (cC_Court_isFreeOfVisas l D yI yO z0 ad er11) (cwV 2 hts gX8_statusIn_X8_isFreeOfVisas rfl rfl rfl (by decide +kernel) ⟨Nat.le_of_ble_eq_true rfl, Nat.le_of_ble_eq_true rfl⟩) hK hX rfl hl.1 rfl (Nat.le_of_ble_eq_true rfl) dX8_statusIn_53 ⟨Nat.zero_le _, Nat.zero_le _⟩ (fun H locs hX => ?_)
          refine lv_if_ne (tgt := 81) hx hb dX8_statusIn_56 (by decide) (fun c12 => ?_) (fun c12 => ?_)
          · replace h := mneg c12 h
            exact w_C_Court_statusIn_81 C h hX (lv_sub hl [0] rfl)
          · replace h := mpos c12 h
            refine lv_aload_n hx hb dX8_statusIn_59 rfl (lv_at hl 1 rfl) ?_
            rcases ho13 : sJ g 5 i1 10 with _ | v14
            · replace h := om_n ho13 h
              refine cg_get hx hb hts iC_Court_statusIn_X3 hown hK hX 5 i1 hv2 rfl rfl 10 (by decide) (hts (.fieldLink RX8 185 "PassageCourt$Person" "visa" "LPassageCourt$Visa;") (by decide +kernel)) (fun _ h9 => h9) (v := .null) (by rw [ho13]; rfl) dX8_statusIn_60 ?_
              refine lv_ifnullN (tgt := 85) hx hb dX8_statusIn_63 (by decide) ?_
              exact w_C_Court_statusIn_85 C h hX (lv_sub hl [0] rfl)
            · replace h := om_s ho13 h
              refine cg_get hx hb hts iC_Court_statusIn_X3 hown hK hX 5 i1 hv2 rfl rfl 10 (by decide) (hts (.fieldLink RX8 185 "PassageCourt$Person" "visa" "LPassageCourt$Visa;") (by decide +kernel)) (fun _ h9 => h9) (v := .ref (ad 6 v14)) (by rw [ho13]; rfl) dX8_statusIn_60 ?_
              refine lv_ifnull hx hb dX8_statusIn_63 ?_
              refine lv_aload_n hx hb dX8_statusIn_66 rfl (lv_at hl 1 rfl) ?_
              rcases ho15 : sJ g 5 i1 10 with _ | v16
              · replace h := om_n ho15 h
                refine cg_get hx hb hts iC_Court_statusIn_X3 hown hK hX 5 i1 hv2 rfl rfl 10 (by decide) (hts (.fieldLink RX8 185 "PassageCourt$Person" "visa" "LPassageCourt$Visa;") (by decide +kernel)) (fun _ h9 => h9) (v := .null) (by rw [ho15]; rfl) dX8_statusIn_67 ?_
                refine lv_aload_n hx hb dX8_statusIn_70 rfl (lv_at hl 2 rfl) ?_
                refine lv_aload_n hx hb dX8_statusIn_71 rfl (lv_at hl 0 rfl) ?_
                refine cg_get hx hb hts iC_Court_statusIn_X8 hown hK hX 0 0 rfl rfl rfl 6 (by decide) (hts (.fieldLink RX8 37 "PassageCourt" "today" "I") (by decide +kernel)) (fun _ h9 => h9) rfl dX8_statusIn_72 ?_
                cases h
              · replace h := om_s ho15 h
                refine cg_get hx hb hts iC_Court_statusIn_X3 hown hK hX 5 i1 hv2 rfl rfl 10 (by decide) (hts (.fieldLink RX8 185 "PassageCourt$Person" "visa" "LPassageCourt$Visa;") (by decide +kernel)) (fun _ h9 => h9) (v := .ref (ad 6 v16)) (by rw [ho15]; rfl) dX8_statusIn_67 ?_
                refine lv_aload_n hx hb dX8_statusIn_70 rfl (lv_at hl 2 rfl) ?_
                refine lv_aload_n hx hb dX8_statusIn_71 rfl (lv_at hl 0 rfl) ?_
                refine cg_get hx hb hts iC_Court_statusIn_X8 hown hK hX 0 0 rfl rfl rfl 6 (by decide) (hts (.fieldLink RX8 37 "PassageCourt" "today" "I") (by decide +kernel)) (fun _ h9 => h9) rfl dX8_statusIn_72 ?_
                obtain ⟨_, hv17, h⟩ := mbind h
                replace hv17 := ck_spec hv17
                obtain ⟨r18, er18, h⟩ := mbind h
                refine cg_callV (As := [.ref (ad 4 i2), .int (sI g 0 0 6)]) (rest := []) ⟨hx, hb, hml, hown, hts⟩ 6 v16 hv17 (ci := 8) rfl rfl (cC_Visa_doesFor l D yI yO z0 ad er18) (cwV 2 hts gX8_statusIn_X7_doesFor rfl rfl rfl (by decide +kernel) ⟨Nat.le_of_ble_eq_true rfl, Nat.le_of_ble_eq_true rfl⟩) hK hX rfl hl.1 rfl (Nat.le_of_ble_eq_true rfl) dX8_statusIn_75 ⟨Nat.zero_le _, Nat.zero_le _⟩ (fun H locs hX => ?_)
                refine lv_if_eq (tgt := 85) hx hb dX8_statusIn_78 (by decide) (fun c19 => ?_) (fun c19 => ?_)
                · replace h := mpos c19 h
                  exact w_C_Court_statusIn_85 C h hX (lv_sub hl [0] rfl)
                · replace h := mneg c19 h
                  exact w_C_Court_statusIn_81 C h hX (lv_sub hl [0] rfl)
    · replace h := mneg c7 h
      refine lv_iconst (v := 2) hx hb dX8_statusIn_28 (by decide) ?_
      cases h
      exact cg_reti hx hb hr hlocks hK hX dX8_statusIn_29
  · replace h := mneg c4 h
    refine lv_iconst (v := 1) hx hb dX8_statusIn_8 (by decide) ?_
    cases h
    exact cg_reti hx hb hr hlocks hK hX dX8_statusIn_9
set_option maxRecDepth 20000 in
theorem cC_Court_statusIn (l : Launch) (D : va_G) (yI yO : ClassId) (z0 : Nat) (ad : Nat → Nat → Nat) {g : CS} {rz : Int32} {i1 : Nat} {i2 : Nat} (h : fC_Court_statusIn g i1 i2 = some rz) : Met l yX8_statusIn wsX8_statusIn (mR 5 111) (va_Pc [.ref (ad 0 0), .ref (ad 5 i1), .ref (ad 4 i2)] (cPre D yI yO z0 ad g)) (cQ D yI yO z0 ad rz g (cF ad g)) 0 0 (cF ad g) := by
  refine Met.ofW (cc := cX8_statusIn) (maxL := 4) (ret := (some .int)) (by decide) rfl ?_
  intro p e s m args below meth c s₁ B hml hv
  obtain ⟨hv0, hw, hK⟩ := hv
  have hv1 : args = [.ref (ad 0 0), .ref (ad 5 i1), .ref (ad 4 i2)].toArray := hv0
  subst hv1
  have C : cC p s m _ meth c cX8_statusIn RX8 (some .int) wsX8_statusIn 4 D yI yO := ⟨B.exec, B.bytes, B.returns, atoms_spec (ws := wsX8_statusIn) B.pre, findClass_of_methodNamed B.named, B.notSynchronized, hml, hK⟩
  have hl := lv_entry ([.ref (ad 0 0), .ref (ad 5 i1), .ref (ad 4 i2)]) (n := 4) (Nat.le_of_ble_eq_true rfl)
  rw [lg_entry_eq]
  generalize (lg_sl ([.ref (ad 0 0), .ref (ad 5 i1), .ref (ad 4 i2)]) ++ List.replicate (4 - (lg_sl ([.ref (ad 0 0), .ref (ad 5 i1), .ref (ad 4 i2)])).length) Slot.unset).toArray = ls at hl ⊢
  have hl : lv_has ls 4 [(0, .ref (ad 0 0)), (1, .ref (ad 5 i1)), (2, .ref (ad 4 i2))] := hl
  exact w_C_Court_statusIn_0 C h ⟨hw, fun k i hi => ⟨k, i, hi, rfl⟩, va_S.rf⟩ hl
theorem iC_Court_isCounting_X1 : ∀ w ∈ wsX10, w ∈ wsX8_isCounting := by decide +kernel
theorem iC_Court_isCounting_X8 : ∀ w ∈ wsX80, w ∈ wsX8_isCounting := by decide +kernel
def fC_Court_isCounting_50 (g : CS) (xs0 : Int32) : Option Int32 :=
  (mbo xs0).bind fun b1 => some b1
set_option maxRecDepth 20000 in
theorem w_C_Court_isCounting_50 (C : cC p s m args meth c cX8_isCounting RX8 (some .boolean) wsX8_isCounting 3 D yI yO) {rz : Int32} {g : CS} {xs0 : Int32} (h : fC_Court_isCounting_50 g xs0 = some rz) {H : Heap} {locs : List Loc} {ls : Array Slot} (hX : cX D yI yO z0 ad g A s H locs) (hl : lv_has ls 3 [(0, .ref (ad 0 0))]) : W p l e (mR 3 64) s m args below meth c H locs 0 0 (MQ below (cQ D yI yO z0 ad rz g A) args s 0 0 A) (F0 m 50 ls [.int xs0]) := by
  obtain ⟨hx, hb, hr, hts, hown, hlocks, hml, hK⟩ := id C
  unfold fC_Court_isCounting_50 at h
  obtain ⟨b1, eb1, h⟩ := mbind h
  cases h
  exact cg_retz hx hb hr hlocks hK hX dX8_isCounting_50 eb1
def fC_Court_isCounting_49 (g : CS) : Option Int32 :=
  fC_Court_isCounting_50 g 0
set_option maxRecDepth 20000 in
theorem w_C_Court_isCounting_49 (C : cC p s m args meth c cX8_isCounting RX8 (some .boolean) wsX8_isCounting 3 D yI yO) {rz : Int32} {g : CS} (h : fC_Court_isCounting_49 g = some rz) {H : Heap} {locs : List Loc} {ls : Array Slot} (hX : cX D yI yO z0 ad g A s H locs) (hl : lv_has ls 3 [(0, .ref (ad 0 0))]) : W p l e (mR 3 64) s m args below meth c H locs 0 0 (MQ below (cQ D yI yO z0 ad rz g A) args s 0 0 A) (F0 m 49 ls []) := by
  obtain ⟨hx, hb, hr, hts, hown, hlocks, hml, hK⟩ := id C
  unfold fC_Court_isCounting_49 at h
  refine lv_iconst (v := 0) hx hb dX8_isCounting_49 (by decide) ?_
  exact w_C_Court_isCounting_50 C h hX (lv_sub hl [0] rfl)
def fC_Court_isCounting (g : CS) (x1 : Int32) : Option Int32 :=
  if (x1 - x1 / 10 * 10) < 3 then
    fC_Court_isCounting_49 g
  else
    if (x1 / 10) < 0 then
      fC_Court_isCounting_49 g
    else
      if (nI (sN g 0)) ≤ (x1 / 10) then
        fC_Court_isCounting_49 g
      else
        (cget g 0 (x1 / 10)).bind fun v5 =>
        (ck g 4 v5).bind fun _ =>
        if (sI g 4 v5 1) = 0 then
          fC_Court_isCounting_49 g
        else
          fC_Court_isCounting_50 g 1
set_option maxRecDepth 20000 in
theorem w_C_Court_isCounting_0 (C : cC p s m args meth c cX8_isCounting RX8 (some .boolean) wsX8_isCounting 3 D yI yO) {rz : Int32} {g : CS} {x1 : Int32} (h : fC_Court_isCounting g x1 = some rz) {H : Heap} {locs : List Loc} {ls : Array Slot} (hX : cX D yI yO z0 ad g A s H locs) (hl : lv_has ls 3 [(0, .ref (ad 0 0)), (1, .int x1)]) : W p l e (mR 3 64) s m args below meth c H locs 0 0 (MQ below (cQ D yI yO z0 ad rz g A) args s 0 0 A) (F0 m 0 ls []) := by
  obtain ⟨hx, hb, hr, hts, hown, hlocks, hml, hK⟩ := id C
  unfold fC_Court_isCounting at h
  refine lv_iload_n hx hb dX8_isCounting_0 rfl (lv_at hl 1 rfl) ?_
  refine lv_bipush (v := 10) hx hb dX8_isCounting_1 (by decide) ?_
  refine lv_idiv hx hb dX8_isCounting_3 (by decide) ?_
  refine lv_istore_n (lv' := [(2, .int (x1 / 10)), (0, .ref (ad 0 0)), (1, .int x1)]) hx hb dX8_isCounting_4 rfl hl (by decide) rfl (fun ls hl => ?_)
  refine lv_iload_n hx hb dX8_isCounting_5 rfl (lv_at hl 2 rfl) ?_
  refine lv_bipush (v := 10) hx hb dX8_isCounting_6 (by decide) ?_
  refine lv_irem hx hb dX8_isCounting_8 (by decide) ?_
  refine lv_iconst (v := 3) hx hb dX8_isCounting_9 (by decide) ?_
  refine lv_icmp_lt (tgt := 49) hx hb dX8_isCounting_10 (by decide) (fun c2 => ?_) (fun c2 => ?_)
  · replace h := mpos c2 h
    exact w_C_Court_isCounting_49 C h hX (lv_sub hl [1] rfl)
  · replace h := mneg c2 h
    refine lv_iload_n hx hb dX8_isCounting_13 rfl (lv_at hl 0 rfl) ?_
    refine lv_if_lt (tgt := 49) hx hb dX8_isCounting_14 (by decide) (fun c3 => ?_) (fun c3 => ?_)
    · replace h := mpos c3 h
      exact w_C_Court_isCounting_49 C h hX (lv_sub hl [1] rfl)
    · replace h := mneg c3 h
      refine lv_iload_n hx hb dX8_isCounting_17 rfl (lv_at hl 0 rfl) ?_
      refine lv_aload_n hx hb dX8_isCounting_18 rfl (lv_at hl 1 rfl) ?_
      refine cg_get hx hb hts iC_Court_isCounting_X8 hown hK hX 0 0 rfl rfl rfl 0 (by decide) (hts (.fieldLink RX8 12 "PassageCourt" "lands" "Ljava/util/ArrayList;") (by decide +kernel)) (fun _ h9 => h9) rfl dX8_isCounting_19 ?_
      refine cg_callV (As := []) (rest := [.int (x1 / 10)]) ⟨hx, hb, hml, hown, hts⟩ 1 0 rfl (ci := 0) rfl rfl (cC_List_size l D yI yO z0 ad g 0 (by decide)) (cwV 0 hts gX8_isCounting_Jx4a65c_size_8abf5 rfl rfl rfl (by decide +kernel) ⟨Nat.le_of_ble_eq_true rfl, Nat.le_of_ble_eq_true rfl⟩) hK hX rfl hl.1 rfl (Nat.le_of_ble_eq_true rfl) dX8_isCounting_22 ⟨Nat.zero_le _, Nat.zero_le _⟩ (fun H locs hX => ?_)
      refine lv_icmp_ge (tgt := 49) hx hb dX8_isCounting_25 (by decide) (fun c4 => ?_) (fun c4 => ?_)
      · replace h := mpos c4 h
        exact w_C_Court_isCounting_49 C h hX (lv_sub hl [1] rfl)
      · replace h := mneg c4 h
        refine lv_aload_n hx hb dX8_isCounting_28 rfl (lv_at hl 1 rfl) ?_
        refine cg_get hx hb hts iC_Court_isCounting_X8 hown hK hX 0 0 rfl rfl rfl 0 (by decide) (hts (.fieldLink RX8 12 "PassageCourt" "lands" "Ljava/util/ArrayList;") (by decide +kernel)) (fun _ h9 => h9) rfl dX8_isCounting_29 ?_
        refine lv_iload_n hx hb dX8_isCounting_32 rfl (lv_at hl 0 rfl) ?_
        obtain ⟨v5, ev5, h⟩ := mbind h
        refine cg_callVq (As := [.int (x1 / 10)]) (rest := []) ⟨hx, hb, hml, hown, hts⟩ 1 0 rfl (ci := 0) rfl rfl (cC_List_get l D yI yO z0 ad (by decide) ev5) (cwV 1 hts gX8_isCounting_Jx4a65c_get_915e3 rfl rfl rfl (by decide +kernel) ⟨Nat.le_of_ble_eq_true rfl, Nat.le_of_ble_eq_true rfl⟩) hK hX rfl hl.1 rfl (Nat.le_of_ble_eq_true rfl) dX8_isCounting_33 ⟨Nat.zero_le _, Nat.zero_le _⟩ (fun H locs hX => ?_)
        refine W.eq (g2 := F0 m 36 ls [.ref (ad 4 v5)]) rfl ?_
        obtain ⟨_, hv6, h⟩ := mbind h
        replace hv6 := ck_spec hv6
        refine cg_cast hx hb hown (hts (.classLink RX8 57 "PassageCourt$Land") (by decide +kernel)) hK hX 4 v5 hv6 (ci := 2) rfl rfl dX8_isCounting_36 ?_
        refine cg_get hx hb hts iC_Court_isCounting_X1 hown hK hX 4 v5 hv6 rfl rfl 1 (by decide) (hts (.fieldLink RX8 165 "PassageCourt$Land" "isInRegion" "Z") (by decide +kernel)) (fun _ h9 => h9) rfl dX8_isCounting_39 ?_
        refine lv_if_eq (tgt := 49) hx hb dX8_isCounting_42 (by decide) (fun c7 => ?_) (fun c7 => ?_)
        · replace h := mpos c7 h
          exact w_C_Court_isCounting_49 C h hX (lv_sub hl [1] rfl)
        · replace h := mneg c7 h
          refine lv_iconst (v := 1) hx hb dX8_isCounting_45 (by decide) ?_
          refine lv_goto (tgt := 50) hx hb dX8_isCounting_46 (by decide) ?_
          exact w_C_Court_isCounting_50 C h hX (lv_sub hl [1] rfl)
set_option maxRecDepth 20000 in
theorem cC_Court_isCounting (l : Launch) (D : va_G) (yI yO : ClassId) (z0 : Nat) (ad : Nat → Nat → Nat) {g : CS} {rz : Int32} {x1 : Int32} (h : fC_Court_isCounting g x1 = some rz) : Met l yX8_isCounting wsX8_isCounting (mR 3 64) (va_Pc [.ref (ad 0 0), .int x1] (cPre D yI yO z0 ad g)) (cQ D yI yO z0 ad rz g (cF ad g)) 0 0 (cF ad g) := by
  refine Met.ofW (cc := cX8_isCounting) (maxL := 3) (ret := (some .boolean)) (by decide) rfl ?_
  intro p e s m args below meth c s₁ B hml hv
  obtain ⟨hv0, hw, hK⟩ := hv
  have hv1 : args = [.ref (ad 0 0), .int x1].toArray := hv0
  subst hv1
  have C : cC p s m _ meth c cX8_isCounting RX8 (some .boolean) wsX8_isCounting 3 D yI yO := ⟨B.exec, B.bytes, B.returns, atoms_spec (ws := wsX8_isCounting) B.pre, findClass_of_methodNamed B.named, B.notSynchronized, hml, hK⟩
  have hl := lv_entry ([.ref (ad 0 0), .int x1]) (n := 3) (Nat.le_of_ble_eq_true rfl)
  rw [lg_entry_eq]
  generalize (lg_sl ([.ref (ad 0 0), .int x1]) ++ List.replicate (3 - (lg_sl ([.ref (ad 0 0), .int x1])).length) Slot.unset).toArray = ls at hl ⊢
  have hl : lv_has ls 3 [(0, .ref (ad 0 0)), (1, .int x1)] := hl
  exact w_C_Court_isCounting_0 C h ⟨hw, fun k i hi => ⟨k, i, hi, rfl⟩, va_S.rf⟩ hl
theorem iC_Court_lookAt_X1 : ∀ w ∈ wsX10, w ∈ wsX8_lookAt := by decide +kernel
theorem iC_Court_lookAt_X3 : ∀ w ∈ wsX30, w ∈ wsX8_lookAt := by decide +kernel
theorem iC_Court_lookAt_X8 : ∀ w ∈ wsX80, w ∈ wsX8_lookAt := by decide +kernel
def fC_Court_lookAt_91 (g : CS) (i1 : Nat) (xs0 : Int32) : Option CS :=
  (ck g 5 i1).bind fun _ =>
  (fC_Row_at 10 i1 g ((sI g 0 0 6) - 1)).bind fun r2 =>
  (fC_Row_put 10 i1 g (sI g 0 0 6) (r2 + xs0)).bind fun g3 =>
  some g3
set_option maxRecDepth 20000 in
theorem w_C_Court_lookAt_91 (C : cC p s m args meth c cX8_lookAt RX8 none wsX8_lookAt 4 D yI yO) {gz : CS} {g : CS} {i1 : Nat} {xs0 : Int32} (h : fC_Court_lookAt_91 g i1 xs0 = some gz) {H : Heap} {locs : List Loc} {ls : Array Slot} (hX : cX D yI yO z0 ad g A s H locs) (hl : lv_has ls 4 [(0, .ref (ad 0 0)), (1, .ref (ad 5 i1))]) : W p l e (mR 6 134) s m args below meth c H locs 0 0 (MQ below (cQv D yI yO z0 ad gz A) args s 0 0 A) (F0 m 91 ls [.int xs0]) := by
  obtain ⟨hx, hb, hr, hts, hown, hlocks, hml, hK⟩ := id C
  unfold fC_Court_lookAt_91 at h
  refine lv_istore_n (lv' := [(3, .int xs0), (0, .ref (ad 0 0)), (1, .ref (ad 5 i1))]) hx hb dX8_lookAt_91 rfl hl (by decide) rfl (fun ls hl => ?_)
  refine lv_aload_n hx hb dX8_lookAt_92 rfl (lv_at hl 2 rfl) ?_
  obtain ⟨_, hv1, h⟩ := mbind h
  replace hv1 := ck_spec hv1
  refine cg_get hx hb hts iC_Court_lookAt_X3 hown hK hX 5 i1 hv1 rfl rfl 5 (by decide) (hts (.fieldLink RX8 307 "PassageCourt$Person" "counted" "LPassageCourt$Row;") (by decide +kernel)) (fun _ h9 => h9) rfl dX8_lookAt_93 ?_
  refine lv_aload_n hx hb dX8_lookAt_96 rfl (lv_at hl 1 rfl) ?_
  refine cg_get hx hb hts iC_Court_lookAt_X8 hown hK hX 0 0 rfl rfl rfl 6 (by decide) (hts (.fieldLink RX8 37 "PassageCourt" "today" "I") (by decide +kernel)) (fun _ h9 => h9) rfl dX8_lookAt_97 ?_
  refine lv_aload_n hx hb dX8_lookAt_100 rfl (lv_at hl 2 rfl) ?_
  refine cg_get hx hb hts iC_Court_lookAt_X3 hown hK hX 5 i1 hv1 rfl rfl 5 (by decide) (hts (.fieldLink RX8 307 "PassageCourt$Person" "counted" "LPassageCourt$Row;") (by decide +kernel)) (fun _ h9 => h9) rfl dX8_lookAt_101 ?_
  refine lv_aload_n hx hb dX8_lookAt_104 rfl (lv_at hl 1 rfl) ?_
  refine cg_get hx hb hts iC_Court_lookAt_X8 hown hK hX 0 0 rfl rfl rfl 6 (by decide) (hts (.fieldLink RX8 37 "PassageCourt" "today" "I") (by decide +kernel)) (fun _ h9 => h9) rfl dX8_lookAt_105 ?_
  refine lv_iconst (v := 1) hx hb dX8_lookAt_108 (by decide) ?_
  refine lv_isub hx hb dX8_lookAt_109 ?_
  obtain ⟨r2, er2, h⟩ := mbind h
  refine cg_callV (As := [.int ((sI g 0 0 6) - 1)]) (rest := [.int (sI g 0 0 6), .ref (ad 10 i1)]) ⟨hx, hb, hml, hown, hts⟩ 10 i1 hv1 (ci := 6) rfl rfl (cC_Row_at l D yI yO z0 ad ⟨by decide, by decide⟩ er2) (cwV 1 hts gX8_lookAt_X5_at rfl rfl rfl (by decide +kernel) ⟨Nat.le_of_ble_eq_true rfl, Nat.le_of_ble_eq_true rfl⟩) hK hX rfl hl.1 rfl (Nat.le_of_ble_eq_true rfl) dX8_lookAt_110 ⟨Nat.zero_le _, Nat.zero_le _⟩ (fun H locs hX => ?_)
  refine lv_iload_n hx hb dX8_lookAt_113 rfl (lv_at hl 0 rfl) ?_
  refine lv_iadd hx hb dX8_lookAt_114 ?_
  obtain ⟨g3, eg3, h⟩ := mbind h
  refine cg_callVv (As := [.int (sI g 0 0 6), .int (r2 + xs0)]) (rest := []) ⟨hx, hb, hml, hown, hts⟩ 10 i1 hv1 (ci := 6) rfl rfl (cC_Row_put l D yI yO z0 ad ⟨by decide, by decide⟩ eg3) (cwV 2 hts gX8_lookAt_X5_put rfl rfl rfl (by decide +kernel) ⟨Nat.le_of_ble_eq_true rfl, Nat.le_of_ble_eq_true rfl⟩) hK hX rfl hl.1 rfl (Nat.le_of_ble_eq_true rfl) dX8_lookAt_115 ⟨Nat.zero_le _, Nat.zero_le _⟩ (fun H locs hX => ?_)
  cases h
  exact cg_retv hx hb hr hlocks hK hX dX8_lookAt_118
def fC_Court_lookAt_68 (g : CS) (i1 : Nat) : Option CS :=
  (ck g 5 i1).bind fun _ =>
  (fC_Row_at 9 i1 g (sI g 0 0 6)).bind fun r5 =>
  (fC_Court_isCounting g r5).bind fun r6 =>
  if r6 = 0 then
    fC_Court_lookAt_91 g i1 0
  else
    fC_Court_lookAt_91 g i1 1
set_option maxRecDepth 20000 in
theorem w_C_Court_lookAt_68 (C : cC p s m args meth c cX8_lookAt RX8 none wsX8_lookAt 4 D yI yO) {gz : CS} {g : CS} {i1 : Nat} (h : fC_Court_lookAt_68 g i1 = some gz) {H : Heap} {locs : List Loc} {ls : Array Slot} (hX : cX D yI yO z0 ad g A s H locs) (hl : lv_has ls 4 [(0, .ref (ad 0 0)), (1, .ref (ad 5 i1))]) : W p l e (mR 6 134) s m args below meth c H locs 0 0 (MQ below (cQv D yI yO z0 ad gz A) args s 0 0 A) (F0 m 68 ls []) := by
  obtain ⟨hx, hb, hr, hts, hown, hlocks, hml, hK⟩ := id C
  unfold fC_Court_lookAt_68 at h
  refine lv_aload_n hx hb dX8_lookAt_68 rfl (lv_at hl 0 rfl) ?_
  refine lv_aload_n hx hb dX8_lookAt_69 rfl (lv_at hl 1 rfl) ?_
  obtain ⟨_, hv4, h⟩ := mbind h
  replace hv4 := ck_spec hv4
  refine cg_get hx hb hts iC_Court_lookAt_X3 hown hK hX 5 i1 hv4 rfl rfl 4 (by decide) (hts (.fieldLink RX8 322 "PassageCourt$Person" "days" "LPassageCourt$Row;") (by decide +kernel)) (fun _ h9 => h9) rfl dX8_lookAt_70 ?_
  refine lv_aload_n hx hb dX8_lookAt_73 rfl (lv_at hl 0 rfl) ?_
  refine cg_get hx hb hts iC_Court_lookAt_X8 hown hK hX 0 0 rfl rfl rfl 6 (by decide) (hts (.fieldLink RX8 37 "PassageCourt" "today" "I") (by decide +kernel)) (fun _ h9 => h9) rfl dX8_lookAt_74 ?_
  obtain ⟨r5, er5, h⟩ := mbind h
  refine cg_callV (As := [.int (sI g 0 0 6)]) (rest := [.ref (ad 0 0)]) ⟨hx, hb, hml, hown, hts⟩ 9 i1 hv4 (ci := 6) rfl rfl (cC_Row_at l D yI yO z0 ad ⟨by decide, by decide⟩ er5) (cwV 1 hts gX8_lookAt_X5_at rfl rfl rfl (by decide +kernel) ⟨Nat.le_of_ble_eq_true rfl, Nat.le_of_ble_eq_true rfl⟩) hK hX rfl hl.1 rfl (Nat.le_of_ble_eq_true rfl) dX8_lookAt_77 ⟨Nat.zero_le _, Nat.zero_le _⟩ (fun H locs hX => ?_)
  obtain ⟨r6, er6, h⟩ := mbind h
  refine cg_callV (As := [.int r5]) (rest := []) ⟨hx, hb, hml, hown, hts⟩ 0 0 rfl (ci := 9) rfl rfl (cC_Court_isCounting l D yI yO z0 ad er6) (cwV 1 hts gX8_lookAt_X8_isCounting rfl rfl rfl (by decide +kernel) ⟨Nat.le_of_ble_eq_true rfl, Nat.le_of_ble_eq_true rfl⟩) hK hX rfl hl.1 rfl (Nat.le_of_ble_eq_true rfl) dX8_lookAt_80 ⟨Nat.zero_le _, Nat.zero_le _⟩ (fun H locs hX => ?_)
  refine lv_if_eq (tgt := 90) hx hb dX8_lookAt_83 (by decide) (fun c7 => ?_) (fun c7 => ?_)
  · replace h := mpos c7 h
    refine lv_iconst (v := 0) hx hb dX8_lookAt_90 (by decide) ?_
    exact w_C_Court_lookAt_91 C h hX (lv_sub hl [0, 1] rfl)
  · replace h := mneg c7 h
    refine lv_iconst (v := 1) hx hb dX8_lookAt_86 (by decide) ?_
    refine lv_goto (tgt := 91) hx hb dX8_lookAt_87 (by decide) ?_
    exact w_C_Court_lookAt_91 C h hX (lv_sub hl [0, 1] rfl)
def fC_Court_lookAt_48 (g : CS) (i1 : Nat) (o2 : Option Nat) (x3 : Int32) : Option CS :=
  (ck g 5 i1).bind fun _ =>
  om o2 (
    none)
    fun v9 =>
    (ck g 4 v9).bind fun _ =>
    (fC_Row_put 9 i1 g (sI g 0 0 6) ((10 * (sI g 4 v9 0)) + x3)).bind fun g11 =>
    fC_Court_lookAt_68 g11 i1
set_option maxRecDepth 20000 in
theorem w_C_Court_lookAt_48 (C : cC p s m args meth c cX8_lookAt RX8 none wsX8_lookAt 4 D yI yO) {gz : CS} {g : CS} {i1 : Nat} {o2 : Option Nat} {x3 : Int32} (h : fC_Court_lookAt_48 g i1 o2 x3 = some gz) {H : Heap} {locs : List Loc} {ls : Array Slot} (hX : cX D yI yO z0 ad g A s H locs) (hl : lv_has ls 4 [(0, .ref (ad 0 0)), (1, .ref (ad 5 i1)), (2, va_rf (o2.map (ad 4))), (3, .int x3)]) : W p l e (mR 6 134) s m args below meth c H locs 0 0 (MQ below (cQv D yI yO z0 ad gz A) args s 0 0 A) (F0 m 48 ls []) := by
  obtain ⟨hx, hb, hr, hts, hown, hlocks, hml, hK⟩ := id C
  unfold fC_Court_lookAt_48 at h
  refine lv_aload_n hx hb dX8_lookAt_48 rfl (lv_at hl 1 rfl) ?_
  obtain ⟨_, hv8, h⟩ := mbind h
  replace hv8 := ck_spec hv8
  refine cg_get hx hb hts iC_Court_lookAt_X3 hown hK hX 5 i1 hv8 rfl rfl 4 (by decide) (hts (.fieldLink RX8 322 "PassageCourt$Person" "days" "LPassageCourt$Row;") (by decide +kernel)) (fun _ h9 => h9) rfl dX8_lookAt_49 ?_
  refine lv_aload_n hx hb dX8_lookAt_52 rfl (lv_at hl 0 rfl) ?_
  refine cg_get hx hb hts iC_Court_lookAt_X8 hown hK hX 0 0 rfl rfl rfl 6 (by decide) (hts (.fieldLink RX8 37 "PassageCourt" "today" "I") (by decide +kernel)) (fun _ h9 => h9) rfl dX8_lookAt_53 ?_
  refine lv_bipush (v := 10) hx hb dX8_lookAt_56 (by decide) ?_
  rcases o2 with _ | v9
  · replace h := om_n rfl h
    refine lv_aload_nN hx hb dX8_lookAt_58 rfl (lv_at hl 2 rfl) ?_
    cases h
  · replace h := om_s rfl h
    refine lv_aload_n hx hb dX8_lookAt_58 rfl (lv_at hl 2 rfl) ?_
    obtain ⟨_, hv10, h⟩ := mbind h
    replace hv10 := ck_spec hv10
    refine cg_get hx hb hts iC_Court_lookAt_X1 hown hK hX 4 v9 hv10 rfl rfl 0 (by decide) (hts (.fieldLink RX8 66 "PassageCourt$Land" "number" "I") (by decide +kernel)) (fun _ h9 => h9) rfl dX8_lookAt_59 ?_
    refine lv_imul hx hb dX8_lookAt_62 ?_
    refine lv_iload_n hx hb dX8_lookAt_63 rfl (lv_at hl 3 rfl) ?_
    refine lv_iadd hx hb dX8_lookAt_64 ?_
    obtain ⟨g11, eg11, h⟩ := mbind h
    refine cg_callVv (As := [.int (sI g 0 0 6), .int ((10 * (sI g 4 v9 0)) + x3)]) (rest := []) ⟨hx, hb, hml, hown, hts⟩ 9 i1 hv8 (ci := 6) rfl rfl (cC_Row_put l D yI yO z0 ad ⟨by decide, by decide⟩ eg11) (cwV 2 hts gX8_lookAt_X5_put rfl rfl rfl (by decide +kernel) ⟨Nat.le_of_ble_eq_true rfl, Nat.le_of_ble_eq_true rfl⟩) hK hX rfl hl.1 rfl (Nat.le_of_ble_eq_true rfl) dX8_lookAt_65 ⟨Nat.zero_le _, Nat.zero_le _⟩ (fun H locs hX => ?_)
    exact w_C_Court_lookAt_68 C h hX (lv_sub hl [0, 1] rfl)
def fC_Court_lookAt (g : CS) (i1 : Nat) : Option CS :=
  (ck g 5 i1).bind fun _ =>
  om (sJ g 5 i1 9) (
    fC_Court_lookAt_68 g i1)
    fun v14 =>
    (fC_Court_statusIn g i1 v14).bind fun r15 =>
    if r15 = 3 then
      om (sJ g 5 i1 10) (
        fC_Court_lookAt_48 g i1 (some v14) r15)
        fun v18 =>
        (fC_Court_isFreeOfVisas g i1 v14).bind fun r19 =>
        if r19 = 0 then
          om (sJ g 5 i1 10) (
            none)
            fun v22 =>
            (ck g 6 v22).bind fun _ =>
            (fC_Visa_takeDay v22 g (sI g 0 0 6)).bind fun g24 =>
            fC_Court_lookAt_48 g24 i1 (some v14) r15
        else
          fC_Court_lookAt_48 g i1 (some v14) r15
    else
      fC_Court_lookAt_48 g i1 (some v14) r15
set_option maxRecDepth 20000 in
theorem w_C_Court_lookAt_0 (C : cC p s m args meth c cX8_lookAt RX8 none wsX8_lookAt 4 D yI yO) {gz : CS} {g : CS} {i1 : Nat} (h : fC_Court_lookAt g i1 = some gz) {H : Heap} {locs : List Loc} {ls : Array Slot} (hX : cX D yI yO z0 ad g A s H locs) (hl : lv_has ls 4 [(0, .ref (ad 0 0)), (1, .ref (ad 5 i1))]) : W p l e (mR 6 134) s m args below meth c H locs 0 0 (MQ below (cQv D yI yO z0 ad gz A) args s 0 0 A) (F0 m 0 ls []) := by
  obtain ⟨hx, hb, hr, hts, hown, hlocks, hml, hK⟩ := id C
  unfold fC_Court_lookAt at h
  refine lv_aload_n hx hb dX8_lookAt_0 rfl (lv_at hl 1 rfl) ?_
  obtain ⟨_, hv12, h⟩ := mbind h
  replace hv12 := ck_spec hv12
  rcases ho13 : sJ g 5 i1 9 with _ | v14
  · replace h := om_n ho13 h
    refine cg_get hx hb hts iC_Court_lookAt_X3 hown hK hX 5 i1 hv12 rfl rfl 9 (by decide) (hts (.fieldLink RX8 110 "PassageCourt$Person" "there" "LPassageCourt$Land;") (by decide +kernel)) (fun _ h9 => h9) (v := .null) (by rw [ho13]; rfl) dX8_lookAt_1 ?_
    refine lv_astore_nN (lv' := [(2, .null), (0, .ref (ad 0 0)), (1, .ref (ad 5 i1))]) hx hb dX8_lookAt_4 rfl hl (by decide) rfl (fun ls hl => ?_)
    refine lv_aload_nN hx hb dX8_lookAt_5 rfl (lv_at hl 0 rfl) ?_
    refine lv_ifnullN (tgt := 68) hx hb dX8_lookAt_6 (by decide) ?_
    exact w_C_Court_lookAt_68 C h hX (lv_sub hl [1, 2] rfl)
  · replace h := om_s ho13 h
    refine cg_get hx hb hts iC_Court_lookAt_X3 hown hK hX 5 i1 hv12 rfl rfl 9 (by decide) (hts (.fieldLink RX8 110 "PassageCourt$Person" "there" "LPassageCourt$Land;") (by decide +kernel)) (fun _ h9 => h9) (v := .ref (ad 4 v14)) (by rw [ho13]; rfl) dX8_lookAt_1 ?_
    refine lv_astore_n (lv' := [(2, .ref (ad 4 v14)), (0, .ref (ad 0 0)), (1, .ref (ad 5 i1))]) hx hb dX8_lookAt_4 rfl hl (by decide) rfl (fun ls hl => ?_)
    refine lv_aload_n hx hb dX8_lookAt_5 rfl (lv_at hl 0 rfl) ?_
    refine lv_ifnull hx hb dX8_lookAt_6 ?_
    refine lv_aload_n hx hb dX8_lookAt_9 rfl (lv_at hl 1 rfl) ?_
    refine lv_aload_n hx hb dX8_lookAt_10 rfl (lv_at hl 2 rfl) ?_
    refine lv_aload_n hx hb dX8_lookAt_11 rfl (lv_at hl 0 rfl) ?_
    obtain ⟨r15, er15, h⟩ := mbind h
    refine cg_callV (As := [.ref (ad 5 i1), .ref (ad 4 v14)]) (rest := []) ⟨hx, hb, hml, hown, hts⟩ 0 0 rfl (ci := 9) rfl rfl (cC_Court_statusIn l D yI yO z0 ad er15) (cwV 2 hts gX8_lookAt_X8_statusIn rfl rfl rfl (by decide +kernel) ⟨Nat.le_of_ble_eq_true rfl, Nat.le_of_ble_eq_true rfl⟩) hK hX rfl hl.1 rfl (Nat.le_of_ble_eq_true rfl) dX8_lookAt_12 ⟨Nat.zero_le _, Nat.zero_le _⟩ (fun H locs hX => ?_)
    refine lv_istore_n (lv' := [(3, .int r15), (2, .ref (ad 4 v14)), (0, .ref (ad 0 0)), (1, .ref (ad 5 i1))]) hx hb dX8_lookAt_15 rfl hl (by decide) rfl (fun ls hl => ?_)
    refine lv_iload_n hx hb dX8_lookAt_16 rfl (lv_at hl 0 rfl) ?_
    refine lv_iconst (v := 3) hx hb dX8_lookAt_17 (by decide) ?_
    refine lv_icmp_ne (tgt := 48) hx hb dX8_lookAt_18 (by decide) (fun c16 => ?_) (fun c16 => ?_)
    · replace h := mneg c16 h
      exact w_C_Court_lookAt_48 C h hX (lv_sub hl [2, 3, 1, 0] rfl)
    · replace h := mpos c16 h
      refine lv_aload_n hx hb dX8_lookAt_21 rfl (lv_at hl 3 rfl) ?_
      rcases ho17 : sJ g 5 i1 10 with _ | v18
      · replace h := om_n ho17 h
        refine cg_get hx hb hts iC_Court_lookAt_X3 hown hK hX 5 i1 hv12 rfl rfl 10 (by decide) (hts (.fieldLink RX8 185 "PassageCourt$Person" "visa" "LPassageCourt$Visa;") (by decide +kernel)) (fun _ h9 => h9) (v := .null) (by rw [ho17]; rfl) dX8_lookAt_22 ?_
        refine lv_ifnullN (tgt := 48) hx hb dX8_lookAt_25 (by decide) ?_
        exact w_C_Court_lookAt_48 C h hX (lv_sub hl [2, 3, 1, 0] rfl)
      · replace h := om_s ho17 h
        refine cg_get hx hb hts iC_Court_lookAt_X3 hown hK hX 5 i1 hv12 rfl rfl 10 (by decide) (hts (.fieldLink RX8 185 "PassageCourt$Person" "visa" "LPassageCourt$Visa;") (by decide +kernel)) (fun _ h9 => h9) (v := .ref (ad 6 v18)) (by rw [ho17]; rfl) dX8_lookAt_22 ?_
        refine lv_ifnull hx hb dX8_lookAt_25 ?_
        refine lv_aload_n hx hb dX8_lookAt_28 rfl (lv_at hl 2 rfl) ?_
        refine lv_aload_n hx hb dX8_lookAt_29 rfl (lv_at hl 3 rfl) ?_
        refine lv_aload_n hx hb dX8_lookAt_30 rfl (lv_at hl 1 rfl) ?_
        obtain ⟨r19, er19, h⟩ := mbind h
        refine cg_callV (As := [.ref (ad 5 i1), .ref (ad 4 v14)]) (rest := []) ⟨hx, hb, hml, hown, hts⟩ 0 0 rfl (ci := 9) rfl rfl (cC_Court_isFreeOfVisas l D yI yO z0 ad er19) (cwV 2 hts gX8_lookAt_X8_isFreeOfVisas rfl rfl rfl (by decide +kernel) ⟨Nat.le_of_ble_eq_true rfl, Nat.le_of_ble_eq_true rfl⟩) hK hX rfl hl.1 rfl (Nat.le_of_ble_eq_true rfl) dX8_lookAt_31 ⟨Nat.zero_le _, Nat.zero_le _⟩ (fun H locs hX => ?_)
        refine lv_if_ne (tgt := 48) hx hb dX8_lookAt_34 (by decide) (fun c20 => ?_) (fun c20 => ?_)
        · replace h := mneg c20 h
          exact w_C_Court_lookAt_48 C h hX (lv_sub hl [2, 3, 1, 0] rfl)
        · replace h := mpos c20 h
          refine lv_aload_n hx hb dX8_lookAt_37 rfl (lv_at hl 3 rfl) ?_
          rcases ho21 : sJ g 5 i1 10 with _ | v22
          · replace h := om_n ho21 h
            refine cg_get hx hb hts iC_Court_lookAt_X3 hown hK hX 5 i1 hv12 rfl rfl 10 (by decide) (hts (.fieldLink RX8 185 "PassageCourt$Person" "visa" "LPassageCourt$Visa;") (by decide +kernel)) (fun _ h9 => h9) (v := .null) (by rw [ho21]; rfl) dX8_lookAt_38 ?_
            refine lv_aload_n hx hb dX8_lookAt_41 rfl (lv_at hl 2 rfl) ?_
            refine cg_get hx hb hts iC_Court_lookAt_X8 hown hK hX 0 0 rfl rfl rfl 6 (by decide) (hts (.fieldLink RX8 37 "PassageCourt" "today" "I") (by decide +kernel)) (fun _ h9 => h9) rfl dX8_lookAt_42 ?_
            cases h
          · replace h := om_s ho21 h
            refine cg_get hx hb hts iC_Court_lookAt_X3 hown hK hX 5 i1 hv12 rfl rfl 10 (by decide) (hts (.fieldLink RX8 185 "PassageCourt$Person" "visa" "LPassageCourt$Visa;") (by decide +kernel)) (fun _ h9 => h9) (v := .ref (ad 6 v22)) (by rw [ho21]; rfl) dX8_lookAt_38 ?_
            refine lv_aload_n hx hb dX8_lookAt_41 rfl (lv_at hl 2 rfl) ?_
            refine cg_get hx hb hts iC_Court_lookAt_X8 hown hK hX 0 0 rfl rfl rfl 6 (by decide) (hts (.fieldLink RX8 37 "PassageCourt" "today" "I") (by decide +kernel)) (fun _ h9 => h9) rfl dX8_lookAt_42 ?_
            obtain ⟨_, hv23, h⟩ := mbind h
            replace hv23 := ck_spec hv23
            obtain ⟨g24, eg24, h⟩ := mbind h
            refine cg_callVv (As := [.int (sI g 0 0 6)]) (rest := []) ⟨hx, hb, hml, hown, hts⟩ 6 v22 hv23 (ci := 8) rfl rfl (cC_Visa_takeDay l D yI yO z0 ad eg24) (cwV 1 hts gX8_lookAt_X7_takeDay rfl rfl rfl (by decide +kernel) ⟨Nat.le_of_ble_eq_true rfl, Nat.le_of_ble_eq_true rfl⟩) hK hX rfl hl.1 rfl (Nat.le_of_ble_eq_true rfl) dX8_lookAt_45 ⟨Nat.zero_le _, Nat.zero_le _⟩ (fun H locs hX => ?_)
            exact w_C_Court_lookAt_48 C h hX (lv_sub hl [2, 3, 1, 0] rfl)
set_option maxRecDepth 20000 in
theorem cC_Court_lookAt (l : Launch) (D : va_G) (yI yO : ClassId) (z0 : Nat) (ad : Nat → Nat → Nat) {g : CS} {gz : CS} {i1 : Nat} (h : fC_Court_lookAt g i1 = some gz) : Met l yX8_lookAt wsX8_lookAt (mR 6 134) (va_Pc [.ref (ad 0 0), .ref (ad 5 i1)] (cPre D yI yO z0 ad g)) (cQv D yI yO z0 ad gz (cF ad g)) 0 0 (cF ad g) := by
  refine Met.ofW (cc := cX8_lookAt) (maxL := 4) (ret := none) (by decide) rfl ?_
  intro p e s m args below meth c s₁ B hml hv
  obtain ⟨hv0, hw, hK⟩ := hv
  have hv1 : args = [.ref (ad 0 0), .ref (ad 5 i1)].toArray := hv0
  subst hv1
  have C : cC p s m _ meth c cX8_lookAt RX8 none wsX8_lookAt 4 D yI yO := ⟨B.exec, B.bytes, B.returns, atoms_spec (ws := wsX8_lookAt) B.pre, findClass_of_methodNamed B.named, B.notSynchronized, hml, hK⟩
  have hl := lv_entry ([.ref (ad 0 0), .ref (ad 5 i1)]) (n := 4) (Nat.le_of_ble_eq_true rfl)
  rw [lg_entry_eq]
  generalize (lg_sl ([.ref (ad 0 0), .ref (ad 5 i1)]) ++ List.replicate (4 - (lg_sl ([.ref (ad 0 0), .ref (ad 5 i1)])).length) Slot.unset).toArray = ls at hl ⊢
  have hl : lv_has ls 4 [(0, .ref (ad 0 0)), (1, .ref (ad 5 i1))] := hl
  exact w_C_Court_lookAt_0 C h ⟨hw, fun k i hi => ⟨k, i, hi, rfl⟩, va_S.rf⟩ hl
theorem iC_Court_arrive_X3 : ∀ w ∈ wsX30, w ∈ wsX8_arrive := by decide +kernel
theorem iC_Court_arrive_X8 : ∀ w ∈ wsX80, w ∈ wsX8_arrive := by decide +kernel
def fC_Court_arrive (g : CS) (i1 : Nat) (i2 : Nat) (o3 : Option Nat) (x4 : Int32) : Option CS :=
  (ck g 5 i1).bind fun _ =>
  (some (uJ g 5 i1 9 (some i2))).bind fun g2 =>
  om o3 (
    (some (uJ g2 5 i1 10 none)).bind fun g5 =>
    (mbo x4).bind fun b8 =>
    (some (uI g5 5 i1 11 b8)).bind fun g7 =>
    (some (uI g7 5 i1 12 (sI g7 0 0 6))).bind fun g10 =>
    (fC_Court_lookAt g10 i1).bind fun g12 =>
    some g12)
    fun v4 =>
    (some (uJ g2 5 i1 10 (some v4))).bind fun g13 =>
    (mbo x4).bind fun b16 =>
    (some (uI g13 5 i1 11 b16)).bind fun g15 =>
    (some (uI g15 5 i1 12 (sI g15 0 0 6))).bind fun g18 =>
    (fC_Court_lookAt g18 i1).bind fun g20 =>
    some g20
set_option maxRecDepth 20000 in
theorem w_C_Court_arrive_0 (C : cC p s m args meth c cX8_arrive RX8 none wsX8_arrive 5 D yI yO) {gz : CS} {g : CS} {i1 : Nat} {i2 : Nat} {o3 : Option Nat} {x4 : Int32} (h : fC_Court_arrive g i1 i2 o3 x4 = some gz) {H : Heap} {locs : List Loc} {ls : Array Slot} (hX : cX D yI yO z0 ad g A s H locs) (hl : lv_has ls 5 [(0, .ref (ad 0 0)), (1, .ref (ad 5 i1)), (2, .ref (ad 4 i2)), (3, va_rf (o3.map (ad 6))), (4, .int x4)]) : W p l e (mR 7 157) s m args below meth c H locs 0 0 (MQ below (cQv D yI yO z0 ad gz A) args s 0 0 A) (F0 m 0 ls []) := by
  obtain ⟨hx, hb, hr, hts, hown, hlocks, hml, hK⟩ := id C
  unfold fC_Court_arrive at h
  refine lv_aload_n hx hb dX8_arrive_0 rfl (lv_at hl 1 rfl) ?_
  refine lv_aload_n hx hb dX8_arrive_1 rfl (lv_at hl 2 rfl) ?_
  obtain ⟨_, hv1, h⟩ := mbind h
  replace hv1 := ck_spec hv1
  obtain ⟨g2, eg2, h⟩ := mbind h
  refine cg_put hx hb hts iC_Court_arrive_X3 tyX3 tyX3_ok nmX3 hown hK hX 5 i1 hv1 rfl rfl 9 (by decide) (hts (.fieldLink RX8 110 "PassageCourt$Person" "there" "LPassageCourt$Land;") (by decide +kernel)) (fun _ h9 => h9) rfl (by decide +kernel) rfl rfl (ty := .object "PassageCourt$Land") (g1 := (uJ g 5 i1 9 (some i2))) (Nat.le_of_ble_eq_true rfl) (by unfold cent; rw [sJ_up]; rfl) (fun _ _ => rfl) rfl (fun _ _ hab => cent_uJ yI yO ad _ _ _ hab) dX8_arrive_2 (fun H locs hX => ?_)
  have eg2 := Option.some.inj eg2
  rw [eg2] at hX
  have hv3 : clvb g2 5 i1 = true := by rw [← eg2]; exact hv1
  refine lv_aload_n hx hb dX8_arrive_5 rfl (lv_at hl 1 rfl) ?_
  rcases o3 with _ | v4
  · replace h := om_n rfl h
    refine lv_aload_nN hx hb dX8_arrive_6 rfl (lv_at hl 3 rfl) ?_
    obtain ⟨g5, eg5, h⟩ := mbind h
    refine cg_put hx hb hts iC_Court_arrive_X3 tyX3 tyX3_ok nmX3 hown hK hX 5 i1 hv3 rfl rfl 10 (by decide) (hts (.fieldLink RX8 185 "PassageCourt$Person" "visa" "LPassageCourt$Visa;") (by decide +kernel)) (fun _ h9 => h9) rfl (by decide +kernel) rfl rfl (ty := .object "PassageCourt$Visa") (g1 := (uJ g2 5 i1 10 none)) (Nat.le_of_ble_eq_true rfl) (by unfold cent; rw [sJ_up]; rfl) (fun _ _ => rfl) rfl (fun _ _ hab => cent_uJ yI yO ad _ _ _ hab) dX8_arrive_7 (fun H locs hX => ?_)
    have eg5 := Option.some.inj eg5
    rw [eg5] at hX
    have hv6 : clvb g5 5 i1 = true := by rw [← eg5]; exact hv3
    refine lv_aload_n hx hb dX8_arrive_10 rfl (lv_at hl 1 rfl) ?_
    refine lv_iload hx hb dX8_arrive_11 (lv_at hl 4 rfl) ?_
    obtain ⟨b8, eb8, h⟩ := mbind h
    obtain ⟨eb8, qb8⟩ := mbo_spec eb8
    rw [qb8] at h
    obtain ⟨g7, eg7, h⟩ := mbind h
    refine cg_put hx hb hts iC_Court_arrive_X3 tyX3 tyX3_ok nmX3 hown hK hX 5 i1 hv6 rfl rfl 11 (by decide) (hts (.fieldLink RX8 377 "PassageCourt$Person" "hasSlipped" "Z") (by decide +kernel)) (fun _ h9 => h9) rfl (by decide +kernel) (by rcases eb8 with e9 | e9 <;> rw [e9] <;> rfl) (by rcases eb8 with e9 | e9 <;> rw [e9] <;> rfl) (ty := .boolean) (g1 := (uI g5 5 i1 11 x4)) (Nat.le_of_ble_eq_true rfl) (by unfold cent; rw [sI_up]; rfl) (fun _ _ => rfl) rfl (fun _ _ hab => cent_uI yI yO ad _ _ _ hab) dX8_arrive_13 (fun H locs hX => ?_)
    have eg7 := Option.some.inj eg7
    rw [eg7] at hX
    have hv9 : clvb g7 5 i1 = true := by rw [← eg7]; exact hv6
    refine lv_aload_n hx hb dX8_arrive_16 rfl (lv_at hl 1 rfl) ?_
    refine lv_aload_n hx hb dX8_arrive_17 rfl (lv_at hl 0 rfl) ?_
    refine cg_get hx hb hts iC_Court_arrive_X8 hown hK hX 0 0 rfl rfl rfl 6 (by decide) (hts (.fieldLink RX8 37 "PassageCourt" "today" "I") (by decide +kernel)) (fun _ h9 => h9) rfl dX8_arrive_18 ?_
    obtain ⟨g10, eg10, h⟩ := mbind h
    refine cg_put hx hb hts iC_Court_arrive_X3 tyX3 tyX3_ok nmX3 hown hK hX 5 i1 hv9 rfl rfl 12 (by decide) (hts (.fieldLink RX8 374 "PassageCourt$Person" "stayFrom" "I") (by decide +kernel)) (fun _ h9 => h9) rfl (by decide +kernel) rfl rfl (ty := .int) (g1 := (uI g7 5 i1 12 (sI g7 0 0 6))) (Nat.le_of_ble_eq_true rfl) (by unfold cent; rw [sI_up]; rfl) (fun _ _ => rfl) rfl (fun _ _ hab => cent_uI yI yO ad _ _ _ hab) dX8_arrive_21 (fun H locs hX => ?_)
    have eg10 := Option.some.inj eg10
    rw [eg10] at hX
    have hv11 : clvb g10 5 i1 = true := by rw [← eg10]; exact hv9
    refine lv_aload_n hx hb dX8_arrive_24 rfl (lv_at hl 0 rfl) ?_
    refine lv_aload_n hx hb dX8_arrive_25 rfl (lv_at hl 1 rfl) ?_
    obtain ⟨g12, eg12, h⟩ := mbind h
    refine cg_callVv (As := [.ref (ad 5 i1)]) (rest := []) ⟨hx, hb, hml, hown, hts⟩ 0 0 rfl (ci := 9) rfl rfl (cC_Court_lookAt l D yI yO z0 ad eg12) (cwV 1 hts gX8_arrive_X8_lookAt rfl rfl rfl (by decide +kernel) ⟨Nat.le_of_ble_eq_true rfl, Nat.le_of_ble_eq_true rfl⟩) hK hX rfl hl.1 rfl (Nat.le_of_ble_eq_true rfl) dX8_arrive_26 ⟨Nat.zero_le _, Nat.zero_le _⟩ (fun H locs hX => ?_)
    cases h
    exact cg_retv hx hb hr hlocks hK hX dX8_arrive_29
  · replace h := om_s rfl h
    refine lv_aload_n hx hb dX8_arrive_6 rfl (lv_at hl 3 rfl) ?_
    obtain ⟨g13, eg13, h⟩ := mbind h
    refine cg_put hx hb hts iC_Court_arrive_X3 tyX3 tyX3_ok nmX3 hown hK hX 5 i1 hv3 rfl rfl 10 (by decide) (hts (.fieldLink RX8 185 "PassageCourt$Person" "visa" "LPassageCourt$Visa;") (by decide +kernel)) (fun _ h9 => h9) rfl (by decide +kernel) rfl rfl (ty := .object "PassageCourt$Visa") (g1 := (uJ g2 5 i1 10 (some v4))) (Nat.le_of_ble_eq_true rfl) (by unfold cent; rw [sJ_up]; rfl) (fun _ _ => rfl) rfl (fun _ _ hab => cent_uJ yI yO ad _ _ _ hab) dX8_arrive_7 (fun H locs hX => ?_)
    have eg13 := Option.some.inj eg13
    rw [eg13] at hX
    have hv14 : clvb g13 5 i1 = true := by rw [← eg13]; exact hv3
    refine lv_aload_n hx hb dX8_arrive_10 rfl (lv_at hl 1 rfl) ?_
    refine lv_iload hx hb dX8_arrive_11 (lv_at hl 4 rfl) ?_
    obtain ⟨b16, eb16, h⟩ := mbind h
    obtain ⟨eb16, qb16⟩ := mbo_spec eb16
    rw [qb16] at h
    obtain ⟨g15, eg15, h⟩ := mbind h
    refine cg_put hx hb hts iC_Court_arrive_X3 tyX3 tyX3_ok nmX3 hown hK hX 5 i1 hv14 rfl rfl 11 (by decide) (hts (.fieldLink RX8 377 "PassageCourt$Person" "hasSlipped" "Z") (by decide +kernel)) (fun _ h9 => h9) rfl (by decide +kernel) (by rcases eb16 with e9 | e9 <;> rw [e9] <;> rfl) (by rcases eb16 with e9 | e9 <;> rw [e9] <;> rfl) (ty := .boolean) (g1 := (uI g13 5 i1 11 x4)) (Nat.le_of_ble_eq_true rfl) (by unfold cent; rw [sI_up]; rfl) (fun _ _ => rfl) rfl (fun _ _ hab => cent_uI yI yO ad _ _ _ hab) dX8_arrive_13 (fun H locs hX => ?_)
    have eg15 := Option.some.inj eg15
    rw [eg15] at hX
    have hv17 : clvb g15 5 i1 = true := by rw [← eg15]; exact hv14
    refine lv_aload_n hx hb dX8_arrive_16 rfl (lv_at hl 1 rfl) ?_
    refine lv_aload_n hx hb dX8_arrive_17 rfl (lv_at hl 0 rfl) ?_
    refine cg_get hx hb hts iC_Court_arrive_X8 hown hK hX 0 0 rfl rfl rfl 6 (by decide) (hts (.fieldLink RX8 37 "PassageCourt" "today" "I") (by decide +kernel)) (fun _ h9 => h9) rfl dX8_arrive_18 ?_
    obtain ⟨g18, eg18, h⟩ := mbind h
    refine cg_put hx hb hts iC_Court_arrive_X3 tyX3 tyX3_ok nmX3 hown hK hX 5 i1 hv17 rfl rfl 12 (by decide) (hts (.fieldLink RX8 374 "PassageCourt$Person" "stayFrom" "I") (by decide +kernel)) (fun _ h9 => h9) rfl (by decide +kernel) rfl rfl (ty := .int) (g1 := (uI g15 5 i1 12 (sI g15 0 0 6))) (Nat.le_of_ble_eq_true rfl) (by unfold cent; rw [sI_up]; rfl) (fun _ _ => rfl) rfl (fun _ _ hab => cent_uI yI yO ad _ _ _ hab) dX8_arrive_21 (fun H locs hX => ?_)
    have eg18 := Option.some.inj eg18
    rw [eg18] at hX
    have hv19 : clvb g18 5 i1 = true := by rw [← eg18]; exact hv17
    refine lv_aload_n hx hb dX8_arrive_24 rfl (lv_at hl 0 rfl) ?_
    refine lv_aload_n hx hb dX8_arrive_25 rfl (lv_at hl 1 rfl) ?_
    obtain ⟨g20, eg20, h⟩ := mbind h
    refine cg_callVv (As := [.ref (ad 5 i1)]) (rest := []) ⟨hx, hb, hml, hown, hts⟩ 0 0 rfl (ci := 9) rfl rfl (cC_Court_lookAt l D yI yO z0 ad eg20) (cwV 1 hts gX8_arrive_X8_lookAt rfl rfl rfl (by decide +kernel) ⟨Nat.le_of_ble_eq_true rfl, Nat.le_of_ble_eq_true rfl⟩) hK hX rfl hl.1 rfl (Nat.le_of_ble_eq_true rfl) dX8_arrive_26 ⟨Nat.zero_le _, Nat.zero_le _⟩ (fun H locs hX => ?_)
    cases h
    exact cg_retv hx hb hr hlocks hK hX dX8_arrive_29
set_option maxRecDepth 20000 in
theorem cC_Court_arrive (l : Launch) (D : va_G) (yI yO : ClassId) (z0 : Nat) (ad : Nat → Nat → Nat) {g : CS} {gz : CS} {i1 : Nat} {i2 : Nat} {o3 : Option Nat} {x4 : Int32} (h : fC_Court_arrive g i1 i2 o3 x4 = some gz) : Met l yX8_arrive wsX8_arrive (mR 7 157) (va_Pc [.ref (ad 0 0), .ref (ad 5 i1), .ref (ad 4 i2), va_rf (o3.map (ad 6)), .int x4] (cPre D yI yO z0 ad g)) (cQv D yI yO z0 ad gz (cF ad g)) 0 0 (cF ad g) := by
  refine Met.ofW (cc := cX8_arrive) (maxL := 5) (ret := none) (by decide) rfl ?_
  intro p e s m args below meth c s₁ B hml hv
  obtain ⟨hv0, hw, hK⟩ := hv
  rcases o3 with _ | w
  · skip
    have hv1 : args = [.ref (ad 0 0), .ref (ad 5 i1), .ref (ad 4 i2), .null, .int x4].toArray := hv0
    subst hv1
    have C : cC p s m _ meth c cX8_arrive RX8 none wsX8_arrive 5 D yI yO := ⟨B.exec, B.bytes, B.returns, atoms_spec (ws := wsX8_arrive) B.pre, findClass_of_methodNamed B.named, B.notSynchronized, hml, hK⟩
    have hl := lv_entry ([.ref (ad 0 0), .ref (ad 5 i1), .ref (ad 4 i2), .null, .int x4]) (n := 5) (Nat.le_of_ble_eq_true rfl)
    rw [lg_entry_eq]
    generalize (lg_sl ([.ref (ad 0 0), .ref (ad 5 i1), .ref (ad 4 i2), .null, .int x4]) ++ List.replicate (5 - (lg_sl ([.ref (ad 0 0), .ref (ad 5 i1), .ref (ad 4 i2), .null, .int x4])).length) Slot.unset).toArray = ls at hl ⊢
    have hl : lv_has ls 5 [(0, .ref (ad 0 0)), (1, .ref (ad 5 i1)), (2, .ref (ad 4 i2)), (3, .null), (4, .int x4)] := hl
    exact w_C_Court_arrive_0 C h ⟨hw, fun k i hi => ⟨k, i, hi, rfl⟩, va_S.rf⟩ hl
  · skip
    have hv1 : args = [.ref (ad 0 0), .ref (ad 5 i1), .ref (ad 4 i2), .ref (ad 6 w), .int x4].toArray := hv0
    subst hv1
    have C : cC p s m _ meth c cX8_arrive RX8 none wsX8_arrive 5 D yI yO := ⟨B.exec, B.bytes, B.returns, atoms_spec (ws := wsX8_arrive) B.pre, findClass_of_methodNamed B.named, B.notSynchronized, hml, hK⟩
    have hl := lv_entry ([.ref (ad 0 0), .ref (ad 5 i1), .ref (ad 4 i2), .ref (ad 6 w), .int x4]) (n := 5) (Nat.le_of_ble_eq_true rfl)
    rw [lg_entry_eq]
    generalize (lg_sl ([.ref (ad 0 0), .ref (ad 5 i1), .ref (ad 4 i2), .ref (ad 6 w), .int x4]) ++ List.replicate (5 - (lg_sl ([.ref (ad 0 0), .ref (ad 5 i1), .ref (ad 4 i2), .ref (ad 6 w), .int x4])).length) Slot.unset).toArray = ls at hl ⊢
    have hl : lv_has ls 5 [(0, .ref (ad 0 0)), (1, .ref (ad 5 i1)), (2, .ref (ad 4 i2)), (3, .ref (ad 6 w)), (4, .int x4)] := hl
    exact w_C_Court_arrive_0 C h ⟨hw, fun k i hi => ⟨k, i, hi, rfl⟩, va_S.rf⟩ hl
theorem iC_Court_countRules_X8 : ∀ w ∈ wsX80, w ∈ wsX8_countRules := by decide +kernel
def fC_Court_countRules (g : CS) : Option Int32 :=
  some (1 + (nI (sN g 4)))
set_option maxRecDepth 20000 in
theorem w_C_Court_countRules_0 (C : cC p s m args meth c cX8_countRules RX8 (some .int) wsX8_countRules 1 D yI yO) {rz : Int32} {g : CS} (h : fC_Court_countRules g = some rz) {H : Heap} {locs : List Loc} {ls : Array Slot} (hX : cX D yI yO z0 ad g A s H locs) (hl : lv_has ls 1 [(0, .ref (ad 0 0))]) : W p l e (mR 1 20) s m args below meth c H locs 0 0 (MQ below (cQ D yI yO z0 ad rz g A) args s 0 0 A) (F0 m 0 ls []) := by
  obtain ⟨hx, hb, hr, hts, hown, hlocks, hml, hK⟩ := id C
  unfold fC_Court_countRules at h
  refine lv_iconst (v := 1) hx hb dX8_countRules_0 (by decide) ?_
  refine lv_aload_n hx hb dX8_countRules_1 rfl (lv_at hl 0 rfl) ?_
  refine cg_get hx hb hts iC_Court_countRules_X8 hown hK hX 0 0 rfl rfl rfl 5 (by decide) (hts (.fieldLink RX8 34 "PassageCourt" "laterRules" "Ljava/util/ArrayList;") (by decide +kernel)) (fun _ h9 => h9) rfl dX8_countRules_2 ?_
  refine cg_callV (As := []) (rest := [.int 1]) ⟨hx, hb, hml, hown, hts⟩ 1 4 rfl (ci := 0) rfl rfl (cC_List_size l D yI yO z0 ad g 4 (by decide)) (cwV 0 hts gX8_countRules_Jx4a65c_size_8abf5 rfl rfl rfl (by decide +kernel) ⟨Nat.le_of_ble_eq_true rfl, Nat.le_of_ble_eq_true rfl⟩) hK hX rfl hl.1 rfl (Nat.le_of_ble_eq_true rfl) dX8_countRules_5 ⟨Nat.zero_le _, Nat.zero_le _⟩ (fun H locs hX => ?_)
  refine lv_iadd hx hb dX8_countRules_8 ?_
  cases h
  exact cg_reti hx hb hr hlocks hK hX dX8_countRules_9
set_option maxRecDepth 20000 in
theorem cC_Court_countRules (l : Launch) (D : va_G) (yI yO : ClassId) (z0 : Nat) (ad : Nat → Nat → Nat) {g : CS} {rz : Int32} (h : fC_Court_countRules g = some rz) : Met l yX8_countRules wsX8_countRules (mR 1 20) (va_Pc [.ref (ad 0 0)] (cPre D yI yO z0 ad g)) (cQ D yI yO z0 ad rz g (cF ad g)) 0 0 (cF ad g) := by
  refine Met.ofW (cc := cX8_countRules) (maxL := 1) (ret := (some .int)) (by decide) rfl ?_
  intro p e s m args below meth c s₁ B hml hv
  obtain ⟨hv0, hw, hK⟩ := hv
  have hv1 : args = [.ref (ad 0 0)].toArray := hv0
  subst hv1
  have C : cC p s m _ meth c cX8_countRules RX8 (some .int) wsX8_countRules 1 D yI yO := ⟨B.exec, B.bytes, B.returns, atoms_spec (ws := wsX8_countRules) B.pre, findClass_of_methodNamed B.named, B.notSynchronized, hml, hK⟩
  have hl := lv_entry ([.ref (ad 0 0)]) (n := 1) (Nat.le_of_ble_eq_true rfl)
  rw [lg_entry_eq]
  generalize (lg_sl ([.ref (ad 0 0)]) ++ List.replicate (1 - (lg_sl ([.ref (ad 0 0)])).length) Slot.unset).toArray = ls at hl ⊢
  have hl : lv_has ls 1 [(0, .ref (ad 0 0))] := hl
  exact w_C_Court_countRules_0 C h ⟨hw, fun k i hi => ⟨k, i, hi, rfl⟩, va_S.rf⟩ hl
theorem iC_Court_isKnown_X0 : ∀ w ∈ wsX00, w ∈ wsX8_isKnown := by decide +kernel
theorem iC_Court_isKnown_X1 : ∀ w ∈ wsX10, w ∈ wsX8_isKnown := by decide +kernel
theorem iC_Court_isKnown_X3 : ∀ w ∈ wsX30, w ∈ wsX8_isKnown := by decide +kernel
theorem iC_Court_isKnown_X8 : ∀ w ∈ wsX80, w ∈ wsX8_isKnown := by decide +kernel
def fC_Court_isKnown_50 (g : CS) (xs0 : Int32) : Option Int32 :=
  (mbo xs0).bind fun b1 => some b1
set_option maxRecDepth 20000 in
theorem w_C_Court_isKnown_50 (C : cC p s m args meth c cX8_isKnown RX8 (some .boolean) wsX8_isKnown 4 D yI yO) {rz : Int32} {g : CS} {xs0 : Int32} (h : fC_Court_isKnown_50 g xs0 = some rz) {H : Heap} {locs : List Loc} {ls : Array Slot} (hX : cX D yI yO z0 ad g A s H locs) (hl : lv_has ls 4 [(0, .ref (ad 0 0))]) : W p l e (mR 1 21) s m args below meth c H locs 0 0 (MQ below (cQ D yI yO z0 ad rz g A) args s 0 0 A) (F0 m 50 ls [.int xs0]) := by
  obtain ⟨hx, hb, hr, hts, hown, hlocks, hml, hK⟩ := id C
  unfold fC_Court_isKnown_50 at h
  obtain ⟨b1, eb1, h⟩ := mbind h
  cases h
  exact cg_retz hx hb hr hlocks hK hX dX8_isKnown_50 eb1
def fC_Court_isKnown_45 (g : CS) : Option Int32 :=
  fC_Court_isKnown_50 g 1
set_option maxRecDepth 20000 in
theorem w_C_Court_isKnown_45 (C : cC p s m args meth c cX8_isKnown RX8 (some .boolean) wsX8_isKnown 4 D yI yO) {rz : Int32} {g : CS} (h : fC_Court_isKnown_45 g = some rz) {H : Heap} {locs : List Loc} {ls : Array Slot} (hX : cX D yI yO z0 ad g A s H locs) (hl : lv_has ls 4 [(0, .ref (ad 0 0))]) : W p l e (mR 1 21) s m args below meth c H locs 0 0 (MQ below (cQ D yI yO z0 ad rz g A) args s 0 0 A) (F0 m 45 ls []) := by
  obtain ⟨hx, hb, hr, hts, hown, hlocks, hml, hK⟩ := id C
  unfold fC_Court_isKnown_45 at h
  refine lv_iconst (v := 1) hx hb dX8_isKnown_45 (by decide) ?_
  refine lv_goto (tgt := 50) hx hb dX8_isKnown_46 (by decide) ?_
  exact w_C_Court_isKnown_50 C h hX (lv_sub hl [0] rfl)
def fC_Court_isKnown_19 (g : CS) (i1 : Nat) (i2 : Nat) (i3 : Nat) : Option Int32 :=
  (ck g 5 i1).bind fun _ =>
  (ck g 4 i2).bind fun _ =>
  (fC_Row_at 13 i1 g (sI g 4 i2 0)).bind fun r4 =>
  (ck g 4 i3).bind fun _ =>
  if (sI g 0 0 6) < (r4 + (sI g 4 i3 4)) then
    fC_Court_isKnown_50 g 0
  else
    fC_Court_isKnown_45 g
set_option maxRecDepth 20000 in
theorem w_C_Court_isKnown_19 (C : cC p s m args meth c cX8_isKnown RX8 (some .boolean) wsX8_isKnown 4 D yI yO) {rz : Int32} {g : CS} {i1 : Nat} {i2 : Nat} {i3 : Nat} (h : fC_Court_isKnown_19 g i1 i2 i3 = some rz) {H : Heap} {locs : List Loc} {ls : Array Slot} (hX : cX D yI yO z0 ad g A s H locs) (hl : lv_has ls 4 [(0, .ref (ad 0 0)), (1, .ref (ad 5 i1)), (2, .ref (ad 4 i2)), (3, .ref (ad 4 i3))]) : W p l e (mR 1 21) s m args below meth c H locs 0 0 (MQ below (cQ D yI yO z0 ad rz g A) args s 0 0 A) (F0 m 19 ls []) := by
  obtain ⟨hx, hb, hr, hts, hown, hlocks, hml, hK⟩ := id C
  unfold fC_Court_isKnown_19 at h
  refine lv_aload_n hx hb dX8_isKnown_19 rfl (lv_at hl 0 rfl) ?_
  refine cg_get hx hb hts iC_Court_isKnown_X8 hown hK hX 0 0 rfl rfl rfl 6 (by decide) (hts (.fieldLink RX8 37 "PassageCourt" "today" "I") (by decide +kernel)) (fun _ h9 => h9) rfl dX8_isKnown_20 ?_
  refine lv_aload_n hx hb dX8_isKnown_23 rfl (lv_at hl 1 rfl) ?_
  obtain ⟨_, hv2, h⟩ := mbind h
  replace hv2 := ck_spec hv2
  refine cg_get hx hb hts iC_Court_isKnown_X3 hown hK hX 5 i1 hv2 rfl rfl 6 (by decide) (hts (.fieldLink RX8 189 "PassageCourt$Person" "bans" "LPassageCourt$Bans;") (by decide +kernel)) (fun _ h9 => h9) rfl dX8_isKnown_24 ?_
  refine cg_get hx hb hts iC_Court_isKnown_X0 hown hK hX 24 i1 hv2 rfl rfl 2 (by decide) (hts (.fieldLink RX8 409 "PassageCourt$Bans" "made" "LPassageCourt$Row;") (by decide +kernel)) (fun _ h9 => h9) rfl dX8_isKnown_27 ?_
  refine lv_aload_n hx hb dX8_isKnown_30 rfl (lv_at hl 2 rfl) ?_
  obtain ⟨_, hv3, h⟩ := mbind h
  replace hv3 := ck_spec hv3
  refine cg_get hx hb hts iC_Court_isKnown_X1 hown hK hX 4 i2 hv3 rfl rfl 0 (by decide) (hts (.fieldLink RX8 66 "PassageCourt$Land" "number" "I") (by decide +kernel)) (fun _ h9 => h9) rfl dX8_isKnown_31 ?_
  obtain ⟨r4, er4, h⟩ := mbind h
  refine cg_callV (As := [.int (sI g 4 i2 0)]) (rest := [.int (sI g 0 0 6)]) ⟨hx, hb, hml, hown, hts⟩ 13 i1 hv2 (ci := 6) rfl rfl (cC_Row_at l D yI yO z0 ad ⟨by decide, by decide⟩ er4) (cwV 1 hts gX8_isKnown_X5_at rfl rfl rfl (by decide +kernel) ⟨Nat.le_of_ble_eq_true rfl, Nat.le_of_ble_eq_true rfl⟩) hK hX rfl hl.1 rfl (Nat.le_of_ble_eq_true rfl) dX8_isKnown_34 ⟨Nat.zero_le _, Nat.zero_le _⟩ (fun H locs hX => ?_)
  refine lv_aload_n hx hb dX8_isKnown_37 rfl (lv_at hl 3 rfl) ?_
  obtain ⟨_, hv5, h⟩ := mbind h
  replace hv5 := ck_spec hv5
  refine cg_get hx hb hts iC_Court_isKnown_X1 hown hK hX 4 i3 hv5 rfl rfl 4 (by decide) (hts (.fieldLink RX8 412 "PassageCourt$Land" "late" "I") (by decide +kernel)) (fun _ h9 => h9) rfl dX8_isKnown_38 ?_
  refine lv_iadd hx hb dX8_isKnown_41 ?_
  refine lv_icmp_lt (tgt := 49) hx hb dX8_isKnown_42 (by decide) (fun c6 => ?_) (fun c6 => ?_)
  · replace h := mpos c6 h
    refine lv_iconst (v := 0) hx hb dX8_isKnown_49 (by decide) ?_
    exact w_C_Court_isKnown_50 C h hX (lv_sub hl [0] rfl)
  · replace h := mneg c6 h
    exact w_C_Court_isKnown_45 C h hX (lv_sub hl [0] rfl)
def fC_Court_isKnown (g : CS) (i1 : Nat) (i2 : Nat) (i3 : Nat) : Option Int32 :=
  (ck g 4 i2).bind fun _ =>
  (ck g 4 i3).bind fun _ =>
  if i2 = i3 then
    fC_Court_isKnown_45 g
  else
    if (sI g 4 i2 1) = 0 then
      fC_Court_isKnown_19 g i1 i2 i3
    else
      if (sI g 4 i3 1) = 0 then
        fC_Court_isKnown_19 g i1 i2 i3
      else
        fC_Court_isKnown_45 g
set_option maxRecDepth 20000 in
theorem w_C_Court_isKnown_0 (C : cC p s m args meth c cX8_isKnown RX8 (some .boolean) wsX8_isKnown 4 D yI yO) {rz : Int32} {g : CS} {i1 : Nat} {i2 : Nat} {i3 : Nat} (h : fC_Court_isKnown g i1 i2 i3 = some rz) {H : Heap} {locs : List Loc} {ls : Array Slot} (hX : cX D yI yO z0 ad g A s H locs) (hl : lv_has ls 4 [(0, .ref (ad 0 0)), (1, .ref (ad 5 i1)), (2, .ref (ad 4 i2)), (3, .ref (ad 4 i3))]) : W p l e (mR 1 21) s m args below meth c H locs 0 0 (MQ below (cQ D yI yO z0 ad rz g A) args s 0 0 A) (F0 m 0 ls []) := by
  obtain ⟨hx, hb, hr, hts, hown, hlocks, hml, hK⟩ := id C
  unfold fC_Court_isKnown at h
  refine lv_aload_n hx hb dX8_isKnown_0 rfl (lv_at hl 2 rfl) ?_
  refine lv_aload_n hx hb dX8_isKnown_1 rfl (lv_at hl 3 rfl) ?_
  obtain ⟨_, hv8, h⟩ := mbind h
  replace hv8 := ck_spec hv8
  obtain ⟨_, hv9, h⟩ := mbind h
  replace hv9 := ck_spec hv9
  refine lv_acmp_eq (rx := some (ad 4 i2)) (ry := some (ad 4 i3)) (tgt := 45) hx hb dX8_isKnown_2 (by decide) (fun c7 => ?_) (fun c7 => ?_)
  · replace h := mpos ((cX_inj (k := 4) hX hv8 hv9).mp c7) h
    exact w_C_Court_isKnown_45 C h hX (lv_sub hl [0] rfl)
  · replace h := mneg (fun z => c7 ((cX_inj (k := 4) hX hv8 hv9).mpr z)) h
    refine lv_aload_n hx hb dX8_isKnown_5 rfl (lv_at hl 2 rfl) ?_
    refine cg_get hx hb hts iC_Court_isKnown_X1 hown hK hX 4 i2 hv8 rfl rfl 1 (by decide) (hts (.fieldLink RX8 165 "PassageCourt$Land" "isInRegion" "Z") (by decide +kernel)) (fun _ h9 => h9) rfl dX8_isKnown_6 ?_
    refine lv_if_eq (tgt := 19) hx hb dX8_isKnown_9 (by decide) (fun c10 => ?_) (fun c10 => ?_)
    · replace h := mpos c10 h
      exact w_C_Court_isKnown_19 C h hX (lv_sub hl [0, 1, 2, 3] rfl)
    · replace h := mneg c10 h
      refine lv_aload_n hx hb dX8_isKnown_12 rfl (lv_at hl 3 rfl) ?_
      refine cg_get hx hb hts iC_Court_isKnown_X1 hown hK hX 4 i3 hv9 rfl rfl 1 (by decide) (hts (.fieldLink RX8 165 "PassageCourt$Land" "isInRegion" "Z") (by decide +kernel)) (fun _ h9 => h9) rfl dX8_isKnown_13 ?_
      refine lv_if_ne (tgt := 45) hx hb dX8_isKnown_16 (by decide) (fun c11 => ?_) (fun c11 => ?_)
      · replace h := mneg c11 h
        exact w_C_Court_isKnown_45 C h hX (lv_sub hl [0] rfl)
      · replace h := mpos c11 h
        exact w_C_Court_isKnown_19 C h hX (lv_sub hl [0, 1, 2, 3] rfl)
set_option maxRecDepth 20000 in
theorem cC_Court_isKnown (l : Launch) (D : va_G) (yI yO : ClassId) (z0 : Nat) (ad : Nat → Nat → Nat) {g : CS} {rz : Int32} {i1 : Nat} {i2 : Nat} {i3 : Nat} (h : fC_Court_isKnown g i1 i2 i3 = some rz) : Met l yX8_isKnown wsX8_isKnown (mR 1 21) (va_Pc [.ref (ad 0 0), .ref (ad 5 i1), .ref (ad 4 i2), .ref (ad 4 i3)] (cPre D yI yO z0 ad g)) (cQ D yI yO z0 ad rz g (cF ad g)) 0 0 (cF ad g) := by
  refine Met.ofW (cc := cX8_isKnown) (maxL := 4) (ret := (some .boolean)) (by decide) rfl ?_
  intro p e s m args below meth c s₁ B hml hv
  obtain ⟨hv0, hw, hK⟩ := hv
  have hv1 : args = [.ref (ad 0 0), .ref (ad 5 i1), .ref (ad 4 i2), .ref (ad 4 i3)].toArray := hv0
  subst hv1
  have C : cC p s m _ meth c cX8_isKnown RX8 (some .boolean) wsX8_isKnown 4 D yI yO := ⟨B.exec, B.bytes, B.returns, atoms_spec (ws := wsX8_isKnown) B.pre, findClass_of_methodNamed B.named, B.notSynchronized, hml, hK⟩
  have hl := lv_entry ([.ref (ad 0 0), .ref (ad 5 i1), .ref (ad 4 i2), .ref (ad 4 i3)]) (n := 4) (Nat.le_of_ble_eq_true rfl)
  rw [lg_entry_eq]
  generalize (lg_sl ([.ref (ad 0 0), .ref (ad 5 i1), .ref (ad 4 i2), .ref (ad 4 i3)]) ++ List.replicate (4 - (lg_sl ([.ref (ad 0 0), .ref (ad 5 i1), .ref (ad 4 i2), .ref (ad 4 i3)])).length) Slot.unset).toArray = ls at hl ⊢
  have hl : lv_has ls 4 [(0, .ref (ad 0 0)), (1, .ref (ad 5 i1)), (2, .ref (ad 4 i2)), (3, .ref (ad 4 i3))] := hl
  exact w_C_Court_isKnown_0 C h ⟨hw, fun k i hi => ⟨k, i, hi, rfl⟩, va_S.rf⟩ hl
theorem iC_Court_isBannedAt_X3 : ∀ w ∈ wsX30, w ∈ wsX8_isBannedAt := by decide +kernel
theorem iC_Court_isBannedAt_X8 : ∀ w ∈ wsX80, w ∈ wsX8_isBannedAt := by decide +kernel
def fC_Court_isBannedAt_50 (rec2 : CS → Nat → Nat → Int32 → Option Int32) (g : CS) (i1 : Nat) (i2 : Nat) (x3 : Int32) : Option Int32 :=
  rec2 g i1 i2 (x3 + 1)
set_option maxRecDepth 20000 in
theorem w_C_Court_isBannedAt_50 (C : cC p s m args meth c cX8_isBannedAt RX8 (some .boolean) wsX8_isBannedAt 4 D yI yO) {rz : Int32} {g : CS} {rec2 : CS → Nat → Nat → Int32 → Option Int32} (hrec2 : ∀ {i1 : Nat} {i2 : Nat} {x3 : Int32}  (_ : rec2 g i1 i2 x3 = some rz) {H : Heap} {locs : List Loc} {ls : Array Slot} (_ : cX D yI yO z0 ad g A s H locs) (_ : lv_has ls 4 [(0, .ref (ad 0 0)), (1, .ref (ad 5 i1)), (2, .ref (ad 4 i2)), (3, .int x3)]), W p l e (mR 3 65) s m args below meth c H locs 0 0 (MQ below (cQ D yI yO z0 ad rz g A) args s 0 0 A) (F0 m 2 ls [])) {i1 : Nat} {i2 : Nat} {x3 : Int32} (h : fC_Court_isBannedAt_50 rec2 g i1 i2 x3 = some rz) {H : Heap} {locs : List Loc} {ls : Array Slot} (hX : cX D yI yO z0 ad g A s H locs) (hl : lv_has ls 4 [(0, .ref (ad 0 0)), (1, .ref (ad 5 i1)), (2, .ref (ad 4 i2)), (3, .int x3)]) : W p l e (mR 3 65) s m args below meth c H locs 0 0 (MQ below (cQ D yI yO z0 ad rz g A) args s 0 0 A) (F0 m 50 ls []) := by
  obtain ⟨hx, hb, hr, hts, hown, hlocks, hml, hK⟩ := id C
  unfold fC_Court_isBannedAt_50 at h
  refine lv_iinc (v := x3 + 1) (lv' := [(3, .int (x3 + 1)), (0, .ref (ad 0 0)), (1, .ref (ad 5 i1)), (2, .ref (ad 4 i2))]) hx hb dX8_isBannedAt_50 hl (k := 3) rfl rfl (by decide) rfl (fun ls hl => ?_)
  refine lv_goto (tgt := 2) hx hb dX8_isBannedAt_53 (by decide) ?_
  exact hrec2 h hX (lv_sub hl [1, 2, 3, 0] rfl)
def fC_Court_isBannedAt_2 : Nat → CS → Nat → Nat → Int32 → Option Int32
  | 0, _, _, _, _ => none
  | n + 1, g, i1, i2, x3 =>
    if (nI (sN g 0)) ≤ x3 then
      (mbo 0).bind fun b2 => some b2
    else
      (ck g 5 i1).bind fun _ =>
      (fC_Bans_holds i1 g x3 (sI g 0 0 6)).bind fun r4 =>
      if r4 = 0 then
        fC_Court_isBannedAt_50 (fC_Court_isBannedAt_2 n) g i1 i2 x3
      else
        (cget g 0 x3).bind fun v6 =>
        (ck g 4 v6).bind fun _ =>
        (fC_Court_isKnown g i1 v6 i2).bind fun r8 =>
        if r8 = 0 then
          fC_Court_isBannedAt_50 (fC_Court_isBannedAt_2 n) g i1 i2 x3
        else
          (mbo 1).bind fun b10 => some b10
set_option maxRecDepth 20000 in
theorem w_C_Court_isBannedAt_2 (C : cC p s m args meth c cX8_isBannedAt RX8 (some .boolean) wsX8_isBannedAt 4 D yI yO) {rz : Int32} {g : CS} : ∀ (n : Nat) {i1 : Nat} {i2 : Nat} {x3 : Int32} (h : fC_Court_isBannedAt_2 n g i1 i2 x3 = some rz) {H : Heap} {locs : List Loc} {ls : Array Slot} (hX : cX D yI yO z0 ad g A s H locs) (hl : lv_has ls 4 [(0, .ref (ad 0 0)), (1, .ref (ad 5 i1)), (2, .ref (ad 4 i2)), (3, .int x3)]), W p l e (mR 3 65) s m args below meth c H locs 0 0 (MQ below (cQ D yI yO z0 ad rz g A) args s 0 0 A) (F0 m 2 ls []) := by
  obtain ⟨hx, hb, hr, hts, hown, hlocks, hml, hK⟩ := id C
  intro n
  induction n with
  | zero =>
    intro i1 i2 x3 h
    cases (show (none : Option _) = _ from h)
  | succ n ih =>
    intro i1 i2 x3 h H locs ls hX hl
    rw [fC_Court_isBannedAt_2] at h
    refine lv_iload_n hx hb dX8_isBannedAt_2 rfl (lv_at hl 3 rfl) ?_
    refine lv_aload_n hx hb dX8_isBannedAt_3 rfl (lv_at hl 0 rfl) ?_
    refine cg_get hx hb hts iC_Court_isBannedAt_X8 hown hK hX 0 0 rfl rfl rfl 0 (by decide) (hts (.fieldLink RX8 12 "PassageCourt" "lands" "Ljava/util/ArrayList;") (by decide +kernel)) (fun _ h9 => h9) rfl dX8_isBannedAt_4 ?_
    refine cg_callV (As := []) (rest := [.int x3]) ⟨hx, hb, hml, hown, hts⟩ 1 0 rfl (ci := 0) rfl rfl (cC_List_size l D yI yO z0 ad g 0 (by decide)) (cwV 0 hts gX8_isBannedAt_Jx4a65c_size_8abf5 rfl rfl rfl (by decide +kernel) ⟨Nat.le_of_ble_eq_true rfl, Nat.le_of_ble_eq_true rfl⟩) hK hX rfl hl.1 rfl (Nat.le_of_ble_eq_true rfl) dX8_isBannedAt_7 ⟨Nat.zero_le _, Nat.zero_le _⟩ (fun H locs hX => ?_)
    refine lv_icmp_ge (tgt := 56) hx hb dX8_isBannedAt_10 (by decide) (fun c1 => ?_) (fun c1 => ?_)
    · replace h := mpos c1 h
      refine lv_iconst (v := 0) hx hb dX8_isBannedAt_56 (by decide) ?_
      obtain ⟨b2, eb2, h⟩ := mbind h
      cases h
      exact cg_retz hx hb hr hlocks hK hX dX8_isBannedAt_57 eb2
    · replace h := mneg c1 h
      refine lv_aload_n hx hb dX8_isBannedAt_13 rfl (lv_at hl 1 rfl) ?_
      obtain ⟨_, hv3, h⟩ := mbind h
      replace hv3 := ck_spec hv3
      refine cg_get hx hb hts iC_Court_isBannedAt_X3 hown hK hX 5 i1 hv3 rfl rfl 6 (by decide) (hts (.fieldLink RX8 189 "PassageCourt$Person" "bans" "LPassageCourt$Bans;") (by decide +kernel)) (fun _ h9 => h9) rfl dX8_isBannedAt_14 ?_
      refine lv_iload_n hx hb dX8_isBannedAt_17 rfl (lv_at hl 3 rfl) ?_
      refine lv_aload_n hx hb dX8_isBannedAt_18 rfl (lv_at hl 0 rfl) ?_
      refine cg_get hx hb hts iC_Court_isBannedAt_X8 hown hK hX 0 0 rfl rfl rfl 6 (by decide) (hts (.fieldLink RX8 37 "PassageCourt" "today" "I") (by decide +kernel)) (fun _ h9 => h9) rfl dX8_isBannedAt_19 ?_
      obtain ⟨r4, er4, h⟩ := mbind h
      refine cg_callV (As := [.int x3, .int (sI g 0 0 6)]) (rest := []) ⟨hx, hb, hml, hown, hts⟩ 24 i1 hv3 (ci := 1) rfl rfl (cC_Bans_holds l D yI yO z0 ad er4) (cwV 2 hts gX8_isBannedAt_X0_holds rfl rfl rfl (by decide +kernel) ⟨Nat.le_of_ble_eq_true rfl, Nat.le_of_ble_eq_true rfl⟩) hK hX rfl hl.1 rfl (Nat.le_of_ble_eq_true rfl) dX8_isBannedAt_22 ⟨Nat.zero_le _, Nat.zero_le _⟩ (fun H locs hX => ?_)
      refine lv_if_eq (tgt := 50) hx hb dX8_isBannedAt_25 (by decide) (fun c5 => ?_) (fun c5 => ?_)
      · replace h := mpos c5 h
        exact w_C_Court_isBannedAt_50 C ih h hX (lv_sub hl [0, 1, 2, 3] rfl)
      · replace h := mneg c5 h
        refine lv_aload_n hx hb dX8_isBannedAt_28 rfl (lv_at hl 0 rfl) ?_
        refine lv_aload_n hx hb dX8_isBannedAt_29 rfl (lv_at hl 1 rfl) ?_
        refine lv_aload_n hx hb dX8_isBannedAt_30 rfl (lv_at hl 0 rfl) ?_
        refine cg_get hx hb hts iC_Court_isBannedAt_X8 hown hK hX 0 0 rfl rfl rfl 0 (by decide) (hts (.fieldLink RX8 12 "PassageCourt" "lands" "Ljava/util/ArrayList;") (by decide +kernel)) (fun _ h9 => h9) rfl dX8_isBannedAt_31 ?_
        refine lv_iload_n hx hb dX8_isBannedAt_34 rfl (lv_at hl 3 rfl) ?_
        obtain ⟨v6, ev6, h⟩ := mbind h
        refine cg_callVq (As := [.int x3]) (rest := [.ref (ad 5 i1), .ref (ad 0 0)]) ⟨hx, hb, hml, hown, hts⟩ 1 0 rfl (ci := 0) rfl rfl (cC_List_get l D yI yO z0 ad (by decide) ev6) (cwV 1 hts gX8_isBannedAt_Jx4a65c_get_915e3 rfl rfl rfl (by decide +kernel) ⟨Nat.le_of_ble_eq_true rfl, Nat.le_of_ble_eq_true rfl⟩) hK hX rfl hl.1 rfl (Nat.le_of_ble_eq_true rfl) dX8_isBannedAt_35 ⟨Nat.zero_le _, Nat.zero_le _⟩ (fun H locs hX => ?_)
        refine W.eq (g2 := F0 m 38 ls [.ref (ad 4 v6), .ref (ad 5 i1), .ref (ad 0 0)]) rfl ?_
        obtain ⟨_, hv7, h⟩ := mbind h
        replace hv7 := ck_spec hv7
        refine cg_cast hx hb hown (hts (.classLink RX8 57 "PassageCourt$Land") (by decide +kernel)) hK hX 4 v6 hv7 (ci := 2) rfl rfl dX8_isBannedAt_38 ?_
        refine lv_aload_n hx hb dX8_isBannedAt_41 rfl (lv_at hl 2 rfl) ?_
        obtain ⟨r8, er8, h⟩ := mbind h
        refine cg_callV (As := [.ref (ad 5 i1), .ref (ad 4 v6), .ref (ad 4 i2)]) (rest := []) ⟨hx, hb, hml, hown, hts⟩ 0 0 rfl (ci := 9) rfl rfl (cC_Court_isKnown l D yI yO z0 ad er8) (cwV 3 hts gX8_isBannedAt_X8_isKnown rfl rfl rfl (by decide +kernel) ⟨Nat.le_of_ble_eq_true rfl, Nat.le_of_ble_eq_true rfl⟩) hK hX rfl hl.1 rfl (Nat.le_of_ble_eq_true rfl) dX8_isBannedAt_42 ⟨Nat.zero_le _, Nat.zero_le _⟩ (fun H locs hX => ?_)
        refine lv_if_eq (tgt := 50) hx hb dX8_isBannedAt_45 (by decide) (fun c9 => ?_) (fun c9 => ?_)
        · replace h := mpos c9 h
          exact w_C_Court_isBannedAt_50 C ih h hX (lv_sub hl [0, 1, 2, 3] rfl)
        · replace h := mneg c9 h
          refine lv_iconst (v := 1) hx hb dX8_isBannedAt_48 (by decide) ?_
          obtain ⟨b10, eb10, h⟩ := mbind h
          cases h
          exact cg_retz hx hb hr hlocks hK hX dX8_isBannedAt_49 eb10
def fC_Court_isBannedAt (g : CS) (i1 : Nat) (i2 : Nat) : Option Int32 :=
  fC_Court_isBannedAt_2 4096 g i1 i2 0
set_option maxRecDepth 20000 in
theorem w_C_Court_isBannedAt_0 (C : cC p s m args meth c cX8_isBannedAt RX8 (some .boolean) wsX8_isBannedAt 4 D yI yO) {rz : Int32} {g : CS} {i1 : Nat} {i2 : Nat} (h : fC_Court_isBannedAt g i1 i2 = some rz) {H : Heap} {locs : List Loc} {ls : Array Slot} (hX : cX D yI yO z0 ad g A s H locs) (hl : lv_has ls 4 [(0, .ref (ad 0 0)), (1, .ref (ad 5 i1)), (2, .ref (ad 4 i2))]) : W p l e (mR 3 65) s m args below meth c H locs 0 0 (MQ below (cQ D yI yO z0 ad rz g A) args s 0 0 A) (F0 m 0 ls []) := by
  obtain ⟨hx, hb, hr, hts, hown, hlocks, hml, hK⟩ := id C
  unfold fC_Court_isBannedAt at h
  refine lv_iconst (v := 0) hx hb dX8_isBannedAt_0 (by decide) ?_
  refine lv_istore_n (lv' := [(3, .int 0), (0, .ref (ad 0 0)), (1, .ref (ad 5 i1)), (2, .ref (ad 4 i2))]) hx hb dX8_isBannedAt_1 rfl hl (by decide) rfl (fun ls hl => ?_)
  exact w_C_Court_isBannedAt_2 C 4096 h hX (lv_sub hl [1, 2, 3, 0] rfl)
set_option maxRecDepth 20000 in
theorem cC_Court_isBannedAt (l : Launch) (D : va_G) (yI yO : ClassId) (z0 : Nat) (ad : Nat → Nat → Nat) {g : CS} {rz : Int32} {i1 : Nat} {i2 : Nat} (h : fC_Court_isBannedAt g i1 i2 = some rz) : Met l yX8_isBannedAt wsX8_isBannedAt (mR 3 65) (va_Pc [.ref (ad 0 0), .ref (ad 5 i1), .ref (ad 4 i2)] (cPre D yI yO z0 ad g)) (cQ D yI yO z0 ad rz g (cF ad g)) 0 0 (cF ad g) := by
  refine Met.ofW (cc := cX8_isBannedAt) (maxL := 4) (ret := (some .boolean)) (by decide) rfl ?_
  intro p e s m args below meth c s₁ B hml hv
  obtain ⟨hv0, hw, hK⟩ := hv
  have hv1 : args = [.ref (ad 0 0), .ref (ad 5 i1), .ref (ad 4 i2)].toArray := hv0
  subst hv1
  have C : cC p s m _ meth c cX8_isBannedAt RX8 (some .boolean) wsX8_isBannedAt 4 D yI yO := ⟨B.exec, B.bytes, B.returns, atoms_spec (ws := wsX8_isBannedAt) B.pre, findClass_of_methodNamed B.named, B.notSynchronized, hml, hK⟩
  have hl := lv_entry ([.ref (ad 0 0), .ref (ad 5 i1), .ref (ad 4 i2)]) (n := 4) (Nat.le_of_ble_eq_true rfl)
  rw [lg_entry_eq]
  generalize (lg_sl ([.ref (ad 0 0), .ref (ad 5 i1), .ref (ad 4 i2)]) ++ List.replicate (4 - (lg_sl ([.ref (ad 0 0), .ref (ad 5 i1), .ref (ad 4 i2)])).length) Slot.unset).toArray = ls at hl ⊢
  have hl : lv_has ls 4 [(0, .ref (ad 0 0)), (1, .ref (ad 5 i1)), (2, .ref (ad 4 i2))] := hl
  exact w_C_Court_isBannedAt_0 C h ⟨hw, fun k i hi => ⟨k, i, hi, rfl⟩, va_S.rf⟩ hl
def fC_Court_needsVisa_23 (g : CS) (xs0 : Int32) : Option Int32 :=
  (mbo xs0).bind fun b1 => some b1
set_option maxRecDepth 20000 in
theorem w_C_Court_needsVisa_23 (C : cC p s m args meth c cX8_needsVisa RX8 (some .boolean) wsX8_needsVisa 3 D yI yO) {rz : Int32} {g : CS} {xs0 : Int32} (h : fC_Court_needsVisa_23 g xs0 = some rz) {H : Heap} {locs : List Loc} {ls : Array Slot} (hX : cX D yI yO z0 ad g A s H locs) (hl : lv_has ls 3 [(0, .ref (ad 0 0))]) : W p l e (mR 4 88) s m args below meth c H locs 0 0 (MQ below (cQ D yI yO z0 ad rz g A) args s 0 0 A) (F0 m 23 ls [.int xs0]) := by
  obtain ⟨hx, hb, hr, hts, hown, hlocks, hml, hK⟩ := id C
  unfold fC_Court_needsVisa_23 at h
  obtain ⟨b1, eb1, h⟩ := mbind h
  cases h
  exact cg_retz hx hb hr hlocks hK hX dX8_needsVisa_23 eb1
def fC_Court_needsVisa_22 (g : CS) : Option Int32 :=
  fC_Court_needsVisa_23 g 0
set_option maxRecDepth 20000 in
theorem w_C_Court_needsVisa_22 (C : cC p s m args meth c cX8_needsVisa RX8 (some .boolean) wsX8_needsVisa 3 D yI yO) {rz : Int32} {g : CS} (h : fC_Court_needsVisa_22 g = some rz) {H : Heap} {locs : List Loc} {ls : Array Slot} (hX : cX D yI yO z0 ad g A s H locs) (hl : lv_has ls 3 [(0, .ref (ad 0 0))]) : W p l e (mR 4 88) s m args below meth c H locs 0 0 (MQ below (cQ D yI yO z0 ad rz g A) args s 0 0 A) (F0 m 22 ls []) := by
  obtain ⟨hx, hb, hr, hts, hown, hlocks, hml, hK⟩ := id C
  unfold fC_Court_needsVisa_22 at h
  refine lv_iconst (v := 0) hx hb dX8_needsVisa_22 (by decide) ?_
  exact w_C_Court_needsVisa_23 C h hX (lv_sub hl [0] rfl)
def fC_Court_needsVisa (g : CS) (i1 : Nat) (i2 : Nat) : Option Int32 :=
  (fC_Court_isRootedIn g i1 i2).bind fun r2 =>
  if r2 = 0 then
    (fC_Court_isFreeOfVisas g i1 i2).bind fun r4 =>
    if r4 = 0 then
      fC_Court_needsVisa_23 g 1
    else
      fC_Court_needsVisa_22 g
  else
    fC_Court_needsVisa_22 g
set_option maxRecDepth 20000 in
theorem w_C_Court_needsVisa_0 (C : cC p s m args meth c cX8_needsVisa RX8 (some .boolean) wsX8_needsVisa 3 D yI yO) {rz : Int32} {g : CS} {i1 : Nat} {i2 : Nat} (h : fC_Court_needsVisa g i1 i2 = some rz) {H : Heap} {locs : List Loc} {ls : Array Slot} (hX : cX D yI yO z0 ad g A s H locs) (hl : lv_has ls 3 [(0, .ref (ad 0 0)), (1, .ref (ad 5 i1)), (2, .ref (ad 4 i2))]) : W p l e (mR 4 88) s m args below meth c H locs 0 0 (MQ below (cQ D yI yO z0 ad rz g A) args s 0 0 A) (F0 m 0 ls []) := by
  obtain ⟨hx, hb, hr, hts, hown, hlocks, hml, hK⟩ := id C
  unfold fC_Court_needsVisa at h
  refine lv_aload_n hx hb dX8_needsVisa_0 rfl (lv_at hl 0 rfl) ?_
  refine lv_aload_n hx hb dX8_needsVisa_1 rfl (lv_at hl 1 rfl) ?_
  refine lv_aload_n hx hb dX8_needsVisa_2 rfl (lv_at hl 2 rfl) ?_
  obtain ⟨r2, er2, h⟩ := mbind h
  refine cg_callV (As := [.ref (ad 5 i1), .ref (ad 4 i2)]) (rest := []) ⟨hx, hb, hml, hown, hts⟩ 0 0 rfl (ci := 9) rfl rfl (cC_Court_isRootedIn l D yI yO z0 ad er2) (cwV 2 hts gX8_needsVisa_X8_isRootedIn rfl rfl rfl (by decide +kernel) ⟨Nat.le_of_ble_eq_true rfl, Nat.le_of_ble_eq_true rfl⟩) hK hX rfl hl.1 rfl (Nat.le_of_ble_eq_true rfl) dX8_needsVisa_3 ⟨Nat.zero_le _, Nat.zero_le _⟩ (fun H locs hX => ?_)
  refine lv_if_ne (tgt := 22) hx hb dX8_needsVisa_6 (by decide) (fun c3 => ?_) (fun c3 => ?_)
  · replace h := mneg c3 h
    exact w_C_Court_needsVisa_22 C h hX (lv_sub hl [0] rfl)
  · replace h := mpos c3 h
    refine lv_aload_n hx hb dX8_needsVisa_9 rfl (lv_at hl 0 rfl) ?_
    refine lv_aload_n hx hb dX8_needsVisa_10 rfl (lv_at hl 1 rfl) ?_
    refine lv_aload_n hx hb dX8_needsVisa_11 rfl (lv_at hl 2 rfl) ?_
    obtain ⟨r4, er4, h⟩ := mbind h
    refine cg_callV (As := [.ref (ad 5 i1), .ref (ad 4 i2)]) (rest := []) ⟨hx, hb, hml, hown, hts⟩ 0 0 rfl (ci := 9) rfl rfl (cC_Court_isFreeOfVisas l D yI yO z0 ad er4) (cwV 2 hts gX8_needsVisa_X8_isFreeOfVisas rfl rfl rfl (by decide +kernel) ⟨Nat.le_of_ble_eq_true rfl, Nat.le_of_ble_eq_true rfl⟩) hK hX rfl hl.1 rfl (Nat.le_of_ble_eq_true rfl) dX8_needsVisa_12 ⟨Nat.zero_le _, Nat.zero_le _⟩ (fun H locs hX => ?_)
    refine lv_if_ne (tgt := 22) hx hb dX8_needsVisa_15 (by decide) (fun c5 => ?_) (fun c5 => ?_)
    · replace h := mneg c5 h
      exact w_C_Court_needsVisa_22 C h hX (lv_sub hl [0] rfl)
    · replace h := mpos c5 h
      refine lv_iconst (v := 1) hx hb dX8_needsVisa_18 (by decide) ?_
      refine lv_goto (tgt := 23) hx hb dX8_needsVisa_19 (by decide) ?_
      exact w_C_Court_needsVisa_23 C h hX (lv_sub hl [0] rfl)
set_option maxRecDepth 20000 in
theorem cC_Court_needsVisa (l : Launch) (D : va_G) (yI yO : ClassId) (z0 : Nat) (ad : Nat → Nat → Nat) {g : CS} {rz : Int32} {i1 : Nat} {i2 : Nat} (h : fC_Court_needsVisa g i1 i2 = some rz) : Met l yX8_needsVisa wsX8_needsVisa (mR 4 88) (va_Pc [.ref (ad 0 0), .ref (ad 5 i1), .ref (ad 4 i2)] (cPre D yI yO z0 ad g)) (cQ D yI yO z0 ad rz g (cF ad g)) 0 0 (cF ad g) := by
  refine Met.ofW (cc := cX8_needsVisa) (maxL := 3) (ret := (some .boolean)) (by decide) rfl ?_
  intro p e s m args below meth c s₁ B hml hv
  obtain ⟨hv0, hw, hK⟩ := hv
  have hv1 : args = [.ref (ad 0 0), .ref (ad 5 i1), .ref (ad 4 i2)].toArray := hv0
  subst hv1
  have C : cC p s m _ meth c cX8_needsVisa RX8 (some .boolean) wsX8_needsVisa 3 D yI yO := ⟨B.exec, B.bytes, B.returns, atoms_spec (ws := wsX8_needsVisa) B.pre, findClass_of_methodNamed B.named, B.notSynchronized, hml, hK⟩
  have hl := lv_entry ([.ref (ad 0 0), .ref (ad 5 i1), .ref (ad 4 i2)]) (n := 3) (Nat.le_of_ble_eq_true rfl)
  rw [lg_entry_eq]
  generalize (lg_sl ([.ref (ad 0 0), .ref (ad 5 i1), .ref (ad 4 i2)]) ++ List.replicate (3 - (lg_sl ([.ref (ad 0 0), .ref (ad 5 i1), .ref (ad 4 i2)])).length) Slot.unset).toArray = ls at hl ⊢
  have hl : lv_has ls 3 [(0, .ref (ad 0 0)), (1, .ref (ad 5 i1)), (2, .ref (ad 4 i2))] := hl
  exact w_C_Court_needsVisa_0 C h ⟨hw, fun k i hi => ⟨k, i, hi, rfl⟩, va_S.rf⟩ hl
end GC3
