section GM1
variable {p : Program} {l : Launch} {e : Env} {s : State} {m : MethodId} {args : Array Value} {below : List Frame} {meth : Method} {c : Code} {D : va_G} {yI yO : ClassId} {z0 : Nat} {ad : Nat → Nat → Nat} {A : Nat → Prop}
theorem iC_Court_addPerson_X3 : ∀ w ∈ wsX30, w ∈ wsX8_addPerson := by decide +kernel
theorem iC_Court_addPerson_X8 : ∀ w ∈ wsX80, w ∈ wsX8_addPerson := by decide +kernel
def fC_Court_addPerson (g : CS) (x1 : Int32) (x2 : Int32) (x3 : Int32) (x4 : Int32) : Option (Nat ⊕ CS) :=
  some (.inr (gnew g 1 (LPer (nI (sN g 1)) x1 x3 x4 x2)))
set_option maxRecDepth 20000 in
theorem w_C_Court_addPerson_0 (C : cC p s m args meth c cX8_addPerson RX8 (some (.object "PassageCourt$Person")) wsX8_addPerson 6 D yI yO) (hys : yS z0 A s s.heap) (hA : ∀ q, s.heap.size ≤ q → A q) {gz : CS} {g : CS} {x1 : Int32} {x2 : Int32} {x3 : Int32} {x4 : Int32} (h : fC_Court_addPerson g x1 x2 x3 x4 = some (.inr gz)) {H : Heap} {locs : List Loc} {ls : Array Slot} (hX : cX D yI yO z0 ad g A s H locs) (hI : yOK g) (hl : lv_has ls 6 [(0, .ref (ad 0 0)), (1, .int x1), (2, .int x2), (3, .int x3), (4, .int x4)]) : W p l e (nR 7 201) s m args below meth c H locs 0 0 (MQ below (cQNq D yI yO z0 ad (sN g 1) g gz A) args s 20 7700 A) (F0 m 0 ls []) := by
  obtain ⟨hx, hb, hr, hts, hown, hlocks, hml, hK⟩ := id C
  unfold fC_Court_addPerson at h
  cases h
  refine ng_new hx hb hts (by decide +kernel : ∀ w ∈ u_ws RX3 TX3 13, w ∈ wsX8_addPerson) tyX3 tyX3_ok hown (hts (.classLink RX8 102 RX3) (by decide +kernel)) (hts (.instantiable RX3 13) (by decide +kernel)) (hts (.initialized RX3) (by decide +kernel)) hK (nX_of hX) hA (ci := 4) (fs := [.int 0, .int 0, .int 0, .int 0, .null, .null, .null, .null, .int 0, .null, .null, .int 0, .int 0]) rfl (fun j hj => by rcases (show j = 0 ∨ j = 1 ∨ j = 2 ∨ j = 3 ∨ j = 4 ∨ j = 5 ∨ j = 6 ∨ j = 7 ∨ j = 8 ∨ j = 9 ∨ j = 10 ∨ j = 11 ∨ j = 12 by omega) with rfl | rfl | rfl | rfl | rfl | rfl | rfl | rfl | rfl | rfl | rfl | rfl | rfl <;> rfl) (Nat.le_of_ble_eq_true rfl) (Nat.le_of_ble_eq_true rfl) dX8_addPerson_0 (fun v H hN => ?_)
  have hN : nX D yI yO z0 ad g A s H locs [(v, .inr (4, [.int 0, .int 0, .int 0, .int 0, .null, .null, .null, .null, .int 0, .null, .null, .int 0, .int 0]))] := hN
  have hX := hN.1
  refine lv_dup hx hb dX8_addPerson_3 rfl ?_
  refine lv_aload_n hx hb dX8_addPerson_4 rfl (lv_at hl 0 rfl) ?_
  refine cg_get hx hb hts iC_Court_addPerson_X8 hown hK hX 0 0 rfl rfl rfl 1 (by decide) (hts (.fieldLink RX8 16 "PassageCourt" "persons" "Ljava/util/ArrayList;") (by decide +kernel)) (fun _ h9 => h9) rfl dX8_addPerson_5 ?_
  refine ng_callV (As := []) (rest := [.ref v, .ref v]) ⟨hx, hb, hml, hown, hts⟩ 1 1 rfl (ci := 0) rfl rfl (cC_List_size l D yI yO z0 ad g 1 (by decide)) (cwV 0 hts gX8_addPerson_Jx4a65c_size_8abf5 rfl rfl rfl (by decide +kernel) ⟨Nat.le_of_ble_eq_true rfl, Nat.le_of_ble_eq_true rfl⟩) hK hN rfl hl.1 rfl (Nat.le_of_ble_eq_true rfl) dX8_addPerson_8 ⟨Nat.le_of_ble_eq_true rfl, Nat.le_of_ble_eq_true rfl⟩ (fun H locs hN => ?_)
  have hX := hN.1
  refine lv_iload_n hx hb dX8_addPerson_11 rfl (lv_at hl 1 rfl) ?_
  refine lv_iload_n hx hb dX8_addPerson_12 rfl (lv_at hl 3 rfl) ?_
  refine lv_iload hx hb dX8_addPerson_13 (lv_at hl 4 rfl) ?_
  refine ng_init (ws1 := fun u => [(v, .inr (4, [.int (nI (sN g 1)), .int x1, .int x3, .int x4, .ref (u 0), .ref (u 2), .ref (u 4), .ref (u 11), .int 0, .null, .null, .int 0, .int 0])), (u 0, .inr (6, [.ref (u 1), .int 0])), (u 1, .inl (yI, 3601, .inl (kfill 3601 0))), (u 2, .inr (6, [.ref (u 3), .int 0])), (u 3, .inl (yI, 3601, .inl (kfill 3601 0))), (u 4, .inr (1, [.ref (u 5), .ref (u 7), .ref (u 9)])), (u 5, .inr (6, [.ref (u 6), .int ((-1))])), (u 6, .inl (yI, 8, .inl (kfill 8 ((-1))))), (u 7, .inr (6, [.ref (u 8), .int ((-1))])), (u 8, .inl (yI, 8, .inl (kfill 8 ((-1))))), (u 9, .inr (6, [.ref (u 10), .int ((-1))])), (u 10, .inl (yI, 8, .inl (kfill 8 ((-1))))), (u 11, .inr (3, [.ref (u 12), .ref (u 14)])), (u 12, .inr (6, [.ref (u 13), .int ((-1))])), (u 13, .inl (yI, 8, .inl (kfill 8 ((-1))))), (u 14, .inr (6, [.ref (u 15), .int ((-1))])), (u 15, .inl (yI, 8, .inl (kfill 8 ((-1)))))]) (As := [.int (nI (sN g 1)), .int x1, .int x3, .int x4]) (rest := [.ref v]) ⟨hx, hb, hml, hown, hts⟩ (cK_X3 l D yI yO v H.size (nI (sN g 1)) x1 x3 x4) (cwI 4 hts gX8_addPerson_X3_init rfl rfl rfl (hts (.initialized RX3) (by decide +kernel)) (hts (.methodLink RX8 363 yX3_init) (by decide +kernel)) (hts (.instanceMethod yX3_init) (by decide +kernel)) rfl (by decide +kernel) ⟨Nat.le_of_ble_eq_true rfl, Nat.le_of_ble_eq_true rfl⟩) hys.2 hK hN hA rfl hl.1 rfl (Nat.le_of_ble_eq_true rfl) dX8_addPerson_15 ⟨Nat.le_of_ble_eq_true rfl, Nat.le_of_ble_eq_true rfl⟩ (fun u H locs hN => ?_)
  have hN : nX D yI yO z0 ad g A s H locs [(v, .inr (4, [.int (nI (sN g 1)), .int x1, .int x3, .int x4, .ref (u 0), .ref (u 2), .ref (u 4), .ref (u 11), .int 0, .null, .null, .int 0, .int 0])), (u 0, .inr (6, [.ref (u 1), .int 0])), (u 1, .inl (yI, 3601, .inl (kfill 3601 0))), (u 2, .inr (6, [.ref (u 3), .int 0])), (u 3, .inl (yI, 3601, .inl (kfill 3601 0))), (u 4, .inr (1, [.ref (u 5), .ref (u 7), .ref (u 9)])), (u 5, .inr (6, [.ref (u 6), .int ((-1))])), (u 6, .inl (yI, 8, .inl (kfill 8 ((-1))))), (u 7, .inr (6, [.ref (u 8), .int ((-1))])), (u 8, .inl (yI, 8, .inl (kfill 8 ((-1))))), (u 9, .inr (6, [.ref (u 10), .int ((-1))])), (u 10, .inl (yI, 8, .inl (kfill 8 ((-1))))), (u 11, .inr (3, [.ref (u 12), .ref (u 14)])), (u 12, .inr (6, [.ref (u 13), .int ((-1))])), (u 13, .inl (yI, 8, .inl (kfill 8 ((-1))))), (u 14, .inr (6, [.ref (u 15), .int ((-1))])), (u 15, .inl (yI, 8, .inl (kfill 8 ((-1)))))] := hN
  have hX := hN.1
  refine lv_astore (lv' := [(5, .ref v), (0, .ref (ad 0 0)), (1, .int x1), (2, .int x2), (3, .int x3), (4, .int x4)]) hx hb dX8_addPerson_18 hl (by decide) rfl (fun ls hl => ?_)
  refine lv_aload hx hb dX8_addPerson_20 (lv_at hl 0 rfl) ?_
  refine lv_iload_n hx hb dX8_addPerson_22 rfl (lv_at hl 3 rfl) ?_
  refine ng_put hx hb hts iC_Court_addPerson_X3 tyX3 tyX3_ok nmX3 hown hK hN 0 rfl rfl 8 (by decide) (hts (.fieldLink RX8 124 "PassageCourt$Person" "nations" "I") (by decide +kernel)) (fun _ h9 => h9) rfl (by decide +kernel) rfl rfl (ty := .int) (Nat.le_of_ble_eq_true rfl) dX8_addPerson_23 (fun H locs hN => ?_)
  have hN : nX D yI yO z0 ad g A s H locs [(v, .inr (4, [.int (nI (sN g 1)), .int x1, .int x3, .int x4, .ref (u 0), .ref (u 2), .ref (u 4), .ref (u 11), .int x2, .null, .null, .int 0, .int 0])), (u 0, .inr (6, [.ref (u 1), .int 0])), (u 1, .inl (yI, 3601, .inl (kfill 3601 0))), (u 2, .inr (6, [.ref (u 3), .int 0])), (u 3, .inl (yI, 3601, .inl (kfill 3601 0))), (u 4, .inr (1, [.ref (u 5), .ref (u 7), .ref (u 9)])), (u 5, .inr (6, [.ref (u 6), .int ((-1))])), (u 6, .inl (yI, 8, .inl (kfill 8 ((-1))))), (u 7, .inr (6, [.ref (u 8), .int ((-1))])), (u 8, .inl (yI, 8, .inl (kfill 8 ((-1))))), (u 9, .inr (6, [.ref (u 10), .int ((-1))])), (u 10, .inl (yI, 8, .inl (kfill 8 ((-1))))), (u 11, .inr (3, [.ref (u 12), .ref (u 14)])), (u 12, .inr (6, [.ref (u 13), .int ((-1))])), (u 13, .inl (yI, 8, .inl (kfill 8 ((-1))))), (u 14, .inr (6, [.ref (u 15), .int ((-1))])), (u 15, .inl (yI, 8, .inl (kfill 8 ((-1)))))] := hN
  have hX := hN.1
  refine lv_aload_n hx hb dX8_addPerson_26 rfl (lv_at hl 1 rfl) ?_
  refine cg_get hx hb hts iC_Court_addPerson_X8 hown hK hX 0 0 rfl rfl rfl 1 (by decide) (hts (.fieldLink RX8 16 "PassageCourt" "persons" "Ljava/util/ArrayList;") (by decide +kernel)) (fun _ h9 => h9) rfl dX8_addPerson_27 ?_
  refine lv_aload hx hb dX8_addPerson_30 (lv_at hl 0 rfl) ?_
  refine ng_addR (j := 1) (rest := []) (i0 := 0) ⟨hx, hb, hml, hown, hts⟩ (by decide) rfl (by decide) rfl (cwV 1 hts gX8_addPerson_Jx4a65c_add_9ea2d rfl rfl rfl (by decide +kernel) ⟨Nat.le_of_ble_eq_true rfl, Nat.le_of_ble_eq_true rfl⟩) hys.1 hK hN hA rfl (hI.2 1 (by decide)) hl.1 rfl (Nat.le_of_ble_eq_true rfl) dX8_addPerson_32 ⟨Nat.le_of_ble_eq_true rfl, Nat.le_of_ble_eq_true rfl⟩ (fun a2 H1 locs1 hR => ?_)
  have hX := cX_new (by decide) hI.1 hN hA (i0 := 0) rfl ixPer (naPer v u) (LPer (nI (sN g 1)) x1 x3 x4 x2) rfl (fun a2 k hk => nwPer yI yO ad g v u (nI (sN g 1)) x1 x3 x4 x2 a2 k hk) ixPer_inj hR
  have hext := aext_new ad g a2 (naPer v u) (j := 1) (by decide)
  have ev : v = anew ad g 1 a2 (naPer v u) 5 (lix 1 (sN g 1)) := (anew_new ad a2 (naPer v u) (by decide) (k := 5) (by decide)).symm
  have hlv : clvb (gnew g 1 (LPer (nI (sN g 1)) x1 x3 x4 x2)) 5 (lix 1 (sN g 1)) = true := (clvb_new g (by decide) _ 5 _).mpr (Or.inr (Or.inl ⟨by decide, rfl⟩))
  generalize anew ad g 1 a2 (naPer v u) = ad1 at hX hext ev
  clear hN hR
  generalize H1 = H at hX ⊢
  generalize locs1 = locs at hX ⊢
  refine lv_pop hx hb dX8_addPerson_35 rfl ?_
  refine lv_aload hx hb dX8_addPerson_36 (lv_at hl 0 rfl) ?_
  refine W.eq (g2 := F0 m 38 ls [.ref (ad1 5 ((lix 1 (sN g 1))))]) (by rw [ev]) ?_
  refine W.widen (k := 20) (n := 7700) (Nat.le_of_ble_eq_true rfl) (Nat.le_of_ble_eq_true rfl) ?_
  exact W.aret (v := .ref (ad1 5 (sN g 1))) hx hb hr (Or.inl ⟨_, rfl⟩) (Or.inr ⟨_, rfl⟩) (fun t ht hW => ⟨⟨some (ad1 5 (sN g 1)), ad1, rfl, rfl, hext, by rw [ht]; exact hX.1, va_K.moved hW.alike hK, hX.2.1⟩, hX.2.2.F ht⟩) hX.2.2.2.2 dX8_addPerson_38 hlocks
theorem nt_C_Court_addPerson_0 {g : CS} {x1 : Int32} {x2 : Int32} {x3 : Int32} {x4 : Int32} : ntp (fC_Court_addPerson g x1 x2 x3 x4) := by
  unfold fC_Court_addPerson
  repeat' first | exact ntp_inr _ | exact ntp_none | refine ntp_bind (fun _ => ?_) | refine ntp_cb2 (fun _ _ => ?_) | refine ntp_om ?_ (fun _ => ?_) | refine ntp_ite ?_ ?_
set_option maxRecDepth 20000 in
theorem cC_Court_addPerson (l : Launch) (D : va_G) (yI yO : ClassId) (z0 : Nat) (ad : Nat → Nat → Nat) {g gz : CS} {x1 : Int32} {x2 : Int32} {x3 : Int32} {x4 : Int32} (sz : Nat) (hI : yOK g) (h : fC_Court_addPerson g x1 x2 x3 x4 = some (.inr gz)) : Met l yX8_addPerson wsX8_addPerson (nR 7 201) (va_Pc [.ref (ad 0 0), .int x1, .int x2, .int x3, .int x4] (yPre D yI yO z0 ad g sz)) (cQNq D yI yO z0 ad (sN g 1) g gz (cA ad g sz)) 20 7700 (cA ad g sz) := by
  refine Met.ofW (cc := cX8_addPerson) (maxL := 6) (ret := (some (.object "PassageCourt$Person"))) (by decide) rfl ?_
  intro p e s m args below meth c s₁ B hml hv
  obtain ⟨hv0, ⟨hw, hK⟩, hsz, hys⟩ := hv
  subst hsz
  have hv1 : args = [.ref (ad 0 0), .int x1, .int x2, .int x3, .int x4].toArray := hv0
  subst hv1
  have C : cC p s m _ meth c cX8_addPerson RX8 (some (.object "PassageCourt$Person")) wsX8_addPerson 6 D yI yO := ⟨B.exec, B.bytes, B.returns, atoms_spec (ws := wsX8_addPerson) B.pre, findClass_of_methodNamed B.named, B.notSynchronized, hml, hK⟩
  have hl := lv_entry ([.ref (ad 0 0), .int x1, .int x2, .int x3, .int x4]) (n := 6) (Nat.le_of_ble_eq_true rfl)
  rw [lg_entry_eq]
  generalize (lg_sl ([.ref (ad 0 0), .int x1, .int x2, .int x3, .int x4]) ++ List.replicate (6 - (lg_sl ([.ref (ad 0 0), .int x1, .int x2, .int x3, .int x4])).length) Slot.unset).toArray = ls at hl ⊢
  have hl : lv_has ls 6 [(0, .ref (ad 0 0)), (1, .int x1), (2, .int x2), (3, .int x3), (4, .int x4)] := hl
  exact w_C_Court_addPerson_0 C hys (fun q h => Or.inr h) h ⟨hw, fun k i hi => Or.inl ⟨k, i, hi, rfl⟩, va_S.rf⟩ hI hl
theorem nt_addPerson {g : CS} {x1 x2 x3 x4 : Int32} : ntp (fC_Court_addPerson g x1 x2 x3 x4) := by
  unfold fC_Court_addPerson
  repeat' first | exact ntp_inr _ | exact ntp_none | refine ntp_bind (fun _ => ?_)
theorem yg_callVq {R : Room} {H : Heap} {locs : List Loc} {cells slots : Nat} {Q : State → Prop} {cc : ByteArray} {pc : Nat} {ls : Array Slot} {rest : List Value} {g : CS} {y : MethodName} {bytes : ByteArray} {maxL nL n index i mc ms : Nat} {ret : Option FieldType} {wsm : List Cond} {rm : Room} {Ts : List Cond} {As : List Value} {g1 : CS} {st0 : List Value}
    (S : CallFix p m c cc nL s args Ts RX8) (hM : Met l y wsm rm (va_Pc (.ref (ad 0 0) :: As) (yPre D yI yO z0 ad g H.size)) (cQNq D yI yO z0 ad i g g1 (cA ad g H.size)) mc ms (cA ad g H.size)) (cw0 : CallW R s args RX8 RX8 index y bytes maxL ret wsm rm mc ms n) (hys : yS z0 A s s.heap) (hK : cK D yI yO s) (hX : cX D yI yO z0 ad g A s H locs) (hA : ∀ q, s.heap.size ≤ q → A q)
    (hn : As.length = n) (hsize : ls.size = nL) (hstack : st0 = As.reverse ++ .ref (ad 0 0) :: rest) (hW : (rest.map fun v => v.category).sum ≤ 8) (hdg : decode cc pc = .ok (.invokevirtual index, 3)) (hf : cells + mc ≤ R.cells ∧ slots + ms ≤ R.slots)
    (kk : ∀ (ad1 : Nat → Nat → Nat) (H1 : Heap) (locs1 : List Loc), aext ad ad1 g → cX D yI yO z0 ad1 g1 A s H1 locs1 → W p l e R s m args below meth c H1 locs1 (cells + mc) (slots + ms) Q (F0 m (pc + 3) ls (.ref (ad1 5 i) :: rest))) : W p l e R s m args below meth c H locs cells slots Q (F0 m pc ls st0) := by
  subst hstack
  have hFc : ∀ q, cA ad g H.size q → A q := by
    rintro q (h | h)
    · exact cF_sub hX q h
    · exact hA q (Nat.le_trans hX.2.2.1 h)
  refine va_callq (va_runV (As := As) (rest := rest) S hM cw0 ⟨yPre_blind D yI yO z0 ad g _ _, va_recv hK (cw_lv hX.1 (k := 0) (i := 0) rfl rfl) (q0 := 0) (ci := 9) rfl rfl, fun U hU hW => ⟨rfl, ⟨by rw [hU]; exact hX.1, va_K.moved hW.alike hK⟩, by rw [hU], by rw [hU]; exact ((hys.1.kept hX.2.2.2.1).narrow hFc).moved hW, hys.2.moved hW⟩⟩ rfl hn hsize rfl (lv_room (pc := pc) (ls := ls) (rest := []) (m := m) hW) hdg hf) hX.2.2 (fun q _ h => hFc q h) hFc (fun r ad1 t H1 locs1 ht hvm hp hB _ _ hS => ?_)
  subst hp
  exact kk ad1 H1 locs1 hB.1 (cX_kept ht hB.2 hFc hS)
theorem iC_Court_person_X3 : ∀ w ∈ wsX30, w ∈ wsX8_person := by decide +kernel
theorem iC_Court_person_X8 : ∀ w ∈ wsX80, w ∈ wsX8_person := by decide +kernel
theorem eC_Court_person_45 : ∀ w ∈ (vx_atS RX8 45 "java/lang/IllegalArgumentException" ["java/lang/RuntimeException", "java/lang/Exception"]).filter goodWord, w ∈ wsX8_person := by decide +kernel
def fC_Court_person_28 (g : CS) : Option (Nat ⊕ (Int32 × CS)) :=
  some (.inl 1)
set_option maxRecDepth 20000 in
theorem w_C_Court_person_28 (C : cC p s m args meth c cX8_person RX8 (some .int) wsX8_person 4 D yI yO) (hys : yS z0 A s s.heap) (hA : ∀ q, s.heap.size ≤ q → A q) {gz : CS} {rz : Int32} {g : CS} (h : fC_Court_person_28 g = some (.inr (rz, gz))) {H : Heap} {locs : List Loc} {ls : Array Slot} (hX : cX D yI yO z0 ad g A s H locs) (hI : yOK g) (hl : lv_has ls 4 [(0, .ref (ad 0 0))]) : W p l e (nR 8 226) s m args below meth c H locs 0 0 (MQ below (cQN D yI yO z0 ad rz g gz A) args s 20 7700 A) (F0 m 28 ls []) := by
  obtain ⟨hx, hb, hr, hts, hown, hlocks, hml, hK⟩ := id C
  unfold fC_Court_person_28 at h
  cases h
set_option maxRecDepth 20000 in
theorem w_X_Court_person_28 (C : cC p s m args meth c cX8_person RX8 (some .int) wsX8_person 4 D yI yO) {Qc : Array Value → State → Outcome → State → Prop} (hlf : l.stackTraces = false) (ht : ∀ x ∈ c.exceptionTable.toList, False) (hxs : xS A s s.heap) (hA : ∀ q, s.heap.size ≤ q → A q) {ez : Nat} {g : CS} (h : fC_Court_person_28 g = some (.inl ez)) {H : Heap} {locs : List Loc} {ls : Array Slot} (hX : cX D yI yO z0 ad g A s H locs) (hl : lv_has ls 4 [(0, .ref (ad 0 0))]) : W p l e (xR 8 226) s m args below meth c H locs 0 0 (vx_MQ below Qc (xXC D yI yO z0 ad g ez A) args s 1 6 A) (F0 m 28 ls []) := by
  obtain ⟨hx, hb, hr, hts, hown, hlocks, hml, hK⟩ := id C
  unfold fC_Court_person_28 at h
  cases h
  obtain ⟨sa, hsa⟩ := hxs.2.2.1 (92, "age is out of range") (by decide +kernel)
  exact vx_throwS hx hb hlf (own := RX8) (cls := "java/lang/IllegalArgumentException") (text := "age is out of range") (names := ["java/lang/RuntimeException", "java/lang/Exception"]) (A := A) hown (by decide +kernel) (by decide +kernel) (hts (.classLink RX8 41 "java/lang/IllegalArgumentException") (by decide +kernel)) (hts (.initialized "java/lang/IllegalArgumentException") (by decide +kernel)) hsa (vx_hat (fun w hw => hts w (eC_Court_person_45 w hw)) (B := xB) (by decide +kernel) (fun w hw => va_Nw.use (xB_on w hw) (hxs.2.2.2 w hw))) (by decide +kernel) hxs.1 hxs.2.1 hX.2.2 (hl.1.trans hml.symm) dX8_person_28 dX8_person_31 dX8_person_32 dX8_person_34 dX8_person_37 (fun x hx => (ht x hx).elim) (Nat.le_of_ble_eq_true rfl) (Nat.le_of_ble_eq_true rfl) (Nat.le_of_ble_eq_true rfl) (Nat.le_of_ble_eq_true rfl) hlocks (fun t a1 a2 a3 => xX_post rfl hK hX t a1 a2 a3) hX.2.2.2.2 (Nat.le_refl _) (Nat.le_refl _)
def fC_Court_person_17 (g : CS) (x2 : Int32) (xs0 : Int32) : Option (Nat ⊕ (Int32 × CS)) :=
  if x2 < 0 then
    fC_Court_person_28 g
  else
    if x2 ≤ 99 then
      xb (fC_Court_refuseMorePersons g) fun _ =>
      xb (fC_Court_addPerson g ((sI g 0 0 6) - (x2 * 360)) xs0 ((-1)) ((-1))) fun g4 =>
      (ck g4 5 ((sN g 1))).bind fun _ =>
      some (.inr (sI g4 5 ((sN g 1)) 0, g4))
    else
      fC_Court_person_28 g
set_option maxRecDepth 20000 in
theorem w_C_Court_person_17 (C : cC p s m args meth c cX8_person RX8 (some .int) wsX8_person 4 D yI yO) (hys : yS z0 A s s.heap) (hA : ∀ q, s.heap.size ≤ q → A q) {gz : CS} {rz : Int32} {g : CS} {x2 : Int32} {xs0 : Int32} (h : fC_Court_person_17 g x2 xs0 = some (.inr (rz, gz))) {H : Heap} {locs : List Loc} {ls : Array Slot} (hX : cX D yI yO z0 ad g A s H locs) (hI : yOK g) (hl : lv_has ls 4 [(0, .ref (ad 0 0)), (2, .int x2)]) : W p l e (nR 8 226) s m args below meth c H locs 0 0 (MQ below (cQN D yI yO z0 ad rz g gz A) args s 20 7700 A) (F0 m 17 ls [.int xs0]) := by
  obtain ⟨hx, hb, hr, hts, hown, hlocks, hml, hK⟩ := id C
  unfold fC_Court_person_17 at h
  refine lv_istore_n (lv' := [(3, .int xs0), (0, .ref (ad 0 0)), (2, .int x2)]) hx hb dX8_person_17 rfl hl (by decide) rfl (fun ls hl => ?_)
  refine lv_iload_n hx hb dX8_person_18 rfl (lv_at hl 2 rfl) ?_
  refine lv_if_lt (tgt := 28) hx hb dX8_person_19 (by decide) (fun c1 => ?_) (fun c1 => ?_)
  · replace h := mpos c1 h
    exact w_C_Court_person_28 C hys hA h hX hI (lv_sub hl [1] rfl)
  · replace h := mneg c1 h
    refine lv_iload_n hx hb dX8_person_22 rfl (lv_at hl 2 rfl) ?_
    refine lv_bipush (v := 99) hx hb dX8_person_23 (by decide) ?_
    refine lv_icmp_le (tgt := 38) hx hb dX8_person_25 (by decide) (fun c2 => ?_) (fun c2 => ?_)
    · replace h := mpos c2 h
      refine lv_aload_n hx hb dX8_person_38 rfl (lv_at hl 1 rfl) ?_
      obtain ⟨_, et3, h⟩ := xb_ret h
      refine cg_callVv (As := []) (rest := []) ⟨hx, hb, hml, hown, hts⟩ 0 0 rfl (ci := 9) rfl rfl (cC_Court_refuseMorePersons l D yI yO z0 ad et3) (cwV 0 hts gX8_person_X8_refuseMorePersons rfl rfl rfl (by decide +kernel) ⟨Nat.le_of_ble_eq_true rfl, Nat.le_of_ble_eq_true rfl⟩) hK hX rfl hl.1 rfl (Nat.le_of_ble_eq_true rfl) dX8_person_39 ⟨Nat.zero_le _, Nat.zero_le _⟩ (fun H locs hX => ?_)
      refine lv_aload_n hx hb dX8_person_42 rfl (lv_at hl 1 rfl) ?_
      refine lv_aload_n hx hb dX8_person_43 rfl (lv_at hl 1 rfl) ?_
      refine cg_get hx hb hts iC_Court_person_X8 hown hK hX 0 0 rfl rfl rfl 6 (by decide) (hts (.fieldLink RX8 37 "PassageCourt" "today" "I") (by decide +kernel)) (fun _ h9 => h9) rfl dX8_person_44 ?_
      refine lv_iload_n hx hb dX8_person_47 rfl (lv_at hl 2 rfl) ?_
      refine lv_sipush (v := 360) hx hb dX8_person_48 (by decide) ?_
      refine lv_imul hx hb dX8_person_51 ?_
      refine lv_isub hx hb dX8_person_52 ?_
      refine lv_iload_n hx hb dX8_person_53 rfl (lv_at hl 0 rfl) ?_
      refine lv_iconst (v := -1) hx hb dX8_person_54 (by decide) ?_
      refine lv_iconst (v := -1) hx hb dX8_person_55 (by decide) ?_
      obtain ⟨g4, eg4, h⟩ := xb_ret h
      obtain ⟨_, hv5, h⟩ := mbind h
      replace hv5 := ck_spec hv5
      cases h
      refine yg_callVq (As := [.int ((sI g 0 0 6) - (x2 * 360)), .int xs0, .int ((-1)), .int ((-1))]) (rest := []) ⟨hx, hb, hml, hown, hts⟩ (cC_Court_addPerson l D yI yO z0 ad H.size hI eg4) (cwV 4 hts gX8_person_X8_addPerson rfl rfl rfl (by decide +kernel) ⟨Nat.le_of_ble_eq_true rfl, Nat.le_of_ble_eq_true rfl⟩) hys hK hX hA rfl hl.1 rfl (Nat.le_of_ble_eq_true rfl) dX8_person_56 ⟨Nat.le_of_ble_eq_true rfl, Nat.le_of_ble_eq_true rfl⟩ (fun ad1 H locs hext hX => ?_)
      refine cg_get hx hb hts iC_Court_person_X3 hown hK hX 5 ((sN g 1)) hv5 rfl rfl 0 (by decide) (hts (.fieldLink RX8 101 "PassageCourt$Person" "number" "I") (by decide +kernel)) (fun _ h9 => h9) rfl dX8_person_59 ?_
      refine W.widen (k := 20) (n := 7700) (Nat.le_of_ble_eq_true rfl) (Nat.le_of_ble_eq_true rfl) ?_
      exact W.iret hx hb hr (fun t ht hW => ⟨⟨_, ad1, rfl, rfl, hext, by rw [ht]; exact hX.1, va_K.moved hW.alike hK, hX.2.1⟩, hX.2.2.F ht⟩) hX.2.2.2.2 dX8_person_62 hlocks
    · replace h := mneg c2 h
      exact w_C_Court_person_28 C hys hA h hX hI (lv_sub hl [1] rfl)
set_option maxRecDepth 20000 in
theorem w_X_Court_person_17 (C : cC p s m args meth c cX8_person RX8 (some .int) wsX8_person 4 D yI yO) {Qc : Array Value → State → Outcome → State → Prop} (hlf : l.stackTraces = false) (ht : ∀ x ∈ c.exceptionTable.toList, False) (hxs : xS A s s.heap) (hA : ∀ q, s.heap.size ≤ q → A q) {ez : Nat} {g : CS} {x2 : Int32} {xs0 : Int32} (h : fC_Court_person_17 g x2 xs0 = some (.inl ez)) {H : Heap} {locs : List Loc} {ls : Array Slot} (hX : cX D yI yO z0 ad g A s H locs) (hl : lv_has ls 4 [(0, .ref (ad 0 0)), (2, .int x2)]) : W p l e (xR 8 226) s m args below meth c H locs 0 0 (vx_MQ below Qc (xXC D yI yO z0 ad g ez A) args s 1 6 A) (F0 m 17 ls [.int xs0]) := by
  obtain ⟨hx, hb, hr, hts, hown, hlocks, hml, hK⟩ := id C
  unfold fC_Court_person_17 at h
  refine lv_istore_n (lv' := [(3, .int xs0), (0, .ref (ad 0 0)), (2, .int x2)]) hx hb dX8_person_17 rfl hl (by decide) rfl (fun ls hl => ?_)
  refine lv_iload_n hx hb dX8_person_18 rfl (lv_at hl 2 rfl) ?_
  refine lv_if_lt (tgt := 28) hx hb dX8_person_19 (by decide) (fun c1 => ?_) (fun c1 => ?_)
  · replace h := mpos c1 h
    exact w_X_Court_person_28 C hlf ht hxs hA h hX (lv_sub hl [1] rfl)
  · replace h := mneg c1 h
    refine lv_iload_n hx hb dX8_person_22 rfl (lv_at hl 2 rfl) ?_
    refine lv_bipush (v := 99) hx hb dX8_person_23 (by decide) ?_
    refine lv_icmp_le (tgt := 38) hx hb dX8_person_25 (by decide) (fun c2 => ?_) (fun c2 => ?_)
    · replace h := mpos c2 h
      refine lv_aload_n hx hb dX8_person_38 rfl (lv_at hl 1 rfl) ?_
      rcases xb_thr h with et3 | ⟨_, et3, h⟩
      · exact xg_callV (As := []) (rest := []) ⟨hx, hb, hml, hown, hts⟩ 0 0 rfl (ci := 9) rfl rfl (cX_Court_refuseMorePersons l hlf D yI yO z0 ad H.size et3) (cwV 0 hts gX8_person_X8_refuseMorePersons rfl rfl rfl (by decide +kernel) ⟨Nat.le_of_ble_eq_true rfl, Nat.le_of_ble_eq_true rfl⟩) hK hX hA hxs ht hlocks rfl hl.1 rfl (Nat.le_of_ble_eq_true rfl) dX8_person_39 ⟨Nat.le_refl _, Nat.le_refl _⟩
      refine cg_callVv (As := []) (rest := []) ⟨hx, hb, hml, hown, hts⟩ 0 0 rfl (ci := 9) rfl rfl (cC_Court_refuseMorePersons l D yI yO z0 ad et3) (cwV 0 hts gX8_person_X8_refuseMorePersons rfl rfl rfl (by decide +kernel) ⟨Nat.le_of_ble_eq_true rfl, Nat.le_of_ble_eq_true rfl⟩) hK hX rfl hl.1 rfl (Nat.le_of_ble_eq_true rfl) dX8_person_39 ⟨Nat.zero_le _, Nat.zero_le _⟩ (fun H locs hX => ?_)
      refine lv_aload_n hx hb dX8_person_42 rfl (lv_at hl 1 rfl) ?_
      refine lv_aload_n hx hb dX8_person_43 rfl (lv_at hl 1 rfl) ?_
      refine cg_get hx hb hts iC_Court_person_X8 hown hK hX 0 0 rfl rfl rfl 6 (by decide) (hts (.fieldLink RX8 37 "PassageCourt" "today" "I") (by decide +kernel)) (fun _ h9 => h9) rfl dX8_person_44 ?_
      refine lv_iload_n hx hb dX8_person_47 rfl (lv_at hl 2 rfl) ?_
      refine lv_sipush (v := 360) hx hb dX8_person_48 (by decide) ?_
      refine lv_imul hx hb dX8_person_51 ?_
      refine lv_isub hx hb dX8_person_52 ?_
      refine lv_iload_n hx hb dX8_person_53 rfl (lv_at hl 0 rfl) ?_
      refine lv_iconst (v := -1) hx hb dX8_person_54 (by decide) ?_
      refine lv_iconst (v := -1) hx hb dX8_person_55 (by decide) ?_
      rcases xb_thr h with eg4 | ⟨g4, eg4, h⟩
      · exact (nt_addPerson _ eg4).elim
      obtain ⟨_, hv5, h⟩ := mbind h
      replace hv5 := ck_spec hv5
      cases h
    · replace h := mneg c2 h
      exact w_X_Court_person_28 C hlf ht hxs hA h hX (lv_sub hl [1] rfl)
def fC_Court_person (g : CS) (x1 : Int32) (x2 : Int32) : Option (Nat ⊕ (Int32 × CS)) :=
  if x1 = ((-1)) then
    fC_Court_person_17 g x2 0
  else
    xb (fC_Court_landAt g x1) fun v2 =>
    (ck g 4 v2).bind fun _ =>
    (fC_Land_bit v2 g).bind fun r5 =>
    fC_Court_person_17 g x2 r5
set_option maxRecDepth 20000 in
theorem w_C_Court_person_0 (C : cC p s m args meth c cX8_person RX8 (some .int) wsX8_person 4 D yI yO) (hys : yS z0 A s s.heap) (hA : ∀ q, s.heap.size ≤ q → A q) {gz : CS} {rz : Int32} {g : CS} {x1 : Int32} {x2 : Int32} (h : fC_Court_person g x1 x2 = some (.inr (rz, gz))) {H : Heap} {locs : List Loc} {ls : Array Slot} (hX : cX D yI yO z0 ad g A s H locs) (hI : yOK g) (hl : lv_has ls 4 [(0, .ref (ad 0 0)), (1, .int x1), (2, .int x2)]) : W p l e (nR 8 226) s m args below meth c H locs 0 0 (MQ below (cQN D yI yO z0 ad rz g gz A) args s 20 7700 A) (F0 m 0 ls []) := by
  obtain ⟨hx, hb, hr, hts, hown, hlocks, hml, hK⟩ := id C
  unfold fC_Court_person at h
  refine lv_iload_n hx hb dX8_person_0 rfl (lv_at hl 1 rfl) ?_
  refine lv_iconst (v := -1) hx hb dX8_person_1 (by decide) ?_
  refine lv_icmp_ne (tgt := 9) hx hb dX8_person_2 (by decide) (fun c1 => ?_) (fun c1 => ?_)
  · replace h := mneg c1 h
    refine lv_aload_n hx hb dX8_person_9 rfl (lv_at hl 0 rfl) ?_
    refine lv_iload_n hx hb dX8_person_10 rfl (lv_at hl 1 rfl) ?_
    obtain ⟨v2, et3, h⟩ := xb_ret h
    refine cg_callVq (As := [.int x1]) (rest := []) ⟨hx, hb, hml, hown, hts⟩ 0 0 rfl (ci := 9) rfl rfl (cC_Court_landAt l D yI yO z0 ad et3) (cwV 1 hts gX8_person_X8_landAt rfl rfl rfl (by decide +kernel) ⟨Nat.le_of_ble_eq_true rfl, Nat.le_of_ble_eq_true rfl⟩) hK hX rfl hl.1 rfl (Nat.le_of_ble_eq_true rfl) dX8_person_11 ⟨Nat.zero_le _, Nat.zero_le _⟩ (fun H locs hX => ?_)
    refine W.eq (g2 := F0 m 14 ls [.ref (ad 4 v2)]) rfl ?_
    obtain ⟨_, hv4, h⟩ := mbind h
    replace hv4 := ck_spec hv4
    obtain ⟨r5, er5, h⟩ := mbind h
    refine cg_callV (As := []) (rest := []) ⟨hx, hb, hml, hown, hts⟩ 4 v2 hv4 (ci := 2) rfl rfl (cC_Land_bit l D yI yO z0 ad er5) (cwV 0 hts gX8_person_X1_bit rfl rfl rfl (by decide +kernel) ⟨Nat.le_of_ble_eq_true rfl, Nat.le_of_ble_eq_true rfl⟩) hK hX rfl hl.1 rfl (Nat.le_of_ble_eq_true rfl) dX8_person_14 ⟨Nat.zero_le _, Nat.zero_le _⟩ (fun H locs hX => ?_)
    exact w_C_Court_person_17 C hys hA h hX hI (lv_sub hl [0, 2] rfl)
  · replace h := mpos c1 h
    refine lv_iconst (v := 0) hx hb dX8_person_5 (by decide) ?_
    refine lv_goto (tgt := 17) hx hb dX8_person_6 (by decide) ?_
    exact w_C_Court_person_17 C hys hA h hX hI (lv_sub hl [0, 2] rfl)
set_option maxRecDepth 20000 in
theorem w_X_Court_person_0 (C : cC p s m args meth c cX8_person RX8 (some .int) wsX8_person 4 D yI yO) {Qc : Array Value → State → Outcome → State → Prop} (hlf : l.stackTraces = false) (ht : ∀ x ∈ c.exceptionTable.toList, False) (hxs : xS A s s.heap) (hA : ∀ q, s.heap.size ≤ q → A q) {ez : Nat} {g : CS} {x1 : Int32} {x2 : Int32} (h : fC_Court_person g x1 x2 = some (.inl ez)) {H : Heap} {locs : List Loc} {ls : Array Slot} (hX : cX D yI yO z0 ad g A s H locs) (hl : lv_has ls 4 [(0, .ref (ad 0 0)), (1, .int x1), (2, .int x2)]) : W p l e (xR 8 226) s m args below meth c H locs 0 0 (vx_MQ below Qc (xXC D yI yO z0 ad g ez A) args s 1 6 A) (F0 m 0 ls []) := by
  obtain ⟨hx, hb, hr, hts, hown, hlocks, hml, hK⟩ := id C
  unfold fC_Court_person at h
  refine lv_iload_n hx hb dX8_person_0 rfl (lv_at hl 1 rfl) ?_
  refine lv_iconst (v := -1) hx hb dX8_person_1 (by decide) ?_
  refine lv_icmp_ne (tgt := 9) hx hb dX8_person_2 (by decide) (fun c1 => ?_) (fun c1 => ?_)
  · replace h := mneg c1 h
    refine lv_aload_n hx hb dX8_person_9 rfl (lv_at hl 0 rfl) ?_
    refine lv_iload_n hx hb dX8_person_10 rfl (lv_at hl 1 rfl) ?_
    rcases xb_thr h with et3 | ⟨v2, et3, h⟩
    · exact xg_callV (As := [.int x1]) (rest := []) ⟨hx, hb, hml, hown, hts⟩ 0 0 rfl (ci := 9) rfl rfl (cX_Court_landAt l hlf D yI yO z0 ad H.size et3) (cwV 1 hts gX8_person_X8_landAt rfl rfl rfl (by decide +kernel) ⟨Nat.le_of_ble_eq_true rfl, Nat.le_of_ble_eq_true rfl⟩) hK hX hA hxs ht hlocks rfl hl.1 rfl (Nat.le_of_ble_eq_true rfl) dX8_person_11 ⟨Nat.le_refl _, Nat.le_refl _⟩
    refine cg_callVq (As := [.int x1]) (rest := []) ⟨hx, hb, hml, hown, hts⟩ 0 0 rfl (ci := 9) rfl rfl (cC_Court_landAt l D yI yO z0 ad et3) (cwV 1 hts gX8_person_X8_landAt rfl rfl rfl (by decide +kernel) ⟨Nat.le_of_ble_eq_true rfl, Nat.le_of_ble_eq_true rfl⟩) hK hX rfl hl.1 rfl (Nat.le_of_ble_eq_true rfl) dX8_person_11 ⟨Nat.zero_le _, Nat.zero_le _⟩ (fun H locs hX => ?_)
    refine W.eq (g2 := F0 m 14 ls [.ref (ad 4 v2)]) rfl ?_
    obtain ⟨_, hv4, h⟩ := mbind h
    replace hv4 := ck_spec hv4
    obtain ⟨r5, er5, h⟩ := mbind h
    refine cg_callV (As := []) (rest := []) ⟨hx, hb, hml, hown, hts⟩ 4 v2 hv4 (ci := 2) rfl rfl (cC_Land_bit l D yI yO z0 ad er5) (cwV 0 hts gX8_person_X1_bit rfl rfl rfl (by decide +kernel) ⟨Nat.le_of_ble_eq_true rfl, Nat.le_of_ble_eq_true rfl⟩) hK hX rfl hl.1 rfl (Nat.le_of_ble_eq_true rfl) dX8_person_14 ⟨Nat.zero_le _, Nat.zero_le _⟩ (fun H locs hX => ?_)
    exact w_X_Court_person_17 C hlf ht hxs hA h hX (lv_sub hl [0, 2] rfl)
  · replace h := mpos c1 h
    refine lv_iconst (v := 0) hx hb dX8_person_5 (by decide) ?_
    refine lv_goto (tgt := 17) hx hb dX8_person_6 (by decide) ?_
    exact w_X_Court_person_17 C hlf ht hxs hA h hX (lv_sub hl [0, 2] rfl)
set_option maxRecDepth 20000 in
theorem cC_Court_person (l : Launch) (D : va_G) (yI yO : ClassId) (z0 : Nat) (ad : Nat → Nat → Nat) {g gz : CS} {rz : Int32} {x1 : Int32} {x2 : Int32} (sz : Nat) (hI : yOK g) (h : fC_Court_person g x1 x2 = some (.inr (rz, gz))) : Met l yX8_person wsX8_person (nR 8 226) (va_Pc [.ref (ad 0 0), .int x1, .int x2] (yPre D yI yO z0 ad g sz)) (cQN D yI yO z0 ad rz g gz (cA ad g sz)) 20 7700 (cA ad g sz) := by
  refine Met.ofW (cc := cX8_person) (maxL := 4) (ret := (some .int)) (by decide) rfl ?_
  intro p e s m args below meth c s₁ B hml hv
  obtain ⟨hv0, ⟨hw, hK⟩, hsz, hys⟩ := hv
  subst hsz
  have hv1 : args = [.ref (ad 0 0), .int x1, .int x2].toArray := hv0
  subst hv1
  have C : cC p s m _ meth c cX8_person RX8 (some .int) wsX8_person 4 D yI yO := ⟨B.exec, B.bytes, B.returns, atoms_spec (ws := wsX8_person) B.pre, findClass_of_methodNamed B.named, B.notSynchronized, hml, hK⟩
  have hl := lv_entry ([.ref (ad 0 0), .int x1, .int x2]) (n := 4) (Nat.le_of_ble_eq_true rfl)
  rw [lg_entry_eq]
  generalize (lg_sl ([.ref (ad 0 0), .int x1, .int x2]) ++ List.replicate (4 - (lg_sl ([.ref (ad 0 0), .int x1, .int x2])).length) Slot.unset).toArray = ls at hl ⊢
  have hl : lv_has ls 4 [(0, .ref (ad 0 0)), (1, .int x1), (2, .int x2)] := hl
  exact w_C_Court_person_0 C hys (fun q h => Or.inr h) h ⟨hw, fun k i hi => Or.inl ⟨k, i, hi, rfl⟩, va_S.rf⟩ hI hl
set_option maxRecDepth 20000 in
theorem cX_Court_person (l : Launch) (hlf : l.stackTraces = false) (D : va_G) (yI yO : ClassId) (z0 : Nat) (ad : Nat → Nat → Nat) {g : CS} {ez : Nat} {x1 : Int32} {x2 : Int32} (sz : Nat) (h : fC_Court_person g x1 x2 = some (.inl ez)) : vx_Met l yX8_person wsX8_person (xR 8 226) (va_Pc [.ref (ad 0 0), .int x1, .int x2] (xPre D yI yO z0 ad g sz)) (xQ (cA ad g sz)) (xXC D yI yO z0 ad g ez (cA ad g sz)) 1 6 (cA ad g sz) := by
  refine vx_ofW (cc := cX8_person) (maxL := 4) (ret := (some .int)) (by decide) rfl ?_
  intro p e s m args below meth c s₁ B hml ht hv
  obtain ⟨hv0, ⟨hw, hK⟩, hsz, hxs⟩ := hv
  subst hsz
  have hv1 : args = [.ref (ad 0 0), .int x1, .int x2].toArray := hv0
  subst hv1
  have C : cC p s m _ meth c cX8_person RX8 (some .int) wsX8_person 4 D yI yO := ⟨B.exec, B.bytes, B.returns, atoms_spec (ws := wsX8_person) B.pre, findClass_of_methodNamed B.named, B.notSynchronized, hml, hK⟩
  have hl := lv_entry ([.ref (ad 0 0), .int x1, .int x2]) (n := 4) (Nat.le_of_ble_eq_true rfl)
  rw [lg_entry_eq]
  generalize (lg_sl ([.ref (ad 0 0), .int x1, .int x2]) ++ List.replicate (4 - (lg_sl ([.ref (ad 0 0), .int x1, .int x2])).length) Slot.unset).toArray = ls at hl ⊢
  have hl : lv_has ls 4 [(0, .ref (ad 0 0)), (1, .int x1), (2, .int x2)] := hl
  exact w_X_Court_person_0 C hlf ht hxs (fun q h => Or.inr h) h ⟨hw, fun k i hi => Or.inl ⟨k, i, hi, rfl⟩, va_S.rf⟩ hl
theorem iC_Court_birth_X3 : ∀ w ∈ wsX30, w ∈ wsX8_birth := by decide +kernel
theorem iC_Court_birth_X8 : ∀ w ∈ wsX80, w ∈ wsX8_birth := by decide +kernel
theorem eC_Court_birth_45 : ∀ w ∈ (vx_atS RX8 45 "java/lang/IllegalArgumentException" ["java/lang/RuntimeException", "java/lang/Exception"]).filter goodWord, w ∈ wsX8_birth := by decide +kernel
theorem eC_Court_birth_56 : ∀ w ∈ (vx_atS RX8 56 "java/lang/IllegalStateException" ["java/lang/RuntimeException", "java/lang/Exception"]).filter goodWord, w ∈ wsX8_birth := by decide +kernel
def fC_Court_birth_20 (g : CS) (x1 : Int32) (x2 : Int32) (i3 : Nat) (os0 : Option Nat) : Option (Nat ⊕ (Int32 × CS)) :=
  om os0 (
    if x1 = x2 then
      some (.inl 1)
    else
      (ck g 5 i3).bind fun _ =>
      om (sJ g 5 i3 9) (
        some (.inl 2))
        fun v5 =>
        xb (fC_Court_refuseMorePersons g) fun _ =>
        (fC_Court_nationsAtBirth g i3 none v5).bind fun r7 =>
        xb (fC_Court_addPerson g (sI g 0 0 6) r7 x1 x2) fun g8 =>
        (ck g 4 v5).bind fun _ =>
        (fC_Court_arrive g8 ((sN g 1)) v5 none 0).bind fun g10 =>
        (ck g10 5 ((sN g 1))).bind fun _ =>
        some (.inr (sI g10 5 ((sN g 1)) 0, g10)))
    fun v1 =>
    if x1 = x2 then
      some (.inl 1)
    else
      (ck g 5 i3).bind fun _ =>
      om (sJ g 5 i3 9) (
        some (.inl 2))
        fun v15 =>
        xb (fC_Court_refuseMorePersons g) fun _ =>
        (fC_Court_nationsAtBirth g i3 (some v1) v15).bind fun r17 =>
        xb (fC_Court_addPerson g (sI g 0 0 6) r17 x1 x2) fun g18 =>
        (ck g 4 v15).bind fun _ =>
        (fC_Court_arrive g18 ((sN g 1)) v15 none 0).bind fun g20 =>
        (ck g20 5 ((sN g 1))).bind fun _ =>
        some (.inr (sI g20 5 ((sN g 1)) 0, g20))
set_option maxRecDepth 20000 in
theorem w_C_Court_birth_20 (C : cC p s m args meth c cX8_birth RX8 (some .int) wsX8_birth 7 D yI yO) (hys : yS z0 A s s.heap) (hA : ∀ q, s.heap.size ≤ q → A q) {gz : CS} {rz : Int32} {g : CS} {x1 : Int32} {x2 : Int32} {i3 : Nat} {os0 : Option Nat} (h : fC_Court_birth_20 g x1 x2 i3 os0 = some (.inr (rz, gz))) {H : Heap} {locs : List Loc} {ls : Array Slot} (hX : cX D yI yO z0 ad g A s H locs) (hI : yOK g) (hl : lv_has ls 7 [(0, .ref (ad 0 0)), (1, .int x1), (2, .int x2), (3, .ref (ad 5 i3))]) : W p l e (nR 8 226) s m args below meth c H locs 0 0 (MQ below (cQN D yI yO z0 ad rz g gz A) args s 20 7700 A) (F0 m 20 ls [va_rf (os0.map (ad 5))]) := by
  obtain ⟨hx, hb, hr, hts, hown, hlocks, hml, hK⟩ := id C
  unfold fC_Court_birth_20 at h
  rcases os0 with _ | v1
  · replace h := om_n rfl h
    refine lv_astoreN (lv' := [(4, .null), (0, .ref (ad 0 0)), (1, .int x1), (2, .int x2), (3, .ref (ad 5 i3))]) hx hb dX8_birth_20 hl (by decide) rfl (fun ls hl => ?_)
    refine lv_iload_n hx hb dX8_birth_22 rfl (lv_at hl 2 rfl) ?_
    refine lv_iload_n hx hb dX8_birth_23 rfl (lv_at hl 3 rfl) ?_
    refine lv_icmp_ne (tgt := 37) hx hb dX8_birth_24 (by decide) (fun c2 => ?_) (fun c2 => ?_)
    · replace h := mneg c2 h
      refine lv_aload_n hx hb dX8_birth_37 rfl (lv_at hl 4 rfl) ?_
      obtain ⟨_, hv3, h⟩ := mbind h
      replace hv3 := ck_spec hv3
      rcases ho4 : sJ g 5 i3 9 with _ | v5
      · replace h := om_n ho4 h
        refine cg_get hx hb hts iC_Court_birth_X3 hown hK hX 5 i3 hv3 rfl rfl 9 (by decide) (hts (.fieldLink RX8 110 "PassageCourt$Person" "there" "LPassageCourt$Land;") (by decide +kernel)) (fun _ h9 => h9) (v := .null) (by rw [ho4]; rfl) dX8_birth_38 ?_
        refine lv_astoreN (lv' := [(5, .null), (4, .null), (0, .ref (ad 0 0)), (1, .int x1), (2, .int x2), (3, .ref (ad 5 i3))]) hx hb dX8_birth_41 hl (by decide) rfl (fun ls hl => ?_)
        refine lv_aloadN hx hb dX8_birth_43 (lv_at hl 0 rfl) ?_
        refine lv_ifnonnullN hx hb dX8_birth_45 ?_
        cases h
      · replace h := om_s ho4 h
        refine cg_get hx hb hts iC_Court_birth_X3 hown hK hX 5 i3 hv3 rfl rfl 9 (by decide) (hts (.fieldLink RX8 110 "PassageCourt$Person" "there" "LPassageCourt$Land;") (by decide +kernel)) (fun _ h9 => h9) (v := .ref (ad 4 v5)) (by rw [ho4]; rfl) dX8_birth_38 ?_
        refine lv_astore (lv' := [(5, .ref (ad 4 v5)), (4, .null), (0, .ref (ad 0 0)), (1, .int x1), (2, .int x2), (3, .ref (ad 5 i3))]) hx hb dX8_birth_41 hl (by decide) rfl (fun ls hl => ?_)
        refine lv_aload hx hb dX8_birth_43 (lv_at hl 0 rfl) ?_
        refine lv_ifnonnull (tgt := 58) hx hb dX8_birth_45 (by decide) ?_
        refine lv_aload_n hx hb dX8_birth_58 rfl (lv_at hl 2 rfl) ?_
        obtain ⟨_, et6, h⟩ := xb_ret h
        refine cg_callVv (As := []) (rest := []) ⟨hx, hb, hml, hown, hts⟩ 0 0 rfl (ci := 9) rfl rfl (cC_Court_refuseMorePersons l D yI yO z0 ad et6) (cwV 0 hts gX8_birth_X8_refuseMorePersons rfl rfl rfl (by decide +kernel) ⟨Nat.le_of_ble_eq_true rfl, Nat.le_of_ble_eq_true rfl⟩) hK hX rfl hl.1 rfl (Nat.le_of_ble_eq_true rfl) dX8_birth_59 ⟨Nat.zero_le _, Nat.zero_le _⟩ (fun H locs hX => ?_)
        refine lv_aload_n hx hb dX8_birth_62 rfl (lv_at hl 2 rfl) ?_
        refine lv_aload_n hx hb dX8_birth_63 rfl (lv_at hl 2 rfl) ?_
        refine cg_get hx hb hts iC_Court_birth_X8 hown hK hX 0 0 rfl rfl rfl 6 (by decide) (hts (.fieldLink RX8 37 "PassageCourt" "today" "I") (by decide +kernel)) (fun _ h9 => h9) rfl dX8_birth_64 ?_
        refine lv_aload_n hx hb dX8_birth_67 rfl (lv_at hl 2 rfl) ?_
        refine lv_aload_n hx hb dX8_birth_68 rfl (lv_at hl 5 rfl) ?_
        refine lv_aloadN hx hb dX8_birth_69 (lv_at hl 1 rfl) ?_
        refine lv_aload hx hb dX8_birth_71 (lv_at hl 0 rfl) ?_
        obtain ⟨r7, er7, h⟩ := mbind h
        refine cg_callV (As := [.ref (ad 5 i3), .null, .ref (ad 4 v5)]) (rest := [.int (sI g 0 0 6), .ref (ad 0 0)]) ⟨hx, hb, hml, hown, hts⟩ 0 0 rfl (ci := 9) rfl rfl (cC_Court_nationsAtBirth l D yI yO z0 ad er7) (cwV 3 hts gX8_birth_X8_nationsAtBirth rfl rfl rfl (by decide +kernel) ⟨Nat.le_of_ble_eq_true rfl, Nat.le_of_ble_eq_true rfl⟩) hK hX rfl hl.1 rfl (Nat.le_of_ble_eq_true rfl) dX8_birth_73 ⟨Nat.zero_le _, Nat.zero_le _⟩ (fun H locs hX => ?_)
        refine lv_iload_n hx hb dX8_birth_76 rfl (lv_at hl 3 rfl) ?_
        refine lv_iload_n hx hb dX8_birth_77 rfl (lv_at hl 4 rfl) ?_
        obtain ⟨g8, eg8, h⟩ := xb_ret h
        obtain ⟨_, hv9, h⟩ := mbind h
        replace hv9 := ck_spec hv9
        obtain ⟨g10, eg10, h⟩ := mbind h
        obtain ⟨_, hv11, h⟩ := mbind h
        replace hv11 := ck_spec hv11
        cases h
        refine yg_callVq (As := [.int (sI g 0 0 6), .int r7, .int x1, .int x2]) (rest := []) ⟨hx, hb, hml, hown, hts⟩ (cC_Court_addPerson l D yI yO z0 ad H.size hI eg8) (cwV 4 hts gX8_birth_X8_addPerson rfl rfl rfl (by decide +kernel) ⟨Nat.le_of_ble_eq_true rfl, Nat.le_of_ble_eq_true rfl⟩) hys hK hX hA rfl hl.1 rfl (Nat.le_of_ble_eq_true rfl) dX8_birth_78 ⟨Nat.le_of_ble_eq_true rfl, Nat.le_of_ble_eq_true rfl⟩ (fun ad1 H locs hext hX => ?_)
        refine lv_astore (lv' := [(6, .ref (ad1 5 ((sN g 1)))), (5, .ref (ad 4 v5)), (4, .null), (0, .ref (ad 0 0)), (1, .int x1), (2, .int x2), (3, .ref (ad 5 i3))]) hx hb dX8_birth_81 hl (by decide) rfl (fun ls hl => ?_)
        refine lv_aload_n hx hb dX8_birth_83 rfl (lv_at hl 3 rfl) ?_
        refine W.eq (g2 := F0 m 84 ls [.ref (ad1 0 0)]) (by rw [hext 0 0 rfl (by decide)]) ?_
        refine lv_aload hx hb dX8_birth_84 (lv_at hl 0 rfl) ?_
        refine lv_aload hx hb dX8_birth_86 (lv_at hl 1 rfl) ?_
        refine W.eq (g2 := F0 m 88 ls [.ref (ad1 4 v5), .ref (ad1 5 ((sN g 1))), .ref (ad1 0 0)]) (by rw [hext 4 v5 hv9 (by decide)]) ?_
        refine lv_null hx hb dX8_birth_88 ?_
        refine lv_iconst (v := 0) hx hb dX8_birth_89 (by decide) ?_
        refine cg_callVv (As := [.ref (ad1 5 ((sN g 1))), .ref (ad1 4 v5), .null, .int 0]) (rest := []) ⟨hx, hb, hml, hown, hts⟩ 0 0 rfl (ci := 9) rfl rfl (cC_Court_arrive l D yI yO z0 ad1 eg10) (cwV 4 hts gX8_birth_X8_arrive rfl rfl rfl (by decide +kernel) ⟨Nat.le_of_ble_eq_true rfl, Nat.le_of_ble_eq_true rfl⟩) hK hX rfl hl.1 rfl (Nat.le_of_ble_eq_true rfl) dX8_birth_90 ⟨Nat.le_of_ble_eq_true rfl, Nat.le_of_ble_eq_true rfl⟩ (fun H locs hX => ?_)
        refine lv_aload hx hb dX8_birth_93 (lv_at hl 0 rfl) ?_
        refine cg_get hx hb hts iC_Court_birth_X3 hown hK hX 5 ((sN g 1)) hv11 rfl rfl 0 (by decide) (hts (.fieldLink RX8 101 "PassageCourt$Person" "number" "I") (by decide +kernel)) (fun _ h9 => h9) rfl dX8_birth_95 ?_
        refine W.widen (k := 20) (n := 7700) (Nat.le_of_ble_eq_true rfl) (Nat.le_of_ble_eq_true rfl) ?_
        exact W.iret hx hb hr (fun t ht hW => ⟨⟨_, ad1, rfl, rfl, hext, by rw [ht]; exact hX.1, va_K.moved hW.alike hK, hX.2.1⟩, hX.2.2.F ht⟩) hX.2.2.2.2 dX8_birth_98 hlocks
    · replace h := mpos c2 h
      cases h
  · replace h := om_s rfl h
    refine lv_astore (lv' := [(4, .ref (ad 5 v1)), (0, .ref (ad 0 0)), (1, .int x1), (2, .int x2), (3, .ref (ad 5 i3))]) hx hb dX8_birth_20 hl (by decide) rfl (fun ls hl => ?_)
    refine lv_iload_n hx hb dX8_birth_22 rfl (lv_at hl 2 rfl) ?_
    refine lv_iload_n hx hb dX8_birth_23 rfl (lv_at hl 3 rfl) ?_
    refine lv_icmp_ne (tgt := 37) hx hb dX8_birth_24 (by decide) (fun c12 => ?_) (fun c12 => ?_)
    · replace h := mneg c12 h
      refine lv_aload_n hx hb dX8_birth_37 rfl (lv_at hl 4 rfl) ?_
      obtain ⟨_, hv13, h⟩ := mbind h
      replace hv13 := ck_spec hv13
      rcases ho14 : sJ g 5 i3 9 with _ | v15
      · replace h := om_n ho14 h
        refine cg_get hx hb hts iC_Court_birth_X3 hown hK hX 5 i3 hv13 rfl rfl 9 (by decide) (hts (.fieldLink RX8 110 "PassageCourt$Person" "there" "LPassageCourt$Land;") (by decide +kernel)) (fun _ h9 => h9) (v := .null) (by rw [ho14]; rfl) dX8_birth_38 ?_
        refine lv_astoreN (lv' := [(5, .null), (4, .ref (ad 5 v1)), (0, .ref (ad 0 0)), (1, .int x1), (2, .int x2), (3, .ref (ad 5 i3))]) hx hb dX8_birth_41 hl (by decide) rfl (fun ls hl => ?_)
        refine lv_aloadN hx hb dX8_birth_43 (lv_at hl 0 rfl) ?_
        refine lv_ifnonnullN hx hb dX8_birth_45 ?_
        cases h
      · replace h := om_s ho14 h
        refine cg_get hx hb hts iC_Court_birth_X3 hown hK hX 5 i3 hv13 rfl rfl 9 (by decide) (hts (.fieldLink RX8 110 "PassageCourt$Person" "there" "LPassageCourt$Land;") (by decide +kernel)) (fun _ h9 => h9) (v := .ref (ad 4 v15)) (by rw [ho14]; rfl) dX8_birth_38 ?_
        refine lv_astore (lv' := [(5, .ref (ad 4 v15)), (4, .ref (ad 5 v1)), (0, .ref (ad 0 0)), (1, .int x1), (2, .int x2), (3, .ref (ad 5 i3))]) hx hb dX8_birth_41 hl (by decide) rfl (fun ls hl => ?_)
        refine lv_aload hx hb dX8_birth_43 (lv_at hl 0 rfl) ?_
        refine lv_ifnonnull (tgt := 58) hx hb dX8_birth_45 (by decide) ?_
        refine lv_aload_n hx hb dX8_birth_58 rfl (lv_at hl 2 rfl) ?_
        obtain ⟨_, et16, h⟩ := xb_ret h
        refine cg_callVv (As := []) (rest := []) ⟨hx, hb, hml, hown, hts⟩ 0 0 rfl (ci := 9) rfl rfl (cC_Court_refuseMorePersons l D yI yO z0 ad et16) (cwV 0 hts gX8_birth_X8_refuseMorePersons rfl rfl rfl (by decide +kernel) ⟨Nat.le_of_ble_eq_true rfl, Nat.le_of_ble_eq_true rfl⟩) hK hX rfl hl.1 rfl (Nat.le_of_ble_eq_true rfl) dX8_birth_59 ⟨Nat.zero_le _, Nat.zero_le _⟩ (fun H locs hX => ?_)
        refine lv_aload_n hx hb dX8_birth_62 rfl (lv_at hl 2 rfl) ?_
        refine lv_aload_n hx hb dX8_birth_63 rfl (lv_at hl 2 rfl) ?_
        refine cg_get hx hb hts iC_Court_birth_X8 hown hK hX 0 0 rfl rfl rfl 6 (by decide) (hts (.fieldLink RX8 37 "PassageCourt" "today" "I") (by decide +kernel)) (fun _ h9 => h9) rfl dX8_birth_64 ?_
        refine lv_aload_n hx hb dX8_birth_67 rfl (lv_at hl 2 rfl) ?_
        refine lv_aload_n hx hb dX8_birth_68 rfl (lv_at hl 5 rfl) ?_
        refine lv_aload hx hb dX8_birth_69 (lv_at hl 1 rfl) ?_
        refine lv_aload hx hb dX8_birth_71 (lv_at hl 0 rfl) ?_
        obtain ⟨r17, er17, h⟩ := mbind h
        refine cg_callV (As := [.ref (ad 5 i3), .ref (ad 5 v1), .ref (ad 4 v15)]) (rest := [.int (sI g 0 0 6), .ref (ad 0 0)]) ⟨hx, hb, hml, hown, hts⟩ 0 0 rfl (ci := 9) rfl rfl (cC_Court_nationsAtBirth l D yI yO z0 ad er17) (cwV 3 hts gX8_birth_X8_nationsAtBirth rfl rfl rfl (by decide +kernel) ⟨Nat.le_of_ble_eq_true rfl, Nat.le_of_ble_eq_true rfl⟩) hK hX rfl hl.1 rfl (Nat.le_of_ble_eq_true rfl) dX8_birth_73 ⟨Nat.zero_le _, Nat.zero_le _⟩ (fun H locs hX => ?_)
        refine lv_iload_n hx hb dX8_birth_76 rfl (lv_at hl 3 rfl) ?_
        refine lv_iload_n hx hb dX8_birth_77 rfl (lv_at hl 4 rfl) ?_
        obtain ⟨g18, eg18, h⟩ := xb_ret h
        obtain ⟨_, hv19, h⟩ := mbind h
        replace hv19 := ck_spec hv19
        obtain ⟨g20, eg20, h⟩ := mbind h
        obtain ⟨_, hv21, h⟩ := mbind h
        replace hv21 := ck_spec hv21
        cases h
        refine yg_callVq (As := [.int (sI g 0 0 6), .int r17, .int x1, .int x2]) (rest := []) ⟨hx, hb, hml, hown, hts⟩ (cC_Court_addPerson l D yI yO z0 ad H.size hI eg18) (cwV 4 hts gX8_birth_X8_addPerson rfl rfl rfl (by decide +kernel) ⟨Nat.le_of_ble_eq_true rfl, Nat.le_of_ble_eq_true rfl⟩) hys hK hX hA rfl hl.1 rfl (Nat.le_of_ble_eq_true rfl) dX8_birth_78 ⟨Nat.le_of_ble_eq_true rfl, Nat.le_of_ble_eq_true rfl⟩ (fun ad1 H locs hext hX => ?_)
        refine lv_astore (lv' := [(6, .ref (ad1 5 ((sN g 1)))), (5, .ref (ad 4 v15)), (4, .ref (ad 5 v1)), (0, .ref (ad 0 0)), (1, .int x1), (2, .int x2), (3, .ref (ad 5 i3))]) hx hb dX8_birth_81 hl (by decide) rfl (fun ls hl => ?_)
        refine lv_aload_n hx hb dX8_birth_83 rfl (lv_at hl 3 rfl) ?_
        refine W.eq (g2 := F0 m 84 ls [.ref (ad1 0 0)]) (by rw [hext 0 0 rfl (by decide)]) ?_
        refine lv_aload hx hb dX8_birth_84 (lv_at hl 0 rfl) ?_
        refine lv_aload hx hb dX8_birth_86 (lv_at hl 1 rfl) ?_
        refine W.eq (g2 := F0 m 88 ls [.ref (ad1 4 v15), .ref (ad1 5 ((sN g 1))), .ref (ad1 0 0)]) (by rw [hext 4 v15 hv19 (by decide)]) ?_
        refine lv_null hx hb dX8_birth_88 ?_
        refine lv_iconst (v := 0) hx hb dX8_birth_89 (by decide) ?_
        refine cg_callVv (As := [.ref (ad1 5 ((sN g 1))), .ref (ad1 4 v15), .null, .int 0]) (rest := []) ⟨hx, hb, hml, hown, hts⟩ 0 0 rfl (ci := 9) rfl rfl (cC_Court_arrive l D yI yO z0 ad1 eg20) (cwV 4 hts gX8_birth_X8_arrive rfl rfl rfl (by decide +kernel) ⟨Nat.le_of_ble_eq_true rfl, Nat.le_of_ble_eq_true rfl⟩) hK hX rfl hl.1 rfl (Nat.le_of_ble_eq_true rfl) dX8_birth_90 ⟨Nat.le_of_ble_eq_true rfl, Nat.le_of_ble_eq_true rfl⟩ (fun H locs hX => ?_)
        refine lv_aload hx hb dX8_birth_93 (lv_at hl 0 rfl) ?_
        refine cg_get hx hb hts iC_Court_birth_X3 hown hK hX 5 ((sN g 1)) hv21 rfl rfl 0 (by decide) (hts (.fieldLink RX8 101 "PassageCourt$Person" "number" "I") (by decide +kernel)) (fun _ h9 => h9) rfl dX8_birth_95 ?_
        refine W.widen (k := 20) (n := 7700) (Nat.le_of_ble_eq_true rfl) (Nat.le_of_ble_eq_true rfl) ?_
        exact W.iret hx hb hr (fun t ht hW => ⟨⟨_, ad1, rfl, rfl, hext, by rw [ht]; exact hX.1, va_K.moved hW.alike hK, hX.2.1⟩, hX.2.2.F ht⟩) hX.2.2.2.2 dX8_birth_98 hlocks
    · replace h := mpos c12 h
      cases h
set_option maxRecDepth 20000 in
theorem w_X_Court_birth_20 (C : cC p s m args meth c cX8_birth RX8 (some .int) wsX8_birth 7 D yI yO) {Qc : Array Value → State → Outcome → State → Prop} (hlf : l.stackTraces = false) (ht : ∀ x ∈ c.exceptionTable.toList, False) (hxs : xS A s s.heap) (hA : ∀ q, s.heap.size ≤ q → A q) {ez : Nat} {g : CS} {x1 : Int32} {x2 : Int32} {i3 : Nat} {os0 : Option Nat} (h : fC_Court_birth_20 g x1 x2 i3 os0 = some (.inl ez)) {H : Heap} {locs : List Loc} {ls : Array Slot} (hX : cX D yI yO z0 ad g A s H locs) (hl : lv_has ls 7 [(0, .ref (ad 0 0)), (1, .int x1), (2, .int x2), (3, .ref (ad 5 i3))]) : W p l e (xR 8 226) s m args below meth c H locs 0 0 (vx_MQ below Qc (xXC D yI yO z0 ad g ez A) args s 1 6 A) (F0 m 20 ls [va_rf (os0.map (ad 5))]) := by
  obtain ⟨hx, hb, hr, hts, hown, hlocks, hml, hK⟩ := id C
  unfold fC_Court_birth_20 at h
  rcases os0 with _ | v1
  · replace h := om_n rfl h
    refine lv_astoreN (lv' := [(4, .null), (0, .ref (ad 0 0)), (1, .int x1), (2, .int x2), (3, .ref (ad 5 i3))]) hx hb dX8_birth_20 hl (by decide) rfl (fun ls hl => ?_)
    refine lv_iload_n hx hb dX8_birth_22 rfl (lv_at hl 2 rfl) ?_
    refine lv_iload_n hx hb dX8_birth_23 rfl (lv_at hl 3 rfl) ?_
    refine lv_icmp_ne (tgt := 37) hx hb dX8_birth_24 (by decide) (fun c2 => ?_) (fun c2 => ?_)
    · replace h := mneg c2 h
      refine lv_aload_n hx hb dX8_birth_37 rfl (lv_at hl 4 rfl) ?_
      obtain ⟨_, hv3, h⟩ := mbind h
      replace hv3 := ck_spec hv3
      rcases ho4 : sJ g 5 i3 9 with _ | v5
      · replace h := om_n ho4 h
        refine cg_get hx hb hts iC_Court_birth_X3 hown hK hX 5 i3 hv3 rfl rfl 9 (by decide) (hts (.fieldLink RX8 110 "PassageCourt$Person" "there" "LPassageCourt$Land;") (by decide +kernel)) (fun _ h9 => h9) (v := .null) (by rw [ho4]; rfl) dX8_birth_38 ?_
        refine lv_astoreN (lv' := [(5, .null), (4, .null), (0, .ref (ad 0 0)), (1, .int x1), (2, .int x2), (3, .ref (ad 5 i3))]) hx hb dX8_birth_41 hl (by decide) rfl (fun ls hl => ?_)
        refine lv_aloadN hx hb dX8_birth_43 (lv_at hl 0 rfl) ?_
        refine lv_ifnonnullN hx hb dX8_birth_45 ?_
        cases h
        obtain ⟨sa, hsa⟩ := hxs.2.2.1 (114, "the mother is abroad") (by decide +kernel)
        exact vx_throwS hx hb hlf (own := RX8) (cls := "java/lang/IllegalStateException") (text := "the mother is abroad") (names := ["java/lang/RuntimeException", "java/lang/Exception"]) (A := A) hown (by decide +kernel) (by decide +kernel) (hts (.classLink RX8 52 "java/lang/IllegalStateException") (by decide +kernel)) (hts (.initialized "java/lang/IllegalStateException") (by decide +kernel)) hsa (vx_hat (fun w hw => hts w (eC_Court_birth_56 w hw)) (B := xB) (by decide +kernel) (fun w hw => va_Nw.use (xB_on w hw) (hxs.2.2.2 w hw))) (by decide +kernel) hxs.1 hxs.2.1 hX.2.2 (hl.1.trans hml.symm) dX8_birth_48 dX8_birth_51 dX8_birth_52 dX8_birth_54 dX8_birth_57 (fun x hx => (ht x hx).elim) (Nat.le_of_ble_eq_true rfl) (Nat.le_of_ble_eq_true rfl) (Nat.le_of_ble_eq_true rfl) (Nat.le_of_ble_eq_true rfl) hlocks (fun t a1 a2 a3 => xX_post rfl hK hX t a1 a2 a3) hX.2.2.2.2 (Nat.le_refl _) (Nat.le_refl _)
      · replace h := om_s ho4 h
        refine cg_get hx hb hts iC_Court_birth_X3 hown hK hX 5 i3 hv3 rfl rfl 9 (by decide) (hts (.fieldLink RX8 110 "PassageCourt$Person" "there" "LPassageCourt$Land;") (by decide +kernel)) (fun _ h9 => h9) (v := .ref (ad 4 v5)) (by rw [ho4]; rfl) dX8_birth_38 ?_
        refine lv_astore (lv' := [(5, .ref (ad 4 v5)), (4, .null), (0, .ref (ad 0 0)), (1, .int x1), (2, .int x2), (3, .ref (ad 5 i3))]) hx hb dX8_birth_41 hl (by decide) rfl (fun ls hl => ?_)
        refine lv_aload hx hb dX8_birth_43 (lv_at hl 0 rfl) ?_
        refine lv_ifnonnull (tgt := 58) hx hb dX8_birth_45 (by decide) ?_
        refine lv_aload_n hx hb dX8_birth_58 rfl (lv_at hl 2 rfl) ?_
        rcases xb_thr h with et6 | ⟨_, et6, h⟩
        · exact xg_callV (As := []) (rest := []) ⟨hx, hb, hml, hown, hts⟩ 0 0 rfl (ci := 9) rfl rfl (cX_Court_refuseMorePersons l hlf D yI yO z0 ad H.size et6) (cwV 0 hts gX8_birth_X8_refuseMorePersons rfl rfl rfl (by decide +kernel) ⟨Nat.le_of_ble_eq_true rfl, Nat.le_of_ble_eq_true rfl⟩) hK hX hA hxs ht hlocks rfl hl.1 rfl (Nat.le_of_ble_eq_true rfl) dX8_birth_59 ⟨Nat.le_refl _, Nat.le_refl _⟩
        refine cg_callVv (As := []) (rest := []) ⟨hx, hb, hml, hown, hts⟩ 0 0 rfl (ci := 9) rfl rfl (cC_Court_refuseMorePersons l D yI yO z0 ad et6) (cwV 0 hts gX8_birth_X8_refuseMorePersons rfl rfl rfl (by decide +kernel) ⟨Nat.le_of_ble_eq_true rfl, Nat.le_of_ble_eq_true rfl⟩) hK hX rfl hl.1 rfl (Nat.le_of_ble_eq_true rfl) dX8_birth_59 ⟨Nat.zero_le _, Nat.zero_le _⟩ (fun H locs hX => ?_)
        refine lv_aload_n hx hb dX8_birth_62 rfl (lv_at hl 2 rfl) ?_
        refine lv_aload_n hx hb dX8_birth_63 rfl (lv_at hl 2 rfl) ?_
        refine cg_get hx hb hts iC_Court_birth_X8 hown hK hX 0 0 rfl rfl rfl 6 (by decide) (hts (.fieldLink RX8 37 "PassageCourt" "today" "I") (by decide +kernel)) (fun _ h9 => h9) rfl dX8_birth_64 ?_
        refine lv_aload_n hx hb dX8_birth_67 rfl (lv_at hl 2 rfl) ?_
        refine lv_aload_n hx hb dX8_birth_68 rfl (lv_at hl 5 rfl) ?_
        refine lv_aloadN hx hb dX8_birth_69 (lv_at hl 1 rfl) ?_
        refine lv_aload hx hb dX8_birth_71 (lv_at hl 0 rfl) ?_
        obtain ⟨r7, er7, h⟩ := mbind h
        refine cg_callV (As := [.ref (ad 5 i3), .null, .ref (ad 4 v5)]) (rest := [.int (sI g 0 0 6), .ref (ad 0 0)]) ⟨hx, hb, hml, hown, hts⟩ 0 0 rfl (ci := 9) rfl rfl (cC_Court_nationsAtBirth l D yI yO z0 ad er7) (cwV 3 hts gX8_birth_X8_nationsAtBirth rfl rfl rfl (by decide +kernel) ⟨Nat.le_of_ble_eq_true rfl, Nat.le_of_ble_eq_true rfl⟩) hK hX rfl hl.1 rfl (Nat.le_of_ble_eq_true rfl) dX8_birth_73 ⟨Nat.zero_le _, Nat.zero_le _⟩ (fun H locs hX => ?_)
        refine lv_iload_n hx hb dX8_birth_76 rfl (lv_at hl 3 rfl) ?_
        refine lv_iload_n hx hb dX8_birth_77 rfl (lv_at hl 4 rfl) ?_
        rcases xb_thr h with eg8 | ⟨g8, eg8, h⟩
        · exact (nt_addPerson _ eg8).elim
        obtain ⟨_, hv9, h⟩ := mbind h
        replace hv9 := ck_spec hv9
        obtain ⟨g10, eg10, h⟩ := mbind h
        obtain ⟨_, hv11, h⟩ := mbind h
        replace hv11 := ck_spec hv11
        cases h
    · replace h := mpos c2 h
      cases h
      obtain ⟨sa, hsa⟩ := hxs.2.2.1 (108, "mother and father are the same") (by decide +kernel)
      exact vx_throwS hx hb hlf (own := RX8) (cls := "java/lang/IllegalArgumentException") (text := "mother and father are the same") (names := ["java/lang/RuntimeException", "java/lang/Exception"]) (A := A) hown (by decide +kernel) (by decide +kernel) (hts (.classLink RX8 41 "java/lang/IllegalArgumentException") (by decide +kernel)) (hts (.initialized "java/lang/IllegalArgumentException") (by decide +kernel)) hsa (vx_hat (fun w hw => hts w (eC_Court_birth_45 w hw)) (B := xB) (by decide +kernel) (fun w hw => va_Nw.use (xB_on w hw) (hxs.2.2.2 w hw))) (by decide +kernel) hxs.1 hxs.2.1 hX.2.2 (hl.1.trans hml.symm) dX8_birth_27 dX8_birth_30 dX8_birth_31 dX8_birth_33 dX8_birth_36 (fun x hx => (ht x hx).elim) (Nat.le_of_ble_eq_true rfl) (Nat.le_of_ble_eq_true rfl) (Nat.le_of_ble_eq_true rfl) (Nat.le_of_ble_eq_true rfl) hlocks (fun t a1 a2 a3 => xX_post rfl hK hX t a1 a2 a3) hX.2.2.2.2 (Nat.le_refl _) (Nat.le_refl _)
  · replace h := om_s rfl h
    refine lv_astore (lv' := [(4, .ref (ad 5 v1)), (0, .ref (ad 0 0)), (1, .int x1), (2, .int x2), (3, .ref (ad 5 i3))]) hx hb dX8_birth_20 hl (by decide) rfl (fun ls hl => ?_)
    refine lv_iload_n hx hb dX8_birth_22 rfl (lv_at hl 2 rfl) ?_
    refine lv_iload_n hx hb dX8_birth_23 rfl (lv_at hl 3 rfl) ?_
    refine lv_icmp_ne (tgt := 37) hx hb dX8_birth_24 (by decide) (fun c12 => ?_) (fun c12 => ?_)
    · replace h := mneg c12 h
      refine lv_aload_n hx hb dX8_birth_37 rfl (lv_at hl 4 rfl) ?_
      obtain ⟨_, hv13, h⟩ := mbind h
      replace hv13 := ck_spec hv13
      rcases ho14 : sJ g 5 i3 9 with _ | v15
      · replace h := om_n ho14 h
        refine cg_get hx hb hts iC_Court_birth_X3 hown hK hX 5 i3 hv13 rfl rfl 9 (by decide) (hts (.fieldLink RX8 110 "PassageCourt$Person" "there" "LPassageCourt$Land;") (by decide +kernel)) (fun _ h9 => h9) (v := .null) (by rw [ho14]; rfl) dX8_birth_38 ?_
        refine lv_astoreN (lv' := [(5, .null), (4, .ref (ad 5 v1)), (0, .ref (ad 0 0)), (1, .int x1), (2, .int x2), (3, .ref (ad 5 i3))]) hx hb dX8_birth_41 hl (by decide) rfl (fun ls hl => ?_)
        refine lv_aloadN hx hb dX8_birth_43 (lv_at hl 0 rfl) ?_
        refine lv_ifnonnullN hx hb dX8_birth_45 ?_
        cases h
        obtain ⟨sa, hsa⟩ := hxs.2.2.1 (114, "the mother is abroad") (by decide +kernel)
        exact vx_throwS hx hb hlf (own := RX8) (cls := "java/lang/IllegalStateException") (text := "the mother is abroad") (names := ["java/lang/RuntimeException", "java/lang/Exception"]) (A := A) hown (by decide +kernel) (by decide +kernel) (hts (.classLink RX8 52 "java/lang/IllegalStateException") (by decide +kernel)) (hts (.initialized "java/lang/IllegalStateException") (by decide +kernel)) hsa (vx_hat (fun w hw => hts w (eC_Court_birth_56 w hw)) (B := xB) (by decide +kernel) (fun w hw => va_Nw.use (xB_on w hw) (hxs.2.2.2 w hw))) (by decide +kernel) hxs.1 hxs.2.1 hX.2.2 (hl.1.trans hml.symm) dX8_birth_48 dX8_birth_51 dX8_birth_52 dX8_birth_54 dX8_birth_57 (fun x hx => (ht x hx).elim) (Nat.le_of_ble_eq_true rfl) (Nat.le_of_ble_eq_true rfl) (Nat.le_of_ble_eq_true rfl) (Nat.le_of_ble_eq_true rfl) hlocks (fun t a1 a2 a3 => xX_post rfl hK hX t a1 a2 a3) hX.2.2.2.2 (Nat.le_refl _) (Nat.le_refl _)
      · replace h := om_s ho14 h
        refine cg_get hx hb hts iC_Court_birth_X3 hown hK hX 5 i3 hv13 rfl rfl 9 (by decide) (hts (.fieldLink RX8 110 "PassageCourt$Person" "there" "LPassageCourt$Land;") (by decide +kernel)) (fun _ h9 => h9) (v := .ref (ad 4 v15)) (by rw [ho14]; rfl) dX8_birth_38 ?_
        refine lv_astore (lv' := [(5, .ref (ad 4 v15)), (4, .ref (ad 5 v1)), (0, .ref (ad 0 0)), (1, .int x1), (2, .int x2), (3, .ref (ad 5 i3))]) hx hb dX8_birth_41 hl (by decide) rfl (fun ls hl => ?_)
        refine lv_aload hx hb dX8_birth_43 (lv_at hl 0 rfl) ?_
        refine lv_ifnonnull (tgt := 58) hx hb dX8_birth_45 (by decide) ?_
        refine lv_aload_n hx hb dX8_birth_58 rfl (lv_at hl 2 rfl) ?_
        rcases xb_thr h with et16 | ⟨_, et16, h⟩
        · exact xg_callV (As := []) (rest := []) ⟨hx, hb, hml, hown, hts⟩ 0 0 rfl (ci := 9) rfl rfl (cX_Court_refuseMorePersons l hlf D yI yO z0 ad H.size et16) (cwV 0 hts gX8_birth_X8_refuseMorePersons rfl rfl rfl (by decide +kernel) ⟨Nat.le_of_ble_eq_true rfl, Nat.le_of_ble_eq_true rfl⟩) hK hX hA hxs ht hlocks rfl hl.1 rfl (Nat.le_of_ble_eq_true rfl) dX8_birth_59 ⟨Nat.le_refl _, Nat.le_refl _⟩
        refine cg_callVv (As := []) (rest := []) ⟨hx, hb, hml, hown, hts⟩ 0 0 rfl (ci := 9) rfl rfl (cC_Court_refuseMorePersons l D yI yO z0 ad et16) (cwV 0 hts gX8_birth_X8_refuseMorePersons rfl rfl rfl (by decide +kernel) ⟨Nat.le_of_ble_eq_true rfl, Nat.le_of_ble_eq_true rfl⟩) hK hX rfl hl.1 rfl (Nat.le_of_ble_eq_true rfl) dX8_birth_59 ⟨Nat.zero_le _, Nat.zero_le _⟩ (fun H locs hX => ?_)
        refine lv_aload_n hx hb dX8_birth_62 rfl (lv_at hl 2 rfl) ?_
        refine lv_aload_n hx hb dX8_birth_63 rfl (lv_at hl 2 rfl) ?_
        refine cg_get hx hb hts iC_Court_birth_X8 hown hK hX 0 0 rfl rfl rfl 6 (by decide) (hts (.fieldLink RX8 37 "PassageCourt" "today" "I") (by decide +kernel)) (fun _ h9 => h9) rfl dX8_birth_64 ?_
        refine lv_aload_n hx hb dX8_birth_67 rfl (lv_at hl 2 rfl) ?_
        refine lv_aload_n hx hb dX8_birth_68 rfl (lv_at hl 5 rfl) ?_
        refine lv_aload hx hb dX8_birth_69 (lv_at hl 1 rfl) ?_
        refine lv_aload hx hb dX8_birth_71 (lv_at hl 0 rfl) ?_
        obtain ⟨r17, er17, h⟩ := mbind h
        refine cg_callV (As := [.ref (ad 5 i3), .ref (ad 5 v1), .ref (ad 4 v15)]) (rest := [.int (sI g 0 0 6), .ref (ad 0 0)]) ⟨hx, hb, hml, hown, hts⟩ 0 0 rfl (ci := 9) rfl rfl (cC_Court_nationsAtBirth l D yI yO z0 ad er17) (cwV 3 hts gX8_birth_X8_nationsAtBirth rfl rfl rfl (by decide +kernel) ⟨Nat.le_of_ble_eq_true rfl, Nat.le_of_ble_eq_true rfl⟩) hK hX rfl hl.1 rfl (Nat.le_of_ble_eq_true rfl) dX8_birth_73 ⟨Nat.zero_le _, Nat.zero_le _⟩ (fun H locs hX => ?_)
        refine lv_iload_n hx hb dX8_birth_76 rfl (lv_at hl 3 rfl) ?_
        refine lv_iload_n hx hb dX8_birth_77 rfl (lv_at hl 4 rfl) ?_
        rcases xb_thr h with eg18 | ⟨g18, eg18, h⟩
        · exact (nt_addPerson _ eg18).elim
        obtain ⟨_, hv19, h⟩ := mbind h
        replace hv19 := ck_spec hv19
        obtain ⟨g20, eg20, h⟩ := mbind h
        obtain ⟨_, hv21, h⟩ := mbind h
        replace hv21 := ck_spec hv21
        cases h
    · replace h := mpos c12 h
      cases h
      obtain ⟨sa, hsa⟩ := hxs.2.2.1 (108, "mother and father are the same") (by decide +kernel)
      exact vx_throwS hx hb hlf (own := RX8) (cls := "java/lang/IllegalArgumentException") (text := "mother and father are the same") (names := ["java/lang/RuntimeException", "java/lang/Exception"]) (A := A) hown (by decide +kernel) (by decide +kernel) (hts (.classLink RX8 41 "java/lang/IllegalArgumentException") (by decide +kernel)) (hts (.initialized "java/lang/IllegalArgumentException") (by decide +kernel)) hsa (vx_hat (fun w hw => hts w (eC_Court_birth_45 w hw)) (B := xB) (by decide +kernel) (fun w hw => va_Nw.use (xB_on w hw) (hxs.2.2.2 w hw))) (by decide +kernel) hxs.1 hxs.2.1 hX.2.2 (hl.1.trans hml.symm) dX8_birth_27 dX8_birth_30 dX8_birth_31 dX8_birth_33 dX8_birth_36 (fun x hx => (ht x hx).elim) (Nat.le_of_ble_eq_true rfl) (Nat.le_of_ble_eq_true rfl) (Nat.le_of_ble_eq_true rfl) (Nat.le_of_ble_eq_true rfl) hlocks (fun t a1 a2 a3 => xX_post rfl hK hX t a1 a2 a3) hX.2.2.2.2 (Nat.le_refl _) (Nat.le_refl _)
def fC_Court_birth (g : CS) (x1 : Int32) (x2 : Int32) : Option (Nat ⊕ (Int32 × CS)) :=
  xb (fC_Court_personAt g x1) fun v1 =>
  if x2 = ((-1)) then
    fC_Court_birth_20 g x1 x2 v1 none
  else
    xb (fC_Court_personAt g x2) fun v4 =>
    fC_Court_birth_20 g x1 x2 v1 (some v4)
set_option maxRecDepth 20000 in
theorem w_C_Court_birth_0 (C : cC p s m args meth c cX8_birth RX8 (some .int) wsX8_birth 7 D yI yO) (hys : yS z0 A s s.heap) (hA : ∀ q, s.heap.size ≤ q → A q) {gz : CS} {rz : Int32} {g : CS} {x1 : Int32} {x2 : Int32} (h : fC_Court_birth g x1 x2 = some (.inr (rz, gz))) {H : Heap} {locs : List Loc} {ls : Array Slot} (hX : cX D yI yO z0 ad g A s H locs) (hI : yOK g) (hl : lv_has ls 7 [(0, .ref (ad 0 0)), (1, .int x1), (2, .int x2)]) : W p l e (nR 8 226) s m args below meth c H locs 0 0 (MQ below (cQN D yI yO z0 ad rz g gz A) args s 20 7700 A) (F0 m 0 ls []) := by
  obtain ⟨hx, hb, hr, hts, hown, hlocks, hml, hK⟩ := id C
  unfold fC_Court_birth at h
  refine lv_aload_n hx hb dX8_birth_0 rfl (lv_at hl 0 rfl) ?_
  refine lv_iload_n hx hb dX8_birth_1 rfl (lv_at hl 1 rfl) ?_
  obtain ⟨v1, et2, h⟩ := xb_ret h
  refine cg_callVq (As := [.int x1]) (rest := []) ⟨hx, hb, hml, hown, hts⟩ 0 0 rfl (ci := 9) rfl rfl (cC_Court_personAt l D yI yO z0 ad et2) (cwV 1 hts gX8_birth_X8_personAt rfl rfl rfl (by decide +kernel) ⟨Nat.le_of_ble_eq_true rfl, Nat.le_of_ble_eq_true rfl⟩) hK hX rfl hl.1 rfl (Nat.le_of_ble_eq_true rfl) dX8_birth_2 ⟨Nat.zero_le _, Nat.zero_le _⟩ (fun H locs hX => ?_)
  refine W.eq (g2 := F0 m 5 ls [.ref (ad 5 v1)]) rfl ?_
  refine lv_astore_n (lv' := [(3, .ref (ad 5 v1)), (0, .ref (ad 0 0)), (1, .int x1), (2, .int x2)]) hx hb dX8_birth_5 rfl hl (by decide) rfl (fun ls hl => ?_)
  refine lv_iload_n hx hb dX8_birth_6 rfl (lv_at hl 3 rfl) ?_
  refine lv_iconst (v := -1) hx hb dX8_birth_7 (by decide) ?_
  refine lv_icmp_ne (tgt := 15) hx hb dX8_birth_8 (by decide) (fun c3 => ?_) (fun c3 => ?_)
  · replace h := mneg c3 h
    refine lv_aload_n hx hb dX8_birth_15 rfl (lv_at hl 1 rfl) ?_
    refine lv_iload_n hx hb dX8_birth_16 rfl (lv_at hl 3 rfl) ?_
    obtain ⟨v4, et5, h⟩ := xb_ret h
    refine cg_callVq (As := [.int x2]) (rest := []) ⟨hx, hb, hml, hown, hts⟩ 0 0 rfl (ci := 9) rfl rfl (cC_Court_personAt l D yI yO z0 ad et5) (cwV 1 hts gX8_birth_X8_personAt rfl rfl rfl (by decide +kernel) ⟨Nat.le_of_ble_eq_true rfl, Nat.le_of_ble_eq_true rfl⟩) hK hX rfl hl.1 rfl (Nat.le_of_ble_eq_true rfl) dX8_birth_17 ⟨Nat.zero_le _, Nat.zero_le _⟩ (fun H locs hX => ?_)
    refine W.eq (g2 := F0 m 20 ls [.ref (ad 5 v4)]) rfl ?_
    exact w_C_Court_birth_20 C hys hA h hX hI (lv_sub hl [1, 2, 3, 0] rfl)
  · replace h := mpos c3 h
    refine lv_null hx hb dX8_birth_11 ?_
    refine lv_goto (tgt := 20) hx hb dX8_birth_12 (by decide) ?_
    exact w_C_Court_birth_20 C hys hA h hX hI (lv_sub hl [1, 2, 3, 0] rfl)
set_option maxRecDepth 20000 in
theorem w_X_Court_birth_0 (C : cC p s m args meth c cX8_birth RX8 (some .int) wsX8_birth 7 D yI yO) {Qc : Array Value → State → Outcome → State → Prop} (hlf : l.stackTraces = false) (ht : ∀ x ∈ c.exceptionTable.toList, False) (hxs : xS A s s.heap) (hA : ∀ q, s.heap.size ≤ q → A q) {ez : Nat} {g : CS} {x1 : Int32} {x2 : Int32} (h : fC_Court_birth g x1 x2 = some (.inl ez)) {H : Heap} {locs : List Loc} {ls : Array Slot} (hX : cX D yI yO z0 ad g A s H locs) (hl : lv_has ls 7 [(0, .ref (ad 0 0)), (1, .int x1), (2, .int x2)]) : W p l e (xR 8 226) s m args below meth c H locs 0 0 (vx_MQ below Qc (xXC D yI yO z0 ad g ez A) args s 1 6 A) (F0 m 0 ls []) := by
  obtain ⟨hx, hb, hr, hts, hown, hlocks, hml, hK⟩ := id C
  unfold fC_Court_birth at h
  refine lv_aload_n hx hb dX8_birth_0 rfl (lv_at hl 0 rfl) ?_
  refine lv_iload_n hx hb dX8_birth_1 rfl (lv_at hl 1 rfl) ?_
  rcases xb_thr h with et2 | ⟨v1, et2, h⟩
  · exact xg_callV (As := [.int x1]) (rest := []) ⟨hx, hb, hml, hown, hts⟩ 0 0 rfl (ci := 9) rfl rfl (cX_Court_personAt l hlf D yI yO z0 ad H.size et2) (cwV 1 hts gX8_birth_X8_personAt rfl rfl rfl (by decide +kernel) ⟨Nat.le_of_ble_eq_true rfl, Nat.le_of_ble_eq_true rfl⟩) hK hX hA hxs ht hlocks rfl hl.1 rfl (Nat.le_of_ble_eq_true rfl) dX8_birth_2 ⟨Nat.le_refl _, Nat.le_refl _⟩
  refine cg_callVq (As := [.int x1]) (rest := []) ⟨hx, hb, hml, hown, hts⟩ 0 0 rfl (ci := 9) rfl rfl (cC_Court_personAt l D yI yO z0 ad et2) (cwV 1 hts gX8_birth_X8_personAt rfl rfl rfl (by decide +kernel) ⟨Nat.le_of_ble_eq_true rfl, Nat.le_of_ble_eq_true rfl⟩) hK hX rfl hl.1 rfl (Nat.le_of_ble_eq_true rfl) dX8_birth_2 ⟨Nat.zero_le _, Nat.zero_le _⟩ (fun H locs hX => ?_)
  refine W.eq (g2 := F0 m 5 ls [.ref (ad 5 v1)]) rfl ?_
  refine lv_astore_n (lv' := [(3, .ref (ad 5 v1)), (0, .ref (ad 0 0)), (1, .int x1), (2, .int x2)]) hx hb dX8_birth_5 rfl hl (by decide) rfl (fun ls hl => ?_)
  refine lv_iload_n hx hb dX8_birth_6 rfl (lv_at hl 3 rfl) ?_
  refine lv_iconst (v := -1) hx hb dX8_birth_7 (by decide) ?_
  refine lv_icmp_ne (tgt := 15) hx hb dX8_birth_8 (by decide) (fun c3 => ?_) (fun c3 => ?_)
  · replace h := mneg c3 h
    refine lv_aload_n hx hb dX8_birth_15 rfl (lv_at hl 1 rfl) ?_
    refine lv_iload_n hx hb dX8_birth_16 rfl (lv_at hl 3 rfl) ?_
    rcases xb_thr h with et5 | ⟨v4, et5, h⟩
    · exact xg_callV (As := [.int x2]) (rest := []) ⟨hx, hb, hml, hown, hts⟩ 0 0 rfl (ci := 9) rfl rfl (cX_Court_personAt l hlf D yI yO z0 ad H.size et5) (cwV 1 hts gX8_birth_X8_personAt rfl rfl rfl (by decide +kernel) ⟨Nat.le_of_ble_eq_true rfl, Nat.le_of_ble_eq_true rfl⟩) hK hX hA hxs ht hlocks rfl hl.1 rfl (Nat.le_of_ble_eq_true rfl) dX8_birth_17 ⟨Nat.le_refl _, Nat.le_refl _⟩
    refine cg_callVq (As := [.int x2]) (rest := []) ⟨hx, hb, hml, hown, hts⟩ 0 0 rfl (ci := 9) rfl rfl (cC_Court_personAt l D yI yO z0 ad et5) (cwV 1 hts gX8_birth_X8_personAt rfl rfl rfl (by decide +kernel) ⟨Nat.le_of_ble_eq_true rfl, Nat.le_of_ble_eq_true rfl⟩) hK hX rfl hl.1 rfl (Nat.le_of_ble_eq_true rfl) dX8_birth_17 ⟨Nat.zero_le _, Nat.zero_le _⟩ (fun H locs hX => ?_)
    refine W.eq (g2 := F0 m 20 ls [.ref (ad 5 v4)]) rfl ?_
    exact w_X_Court_birth_20 C hlf ht hxs hA h hX (lv_sub hl [1, 2, 3, 0] rfl)
  · replace h := mpos c3 h
    refine lv_null hx hb dX8_birth_11 ?_
    refine lv_goto (tgt := 20) hx hb dX8_birth_12 (by decide) ?_
    exact w_X_Court_birth_20 C hlf ht hxs hA h hX (lv_sub hl [1, 2, 3, 0] rfl)
set_option maxRecDepth 20000 in
theorem cC_Court_birth (l : Launch) (D : va_G) (yI yO : ClassId) (z0 : Nat) (ad : Nat → Nat → Nat) {g gz : CS} {rz : Int32} {x1 : Int32} {x2 : Int32} (sz : Nat) (hI : yOK g) (h : fC_Court_birth g x1 x2 = some (.inr (rz, gz))) : Met l yX8_birth wsX8_birth (nR 8 226) (va_Pc [.ref (ad 0 0), .int x1, .int x2] (yPre D yI yO z0 ad g sz)) (cQN D yI yO z0 ad rz g gz (cA ad g sz)) 20 7700 (cA ad g sz) := by
  refine Met.ofW (cc := cX8_birth) (maxL := 7) (ret := (some .int)) (by decide) rfl ?_
  intro p e s m args below meth c s₁ B hml hv
  obtain ⟨hv0, ⟨hw, hK⟩, hsz, hys⟩ := hv
  subst hsz
  have hv1 : args = [.ref (ad 0 0), .int x1, .int x2].toArray := hv0
  subst hv1
  have C : cC p s m _ meth c cX8_birth RX8 (some .int) wsX8_birth 7 D yI yO := ⟨B.exec, B.bytes, B.returns, atoms_spec (ws := wsX8_birth) B.pre, findClass_of_methodNamed B.named, B.notSynchronized, hml, hK⟩
  have hl := lv_entry ([.ref (ad 0 0), .int x1, .int x2]) (n := 7) (Nat.le_of_ble_eq_true rfl)
  rw [lg_entry_eq]
  generalize (lg_sl ([.ref (ad 0 0), .int x1, .int x2]) ++ List.replicate (7 - (lg_sl ([.ref (ad 0 0), .int x1, .int x2])).length) Slot.unset).toArray = ls at hl ⊢
  have hl : lv_has ls 7 [(0, .ref (ad 0 0)), (1, .int x1), (2, .int x2)] := hl
  exact w_C_Court_birth_0 C hys (fun q h => Or.inr h) h ⟨hw, fun k i hi => Or.inl ⟨k, i, hi, rfl⟩, va_S.rf⟩ hI hl
set_option maxRecDepth 20000 in
theorem cX_Court_birth (l : Launch) (hlf : l.stackTraces = false) (D : va_G) (yI yO : ClassId) (z0 : Nat) (ad : Nat → Nat → Nat) {g : CS} {ez : Nat} {x1 : Int32} {x2 : Int32} (sz : Nat) (h : fC_Court_birth g x1 x2 = some (.inl ez)) : vx_Met l yX8_birth wsX8_birth (xR 8 226) (va_Pc [.ref (ad 0 0), .int x1, .int x2] (xPre D yI yO z0 ad g sz)) (xQ (cA ad g sz)) (xXC D yI yO z0 ad g ez (cA ad g sz)) 1 6 (cA ad g sz) := by
  refine vx_ofW (cc := cX8_birth) (maxL := 7) (ret := (some .int)) (by decide) rfl ?_
  intro p e s m args below meth c s₁ B hml ht hv
  obtain ⟨hv0, ⟨hw, hK⟩, hsz, hxs⟩ := hv
  subst hsz
  have hv1 : args = [.ref (ad 0 0), .int x1, .int x2].toArray := hv0
  subst hv1
  have C : cC p s m _ meth c cX8_birth RX8 (some .int) wsX8_birth 7 D yI yO := ⟨B.exec, B.bytes, B.returns, atoms_spec (ws := wsX8_birth) B.pre, findClass_of_methodNamed B.named, B.notSynchronized, hml, hK⟩
  have hl := lv_entry ([.ref (ad 0 0), .int x1, .int x2]) (n := 7) (Nat.le_of_ble_eq_true rfl)
  rw [lg_entry_eq]
  generalize (lg_sl ([.ref (ad 0 0), .int x1, .int x2]) ++ List.replicate (7 - (lg_sl ([.ref (ad 0 0), .int x1, .int x2])).length) Slot.unset).toArray = ls at hl ⊢
  have hl : lv_has ls 7 [(0, .ref (ad 0 0)), (1, .int x1), (2, .int x2)] := hl
  exact w_X_Court_birth_0 C hlf ht hxs (fun q h => Or.inr h) h ⟨hw, fun k i hi => Or.inl ⟨k, i, hi, rfl⟩, va_S.rf⟩ hl
end GM1
