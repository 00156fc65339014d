set_option maxRecDepth 20000 in
theorem cH_slip (l : Launch) (hlf : l.stackTraces = false) (D : va_G) (yI yO yL : ClassId) (z0 : Nat) (ad : Nat → Nat → Nat) {g : CS} {x1 : Int32} {x2 : Int32} (o : Nat) (f : Nat → Int64) (sz : Nat) {rz : Int32} {gz : CS} (h : fC_Court_slip g x1 x2 = some (.inr (rz, gz))) : Met l yL_slip wsL_slip ({ frames := 9, cells := 0, slots := 0, locals := 205 }) (va_Pc [.ref (ad 0 0), .int x1, .int x2, .ref o] (hPre D yI yO yL z0 ad g o f sz)) (hQ D yI yO yL z0 ad gz o f 0 rz.toInt64 (hAd ad g sz o)) 0 0 (hAd ad g sz o) := by
  refine lh_ofW (cc := cL_slip) (maxL := 5) (ret := some .int) (hh := [(0, 10, 13, 21), (0, 10, 17, 15)]) (by decide) rfl ?_
  intro p e s m args below meth c s₁ B hml htab hv
  obtain ⟨hv0, hw, hLK, hP, ho, hsz, hxs, hys, hns⟩ := hv
  subst hsz
  have hv1 : args = [.ref (ad 0 0), .int x1, .int x2, .ref o].toArray := hv0
  subst hv1
  have hx := B.exec
  have hb := B.bytes
  have hr := B.returns
  have hts := atoms_spec (ws := wsL_slip) B.pre
  have hown : s.vm.findClass RL = some m.cls := findClass_of_methodNamed B.named
  have hlocks := B.notSynchronized
  have hK := hLK.c
  have hN := hN_start hw hP ho
  generalize hAe : hAd ad g s.heap.size o = A at hN hxs hys ⊢
  have hA : ∀ q, s.heap.size ≤ q → A q := fun q h => by rw [← hAe]; exact Or.inl (Or.inr h)
  have hl := lv_entry ([.ref (ad 0 0), .int x1, .int x2, .ref o]) (n := 5) (Nat.le_of_ble_eq_true rfl)
  rw [lg_entry_eq]
  generalize (lg_sl ([.ref (ad 0 0), .int x1, .int x2, .ref o]) ++ List.replicate (5 - (lg_sl ([.ref (ad 0 0), .int x1, .int x2, .ref o])).length) Slot.unset).toArray = ls at hl ⊢
  have hl : lv_has ls 5 [(0, .ref (ad 0 0)), (1, .int x1), (2, .int x2), (3, .ref o)] := hl
  refine lv_aload_n hx hb dL_slip_0 rfl (lv_at hl 3 rfl) ?_
  refine lv_iconst (v := 0) hx hb dL_slip_1 (by decide) ?_
  refine lv_aload_n hx hb dL_slip_2 rfl (lv_at hl 0 rfl) ?_
  refine lv_iload_n hx hb dL_slip_3 rfl (lv_at hl 1 rfl) ?_
  refine lv_iload_n hx hb dL_slip_4 rfl (lv_at hl 2 rfl) ?_
  refine hg_callV (As := [.int x1, .int x2]) (rest := [.int 0, .ref o]) ⟨hx, hb, hml, hown, hts⟩ (cC_Court_slip l D yI yO z0 ad h) (cwV 2 hts gL_slip_X8_slip rfl rfl rfl (by decide +kernel) ⟨Nat.le_of_ble_eq_true rfl, Nat.le_of_ble_eq_true rfl⟩) hK hN rfl hl.1 rfl (Nat.le_of_ble_eq_true rfl) dL_slip_5 ⟨Nat.le_of_ble_eq_true rfl, Nat.le_of_ble_eq_true rfl⟩ (fun H locs hN => ?_)
  have had : ad 0 0 = ad 0 0 := rfl
  refine lv_i2l (v := rz.toInt64) hx hb dL_slip_8 rfl ?_
  refine hg_last hx hb hLK hN dL_slip_9 (fun f1 H locs hf1 hN => ?_)
  refine lv_goto (tgt := 21) hx hb dL_slip_10 (by decide) ?_
  refine lv_iconst (v := 0) hx hb dL_slip_21 (by decide) ?_
  exact W.iret (v := 0) hx hb hr (fun t ht hW => ⟨⟨0, (ad, f1), rfl, ⟨rfl, hf1⟩, had, by rw [ht]; exact hN.1.1, va_K.moved hW.alike hLK, by rw [ht]; exact hN.2.1, hN.2.2.2 0 _ rfl, hN.1.2.1⟩, hN.1.2.2.F ht⟩) hN.1.2.2.2.2 dL_slip_22 hlocks
set_option maxRecDepth 20000 in
theorem cHx_slip_0 (l : Launch) (hlf : l.stackTraces = false) (D : va_G) (yI yO yL : ClassId) (z0 : Nat) (ad : Nat → Nat → Nat) {g : CS} {x1 : Int32} {x2 : Int32} (o : Nat) (f : Nat → Int64) (sz : Nat) (h : fC_Court_slip g x1 x2 = some (.inl 0)) : Met l yL_slip wsL_slip ({ frames := 9, cells := 1, slots := 6, locals := 205 }) (va_Pc [.ref (ad 0 0), .int x1, .int x2, .ref o] (hPre D yI yO yL z0 ad g o f sz)) (hQ D yI yO yL z0 ad g o f 1 (f 0) (hAd ad g sz o)) 1 6 (hAd ad g sz o) := by
  refine lh_ofW (cc := cL_slip) (maxL := 5) (ret := some .int) (hh := [(0, 10, 13, 21), (0, 10, 17, 15)]) (by decide) rfl ?_
  intro p e s m args below meth c s₁ B hml htab hv
  obtain ⟨hv0, hw, hLK, hP, ho, hsz, hxs, hys, hns⟩ := hv
  subst hsz
  have hv1 : args = [.ref (ad 0 0), .int x1, .int x2, .ref o].toArray := hv0
  subst hv1
  have hx := B.exec
  have hb := B.bytes
  have hr := B.returns
  have hts := atoms_spec (ws := wsL_slip) B.pre
  have hown : s.vm.findClass RL = some m.cls := findClass_of_methodNamed B.named
  have hlocks := B.notSynchronized
  have hK := hLK.c
  have hN := hN_start hw hP ho
  generalize hAe : hAd ad g s.heap.size o = A at hN hxs hys ⊢
  have hA : ∀ q, s.heap.size ≤ q → A q := fun q h => by rw [← hAe]; exact Or.inl (Or.inr h)
  have hl := lv_entry ([.ref (ad 0 0), .int x1, .int x2, .ref o]) (n := 5) (Nat.le_of_ble_eq_true rfl)
  rw [lg_entry_eq]
  generalize (lg_sl ([.ref (ad 0 0), .int x1, .int x2, .ref o]) ++ List.replicate (5 - (lg_sl ([.ref (ad 0 0), .int x1, .int x2, .ref o])).length) Slot.unset).toArray = ls at hl ⊢
  have hl : lv_has ls 5 [(0, .ref (ad 0 0)), (1, .int x1), (2, .int x2), (3, .ref o)] := hl
  refine lv_aload_n hx hb dL_slip_0 rfl (lv_at hl 3 rfl) ?_
  refine lv_iconst (v := 0) hx hb dL_slip_1 (by decide) ?_
  refine lv_aload_n hx hb dL_slip_2 rfl (lv_at hl 0 rfl) ?_
  refine lv_iload_n hx hb dL_slip_3 rfl (lv_at hl 1 rfl) ?_
  refine lv_iload_n hx hb dL_slip_4 rfl (lv_at hl 2 rfl) ?_
  refine hg_callX (As := [.int x1, .int x2]) (rest := [.int 0, .ref o]) ⟨hx, hb, hml, hown, hts⟩ (cX_Court_slip l hlf D yI yO z0 ad s.heap.size h) (cwV 2 hts gL_slip_X8_slip rfl rfl rfl (by decide +kernel) ⟨Nat.le_of_ble_eq_true rfl, Nat.le_of_ble_eq_true rfl⟩) hK hN hA hxs rfl hl.1 rfl (Nat.le_of_ble_eq_true rfl) dL_slip_5 ⟨Nat.le_of_ble_eq_true rfl, Nat.le_of_ble_eq_true rfl⟩ (fun ce q9 H locs hN h8 h9 h10 => ?_)
  refine vx_catch (own := RL) (name := "java/lang/IndexOutOfBoundsException") (E := xE 0) hown [] ⟨0, 10, 13, 21⟩ [⟨0, 10, 17, 15⟩] (by rw [htab]; rfl) (fun z hz => absurd hz List.not_mem_nil) (by decide) (by decide) (hts (.classLink RL 21 "java/lang/IndexOutOfBoundsException") (by decide +kernel)) (va_Nw.use (xB_on (.castable "java/lang/IndexOutOfBoundsException" "java/lang/IndexOutOfBoundsException") (by decide)) (hxs.2.2.2 (.castable "java/lang/IndexOutOfBoundsException" "java/lang/IndexOutOfBoundsException") (by decide))) h8 h9 h10 ?_
  refine W.eq (g2 := F0 m 13 ls [.ref q9]) rfl ?_
  refine lv_astore (lv' := [(4, .ref q9), (0, .ref (ad 0 0)), (1, .int x1), (2, .int x2), (3, .ref o)]) hx hb dL_slip_13 hl (by decide) rfl (fun ls hl => ?_)
  refine lv_iconst (v := 1) hx hb dL_slip_15 (by decide) ?_
  exact W.iret (v := 1) hx hb hr (fun t ht hW => ⟨⟨1, (ad, f), rfl, ⟨rfl, rfl⟩, rfl, by rw [ht]; exact hN.1.1, va_K.moved hW.alike hLK, by rw [ht]; exact hN.2.1, hN.2.2.2 0 _ rfl, hN.1.2.1⟩, hN.1.2.2.F ht⟩) hN.1.2.2.2.2 dL_slip_16 hlocks
set_option maxRecDepth 20000 in
theorem cHx_slip_2 (l : Launch) (hlf : l.stackTraces = false) (D : va_G) (yI yO yL : ClassId) (z0 : Nat) (ad : Nat → Nat → Nat) {g : CS} {x1 : Int32} {x2 : Int32} (o : Nat) (f : Nat → Int64) (sz : Nat) (h : fC_Court_slip g x1 x2 = some (.inl 2)) : Met l yL_slip wsL_slip ({ frames := 9, cells := 1, slots := 6, locals := 205 }) (va_Pc [.ref (ad 0 0), .int x1, .int x2, .ref o] (hPre D yI yO yL z0 ad g o f sz)) (hQ D yI yO yL z0 ad g o f 2 (f 0) (hAd ad g sz o)) 1 6 (hAd ad g sz o) := by
  refine lh_ofW (cc := cL_slip) (maxL := 5) (ret := some .int) (hh := [(0, 10, 13, 21), (0, 10, 17, 15)]) (by decide) rfl ?_
  intro p e s m args below meth c s₁ B hml htab hv
  obtain ⟨hv0, hw, hLK, hP, ho, hsz, hxs, hys, hns⟩ := hv
  subst hsz
  have hv1 : args = [.ref (ad 0 0), .int x1, .int x2, .ref o].toArray := hv0
  subst hv1
  have hx := B.exec
  have hb := B.bytes
  have hr := B.returns
  have hts := atoms_spec (ws := wsL_slip) B.pre
  have hown : s.vm.findClass RL = some m.cls := findClass_of_methodNamed B.named
  have hlocks := B.notSynchronized
  have hK := hLK.c
  have hN := hN_start hw hP ho
  generalize hAe : hAd ad g s.heap.size o = A at hN hxs hys ⊢
  have hA : ∀ q, s.heap.size ≤ q → A q := fun q h => by rw [← hAe]; exact Or.inl (Or.inr h)
  have hl := lv_entry ([.ref (ad 0 0), .int x1, .int x2, .ref o]) (n := 5) (Nat.le_of_ble_eq_true rfl)
  rw [lg_entry_eq]
  generalize (lg_sl ([.ref (ad 0 0), .int x1, .int x2, .ref o]) ++ List.replicate (5 - (lg_sl ([.ref (ad 0 0), .int x1, .int x2, .ref o])).length) Slot.unset).toArray = ls at hl ⊢
  have hl : lv_has ls 5 [(0, .ref (ad 0 0)), (1, .int x1), (2, .int x2), (3, .ref o)] := hl
  refine lv_aload_n hx hb dL_slip_0 rfl (lv_at hl 3 rfl) ?_
  refine lv_iconst (v := 0) hx hb dL_slip_1 (by decide) ?_
  refine lv_aload_n hx hb dL_slip_2 rfl (lv_at hl 0 rfl) ?_
  refine lv_iload_n hx hb dL_slip_3 rfl (lv_at hl 1 rfl) ?_
  refine lv_iload_n hx hb dL_slip_4 rfl (lv_at hl 2 rfl) ?_
  refine hg_callX (As := [.int x1, .int x2]) (rest := [.int 0, .ref o]) ⟨hx, hb, hml, hown, hts⟩ (cX_Court_slip l hlf D yI yO z0 ad s.heap.size h) (cwV 2 hts gL_slip_X8_slip rfl rfl rfl (by decide +kernel) ⟨Nat.le_of_ble_eq_true rfl, Nat.le_of_ble_eq_true rfl⟩) hK hN hA hxs rfl hl.1 rfl (Nat.le_of_ble_eq_true rfl) dL_slip_5 ⟨Nat.le_of_ble_eq_true rfl, Nat.le_of_ble_eq_true rfl⟩ (fun ce q9 H locs hN h8 h9 h10 => ?_)
  refine vx_catch (own := RL) (name := "java/lang/IllegalStateException") (E := xE 2) hown [⟨0, 10, 13, 21⟩] ⟨0, 10, 17, 15⟩ [] (by rw [htab]; rfl) (List.forall_mem_cons.mpr ⟨Or.inr ⟨by decide, "java/lang/IndexOutOfBoundsException", hts (.classLink RL 21 "java/lang/IndexOutOfBoundsException") (by decide +kernel), hns ("java/lang/IllegalStateException", "java/lang/IndexOutOfBoundsException") (by decide)⟩, (fun z hz => absurd hz List.not_mem_nil)⟩) (by decide) (by decide) (hts (.classLink RL 15 "java/lang/IllegalStateException") (by decide +kernel)) (va_Nw.use (xB_on (.castable "java/lang/IllegalStateException" "java/lang/IllegalStateException") (by decide)) (hxs.2.2.2 (.castable "java/lang/IllegalStateException" "java/lang/IllegalStateException") (by decide))) h8 h9 h10 ?_
  refine W.eq (g2 := F0 m 17 ls [.ref q9]) rfl ?_
  refine lv_astore (lv' := [(4, .ref q9), (0, .ref (ad 0 0)), (1, .int x1), (2, .int x2), (3, .ref o)]) hx hb dL_slip_17 hl (by decide) rfl (fun ls hl => ?_)
  refine lv_iconst (v := 2) hx hb dL_slip_19 (by decide) ?_
  exact W.iret (v := 2) hx hb hr (fun t ht hW => ⟨⟨2, (ad, f), rfl, ⟨rfl, rfl⟩, rfl, by rw [ht]; exact hN.1.1, va_K.moved hW.alike hLK, by rw [ht]; exact hN.2.1, hN.2.2.2 0 _ rfl, hN.1.2.1⟩, hN.1.2.2.F ht⟩) hN.1.2.2.2.2 dL_slip_20 hlocks
set_option maxRecDepth 20000 in
theorem cH_move (l : Launch) (hlf : l.stackTraces = false) (D : va_G) (yI yO yL : ClassId) (z0 : Nat) (ad : Nat → Nat → Nat) {g : CS} {x1 : Int32} {x2 : Int32} (o : Nat) (f : Nat → Int64) (sz : Nat) {rz : Int32} {gz : CS} (h : fC_Court_move g x1 x2 = some (.inr (rz, gz))) : Met l yL_move wsL_move ({ frames := 8, cells := 0, slots := 0, locals := 182 }) (va_Pc [.ref (ad 0 0), .int x1, .int x2, .ref o] (hPre D yI yO yL z0 ad g o f sz)) (hQ D yI yO yL z0 ad gz o f 0 rz.toInt64 (hAd ad g sz o)) 0 0 (hAd ad g sz o) := by
  refine lh_ofW (cc := cL_move) (maxL := 5) (ret := some .int) (hh := [(0, 10, 13, 21), (0, 10, 17, 15)]) (by decide) rfl ?_
  intro p e s m args below meth c s₁ B hml htab hv
  obtain ⟨hv0, hw, hLK, hP, ho, hsz, hxs, hys, hns⟩ := hv
  subst hsz
  have hv1 : args = [.ref (ad 0 0), .int x1, .int x2, .ref o].toArray := hv0
  subst hv1
  have hx := B.exec
  have hb := B.bytes
  have hr := B.returns
  have hts := atoms_spec (ws := wsL_move) B.pre
  have hown : s.vm.findClass RL = some m.cls := findClass_of_methodNamed B.named
  have hlocks := B.notSynchronized
  have hK := hLK.c
  have hN := hN_start hw hP ho
  generalize hAe : hAd ad g s.heap.size o = A at hN hxs hys ⊢
  have hA : ∀ q, s.heap.size ≤ q → A q := fun q h => by rw [← hAe]; exact Or.inl (Or.inr h)
  have hl := lv_entry ([.ref (ad 0 0), .int x1, .int x2, .ref o]) (n := 5) (Nat.le_of_ble_eq_true rfl)
  rw [lg_entry_eq]
  generalize (lg_sl ([.ref (ad 0 0), .int x1, .int x2, .ref o]) ++ List.replicate (5 - (lg_sl ([.ref (ad 0 0), .int x1, .int x2, .ref o])).length) Slot.unset).toArray = ls at hl ⊢
  have hl : lv_has ls 5 [(0, .ref (ad 0 0)), (1, .int x1), (2, .int x2), (3, .ref o)] := hl
  refine lv_aload_n hx hb dL_move_0 rfl (lv_at hl 3 rfl) ?_
  refine lv_iconst (v := 0) hx hb dL_move_1 (by decide) ?_
  refine lv_aload_n hx hb dL_move_2 rfl (lv_at hl 0 rfl) ?_
  refine lv_iload_n hx hb dL_move_3 rfl (lv_at hl 1 rfl) ?_
  refine lv_iload_n hx hb dL_move_4 rfl (lv_at hl 2 rfl) ?_
  refine hg_callV (As := [.int x1, .int x2]) (rest := [.int 0, .ref o]) ⟨hx, hb, hml, hown, hts⟩ (cC_Court_move l D yI yO z0 ad h) (cwV 2 hts gL_move_X8_move rfl rfl rfl (by decide +kernel) ⟨Nat.le_of_ble_eq_true rfl, Nat.le_of_ble_eq_true rfl⟩) hK hN rfl hl.1 rfl (Nat.le_of_ble_eq_true rfl) dL_move_5 ⟨Nat.le_of_ble_eq_true rfl, Nat.le_of_ble_eq_true rfl⟩ (fun H locs hN => ?_)
  have had : ad 0 0 = ad 0 0 := rfl
  refine lv_i2l (v := rz.toInt64) hx hb dL_move_8 rfl ?_
  refine hg_last hx hb hLK hN dL_move_9 (fun f1 H locs hf1 hN => ?_)
  refine lv_goto (tgt := 21) hx hb dL_move_10 (by decide) ?_
  refine lv_iconst (v := 0) hx hb dL_move_21 (by decide) ?_
  exact W.iret (v := 0) hx hb hr (fun t ht hW => ⟨⟨0, (ad, f1), rfl, ⟨rfl, hf1⟩, had, by rw [ht]; exact hN.1.1, va_K.moved hW.alike hLK, by rw [ht]; exact hN.2.1, hN.2.2.2 0 _ rfl, hN.1.2.1⟩, hN.1.2.2.F ht⟩) hN.1.2.2.2.2 dL_move_22 hlocks
set_option maxRecDepth 20000 in
theorem cHx_move_0 (l : Launch) (hlf : l.stackTraces = false) (D : va_G) (yI yO yL : ClassId) (z0 : Nat) (ad : Nat → Nat → Nat) {g : CS} {x1 : Int32} {x2 : Int32} (o : Nat) (f : Nat → Int64) (sz : Nat) (h : fC_Court_move g x1 x2 = some (.inl 0)) : Met l yL_move wsL_move ({ frames := 8, cells := 1, slots := 6, locals := 182 }) (va_Pc [.ref (ad 0 0), .int x1, .int x2, .ref o] (hPre D yI yO yL z0 ad g o f sz)) (hQ D yI yO yL z0 ad g o f 1 (f 0) (hAd ad g sz o)) 1 6 (hAd ad g sz o) := by
  refine lh_ofW (cc := cL_move) (maxL := 5) (ret := some .int) (hh := [(0, 10, 13, 21), (0, 10, 17, 15)]) (by decide) rfl ?_
  intro p e s m args below meth c s₁ B hml htab hv
  obtain ⟨hv0, hw, hLK, hP, ho, hsz, hxs, hys, hns⟩ := hv
  subst hsz
  have hv1 : args = [.ref (ad 0 0), .int x1, .int x2, .ref o].toArray := hv0
  subst hv1
  have hx := B.exec
  have hb := B.bytes
  have hr := B.returns
  have hts := atoms_spec (ws := wsL_move) B.pre
  have hown : s.vm.findClass RL = some m.cls := findClass_of_methodNamed B.named
  have hlocks := B.notSynchronized
  have hK := hLK.c
  have hN := hN_start hw hP ho
  generalize hAe : hAd ad g s.heap.size o = A at hN hxs hys ⊢
  have hA : ∀ q, s.heap.size ≤ q → A q := fun q h => by rw [← hAe]; exact Or.inl (Or.inr h)
  have hl := lv_entry ([.ref (ad 0 0), .int x1, .int x2, .ref o]) (n := 5) (Nat.le_of_ble_eq_true rfl)
  rw [lg_entry_eq]
  generalize (lg_sl ([.ref (ad 0 0), .int x1, .int x2, .ref o]) ++ List.replicate (5 - (lg_sl ([.ref (ad 0 0), .int x1, .int x2, .ref o])).length) Slot.unset).toArray = ls at hl ⊢
  have hl : lv_has ls 5 [(0, .ref (ad 0 0)), (1, .int x1), (2, .int x2), (3, .ref o)] := hl
  refine lv_aload_n hx hb dL_move_0 rfl (lv_at hl 3 rfl) ?_
  refine lv_iconst (v := 0) hx hb dL_move_1 (by decide) ?_
  refine lv_aload_n hx hb dL_move_2 rfl (lv_at hl 0 rfl) ?_
  refine lv_iload_n hx hb dL_move_3 rfl (lv_at hl 1 rfl) ?_
  refine lv_iload_n hx hb dL_move_4 rfl (lv_at hl 2 rfl) ?_
  refine hg_callX (As := [.int x1, .int x2]) (rest := [.int 0, .ref o]) ⟨hx, hb, hml, hown, hts⟩ (cX_Court_move l hlf D yI yO z0 ad s.heap.size h) (cwV 2 hts gL_move_X8_move rfl rfl rfl (by decide +kernel) ⟨Nat.le_of_ble_eq_true rfl, Nat.le_of_ble_eq_true rfl⟩) hK hN hA hxs rfl hl.1 rfl (Nat.le_of_ble_eq_true rfl) dL_move_5 ⟨Nat.le_of_ble_eq_true rfl, Nat.le_of_ble_eq_true rfl⟩ (fun ce q9 H locs hN h8 h9 h10 => ?_)
  refine vx_catch (own := RL) (name := "java/lang/IndexOutOfBoundsException") (E := xE 0) hown [] ⟨0, 10, 13, 21⟩ [⟨0, 10, 17, 15⟩] (by rw [htab]; rfl) (fun z hz => absurd hz List.not_mem_nil) (by decide) (by decide) (hts (.classLink RL 21 "java/lang/IndexOutOfBoundsException") (by decide +kernel)) (va_Nw.use (xB_on (.castable "java/lang/IndexOutOfBoundsException" "java/lang/IndexOutOfBoundsException") (by decide)) (hxs.2.2.2 (.castable "java/lang/IndexOutOfBoundsException" "java/lang/IndexOutOfBoundsException") (by decide))) h8 h9 h10 ?_
  refine W.eq (g2 := F0 m 13 ls [.ref q9]) rfl ?_
  refine lv_astore (lv' := [(4, .ref q9), (0, .ref (ad 0 0)), (1, .int x1), (2, .int x2), (3, .ref o)]) hx hb dL_move_13 hl (by decide) rfl (fun ls hl => ?_)
  refine lv_iconst (v := 1) hx hb dL_move_15 (by decide) ?_
  exact W.iret (v := 1) hx hb hr (fun t ht hW => ⟨⟨1, (ad, f), rfl, ⟨rfl, rfl⟩, rfl, by rw [ht]; exact hN.1.1, va_K.moved hW.alike hLK, by rw [ht]; exact hN.2.1, hN.2.2.2 0 _ rfl, hN.1.2.1⟩, hN.1.2.2.F ht⟩) hN.1.2.2.2.2 dL_move_16 hlocks
set_option maxRecDepth 20000 in
theorem cHx_move_2 (l : Launch) (hlf : l.stackTraces = false) (D : va_G) (yI yO yL : ClassId) (z0 : Nat) (ad : Nat → Nat → Nat) {g : CS} {x1 : Int32} {x2 : Int32} (o : Nat) (f : Nat → Int64) (sz : Nat) (h : fC_Court_move g x1 x2 = some (.inl 2)) : Met l yL_move wsL_move ({ frames := 8, cells := 1, slots := 6, locals := 182 }) (va_Pc [.ref (ad 0 0), .int x1, .int x2, .ref o] (hPre D yI yO yL z0 ad g o f sz)) (hQ D yI yO yL z0 ad g o f 2 (f 0) (hAd ad g sz o)) 1 6 (hAd ad g sz o) := by
  refine lh_ofW (cc := cL_move) (maxL := 5) (ret := some .int) (hh := [(0, 10, 13, 21), (0, 10, 17, 15)]) (by decide) rfl ?_
  intro p e s m args below meth c s₁ B hml htab hv
  obtain ⟨hv0, hw, hLK, hP, ho, hsz, hxs, hys, hns⟩ := hv
  subst hsz
  have hv1 : args = [.ref (ad 0 0), .int x1, .int x2, .ref o].toArray := hv0
  subst hv1
  have hx := B.exec
  have hb := B.bytes
  have hr := B.returns
  have hts := atoms_spec (ws := wsL_move) B.pre
  have hown : s.vm.findClass RL = some m.cls := findClass_of_methodNamed B.named
  have hlocks := B.notSynchronized
  have hK := hLK.c
  have hN := hN_start hw hP ho
  generalize hAe : hAd ad g s.heap.size o = A at hN hxs hys ⊢
  have hA : ∀ q, s.heap.size ≤ q → A q := fun q h => by rw [← hAe]; exact Or.inl (Or.inr h)
  have hl := lv_entry ([.ref (ad 0 0), .int x1, .int x2, .ref o]) (n := 5) (Nat.le_of_ble_eq_true rfl)
  rw [lg_entry_eq]
  generalize (lg_sl ([.ref (ad 0 0), .int x1, .int x2, .ref o]) ++ List.replicate (5 - (lg_sl ([.ref (ad 0 0), .int x1, .int x2, .ref o])).length) Slot.unset).toArray = ls at hl ⊢
  have hl : lv_has ls 5 [(0, .ref (ad 0 0)), (1, .int x1), (2, .int x2), (3, .ref o)] := hl
  refine lv_aload_n hx hb dL_move_0 rfl (lv_at hl 3 rfl) ?_
  refine lv_iconst (v := 0) hx hb dL_move_1 (by decide) ?_
  refine lv_aload_n hx hb dL_move_2 rfl (lv_at hl 0 rfl) ?_
  refine lv_iload_n hx hb dL_move_3 rfl (lv_at hl 1 rfl) ?_
  refine lv_iload_n hx hb dL_move_4 rfl (lv_at hl 2 rfl) ?_
  refine hg_callX (As := [.int x1, .int x2]) (rest := [.int 0, .ref o]) ⟨hx, hb, hml, hown, hts⟩ (cX_Court_move l hlf D yI yO z0 ad s.heap.size h) (cwV 2 hts gL_move_X8_move rfl rfl rfl (by decide +kernel) ⟨Nat.le_of_ble_eq_true rfl, Nat.le_of_ble_eq_true rfl⟩) hK hN hA hxs rfl hl.1 rfl (Nat.le_of_ble_eq_true rfl) dL_move_5 ⟨Nat.le_of_ble_eq_true rfl, Nat.le_of_ble_eq_true rfl⟩ (fun ce q9 H locs hN h8 h9 h10 => ?_)
  refine vx_catch (own := RL) (name := "java/lang/IllegalStateException") (E := xE 2) hown [⟨0, 10, 13, 21⟩] ⟨0, 10, 17, 15⟩ [] (by rw [htab]; rfl) (List.forall_mem_cons.mpr ⟨Or.inr ⟨by decide, "java/lang/IndexOutOfBoundsException", hts (.classLink RL 21 "java/lang/IndexOutOfBoundsException") (by decide +kernel), hns ("java/lang/IllegalStateException", "java/lang/IndexOutOfBoundsException") (by decide)⟩, (fun z hz => absurd hz List.not_mem_nil)⟩) (by decide) (by decide) (hts (.classLink RL 15 "java/lang/IllegalStateException") (by decide +kernel)) (va_Nw.use (xB_on (.castable "java/lang/IllegalStateException" "java/lang/IllegalStateException") (by decide)) (hxs.2.2.2 (.castable "java/lang/IllegalStateException" "java/lang/IllegalStateException") (by decide))) h8 h9 h10 ?_
  refine W.eq (g2 := F0 m 17 ls [.ref q9]) rfl ?_
  refine lv_astore (lv' := [(4, .ref q9), (0, .ref (ad 0 0)), (1, .int x1), (2, .int x2), (3, .ref o)]) hx hb dL_move_17 hl (by decide) rfl (fun ls hl => ?_)
  refine lv_iconst (v := 2) hx hb dL_move_19 (by decide) ?_
  exact W.iret (v := 2) hx hb hr (fun t ht hW => ⟨⟨2, (ad, f), rfl, ⟨rfl, rfl⟩, rfl, by rw [ht]; exact hN.1.1, va_K.moved hW.alike hLK, by rw [ht]; exact hN.2.1, hN.2.2.2 0 _ rfl, hN.1.2.1⟩, hN.1.2.2.F ht⟩) hN.1.2.2.2.2 dL_move_20 hlocks
set_option maxRecDepth 20000 in
theorem cH_leave (l : Launch) (hlf : l.stackTraces = false) (D : va_G) (yI yO yL : ClassId) (z0 : Nat) (ad : Nat → Nat → Nat) {g : CS} {x1 : Int32} (o : Nat) (f : Nat → Int64) (sz : Nat) {rz : Int32} {gz : CS} (h : fC_Court_leave g x1 = some (.inr (rz, gz))) : Met l yL_leave wsL_leave ({ frames := 8, cells := 0, slots := 0, locals := 135 }) (va_Pc [.ref (ad 0 0), .int x1, .ref o] (hPre D yI yO yL z0 ad g o f sz)) (hQ D yI yO yL z0 ad gz o f 0 rz.toInt64 (hAd ad g sz o)) 0 0 (hAd ad g sz o) := by
  refine lh_ofW (cc := cL_leave) (maxL := 4) (ret := some .int) (hh := [(0, 9, 12, 21), (0, 9, 15, 15)]) (by decide) rfl ?_
  intro p e s m args below meth c s₁ B hml htab hv
  obtain ⟨hv0, hw, hLK, hP, ho, hsz, hxs, hys, hns⟩ := hv
  subst hsz
  have hv1 : args = [.ref (ad 0 0), .int x1, .ref o].toArray := hv0
  subst hv1
  have hx := B.exec
  have hb := B.bytes
  have hr := B.returns
  have hts := atoms_spec (ws := wsL_leave) B.pre
  have hown : s.vm.findClass RL = some m.cls := findClass_of_methodNamed B.named
  have hlocks := B.notSynchronized
  have hK := hLK.c
  have hN := hN_start hw hP ho
  generalize hAe : hAd ad g s.heap.size o = A at hN hxs hys ⊢
  have hA : ∀ q, s.heap.size ≤ q → A q := fun q h => by rw [← hAe]; exact Or.inl (Or.inr h)
  have hl := lv_entry ([.ref (ad 0 0), .int x1, .ref o]) (n := 4) (Nat.le_of_ble_eq_true rfl)
  rw [lg_entry_eq]
  generalize (lg_sl ([.ref (ad 0 0), .int x1, .ref o]) ++ List.replicate (4 - (lg_sl ([.ref (ad 0 0), .int x1, .ref o])).length) Slot.unset).toArray = ls at hl ⊢
  have hl : lv_has ls 4 [(0, .ref (ad 0 0)), (1, .int x1), (2, .ref o)] := hl
  refine lv_aload_n hx hb dL_leave_0 rfl (lv_at hl 2 rfl) ?_
  refine lv_iconst (v := 0) hx hb dL_leave_1 (by decide) ?_
  refine lv_aload_n hx hb dL_leave_2 rfl (lv_at hl 0 rfl) ?_
  refine lv_iload_n hx hb dL_leave_3 rfl (lv_at hl 1 rfl) ?_
  refine hg_callV (As := [.int x1]) (rest := [.int 0, .ref o]) ⟨hx, hb, hml, hown, hts⟩ (cC_Court_leave l D yI yO z0 ad h) (cwV 1 hts gL_leave_X8_leave rfl rfl rfl (by decide +kernel) ⟨Nat.le_of_ble_eq_true rfl, Nat.le_of_ble_eq_true rfl⟩) hK hN rfl hl.1 rfl (Nat.le_of_ble_eq_true rfl) dL_leave_4 ⟨Nat.le_of_ble_eq_true rfl, Nat.le_of_ble_eq_true rfl⟩ (fun H locs hN => ?_)
  have had : ad 0 0 = ad 0 0 := rfl
  refine lv_i2l (v := rz.toInt64) hx hb dL_leave_7 rfl ?_
  refine hg_last hx hb hLK hN dL_leave_8 (fun f1 H locs hf1 hN => ?_)
  refine lv_goto (tgt := 18) hx hb dL_leave_9 (by decide) ?_
  refine lv_iconst (v := 0) hx hb dL_leave_18 (by decide) ?_
  exact W.iret (v := 0) hx hb hr (fun t ht hW => ⟨⟨0, (ad, f1), rfl, ⟨rfl, hf1⟩, had, by rw [ht]; exact hN.1.1, va_K.moved hW.alike hLK, by rw [ht]; exact hN.2.1, hN.2.2.2 0 _ rfl, hN.1.2.1⟩, hN.1.2.2.F ht⟩) hN.1.2.2.2.2 dL_leave_19 hlocks
set_option maxRecDepth 20000 in
theorem cHx_leave_0 (l : Launch) (hlf : l.stackTraces = false) (D : va_G) (yI yO yL : ClassId) (z0 : Nat) (ad : Nat → Nat → Nat) {g : CS} {x1 : Int32} (o : Nat) (f : Nat → Int64) (sz : Nat) (h : fC_Court_leave g x1 = some (.inl 0)) : Met l yL_leave wsL_leave ({ frames := 8, cells := 1, slots := 6, locals := 135 }) (va_Pc [.ref (ad 0 0), .int x1, .ref o] (hPre D yI yO yL z0 ad g o f sz)) (hQ D yI yO yL z0 ad g o f 1 (f 0) (hAd ad g sz o)) 1 6 (hAd ad g sz o) := by
  refine lh_ofW (cc := cL_leave) (maxL := 4) (ret := some .int) (hh := [(0, 9, 12, 21), (0, 9, 15, 15)]) (by decide) rfl ?_
  intro p e s m args below meth c s₁ B hml htab hv
  obtain ⟨hv0, hw, hLK, hP, ho, hsz, hxs, hys, hns⟩ := hv
  subst hsz
  have hv1 : args = [.ref (ad 0 0), .int x1, .ref o].toArray := hv0
  subst hv1
  have hx := B.exec
  have hb := B.bytes
  have hr := B.returns
  have hts := atoms_spec (ws := wsL_leave) B.pre
  have hown : s.vm.findClass RL = some m.cls := findClass_of_methodNamed B.named
  have hlocks := B.notSynchronized
  have hK := hLK.c
  have hN := hN_start hw hP ho
  generalize hAe : hAd ad g s.heap.size o = A at hN hxs hys ⊢
  have hA : ∀ q, s.heap.size ≤ q → A q := fun q h => by rw [← hAe]; exact Or.inl (Or.inr h)
  have hl := lv_entry ([.ref (ad 0 0), .int x1, .ref o]) (n := 4) (Nat.le_of_ble_eq_true rfl)
  rw [lg_entry_eq]
  generalize (lg_sl ([.ref (ad 0 0), .int x1, .ref o]) ++ List.replicate (4 - (lg_sl ([.ref (ad 0 0), .int x1, .ref o])).length) Slot.unset).toArray = ls at hl ⊢
  have hl : lv_has ls 4 [(0, .ref (ad 0 0)), (1, .int x1), (2, .ref o)] := hl
  refine lv_aload_n hx hb dL_leave_0 rfl (lv_at hl 2 rfl) ?_
  refine lv_iconst (v := 0) hx hb dL_leave_1 (by decide) ?_
  refine lv_aload_n hx hb dL_leave_2 rfl (lv_at hl 0 rfl) ?_
  refine lv_iload_n hx hb dL_leave_3 rfl (lv_at hl 1 rfl) ?_
  refine hg_callX (As := [.int x1]) (rest := [.int 0, .ref o]) ⟨hx, hb, hml, hown, hts⟩ (cX_Court_leave l hlf D yI yO z0 ad s.heap.size h) (cwV 1 hts gL_leave_X8_leave rfl rfl rfl (by decide +kernel) ⟨Nat.le_of_ble_eq_true rfl, Nat.le_of_ble_eq_true rfl⟩) hK hN hA hxs rfl hl.1 rfl (Nat.le_of_ble_eq_true rfl) dL_leave_4 ⟨Nat.le_of_ble_eq_true rfl, Nat.le_of_ble_eq_true rfl⟩ (fun ce q9 H locs hN h8 h9 h10 => ?_)
  refine vx_catch (own := RL) (name := "java/lang/IndexOutOfBoundsException") (E := xE 0) hown [] ⟨0, 9, 12, 21⟩ [⟨0, 9, 15, 15⟩] (by rw [htab]; rfl) (fun z hz => absurd hz List.not_mem_nil) (by decide) (by decide) (hts (.classLink RL 21 "java/lang/IndexOutOfBoundsException") (by decide +kernel)) (va_Nw.use (xB_on (.castable "java/lang/IndexOutOfBoundsException" "java/lang/IndexOutOfBoundsException") (by decide)) (hxs.2.2.2 (.castable "java/lang/IndexOutOfBoundsException" "java/lang/IndexOutOfBoundsException") (by decide))) h8 h9 h10 ?_
  refine W.eq (g2 := F0 m 12 ls [.ref q9]) rfl ?_
  refine lv_astore_n (lv' := [(3, .ref q9), (0, .ref (ad 0 0)), (1, .int x1), (2, .ref o)]) hx hb dL_leave_12 rfl hl (by decide) rfl (fun ls hl => ?_)
  refine lv_iconst (v := 1) hx hb dL_leave_13 (by decide) ?_
  exact W.iret (v := 1) hx hb hr (fun t ht hW => ⟨⟨1, (ad, f), rfl, ⟨rfl, rfl⟩, rfl, by rw [ht]; exact hN.1.1, va_K.moved hW.alike hLK, by rw [ht]; exact hN.2.1, hN.2.2.2 0 _ rfl, hN.1.2.1⟩, hN.1.2.2.F ht⟩) hN.1.2.2.2.2 dL_leave_14 hlocks
set_option maxRecDepth 20000 in
theorem cHx_leave_2 (l : Launch) (hlf : l.stackTraces = false) (D : va_G) (yI yO yL : ClassId) (z0 : Nat) (ad : Nat → Nat → Nat) {g : CS} {x1 : Int32} (o : Nat) (f : Nat → Int64) (sz : Nat) (h : fC_Court_leave g x1 = some (.inl 2)) : Met l yL_leave wsL_leave ({ frames := 8, cells := 1, slots := 6, locals := 135 }) (va_Pc [.ref (ad 0 0), .int x1, .ref o] (hPre D yI yO yL z0 ad g o f sz)) (hQ D yI yO yL z0 ad g o f 2 (f 0) (hAd ad g sz o)) 1 6 (hAd ad g sz o) := by
  refine lh_ofW (cc := cL_leave) (maxL := 4) (ret := some .int) (hh := [(0, 9, 12, 21), (0, 9, 15, 15)]) (by decide) rfl ?_
  intro p e s m args below meth c s₁ B hml htab hv
  obtain ⟨hv0, hw, hLK, hP, ho, hsz, hxs, hys, hns⟩ := hv
  subst hsz
  have hv1 : args = [.ref (ad 0 0), .int x1, .ref o].toArray := hv0
  subst hv1
  have hx := B.exec
  have hb := B.bytes
  have hr := B.returns
  have hts := atoms_spec (ws := wsL_leave) B.pre
  have hown : s.vm.findClass RL = some m.cls := findClass_of_methodNamed B.named
  have hlocks := B.notSynchronized
  have hK := hLK.c
  have hN := hN_start hw hP ho
  generalize hAe : hAd ad g s.heap.size o = A at hN hxs hys ⊢
  have hA : ∀ q, s.heap.size ≤ q → A q := fun q h => by rw [← hAe]; exact Or.inl (Or.inr h)
  have hl := lv_entry ([.ref (ad 0 0), .int x1, .ref o]) (n := 4) (Nat.le_of_ble_eq_true rfl)
  rw [lg_entry_eq]
  generalize (lg_sl ([.ref (ad 0 0), .int x1, .ref o]) ++ List.replicate (4 - (lg_sl ([.ref (ad 0 0), .int x1, .ref o])).length) Slot.unset).toArray = ls at hl ⊢
  have hl : lv_has ls 4 [(0, .ref (ad 0 0)), (1, .int x1), (2, .ref o)] := hl
  refine lv_aload_n hx hb dL_leave_0 rfl (lv_at hl 2 rfl) ?_
  refine lv_iconst (v := 0) hx hb dL_leave_1 (by decide) ?_
  refine lv_aload_n hx hb dL_leave_2 rfl (lv_at hl 0 rfl) ?_
  refine lv_iload_n hx hb dL_leave_3 rfl (lv_at hl 1 rfl) ?_
  refine hg_callX (As := [.int x1]) (rest := [.int 0, .ref o]) ⟨hx, hb, hml, hown, hts⟩ (cX_Court_leave l hlf D yI yO z0 ad s.heap.size h) (cwV 1 hts gL_leave_X8_leave rfl rfl rfl (by decide +kernel) ⟨Nat.le_of_ble_eq_true rfl, Nat.le_of_ble_eq_true rfl⟩) hK hN hA hxs rfl hl.1 rfl (Nat.le_of_ble_eq_true rfl) dL_leave_4 ⟨Nat.le_of_ble_eq_true rfl, Nat.le_of_ble_eq_true rfl⟩ (fun ce q9 H locs hN h8 h9 h10 => ?_)
  refine vx_catch (own := RL) (name := "java/lang/IllegalStateException") (E := xE 2) hown [⟨0, 9, 12, 21⟩] ⟨0, 9, 15, 15⟩ [] (by rw [htab]; rfl) (List.forall_mem_cons.mpr ⟨Or.inr ⟨by decide, "java/lang/IndexOutOfBoundsException", hts (.classLink RL 21 "java/lang/IndexOutOfBoundsException") (by decide +kernel), hns ("java/lang/IllegalStateException", "java/lang/IndexOutOfBoundsException") (by decide)⟩, (fun z hz => absurd hz List.not_mem_nil)⟩) (by decide) (by decide) (hts (.classLink RL 15 "java/lang/IllegalStateException") (by decide +kernel)) (va_Nw.use (xB_on (.castable "java/lang/IllegalStateException" "java/lang/IllegalStateException") (by decide)) (hxs.2.2.2 (.castable "java/lang/IllegalStateException" "java/lang/IllegalStateException") (by decide))) h8 h9 h10 ?_
  refine W.eq (g2 := F0 m 15 ls [.ref q9]) rfl ?_
  refine lv_astore_n (lv' := [(3, .ref q9), (0, .ref (ad 0 0)), (1, .int x1), (2, .ref o)]) hx hb dL_leave_15 rfl hl (by decide) rfl (fun ls hl => ?_)
  refine lv_iconst (v := 2) hx hb dL_leave_16 (by decide) ?_
  exact W.iret (v := 2) hx hb hr (fun t ht hW => ⟨⟨2, (ad, f), rfl, ⟨rfl, rfl⟩, rfl, by rw [ht]; exact hN.1.1, va_K.moved hW.alike hLK, by rw [ht]; exact hN.2.1, hN.2.2.2 0 _ rfl, hN.1.2.1⟩, hN.1.2.2.F ht⟩) hN.1.2.2.2.2 dL_leave_17 hlocks
set_option maxRecDepth 20000 in
theorem cH_ban (l : Launch) (hlf : l.stackTraces = false) (D : va_G) (yI yO yL : ClassId) (z0 : Nat) (ad : Nat → Nat → Nat) {g : CS} {x1 : Int32} {x2 : Int32} {x3 : Int32} (o : Nat) (f : Nat → Int64) (sz : Nat) {rz : Int32} {gz : CS} (h : fC_Court_ban g x1 x2 x3 = some (.inr (rz, gz))) : Met l yL_ban wsL_ban ({ frames := 8, cells := 0, slots := 0, locals := 136 }) (va_Pc [.ref (ad 0 0), .int x1, .int x2, .int x3, .ref o] (hPre D yI yO yL z0 ad g o f sz)) (hQ D yI yO yL z0 ad gz o f 0 rz.toInt64 (hAd ad g sz o)) 0 0 (hAd ad g sz o) := by
  refine lh_ofW (cc := cL_ban) (maxL := 6) (ret := some .int) (hh := [(0, 12, 15, 21), (0, 12, 19, 13)]) (by decide) rfl ?_
  intro p e s m args below meth c s₁ B hml htab hv
  obtain ⟨hv0, hw, hLK, hP, ho, hsz, hxs, hys, hns⟩ := hv
  subst hsz
  have hv1 : args = [.ref (ad 0 0), .int x1, .int x2, .int x3, .ref o].toArray := hv0
  subst hv1
  have hx := B.exec
  have hb := B.bytes
  have hr := B.returns
  have hts := atoms_spec (ws := wsL_ban) B.pre
  have hown : s.vm.findClass RL = some m.cls := findClass_of_methodNamed B.named
  have hlocks := B.notSynchronized
  have hK := hLK.c
  have hN := hN_start hw hP ho
  generalize hAe : hAd ad g s.heap.size o = A at hN hxs hys ⊢
  have hA : ∀ q, s.heap.size ≤ q → A q := fun q h => by rw [← hAe]; exact Or.inl (Or.inr h)
  have hl := lv_entry ([.ref (ad 0 0), .int x1, .int x2, .int x3, .ref o]) (n := 6) (Nat.le_of_ble_eq_true rfl)
  rw [lg_entry_eq]
  generalize (lg_sl ([.ref (ad 0 0), .int x1, .int x2, .int x3, .ref o]) ++ List.replicate (6 - (lg_sl ([.ref (ad 0 0), .int x1, .int x2, .int x3, .ref o])).length) Slot.unset).toArray = ls at hl ⊢
  have hl : lv_has ls 6 [(0, .ref (ad 0 0)), (1, .int x1), (2, .int x2), (3, .int x3), (4, .ref o)] := hl
  refine lv_aload hx hb dL_ban_0 (lv_at hl 4 rfl) ?_
  refine lv_iconst (v := 0) hx hb dL_ban_2 (by decide) ?_
  refine lv_aload_n hx hb dL_ban_3 rfl (lv_at hl 0 rfl) ?_
  refine lv_iload_n hx hb dL_ban_4 rfl (lv_at hl 1 rfl) ?_
  refine lv_iload_n hx hb dL_ban_5 rfl (lv_at hl 2 rfl) ?_
  refine lv_iload_n hx hb dL_ban_6 rfl (lv_at hl 3 rfl) ?_
  refine hg_callV (As := [.int x1, .int x2, .int x3]) (rest := [.int 0, .ref o]) ⟨hx, hb, hml, hown, hts⟩ (cC_Court_ban l D yI yO z0 ad h) (cwV 3 hts gL_ban_X8_ban rfl rfl rfl (by decide +kernel) ⟨Nat.le_of_ble_eq_true rfl, Nat.le_of_ble_eq_true rfl⟩) hK hN rfl hl.1 rfl (Nat.le_of_ble_eq_true rfl) dL_ban_7 ⟨Nat.le_of_ble_eq_true rfl, Nat.le_of_ble_eq_true rfl⟩ (fun H locs hN => ?_)
  have had : ad 0 0 = ad 0 0 := rfl
  refine lv_i2l (v := rz.toInt64) hx hb dL_ban_10 rfl ?_
  refine hg_last hx hb hLK hN dL_ban_11 (fun f1 H locs hf1 hN => ?_)
  refine lv_goto (tgt := 23) hx hb dL_ban_12 (by decide) ?_
  refine lv_iconst (v := 0) hx hb dL_ban_23 (by decide) ?_
  exact W.iret (v := 0) hx hb hr (fun t ht hW => ⟨⟨0, (ad, f1), rfl, ⟨rfl, hf1⟩, had, by rw [ht]; exact hN.1.1, va_K.moved hW.alike hLK, by rw [ht]; exact hN.2.1, hN.2.2.2 0 _ rfl, hN.1.2.1⟩, hN.1.2.2.F ht⟩) hN.1.2.2.2.2 dL_ban_24 hlocks
set_option maxRecDepth 20000 in
theorem cHx_ban_0 (l : Launch) (hlf : l.stackTraces = false) (D : va_G) (yI yO yL : ClassId) (z0 : Nat) (ad : Nat → Nat → Nat) {g : CS} {x1 : Int32} {x2 : Int32} {x3 : Int32} (o : Nat) (f : Nat → Int64) (sz : Nat) (h : fC_Court_ban g x1 x2 x3 = some (.inl 0)) : Met l yL_ban wsL_ban ({ frames := 8, cells := 1, slots := 6, locals := 136 }) (va_Pc [.ref (ad 0 0), .int x1, .int x2, .int x3, .ref o] (hPre D yI yO yL z0 ad g o f sz)) (hQ D yI yO yL z0 ad g o f 1 (f 0) (hAd ad g sz o)) 1 6 (hAd ad g sz o) := by
  refine lh_ofW (cc := cL_ban) (maxL := 6) (ret := some .int) (hh := [(0, 12, 15, 21), (0, 12, 19, 13)]) (by decide) rfl ?_
  intro p e s m args below meth c s₁ B hml htab hv
  obtain ⟨hv0, hw, hLK, hP, ho, hsz, hxs, hys, hns⟩ := hv
  subst hsz
  have hv1 : args = [.ref (ad 0 0), .int x1, .int x2, .int x3, .ref o].toArray := hv0
  subst hv1
  have hx := B.exec
  have hb := B.bytes
  have hr := B.returns
  have hts := atoms_spec (ws := wsL_ban) B.pre
  have hown : s.vm.findClass RL = some m.cls := findClass_of_methodNamed B.named
  have hlocks := B.notSynchronized
  have hK := hLK.c
  have hN := hN_start hw hP ho
  generalize hAe : hAd ad g s.heap.size o = A at hN hxs hys ⊢
  have hA : ∀ q, s.heap.size ≤ q → A q := fun q h => by rw [← hAe]; exact Or.inl (Or.inr h)
  have hl := lv_entry ([.ref (ad 0 0), .int x1, .int x2, .int x3, .ref o]) (n := 6) (Nat.le_of_ble_eq_true rfl)
  rw [lg_entry_eq]
  generalize (lg_sl ([.ref (ad 0 0), .int x1, .int x2, .int x3, .ref o]) ++ List.replicate (6 - (lg_sl ([.ref (ad 0 0), .int x1, .int x2, .int x3, .ref o])).length) Slot.unset).toArray = ls at hl ⊢
  have hl : lv_has ls 6 [(0, .ref (ad 0 0)), (1, .int x1), (2, .int x2), (3, .int x3), (4, .ref o)] := hl
  refine lv_aload hx hb dL_ban_0 (lv_at hl 4 rfl) ?_
  refine lv_iconst (v := 0) hx hb dL_ban_2 (by decide) ?_
  refine lv_aload_n hx hb dL_ban_3 rfl (lv_at hl 0 rfl) ?_
  refine lv_iload_n hx hb dL_ban_4 rfl (lv_at hl 1 rfl) ?_
  refine lv_iload_n hx hb dL_ban_5 rfl (lv_at hl 2 rfl) ?_
  refine lv_iload_n hx hb dL_ban_6 rfl (lv_at hl 3 rfl) ?_
  refine hg_callX (As := [.int x1, .int x2, .int x3]) (rest := [.int 0, .ref o]) ⟨hx, hb, hml, hown, hts⟩ (cX_Court_ban l hlf D yI yO z0 ad s.heap.size h) (cwV 3 hts gL_ban_X8_ban rfl rfl rfl (by decide +kernel) ⟨Nat.le_of_ble_eq_true rfl, Nat.le_of_ble_eq_true rfl⟩) hK hN hA hxs rfl hl.1 rfl (Nat.le_of_ble_eq_true rfl) dL_ban_7 ⟨Nat.le_of_ble_eq_true rfl, Nat.le_of_ble_eq_true rfl⟩ (fun ce q9 H locs hN h8 h9 h10 => ?_)
  refine vx_catch (own := RL) (name := "java/lang/IndexOutOfBoundsException") (E := xE 0) hown [] ⟨0, 12, 15, 21⟩ [⟨0, 12, 19, 13⟩] (by rw [htab]; rfl) (fun z hz => absurd hz List.not_mem_nil) (by decide) (by decide) (hts (.classLink RL 21 "java/lang/IndexOutOfBoundsException") (by decide +kernel)) (va_Nw.use (xB_on (.castable "java/lang/IndexOutOfBoundsException" "java/lang/IndexOutOfBoundsException") (by decide)) (hxs.2.2.2 (.castable "java/lang/IndexOutOfBoundsException" "java/lang/IndexOutOfBoundsException") (by decide))) h8 h9 h10 ?_
  refine W.eq (g2 := F0 m 15 ls [.ref q9]) rfl ?_
  refine lv_astore (lv' := [(5, .ref q9), (0, .ref (ad 0 0)), (1, .int x1), (2, .int x2), (3, .int x3), (4, .ref o)]) hx hb dL_ban_15 hl (by decide) rfl (fun ls hl => ?_)
  refine lv_iconst (v := 1) hx hb dL_ban_17 (by decide) ?_
  exact W.iret (v := 1) hx hb hr (fun t ht hW => ⟨⟨1, (ad, f), rfl, ⟨rfl, rfl⟩, rfl, by rw [ht]; exact hN.1.1, va_K.moved hW.alike hLK, by rw [ht]; exact hN.2.1, hN.2.2.2 0 _ rfl, hN.1.2.1⟩, hN.1.2.2.F ht⟩) hN.1.2.2.2.2 dL_ban_18 hlocks
set_option maxRecDepth 20000 in
theorem cHx_ban_1 (l : Launch) (hlf : l.stackTraces = false) (D : va_G) (yI yO yL : ClassId) (z0 : Nat) (ad : Nat → Nat → Nat) {g : CS} {x1 : Int32} {x2 : Int32} {x3 : Int32} (o : Nat) (f : Nat → Int64) (sz : Nat) (h : fC_Court_ban g x1 x2 x3 = some (.inl 1)) : Met l yL_ban wsL_ban ({ frames := 8, cells := 1, slots := 6, locals := 136 }) (va_Pc [.ref (ad 0 0), .int x1, .int x2, .int x3, .ref o] (hPre D yI yO yL z0 ad g o f sz)) (hQ D yI yO yL z0 ad g o f 2 (f 0) (hAd ad g sz o)) 1 6 (hAd ad g sz o) := by
  refine lh_ofW (cc := cL_ban) (maxL := 6) (ret := some .int) (hh := [(0, 12, 15, 21), (0, 12, 19, 13)]) (by decide) rfl ?_
  intro p e s m args below meth c s₁ B hml htab hv
  obtain ⟨hv0, hw, hLK, hP, ho, hsz, hxs, hys, hns⟩ := hv
  subst hsz
  have hv1 : args = [.ref (ad 0 0), .int x1, .int x2, .int x3, .ref o].toArray := hv0
  subst hv1
  have hx := B.exec
  have hb := B.bytes
  have hr := B.returns
  have hts := atoms_spec (ws := wsL_ban) B.pre
  have hown : s.vm.findClass RL = some m.cls := findClass_of_methodNamed B.named
  have hlocks := B.notSynchronized
  have hK := hLK.c
  have hN := hN_start hw hP ho
  generalize hAe : hAd ad g s.heap.size o = A at hN hxs hys ⊢
  have hA : ∀ q, s.heap.size ≤ q → A q := fun q h => by rw [← hAe]; exact Or.inl (Or.inr h)
  have hl := lv_entry ([.ref (ad 0 0), .int x1, .int x2, .int x3, .ref o]) (n := 6) (Nat.le_of_ble_eq_true rfl)
  rw [lg_entry_eq]
  generalize (lg_sl ([.ref (ad 0 0), .int x1, .int x2, .int x3, .ref o]) ++ List.replicate (6 - (lg_sl ([.ref (ad 0 0), .int x1, .int x2, .int x3, .ref o])).length) Slot.unset).toArray = ls at hl ⊢
  have hl : lv_has ls 6 [(0, .ref (ad 0 0)), (1, .int x1), (2, .int x2), (3, .int x3), (4, .ref o)] := hl
  refine lv_aload hx hb dL_ban_0 (lv_at hl 4 rfl) ?_
  refine lv_iconst (v := 0) hx hb dL_ban_2 (by decide) ?_
  refine lv_aload_n hx hb dL_ban_3 rfl (lv_at hl 0 rfl) ?_
  refine lv_iload_n hx hb dL_ban_4 rfl (lv_at hl 1 rfl) ?_
  refine lv_iload_n hx hb dL_ban_5 rfl (lv_at hl 2 rfl) ?_
  refine lv_iload_n hx hb dL_ban_6 rfl (lv_at hl 3 rfl) ?_
  refine hg_callX (As := [.int x1, .int x2, .int x3]) (rest := [.int 0, .ref o]) ⟨hx, hb, hml, hown, hts⟩ (cX_Court_ban l hlf D yI yO z0 ad s.heap.size h) (cwV 3 hts gL_ban_X8_ban rfl rfl rfl (by decide +kernel) ⟨Nat.le_of_ble_eq_true rfl, Nat.le_of_ble_eq_true rfl⟩) hK hN hA hxs rfl hl.1 rfl (Nat.le_of_ble_eq_true rfl) dL_ban_7 ⟨Nat.le_of_ble_eq_true rfl, Nat.le_of_ble_eq_true rfl⟩ (fun ce q9 H locs hN h8 h9 h10 => ?_)
  refine vx_catch (own := RL) (name := "java/lang/IllegalArgumentException") (E := xE 1) hown [⟨0, 12, 15, 21⟩] ⟨0, 12, 19, 13⟩ [] (by rw [htab]; rfl) (List.forall_mem_cons.mpr ⟨Or.inr ⟨by decide, "java/lang/IndexOutOfBoundsException", hts (.classLink RL 21 "java/lang/IndexOutOfBoundsException") (by decide +kernel), hns ("java/lang/IllegalArgumentException", "java/lang/IndexOutOfBoundsException") (by decide)⟩, (fun z hz => absurd hz List.not_mem_nil)⟩) (by decide) (by decide) (hts (.classLink RL 13 "java/lang/IllegalArgumentException") (by decide +kernel)) (va_Nw.use (xB_on (.castable "java/lang/IllegalArgumentException" "java/lang/IllegalArgumentException") (by decide)) (hxs.2.2.2 (.castable "java/lang/IllegalArgumentException" "java/lang/IllegalArgumentException") (by decide))) h8 h9 h10 ?_
  refine W.eq (g2 := F0 m 19 ls [.ref q9]) rfl ?_
  refine lv_astore (lv' := [(5, .ref q9), (0, .ref (ad 0 0)), (1, .int x1), (2, .int x2), (3, .int x3), (4, .ref o)]) hx hb dL_ban_19 hl (by decide) rfl (fun ls hl => ?_)
  refine lv_iconst (v := 2) hx hb dL_ban_21 (by decide) ?_
  exact W.iret (v := 2) hx hb hr (fun t ht hW => ⟨⟨2, (ad, f), rfl, ⟨rfl, rfl⟩, rfl, by rw [ht]; exact hN.1.1, va_K.moved hW.alike hLK, by rw [ht]; exact hN.2.1, hN.2.2.2 0 _ rfl, hN.1.2.1⟩, hN.1.2.2.F ht⟩) hN.1.2.2.2.2 dL_ban_22 hlocks
set_option maxRecDepth 20000 in
theorem cH_lift (l : Launch) (hlf : l.stackTraces = false) (D : va_G) (yI yO yL : ClassId) (z0 : Nat) (ad : Nat → Nat → Nat) {g : CS} {x1 : Int32} {x2 : Int32} (o : Nat) (f : Nat → Int64) (sz : Nat) {rz : Int32} {gz : CS} (h : fC_Court_lift g x1 x2 = some (.inr (rz, gz))) : Met l yL_lift wsL_lift ({ frames := 8, cells := 0, slots := 0, locals := 136 }) (va_Pc [.ref (ad 0 0), .int x1, .int x2, .ref o] (hPre D yI yO yL z0 ad g o f sz)) (hQ D yI yO yL z0 ad gz o f 0 (if rz = 0 then (0 : Int64) else 1) (hAd ad g sz o)) 0 0 (hAd ad g sz o) := by
  refine lh_ofW (cc := cL_lift) (maxL := 5) (ret := some .int) (hh := [(0, 17, 20, 21)]) (by decide) rfl ?_
  intro p e s m args below meth c s₁ B hml htab hv
  obtain ⟨hv0, hw, hLK, hP, ho, hsz, hxs, hys, hns⟩ := hv
  subst hsz
  have hv1 : args = [.ref (ad 0 0), .int x1, .int x2, .ref o].toArray := hv0
  subst hv1
  have hx := B.exec
  have hb := B.bytes
  have hr := B.returns
  have hts := atoms_spec (ws := wsL_lift) B.pre
  have hown : s.vm.findClass RL = some m.cls := findClass_of_methodNamed B.named
  have hlocks := B.notSynchronized
  have hK := hLK.c
  have hN := hN_start hw hP ho
  generalize hAe : hAd ad g s.heap.size o = A at hN hxs hys ⊢
  have hA : ∀ q, s.heap.size ≤ q → A q := fun q h => by rw [← hAe]; exact Or.inl (Or.inr h)
  have hl := lv_entry ([.ref (ad 0 0), .int x1, .int x2, .ref o]) (n := 5) (Nat.le_of_ble_eq_true rfl)
  rw [lg_entry_eq]
  generalize (lg_sl ([.ref (ad 0 0), .int x1, .int x2, .ref o]) ++ List.replicate (5 - (lg_sl ([.ref (ad 0 0), .int x1, .int x2, .ref o])).length) Slot.unset).toArray = ls at hl ⊢
  have hl : lv_has ls 5 [(0, .ref (ad 0 0)), (1, .int x1), (2, .int x2), (3, .ref o)] := hl
  refine lv_aload_n hx hb dL_lift_0 rfl (lv_at hl 3 rfl) ?_
  refine lv_iconst (v := 0) hx hb dL_lift_1 (by decide) ?_
  refine lv_aload_n hx hb dL_lift_2 rfl (lv_at hl 0 rfl) ?_
  refine lv_iload_n hx hb dL_lift_3 rfl (lv_at hl 1 rfl) ?_
  refine lv_iload_n hx hb dL_lift_4 rfl (lv_at hl 2 rfl) ?_
  refine hg_callV (As := [.int x1, .int x2]) (rest := [.int 0, .ref o]) ⟨hx, hb, hml, hown, hts⟩ (cC_Court_lift l D yI yO z0 ad h) (cwV 2 hts gL_lift_X8_lift rfl rfl rfl (by decide +kernel) ⟨Nat.le_of_ble_eq_true rfl, Nat.le_of_ble_eq_true rfl⟩) hK hN rfl hl.1 rfl (Nat.le_of_ble_eq_true rfl) dL_lift_5 ⟨Nat.le_of_ble_eq_true rfl, Nat.le_of_ble_eq_true rfl⟩ (fun H locs hN => ?_)
  have had : ad 0 0 = ad 0 0 := rfl
  refine lv_if_eq (tgt := 15) hx hb dL_lift_8 (by decide) (fun c1 => ?_) (fun c1 => ?_)
  · refine lv_lconst (v := 0) hx hb dL_lift_15 (by decide) ?_
    refine hg_last hx hb hLK hN dL_lift_16 (fun f1 H locs hf1 hN => ?_)
    refine lv_goto (tgt := 24) hx hb dL_lift_17 (by decide) ?_
    refine lv_iconst (v := 0) hx hb dL_lift_24 (by decide) ?_
    exact W.iret (v := 0) hx hb hr (fun t ht hW => ⟨⟨0, (ad, f1), rfl, ⟨rfl, by rw [if_pos c1]; exact hf1⟩, had, by rw [ht]; exact hN.1.1, va_K.moved hW.alike hLK, by rw [ht]; exact hN.2.1, hN.2.2.2 0 _ rfl, hN.1.2.1⟩, hN.1.2.2.F ht⟩) hN.1.2.2.2.2 dL_lift_25 hlocks
  · refine lv_lconst (v := 1) hx hb dL_lift_11 (by decide) ?_
    refine lv_goto (tgt := 16) hx hb dL_lift_12 (by decide) ?_
    refine hg_last hx hb hLK hN dL_lift_16 (fun f1 H locs hf1 hN => ?_)
    refine lv_goto (tgt := 24) hx hb dL_lift_17 (by decide) ?_
    refine lv_iconst (v := 0) hx hb dL_lift_24 (by decide) ?_
    exact W.iret (v := 0) hx hb hr (fun t ht hW => ⟨⟨0, (ad, f1), rfl, ⟨rfl, by rw [if_neg c1]; exact hf1⟩, had, by rw [ht]; exact hN.1.1, va_K.moved hW.alike hLK, by rw [ht]; exact hN.2.1, hN.2.2.2 0 _ rfl, hN.1.2.1⟩, hN.1.2.2.F ht⟩) hN.1.2.2.2.2 dL_lift_25 hlocks
set_option maxRecDepth 20000 in
theorem cHx_lift_0 (l : Launch) (hlf : l.stackTraces = false) (D : va_G) (yI yO yL : ClassId) (z0 : Nat) (ad : Nat → Nat → Nat) {g : CS} {x1 : Int32} {x2 : Int32} (o : Nat) (f : Nat → Int64) (sz : Nat) (h : fC_Court_lift g x1 x2 = some (.inl 0)) : Met l yL_lift wsL_lift ({ frames := 8, cells := 1, slots := 6, locals := 136 }) (va_Pc [.ref (ad 0 0), .int x1, .int x2, .ref o] (hPre D yI yO yL z0 ad g o f sz)) (hQ D yI yO yL z0 ad g o f 1 (f 0) (hAd ad g sz o)) 1 6 (hAd ad g sz o) := by
  refine lh_ofW (cc := cL_lift) (maxL := 5) (ret := some .int) (hh := [(0, 17, 20, 21)]) (by decide) rfl ?_
  intro p e s m args below meth c s₁ B hml htab hv
  obtain ⟨hv0, hw, hLK, hP, ho, hsz, hxs, hys, hns⟩ := hv
  subst hsz
  have hv1 : args = [.ref (ad 0 0), .int x1, .int x2, .ref o].toArray := hv0
  subst hv1
  have hx := B.exec
  have hb := B.bytes
  have hr := B.returns
  have hts := atoms_spec (ws := wsL_lift) B.pre
  have hown : s.vm.findClass RL = some m.cls := findClass_of_methodNamed B.named
  have hlocks := B.notSynchronized
  have hK := hLK.c
  have hN := hN_start hw hP ho
  generalize hAe : hAd ad g s.heap.size o = A at hN hxs hys ⊢
  have hA : ∀ q, s.heap.size ≤ q → A q := fun q h => by rw [← hAe]; exact Or.inl (Or.inr h)
  have hl := lv_entry ([.ref (ad 0 0), .int x1, .int x2, .ref o]) (n := 5) (Nat.le_of_ble_eq_true rfl)
  rw [lg_entry_eq]
  generalize (lg_sl ([.ref (ad 0 0), .int x1, .int x2, .ref o]) ++ List.replicate (5 - (lg_sl ([.ref (ad 0 0), .int x1, .int x2, .ref o])).length) Slot.unset).toArray = ls at hl ⊢
  have hl : lv_has ls 5 [(0, .ref (ad 0 0)), (1, .int x1), (2, .int x2), (3, .ref o)] := hl
  refine lv_aload_n hx hb dL_lift_0 rfl (lv_at hl 3 rfl) ?_
  refine lv_iconst (v := 0) hx hb dL_lift_1 (by decide) ?_
  refine lv_aload_n hx hb dL_lift_2 rfl (lv_at hl 0 rfl) ?_
  refine lv_iload_n hx hb dL_lift_3 rfl (lv_at hl 1 rfl) ?_
  refine lv_iload_n hx hb dL_lift_4 rfl (lv_at hl 2 rfl) ?_
  refine hg_callX (As := [.int x1, .int x2]) (rest := [.int 0, .ref o]) ⟨hx, hb, hml, hown, hts⟩ (cX_Court_lift l hlf D yI yO z0 ad s.heap.size h) (cwV 2 hts gL_lift_X8_lift rfl rfl rfl (by decide +kernel) ⟨Nat.le_of_ble_eq_true rfl, Nat.le_of_ble_eq_true rfl⟩) hK hN hA hxs rfl hl.1 rfl (Nat.le_of_ble_eq_true rfl) dL_lift_5 ⟨Nat.le_of_ble_eq_true rfl, Nat.le_of_ble_eq_true rfl⟩ (fun ce q9 H locs hN h8 h9 h10 => ?_)
  refine vx_catch (own := RL) (name := "java/lang/IndexOutOfBoundsException") (E := xE 0) hown [] ⟨0, 17, 20, 21⟩ [] (by rw [htab]; rfl) (fun z hz => absurd hz List.not_mem_nil) (by decide) (by decide) (hts (.classLink RL 21 "java/lang/IndexOutOfBoundsException") (by decide +kernel)) (va_Nw.use (xB_on (.castable "java/lang/IndexOutOfBoundsException" "java/lang/IndexOutOfBoundsException") (by decide)) (hxs.2.2.2 (.castable "java/lang/IndexOutOfBoundsException" "java/lang/IndexOutOfBoundsException") (by decide))) h8 h9 h10 ?_
  refine W.eq (g2 := F0 m 20 ls [.ref q9]) rfl ?_
  refine lv_astore (lv' := [(4, .ref q9), (0, .ref (ad 0 0)), (1, .int x1), (2, .int x2), (3, .ref o)]) hx hb dL_lift_20 hl (by decide) rfl (fun ls hl => ?_)
  refine lv_iconst (v := 1) hx hb dL_lift_22 (by decide) ?_
  exact W.iret (v := 1) hx hb hr (fun t ht hW => ⟨⟨1, (ad, f), rfl, ⟨rfl, rfl⟩, rfl, by rw [ht]; exact hN.1.1, va_K.moved hW.alike hLK, by rw [ht]; exact hN.2.1, hN.2.2.2 0 _ rfl, hN.1.2.1⟩, hN.1.2.2.F ht⟩) hN.1.2.2.2.2 dL_lift_23 hlocks
set_option maxRecDepth 20000 in
theorem cH_quota (l : Launch) (hlf : l.stackTraces = false) (D : va_G) (yI yO yL : ClassId) (z0 : Nat) (ad : Nat → Nat → Nat) {g : CS} {x1 : Int32} {x2 : Int32} {x3 : Int32} (o : Nat) (f : Nat → Int64) (sz : Nat) {rz : Int32} {gz : CS} (h : fC_Court_quota g x1 x2 x3 = some (.inr (rz, gz))) : Met l yL_quota wsL_quota ({ frames := 8, cells := 0, slots := 0, locals := 136 }) (va_Pc [.ref (ad 0 0), .int x1, .int x2, .int x3, .ref o] (hPre D yI yO yL z0 ad g o f sz)) (hQ D yI yO yL z0 ad gz o f 0 rz.toInt64 (hAd ad g sz o)) 0 0 (hAd ad g sz o) := by
  refine lh_ofW (cc := cL_quota) (maxL := 6) (ret := some .int) (hh := [(0, 12, 15, 21), (0, 12, 19, 13)]) (by decide) rfl ?_
  intro p e s m args below meth c s₁ B hml htab hv
  obtain ⟨hv0, hw, hLK, hP, ho, hsz, hxs, hys, hns⟩ := hv
  subst hsz
  have hv1 : args = [.ref (ad 0 0), .int x1, .int x2, .int x3, .ref o].toArray := hv0
  subst hv1
  have hx := B.exec
  have hb := B.bytes
  have hr := B.returns
  have hts := atoms_spec (ws := wsL_quota) B.pre
  have hown : s.vm.findClass RL = some m.cls := findClass_of_methodNamed B.named
  have hlocks := B.notSynchronized
  have hK := hLK.c
  have hN := hN_start hw hP ho
  generalize hAe : hAd ad g s.heap.size o = A at hN hxs hys ⊢
  have hA : ∀ q, s.heap.size ≤ q → A q := fun q h => by rw [← hAe]; exact Or.inl (Or.inr h)
  have hl := lv_entry ([.ref (ad 0 0), .int x1, .int x2, .int x3, .ref o]) (n := 6) (Nat.le_of_ble_eq_true rfl)
  rw [lg_entry_eq]
  generalize (lg_sl ([.ref (ad 0 0), .int x1, .int x2, .int x3, .ref o]) ++ List.replicate (6 - (lg_sl ([.ref (ad 0 0), .int x1, .int x2, .int x3, .ref o])).length) Slot.unset).toArray = ls at hl ⊢
  have hl : lv_has ls 6 [(0, .ref (ad 0 0)), (1, .int x1), (2, .int x2), (3, .int x3), (4, .ref o)] := hl
  refine lv_aload hx hb dL_quota_0 (lv_at hl 4 rfl) ?_
  refine lv_iconst (v := 0) hx hb dL_quota_2 (by decide) ?_
  refine lv_aload_n hx hb dL_quota_3 rfl (lv_at hl 0 rfl) ?_
  refine lv_iload_n hx hb dL_quota_4 rfl (lv_at hl 1 rfl) ?_
  refine lv_iload_n hx hb dL_quota_5 rfl (lv_at hl 2 rfl) ?_
  refine lv_iload_n hx hb dL_quota_6 rfl (lv_at hl 3 rfl) ?_
  refine hg_callV (As := [.int x1, .int x2, .int x3]) (rest := [.int 0, .ref o]) ⟨hx, hb, hml, hown, hts⟩ (cC_Court_quota l D yI yO z0 ad h) (cwV 3 hts gL_quota_X8_quota rfl rfl rfl (by decide +kernel) ⟨Nat.le_of_ble_eq_true rfl, Nat.le_of_ble_eq_true rfl⟩) hK hN rfl hl.1 rfl (Nat.le_of_ble_eq_true rfl) dL_quota_7 ⟨Nat.le_of_ble_eq_true rfl, Nat.le_of_ble_eq_true rfl⟩ (fun H locs hN => ?_)
  have had : ad 0 0 = ad 0 0 := rfl
  refine lv_i2l (v := rz.toInt64) hx hb dL_quota_10 rfl ?_
  refine hg_last hx hb hLK hN dL_quota_11 (fun f1 H locs hf1 hN => ?_)
  refine lv_goto (tgt := 23) hx hb dL_quota_12 (by decide) ?_
  refine lv_iconst (v := 0) hx hb dL_quota_23 (by decide) ?_
  exact W.iret (v := 0) hx hb hr (fun t ht hW => ⟨⟨0, (ad, f1), rfl, ⟨rfl, hf1⟩, had, by rw [ht]; exact hN.1.1, va_K.moved hW.alike hLK, by rw [ht]; exact hN.2.1, hN.2.2.2 0 _ rfl, hN.1.2.1⟩, hN.1.2.2.F ht⟩) hN.1.2.2.2.2 dL_quota_24 hlocks
set_option maxRecDepth 20000 in
theorem cHx_quota_0 (l : Launch) (hlf : l.stackTraces = false) (D : va_G) (yI yO yL : ClassId) (z0 : Nat) (ad : Nat → Nat → Nat) {g : CS} {x1 : Int32} {x2 : Int32} {x3 : Int32} (o : Nat) (f : Nat → Int64) (sz : Nat) (h : fC_Court_quota g x1 x2 x3 = some (.inl 0)) : Met l yL_quota wsL_quota ({ frames := 8, cells := 1, slots := 6, locals := 136 }) (va_Pc [.ref (ad 0 0), .int x1, .int x2, .int x3, .ref o] (hPre D yI yO yL z0 ad g o f sz)) (hQ D yI yO yL z0 ad g o f 1 (f 0) (hAd ad g sz o)) 1 6 (hAd ad g sz o) := by
  refine lh_ofW (cc := cL_quota) (maxL := 6) (ret := some .int) (hh := [(0, 12, 15, 21), (0, 12, 19, 13)]) (by decide) rfl ?_
  intro p e s m args below meth c s₁ B hml htab hv
  obtain ⟨hv0, hw, hLK, hP, ho, hsz, hxs, hys, hns⟩ := hv
  subst hsz
  have hv1 : args = [.ref (ad 0 0), .int x1, .int x2, .int x3, .ref o].toArray := hv0
  subst hv1
  have hx := B.exec
  have hb := B.bytes
  have hr := B.returns
  have hts := atoms_spec (ws := wsL_quota) B.pre
  have hown : s.vm.findClass RL = some m.cls := findClass_of_methodNamed B.named
  have hlocks := B.notSynchronized
  have hK := hLK.c
  have hN := hN_start hw hP ho
  generalize hAe : hAd ad g s.heap.size o = A at hN hxs hys ⊢
  have hA : ∀ q, s.heap.size ≤ q → A q := fun q h => by rw [← hAe]; exact Or.inl (Or.inr h)
  have hl := lv_entry ([.ref (ad 0 0), .int x1, .int x2, .int x3, .ref o]) (n := 6) (Nat.le_of_ble_eq_true rfl)
  rw [lg_entry_eq]
  generalize (lg_sl ([.ref (ad 0 0), .int x1, .int x2, .int x3, .ref o]) ++ List.replicate (6 - (lg_sl ([.ref (ad 0 0), .int x1, .int x2, .int x3, .ref o])).length) Slot.unset).toArray = ls at hl ⊢
  have hl : lv_has ls 6 [(0, .ref (ad 0 0)), (1, .int x1), (2, .int x2), (3, .int x3), (4, .ref o)] := hl
  refine lv_aload hx hb dL_quota_0 (lv_at hl 4 rfl) ?_
  refine lv_iconst (v := 0) hx hb dL_quota_2 (by decide) ?_
  refine lv_aload_n hx hb dL_quota_3 rfl (lv_at hl 0 rfl) ?_
  refine lv_iload_n hx hb dL_quota_4 rfl (lv_at hl 1 rfl) ?_
  refine lv_iload_n hx hb dL_quota_5 rfl (lv_at hl 2 rfl) ?_
  refine lv_iload_n hx hb dL_quota_6 rfl (lv_at hl 3 rfl) ?_
  refine hg_callX (As := [.int x1, .int x2, .int x3]) (rest := [.int 0, .ref o]) ⟨hx, hb, hml, hown, hts⟩ (cX_Court_quota l hlf D yI yO z0 ad s.heap.size h) (cwV 3 hts gL_quota_X8_quota rfl rfl rfl (by decide +kernel) ⟨Nat.le_of_ble_eq_true rfl, Nat.le_of_ble_eq_true rfl⟩) hK hN hA hxs rfl hl.1 rfl (Nat.le_of_ble_eq_true rfl) dL_quota_7 ⟨Nat.le_of_ble_eq_true rfl, Nat.le_of_ble_eq_true rfl⟩ (fun ce q9 H locs hN h8 h9 h10 => ?_)
  refine vx_catch (own := RL) (name := "java/lang/IndexOutOfBoundsException") (E := xE 0) hown [] ⟨0, 12, 15, 21⟩ [⟨0, 12, 19, 13⟩] (by rw [htab]; rfl) (fun z hz => absurd hz List.not_mem_nil) (by decide) (by decide) (hts (.classLink RL 21 "java/lang/IndexOutOfBoundsException") (by decide +kernel)) (va_Nw.use (xB_on (.castable "java/lang/IndexOutOfBoundsException" "java/lang/IndexOutOfBoundsException") (by decide)) (hxs.2.2.2 (.castable "java/lang/IndexOutOfBoundsException" "java/lang/IndexOutOfBoundsException") (by decide))) h8 h9 h10 ?_
  refine W.eq (g2 := F0 m 15 ls [.ref q9]) rfl ?_
  refine lv_astore (lv' := [(5, .ref q9), (0, .ref (ad 0 0)), (1, .int x1), (2, .int x2), (3, .int x3), (4, .ref o)]) hx hb dL_quota_15 hl (by decide) rfl (fun ls hl => ?_)
  refine lv_iconst (v := 1) hx hb dL_quota_17 (by decide) ?_
  exact W.iret (v := 1) hx hb hr (fun t ht hW => ⟨⟨1, (ad, f), rfl, ⟨rfl, rfl⟩, rfl, by rw [ht]; exact hN.1.1, va_K.moved hW.alike hLK, by rw [ht]; exact hN.2.1, hN.2.2.2 0 _ rfl, hN.1.2.1⟩, hN.1.2.2.F ht⟩) hN.1.2.2.2.2 dL_quota_18 hlocks
set_option maxRecDepth 20000 in
theorem cHx_quota_1 (l : Launch) (hlf : l.stackTraces = false) (D : va_G) (yI yO yL : ClassId) (z0 : Nat) (ad : Nat → Nat → Nat) {g : CS} {x1 : Int32} {x2 : Int32} {x3 : Int32} (o : Nat) (f : Nat → Int64) (sz : Nat) (h : fC_Court_quota g x1 x2 x3 = some (.inl 1)) : Met l yL_quota wsL_quota ({ frames := 8, cells := 1, slots := 6, locals := 136 }) (va_Pc [.ref (ad 0 0), .int x1, .int x2, .int x3, .ref o] (hPre D yI yO yL z0 ad g o f sz)) (hQ D yI yO yL z0 ad g o f 2 (f 0) (hAd ad g sz o)) 1 6 (hAd ad g sz o) := by
  refine lh_ofW (cc := cL_quota) (maxL := 6) (ret := some .int) (hh := [(0, 12, 15, 21), (0, 12, 19, 13)]) (by decide) rfl ?_
  intro p e s m args below meth c s₁ B hml htab hv
  obtain ⟨hv0, hw, hLK, hP, ho, hsz, hxs, hys, hns⟩ := hv
  subst hsz
  have hv1 : args = [.ref (ad 0 0), .int x1, .int x2, .int x3, .ref o].toArray := hv0
  subst hv1
  have hx := B.exec
  have hb := B.bytes
  have hr := B.returns
  have hts := atoms_spec (ws := wsL_quota) B.pre
  have hown : s.vm.findClass RL = some m.cls := findClass_of_methodNamed B.named
  have hlocks := B.notSynchronized
  have hK := hLK.c
  have hN := hN_start hw hP ho
  generalize hAe : hAd ad g s.heap.size o = A at hN hxs hys ⊢
  have hA : ∀ q, s.heap.size ≤ q → A q := fun q h => by rw [← hAe]; exact Or.inl (Or.inr h)
  have hl := lv_entry ([.ref (ad 0 0), .int x1, .int x2, .int x3, .ref o]) (n := 6) (Nat.le_of_ble_eq_true rfl)
  rw [lg_entry_eq]
  generalize (lg_sl ([.ref (ad 0 0), .int x1, .int x2, .int x3, .ref o]) ++ List.replicate (6 - (lg_sl ([.ref (ad 0 0), .int x1, .int x2, .int x3, .ref o])).length) Slot.unset).toArray = ls at hl ⊢
  have hl : lv_has ls 6 [(0, .ref (ad 0 0)), (1, .int x1), (2, .int x2), (3, .int x3), (4, .ref o)] := hl
  refine lv_aload hx hb dL_quota_0 (lv_at hl 4 rfl) ?_
  refine lv_iconst (v := 0) hx hb dL_quota_2 (by decide) ?_
  refine lv_aload_n hx hb dL_quota_3 rfl (lv_at hl 0 rfl) ?_
  refine lv_iload_n hx hb dL_quota_4 rfl (lv_at hl 1 rfl) ?_
  refine lv_iload_n hx hb dL_quota_5 rfl (lv_at hl 2 rfl) ?_
  refine lv_iload_n hx hb dL_quota_6 rfl (lv_at hl 3 rfl) ?_
  refine hg_callX (As := [.int x1, .int x2, .int x3]) (rest := [.int 0, .ref o]) ⟨hx, hb, hml, hown, hts⟩ (cX_Court_quota l hlf D yI yO z0 ad s.heap.size h) (cwV 3 hts gL_quota_X8_quota rfl rfl rfl (by decide +kernel) ⟨Nat.le_of_ble_eq_true rfl, Nat.le_of_ble_eq_true rfl⟩) hK hN hA hxs rfl hl.1 rfl (Nat.le_of_ble_eq_true rfl) dL_quota_7 ⟨Nat.le_of_ble_eq_true rfl, Nat.le_of_ble_eq_true rfl⟩ (fun ce q9 H locs hN h8 h9 h10 => ?_)
  refine vx_catch (own := RL) (name := "java/lang/IllegalArgumentException") (E := xE 1) hown [⟨0, 12, 15, 21⟩] ⟨0, 12, 19, 13⟩ [] (by rw [htab]; rfl) (List.forall_mem_cons.mpr ⟨Or.inr ⟨by decide, "java/lang/IndexOutOfBoundsException", hts (.classLink RL 21 "java/lang/IndexOutOfBoundsException") (by decide +kernel), hns ("java/lang/IllegalArgumentException", "java/lang/IndexOutOfBoundsException") (by decide)⟩, (fun z hz => absurd hz List.not_mem_nil)⟩) (by decide) (by decide) (hts (.classLink RL 13 "java/lang/IllegalArgumentException") (by decide +kernel)) (va_Nw.use (xB_on (.castable "java/lang/IllegalArgumentException" "java/lang/IllegalArgumentException") (by decide)) (hxs.2.2.2 (.castable "java/lang/IllegalArgumentException" "java/lang/IllegalArgumentException") (by decide))) h8 h9 h10 ?_
  refine W.eq (g2 := F0 m 19 ls [.ref q9]) rfl ?_
  refine lv_astore (lv' := [(5, .ref q9), (0, .ref (ad 0 0)), (1, .int x1), (2, .int x2), (3, .int x3), (4, .ref o)]) hx hb dL_quota_19 hl (by decide) rfl (fun ls hl => ?_)
  refine lv_iconst (v := 2) hx hb dL_quota_21 (by decide) ?_
  exact W.iret (v := 2) hx hb hr (fun t ht hW => ⟨⟨2, (ad, f), rfl, ⟨rfl, rfl⟩, rfl, by rw [ht]; exact hN.1.1, va_K.moved hW.alike hLK, by rw [ht]; exact hN.2.1, hN.2.2.2 0 _ rfl, hN.1.2.1⟩, hN.1.2.2.F ht⟩) hN.1.2.2.2.2 dL_quota_22 hlocks
set_option maxRecDepth 20000 in
theorem cH_ask (l : Launch) (hlf : l.stackTraces = false) (D : va_G) (yI yO yL : ClassId) (z0 : Nat) (ad : Nat → Nat → Nat) {g : CS} {x1 : Int32} {x2 : Int32} {x3 : Int32} (o : Nat) (f : Nat → Int64) (sz : Nat) {rz : Int32} {gz : CS} (hI : yOK g) (h : fC_Court_ask g x1 x2 x3 = some (.inr (rz, gz))) : Met l yL_ask wsL_ask ({ frames := 8, cells := 20, slots := 7700, locals := 227 }) (va_Pc [.ref (ad 0 0), .int x1, .int x2, .int x3, .ref o] (hPre D yI yO yL z0 ad g o f sz)) (hQ D yI yO yL z0 ad gz o f 0 rz.toInt64 (hAd ad g sz o)) 20 7700 (hAd ad g sz o) := by
  refine lh_ofW (cc := cL_ask) (maxL := 6) (ret := some .int) (hh := [(0, 12, 15, 21), (0, 12, 19, 13), (0, 12, 23, 15)]) (by decide) rfl ?_
  intro p e s m args below meth c s₁ B hml htab hv
  obtain ⟨hv0, hw, hLK, hP, ho, hsz, hxs, hys, hns⟩ := hv
  subst hsz
  have hv1 : args = [.ref (ad 0 0), .int x1, .int x2, .int x3, .ref o].toArray := hv0
  subst hv1
  have hx := B.exec
  have hb := B.bytes
  have hr := B.returns
  have hts := atoms_spec (ws := wsL_ask) B.pre
  have hown : s.vm.findClass RL = some m.cls := findClass_of_methodNamed B.named
  have hlocks := B.notSynchronized
  have hK := hLK.c
  have hN := hN_start hw hP ho
  generalize hAe : hAd ad g s.heap.size o = A at hN hxs hys ⊢
  have hA : ∀ q, s.heap.size ≤ q → A q := fun q h => by rw [← hAe]; exact Or.inl (Or.inr h)
  have hl := lv_entry ([.ref (ad 0 0), .int x1, .int x2, .int x3, .ref o]) (n := 6) (Nat.le_of_ble_eq_true rfl)
  rw [lg_entry_eq]
  generalize (lg_sl ([.ref (ad 0 0), .int x1, .int x2, .int x3, .ref o]) ++ List.replicate (6 - (lg_sl ([.ref (ad 0 0), .int x1, .int x2, .int x3, .ref o])).length) Slot.unset).toArray = ls at hl ⊢
  have hl : lv_has ls 6 [(0, .ref (ad 0 0)), (1, .int x1), (2, .int x2), (3, .int x3), (4, .ref o)] := hl
  refine lv_aload hx hb dL_ask_0 (lv_at hl 4 rfl) ?_
  refine lv_iconst (v := 0) hx hb dL_ask_2 (by decide) ?_
  refine lv_aload_n hx hb dL_ask_3 rfl (lv_at hl 0 rfl) ?_
  refine lv_iload_n hx hb dL_ask_4 rfl (lv_at hl 1 rfl) ?_
  refine lv_iload_n hx hb dL_ask_5 rfl (lv_at hl 2 rfl) ?_
  refine lv_iload_n hx hb dL_ask_6 rfl (lv_at hl 3 rfl) ?_
  refine hg_callY (As := [.int x1, .int x2, .int x3]) (rest := [.int 0, .ref o]) ⟨hx, hb, hml, hown, hts⟩ (cC_Court_ask l D yI yO z0 ad s.heap.size hI h) (cwV 3 hts gL_ask_X8_ask rfl rfl rfl (by decide +kernel) ⟨Nat.le_of_ble_eq_true rfl, Nat.le_of_ble_eq_true rfl⟩) hys hK hN hA rfl hl.1 rfl (Nat.le_of_ble_eq_true rfl) dL_ask_7 ⟨Nat.le_of_ble_eq_true rfl, Nat.le_of_ble_eq_true rfl⟩ (fun ad1 H locs had hN => ?_)
  refine lv_i2l (v := rz.toInt64) hx hb dL_ask_10 rfl ?_
  refine hg_last hx hb hLK hN dL_ask_11 (fun f1 H locs hf1 hN => ?_)
  refine lv_goto (tgt := 27) hx hb dL_ask_12 (by decide) ?_
  refine lv_iconst (v := 0) hx hb dL_ask_27 (by decide) ?_
  refine W.widen (k := 20) (n := 7700) (Nat.le_of_ble_eq_true rfl) (Nat.le_of_ble_eq_true rfl) ?_
  exact W.iret (v := 0) hx hb hr (fun t ht hW => ⟨⟨0, (ad1, f1), rfl, ⟨rfl, hf1⟩, had, by rw [ht]; exact hN.1.1, va_K.moved hW.alike hLK, by rw [ht]; exact hN.2.1, hN.2.2.2 0 _ rfl, hN.1.2.1⟩, hN.1.2.2.F ht⟩) hN.1.2.2.2.2 dL_ask_28 hlocks
set_option maxRecDepth 20000 in
theorem cHx_ask_0 (l : Launch) (hlf : l.stackTraces = false) (D : va_G) (yI yO yL : ClassId) (z0 : Nat) (ad : Nat → Nat → Nat) {g : CS} {x1 : Int32} {x2 : Int32} {x3 : Int32} (o : Nat) (f : Nat → Int64) (sz : Nat) (h : fC_Court_ask g x1 x2 x3 = some (.inl 0)) : Met l yL_ask wsL_ask ({ frames := 8, cells := 1, slots := 6, locals := 227 }) (va_Pc [.ref (ad 0 0), .int x1, .int x2, .int x3, .ref o] (hPre D yI yO yL z0 ad g o f sz)) (hQ D yI yO yL z0 ad g o f 1 (f 0) (hAd ad g sz o)) 1 6 (hAd ad g sz o) := by
  refine lh_ofW (cc := cL_ask) (maxL := 6) (ret := some .int) (hh := [(0, 12, 15, 21), (0, 12, 19, 13), (0, 12, 23, 15)]) (by decide) rfl ?_
  intro p e s m args below meth c s₁ B hml htab hv
  obtain ⟨hv0, hw, hLK, hP, ho, hsz, hxs, hys, hns⟩ := hv
  subst hsz
  have hv1 : args = [.ref (ad 0 0), .int x1, .int x2, .int x3, .ref o].toArray := hv0
  subst hv1
  have hx := B.exec
  have hb := B.bytes
  have hr := B.returns
  have hts := atoms_spec (ws := wsL_ask) B.pre
  have hown : s.vm.findClass RL = some m.cls := findClass_of_methodNamed B.named
  have hlocks := B.notSynchronized
  have hK := hLK.c
  have hN := hN_start hw hP ho
  generalize hAe : hAd ad g s.heap.size o = A at hN hxs hys ⊢
  have hA : ∀ q, s.heap.size ≤ q → A q := fun q h => by rw [← hAe]; exact Or.inl (Or.inr h)
  have hl := lv_entry ([.ref (ad 0 0), .int x1, .int x2, .int x3, .ref o]) (n := 6) (Nat.le_of_ble_eq_true rfl)
  rw [lg_entry_eq]
  generalize (lg_sl ([.ref (ad 0 0), .int x1, .int x2, .int x3, .ref o]) ++ List.replicate (6 - (lg_sl ([.ref (ad 0 0), .int x1, .int x2, .int x3, .ref o])).length) Slot.unset).toArray = ls at hl ⊢
  have hl : lv_has ls 6 [(0, .ref (ad 0 0)), (1, .int x1), (2, .int x2), (3, .int x3), (4, .ref o)] := hl
  refine lv_aload hx hb dL_ask_0 (lv_at hl 4 rfl) ?_
  refine lv_iconst (v := 0) hx hb dL_ask_2 (by decide) ?_
  refine lv_aload_n hx hb dL_ask_3 rfl (lv_at hl 0 rfl) ?_
  refine lv_iload_n hx hb dL_ask_4 rfl (lv_at hl 1 rfl) ?_
  refine lv_iload_n hx hb dL_ask_5 rfl (lv_at hl 2 rfl) ?_
  refine lv_iload_n hx hb dL_ask_6 rfl (lv_at hl 3 rfl) ?_
  refine hg_callX (As := [.int x1, .int x2, .int x3]) (rest := [.int 0, .ref o]) ⟨hx, hb, hml, hown, hts⟩ (cX_Court_ask l hlf D yI yO z0 ad s.heap.size h) (cwV 3 hts gL_ask_X8_ask rfl rfl rfl (by decide +kernel) ⟨Nat.le_of_ble_eq_true rfl, Nat.le_of_ble_eq_true rfl⟩) hK hN hA hxs rfl hl.1 rfl (Nat.le_of_ble_eq_true rfl) dL_ask_7 ⟨Nat.le_of_ble_eq_true rfl, Nat.le_of_ble_eq_true rfl⟩ (fun ce q9 H locs hN h8 h9 h10 => ?_)
  refine vx_catch (own := RL) (name := "java/lang/IndexOutOfBoundsException") (E := xE 0) hown [] ⟨0, 12, 15, 21⟩ [⟨0, 12, 19, 13⟩, ⟨0, 12, 23, 15⟩] (by rw [htab]; rfl) (fun z hz => absurd hz List.not_mem_nil) (by decide) (by decide) (hts (.classLink RL 21 "java/lang/IndexOutOfBoundsException") (by decide +kernel)) (va_Nw.use (xB_on (.castable "java/lang/IndexOutOfBoundsException" "java/lang/IndexOutOfBoundsException") (by decide)) (hxs.2.2.2 (.castable "java/lang/IndexOutOfBoundsException" "java/lang/IndexOutOfBoundsException") (by decide))) h8 h9 h10 ?_
  refine W.eq (g2 := F0 m 15 ls [.ref q9]) rfl ?_
  refine lv_astore (lv' := [(5, .ref q9), (0, .ref (ad 0 0)), (1, .int x1), (2, .int x2), (3, .int x3), (4, .ref o)]) hx hb dL_ask_15 hl (by decide) rfl (fun ls hl => ?_)
  refine lv_iconst (v := 1) hx hb dL_ask_17 (by decide) ?_
  exact W.iret (v := 1) hx hb hr (fun t ht hW => ⟨⟨1, (ad, f), rfl, ⟨rfl, rfl⟩, rfl, by rw [ht]; exact hN.1.1, va_K.moved hW.alike hLK, by rw [ht]; exact hN.2.1, hN.2.2.2 0 _ rfl, hN.1.2.1⟩, hN.1.2.2.F ht⟩) hN.1.2.2.2.2 dL_ask_18 hlocks
set_option maxRecDepth 20000 in
theorem cHx_ask_1 (l : Launch) (hlf : l.stackTraces = false) (D : va_G) (yI yO yL : ClassId) (z0 : Nat) (ad : Nat → Nat → Nat) {g : CS} {x1 : Int32} {x2 : Int32} {x3 : Int32} (o : Nat) (f : Nat → Int64) (sz : Nat) (h : fC_Court_ask g x1 x2 x3 = some (.inl 1)) : Met l yL_ask wsL_ask ({ frames := 8, cells := 1, slots := 6, locals := 227 }) (va_Pc [.ref (ad 0 0), .int x1, .int x2, .int x3, .ref o] (hPre D yI yO yL z0 ad g o f sz)) (hQ D yI yO yL z0 ad g o f 2 (f 0) (hAd ad g sz o)) 1 6 (hAd ad g sz o) := by
  refine lh_ofW (cc := cL_ask) (maxL := 6) (ret := some .int) (hh := [(0, 12, 15, 21), (0, 12, 19, 13), (0, 12, 23, 15)]) (by decide) rfl ?_
  intro p e s m args below meth c s₁ B hml htab hv
  obtain ⟨hv0, hw, hLK, hP, ho, hsz, hxs, hys, hns⟩ := hv
  subst hsz
  have hv1 : args = [.ref (ad 0 0), .int x1, .int x2, .int x3, .ref o].toArray := hv0
  subst hv1
  have hx := B.exec
  have hb := B.bytes
  have hr := B.returns
  have hts := atoms_spec (ws := wsL_ask) B.pre
  have hown : s.vm.findClass RL = some m.cls := findClass_of_methodNamed B.named
  have hlocks := B.notSynchronized
  have hK := hLK.c
  have hN := hN_start hw hP ho
  generalize hAe : hAd ad g s.heap.size o = A at hN hxs hys ⊢
  have hA : ∀ q, s.heap.size ≤ q → A q := fun q h => by rw [← hAe]; exact Or.inl (Or.inr h)
  have hl := lv_entry ([.ref (ad 0 0), .int x1, .int x2, .int x3, .ref o]) (n := 6) (Nat.le_of_ble_eq_true rfl)
  rw [lg_entry_eq]
  generalize (lg_sl ([.ref (ad 0 0), .int x1, .int x2, .int x3, .ref o]) ++ List.replicate (6 - (lg_sl ([.ref (ad 0 0), .int x1, .int x2, .int x3, .ref o])).length) Slot.unset).toArray = ls at hl ⊢
  have hl : lv_has ls 6 [(0, .ref (ad 0 0)), (1, .int x1), (2, .int x2), (3, .int x3), (4, .ref o)] := hl
  refine lv_aload hx hb dL_ask_0 (lv_at hl 4 rfl) ?_
  refine lv_iconst (v := 0) hx hb dL_ask_2 (by decide) ?_
  refine lv_aload_n hx hb dL_ask_3 rfl (lv_at hl 0 rfl) ?_
  refine lv_iload_n hx hb dL_ask_4 rfl (lv_at hl 1 rfl) ?_
  refine lv_iload_n hx hb dL_ask_5 rfl (lv_at hl 2 rfl) ?_
  refine lv_iload_n hx hb dL_ask_6 rfl (lv_at hl 3 rfl) ?_
  refine hg_callX (As := [.int x1, .int x2, .int x3]) (rest := [.int 0, .ref o]) ⟨hx, hb, hml, hown, hts⟩ (cX_Court_ask l hlf D yI yO z0 ad s.heap.size h) (cwV 3 hts gL_ask_X8_ask rfl rfl rfl (by decide +kernel) ⟨Nat.le_of_ble_eq_true rfl, Nat.le_of_ble_eq_true rfl⟩) hK hN hA hxs rfl hl.1 rfl (Nat.le_of_ble_eq_true rfl) dL_ask_7 ⟨Nat.le_of_ble_eq_true rfl, Nat.le_of_ble_eq_true rfl⟩ (fun ce q9 H locs hN h8 h9 h10 => ?_)
  refine vx_catch (own := RL) (name := "java/lang/IllegalArgumentException") (E := xE 1) hown [⟨0, 12, 15, 21⟩] ⟨0, 12, 19, 13⟩ [⟨0, 12, 23, 15⟩] (by rw [htab]; rfl) (List.forall_mem_cons.mpr ⟨Or.inr ⟨by decide, "java/lang/IndexOutOfBoundsException", hts (.classLink RL 21 "java/lang/IndexOutOfBoundsException") (by decide +kernel), hns ("java/lang/IllegalArgumentException", "java/lang/IndexOutOfBoundsException") (by decide)⟩, (fun z hz => absurd hz List.not_mem_nil)⟩) (by decide) (by decide) (hts (.classLink RL 13 "java/lang/IllegalArgumentException") (by decide +kernel)) (va_Nw.use (xB_on (.castable "java/lang/IllegalArgumentException" "java/lang/IllegalArgumentException") (by decide)) (hxs.2.2.2 (.castable "java/lang/IllegalArgumentException" "java/lang/IllegalArgumentException") (by decide))) h8 h9 h10 ?_
  refine W.eq (g2 := F0 m 19 ls [.ref q9]) rfl ?_
  refine lv_astore (lv' := [(5, .ref q9), (0, .ref (ad 0 0)), (1, .int x1), (2, .int x2), (3, .int x3), (4, .ref o)]) hx hb dL_ask_19 hl (by decide) rfl (fun ls hl => ?_)
  refine lv_iconst (v := 2) hx hb dL_ask_21 (by decide) ?_
  exact W.iret (v := 2) hx hb hr (fun t ht hW => ⟨⟨2, (ad, f), rfl, ⟨rfl, rfl⟩, rfl, by rw [ht]; exact hN.1.1, va_K.moved hW.alike hLK, by rw [ht]; exact hN.2.1, hN.2.2.2 0 _ rfl, hN.1.2.1⟩, hN.1.2.2.F ht⟩) hN.1.2.2.2.2 dL_ask_22 hlocks
set_option maxRecDepth 20000 in
theorem cHx_ask_2 (l : Launch) (hlf : l.stackTraces = false) (D : va_G) (yI yO yL : ClassId) (z0 : Nat) (ad : Nat → Nat → Nat) {g : CS} {x1 : Int32} {x2 : Int32} {x3 : Int32} (o : Nat) (f : Nat → Int64) (sz : Nat) (h : fC_Court_ask g x1 x2 x3 = some (.inl 2)) : Met l yL_ask wsL_ask ({ frames := 8, cells := 1, slots := 6, locals := 227 }) (va_Pc [.ref (ad 0 0), .int x1, .int x2, .int x3, .ref o] (hPre D yI yO yL z0 ad g o f sz)) (hQ D yI yO yL z0 ad g o f 3 (f 0) (hAd ad g sz o)) 1 6 (hAd ad g sz o) := by
  refine lh_ofW (cc := cL_ask) (maxL := 6) (ret := some .int) (hh := [(0, 12, 15, 21), (0, 12, 19, 13), (0, 12, 23, 15)]) (by decide) rfl ?_
  intro p e s m args below meth c s₁ B hml htab hv
  obtain ⟨hv0, hw, hLK, hP, ho, hsz, hxs, hys, hns⟩ := hv
  subst hsz
  have hv1 : args = [.ref (ad 0 0), .int x1, .int x2, .int x3, .ref o].toArray := hv0
  subst hv1
  have hx := B.exec
  have hb := B.bytes
  have hr := B.returns
  have hts := atoms_spec (ws := wsL_ask) B.pre
  have hown : s.vm.findClass RL = some m.cls := findClass_of_methodNamed B.named
  have hlocks := B.notSynchronized
  have hK := hLK.c
  have hN := hN_start hw hP ho
  generalize hAe : hAd ad g s.heap.size o = A at hN hxs hys ⊢
  have hA : ∀ q, s.heap.size ≤ q → A q := fun q h => by rw [← hAe]; exact Or.inl (Or.inr h)
  have hl := lv_entry ([.ref (ad 0 0), .int x1, .int x2, .int x3, .ref o]) (n := 6) (Nat.le_of_ble_eq_true rfl)
  rw [lg_entry_eq]
  generalize (lg_sl ([.ref (ad 0 0), .int x1, .int x2, .int x3, .ref o]) ++ List.replicate (6 - (lg_sl ([.ref (ad 0 0), .int x1, .int x2, .int x3, .ref o])).length) Slot.unset).toArray = ls at hl ⊢
  have hl : lv_has ls 6 [(0, .ref (ad 0 0)), (1, .int x1), (2, .int x2), (3, .int x3), (4, .ref o)] := hl
  refine lv_aload hx hb dL_ask_0 (lv_at hl 4 rfl) ?_
  refine lv_iconst (v := 0) hx hb dL_ask_2 (by decide) ?_
  refine lv_aload_n hx hb dL_ask_3 rfl (lv_at hl 0 rfl) ?_
  refine lv_iload_n hx hb dL_ask_4 rfl (lv_at hl 1 rfl) ?_
  refine lv_iload_n hx hb dL_ask_5 rfl (lv_at hl 2 rfl) ?_
  refine lv_iload_n hx hb dL_ask_6 rfl (lv_at hl 3 rfl) ?_
  refine hg_callX (As := [.int x1, .int x2, .int x3]) (rest := [.int 0, .ref o]) ⟨hx, hb, hml, hown, hts⟩ (cX_Court_ask l hlf D yI yO z0 ad s.heap.size h) (cwV 3 hts gL_ask_X8_ask rfl rfl rfl (by decide +kernel) ⟨Nat.le_of_ble_eq_true rfl, Nat.le_of_ble_eq_true rfl⟩) hK hN hA hxs rfl hl.1 rfl (Nat.le_of_ble_eq_true rfl) dL_ask_7 ⟨Nat.le_of_ble_eq_true rfl, Nat.le_of_ble_eq_true rfl⟩ (fun ce q9 H locs hN h8 h9 h10 => ?_)
  refine vx_catch (own := RL) (name := "java/lang/IllegalStateException") (E := xE 2) hown [⟨0, 12, 15, 21⟩, ⟨0, 12, 19, 13⟩] ⟨0, 12, 23, 15⟩ [] (by rw [htab]; rfl) (List.forall_mem_cons.mpr ⟨Or.inr ⟨by decide, "java/lang/IndexOutOfBoundsException", hts (.classLink RL 21 "java/lang/IndexOutOfBoundsException") (by decide +kernel), hns ("java/lang/IllegalStateException", "java/lang/IndexOutOfBoundsException") (by decide)⟩, (List.forall_mem_cons.mpr ⟨Or.inr ⟨by decide, "java/lang/IllegalArgumentException", hts (.classLink RL 13 "java/lang/IllegalArgumentException") (by decide +kernel), hns ("java/lang/IllegalStateException", "java/lang/IllegalArgumentException") (by decide)⟩, (fun z hz => absurd hz List.not_mem_nil)⟩)⟩) (by decide) (by decide) (hts (.classLink RL 15 "java/lang/IllegalStateException") (by decide +kernel)) (va_Nw.use (xB_on (.castable "java/lang/IllegalStateException" "java/lang/IllegalStateException") (by decide)) (hxs.2.2.2 (.castable "java/lang/IllegalStateException" "java/lang/IllegalStateException") (by decide))) h8 h9 h10 ?_
  refine W.eq (g2 := F0 m 23 ls [.ref q9]) rfl ?_
  refine lv_astore (lv' := [(5, .ref q9), (0, .ref (ad 0 0)), (1, .int x1), (2, .int x2), (3, .int x3), (4, .ref o)]) hx hb dL_ask_23 hl (by decide) rfl (fun ls hl => ?_)
  refine lv_iconst (v := 3) hx hb dL_ask_25 (by decide) ?_
  exact W.iret (v := 3) hx hb hr (fun t ht hW => ⟨⟨3, (ad, f), rfl, ⟨rfl, rfl⟩, rfl, by rw [ht]; exact hN.1.1, va_K.moved hW.alike hLK, by rw [ht]; exact hN.2.1, hN.2.2.2 0 _ rfl, hN.1.2.1⟩, hN.1.2.2.F ht⟩) hN.1.2.2.2.2 dL_ask_26 hlocks
set_option maxRecDepth 20000 in
theorem cH_join (l : Launch) (hlf : l.stackTraces = false) (D : va_G) (yI yO yL : ClassId) (z0 : Nat) (ad : Nat → Nat → Nat) {g : CS} {x1 : Int32} {x2 : Int32} (o : Nat) (f : Nat → Int64) (sz : Nat) {rz : Int32} {gz : CS} (h : fC_Court_join g x1 x2 = some (.inr (rz, gz))) : Met l yL_join wsL_join ({ frames := 8, cells := 0, slots := 0, locals := 135 }) (va_Pc [.ref (ad 0 0), .int x1, .int x2, .ref o] (hPre D yI yO yL z0 ad g o f sz)) (hQ D yI yO yL z0 ad gz o f 0 rz.toInt64 (hAd ad g sz o)) 0 0 (hAd ad g sz o) := by
  refine lh_ofW (cc := cL_join) (maxL := 5) (ret := some .int) (hh := [(0, 10, 13, 21), (0, 10, 17, 15)]) (by decide) rfl ?_
  intro p e s m args below meth c s₁ B hml htab hv
  obtain ⟨hv0, hw, hLK, hP, ho, hsz, hxs, hys, hns⟩ := hv
  subst hsz
  have hv1 : args = [.ref (ad 0 0), .int x1, .int x2, .ref o].toArray := hv0
  subst hv1
  have hx := B.exec
  have hb := B.bytes
  have hr := B.returns
  have hts := atoms_spec (ws := wsL_join) B.pre
  have hown : s.vm.findClass RL = some m.cls := findClass_of_methodNamed B.named
  have hlocks := B.notSynchronized
  have hK := hLK.c
  have hN := hN_start hw hP ho
  generalize hAe : hAd ad g s.heap.size o = A at hN hxs hys ⊢
  have hA : ∀ q, s.heap.size ≤ q → A q := fun q h => by rw [← hAe]; exact Or.inl (Or.inr h)
  have hl := lv_entry ([.ref (ad 0 0), .int x1, .int x2, .ref o]) (n := 5) (Nat.le_of_ble_eq_true rfl)
  rw [lg_entry_eq]
  generalize (lg_sl ([.ref (ad 0 0), .int x1, .int x2, .ref o]) ++ List.replicate (5 - (lg_sl ([.ref (ad 0 0), .int x1, .int x2, .ref o])).length) Slot.unset).toArray = ls at hl ⊢
  have hl : lv_has ls 5 [(0, .ref (ad 0 0)), (1, .int x1), (2, .int x2), (3, .ref o)] := hl
  refine lv_aload_n hx hb dL_join_0 rfl (lv_at hl 3 rfl) ?_
  refine lv_iconst (v := 0) hx hb dL_join_1 (by decide) ?_
  refine lv_aload_n hx hb dL_join_2 rfl (lv_at hl 0 rfl) ?_
  refine lv_iload_n hx hb dL_join_3 rfl (lv_at hl 1 rfl) ?_
  refine lv_iload_n hx hb dL_join_4 rfl (lv_at hl 2 rfl) ?_
  refine hg_callV (As := [.int x1, .int x2]) (rest := [.int 0, .ref o]) ⟨hx, hb, hml, hown, hts⟩ (cC_Court_join l D yI yO z0 ad h) (cwV 2 hts gL_join_X8_join rfl rfl rfl (by decide +kernel) ⟨Nat.le_of_ble_eq_true rfl, Nat.le_of_ble_eq_true rfl⟩) hK hN rfl hl.1 rfl (Nat.le_of_ble_eq_true rfl) dL_join_5 ⟨Nat.le_of_ble_eq_true rfl, Nat.le_of_ble_eq_true rfl⟩ (fun H locs hN => ?_)
  have had : ad 0 0 = ad 0 0 := rfl
  refine lv_i2l (v := rz.toInt64) hx hb dL_join_8 rfl ?_
  refine hg_last hx hb hLK hN dL_join_9 (fun f1 H locs hf1 hN => ?_)
  refine lv_goto (tgt := 21) hx hb dL_join_10 (by decide) ?_
  refine lv_iconst (v := 0) hx hb dL_join_21 (by decide) ?_
  exact W.iret (v := 0) hx hb hr (fun t ht hW => ⟨⟨0, (ad, f1), rfl, ⟨rfl, hf1⟩, had, by rw [ht]; exact hN.1.1, va_K.moved hW.alike hLK, by rw [ht]; exact hN.2.1, hN.2.2.2 0 _ rfl, hN.1.2.1⟩, hN.1.2.2.F ht⟩) hN.1.2.2.2.2 dL_join_22 hlocks
set_option maxRecDepth 20000 in
theorem cHx_join_0 (l : Launch) (hlf : l.stackTraces = false) (D : va_G) (yI yO yL : ClassId) (z0 : Nat) (ad : Nat → Nat → Nat) {g : CS} {x1 : Int32} {x2 : Int32} (o : Nat) (f : Nat → Int64) (sz : Nat) (h : fC_Court_join g x1 x2 = some (.inl 0)) : Met l yL_join wsL_join ({ frames := 8, cells := 1, slots := 6, locals := 135 }) (va_Pc [.ref (ad 0 0), .int x1, .int x2, .ref o] (hPre D yI yO yL z0 ad g o f sz)) (hQ D yI yO yL z0 ad g o f 1 (f 0) (hAd ad g sz o)) 1 6 (hAd ad g sz o) := by
  refine lh_ofW (cc := cL_join) (maxL := 5) (ret := some .int) (hh := [(0, 10, 13, 21), (0, 10, 17, 15)]) (by decide) rfl ?_
  intro p e s m args below meth c s₁ B hml htab hv
  obtain ⟨hv0, hw, hLK, hP, ho, hsz, hxs, hys, hns⟩ := hv
  subst hsz
  have hv1 : args = [.ref (ad 0 0), .int x1, .int x2, .ref o].toArray := hv0
  subst hv1
  have hx := B.exec
  have hb := B.bytes
  have hr := B.returns
  have hts := atoms_spec (ws := wsL_join) B.pre
  have hown : s.vm.findClass RL = some m.cls := findClass_of_methodNamed B.named
  have hlocks := B.notSynchronized
  have hK := hLK.c
  have hN := hN_start hw hP ho
  generalize hAe : hAd ad g s.heap.size o = A at hN hxs hys ⊢
  have hA : ∀ q, s.heap.size ≤ q → A q := fun q h => by rw [← hAe]; exact Or.inl (Or.inr h)
  have hl := lv_entry ([.ref (ad 0 0), .int x1, .int x2, .ref o]) (n := 5) (Nat.le_of_ble_eq_true rfl)
  rw [lg_entry_eq]
  generalize (lg_sl ([.ref (ad 0 0), .int x1, .int x2, .ref o]) ++ List.replicate (5 - (lg_sl ([.ref (ad 0 0), .int x1, .int x2, .ref o])).length) Slot.unset).toArray = ls at hl ⊢
  have hl : lv_has ls 5 [(0, .ref (ad 0 0)), (1, .int x1), (2, .int x2), (3, .ref o)] := hl
  refine lv_aload_n hx hb dL_join_0 rfl (lv_at hl 3 rfl) ?_
  refine lv_iconst (v := 0) hx hb dL_join_1 (by decide) ?_
  refine lv_aload_n hx hb dL_join_2 rfl (lv_at hl 0 rfl) ?_
  refine lv_iload_n hx hb dL_join_3 rfl (lv_at hl 1 rfl) ?_
  refine lv_iload_n hx hb dL_join_4 rfl (lv_at hl 2 rfl) ?_
  refine hg_callX (As := [.int x1, .int x2]) (rest := [.int 0, .ref o]) ⟨hx, hb, hml, hown, hts⟩ (cX_Court_join l hlf D yI yO z0 ad s.heap.size h) (cwV 2 hts gL_join_X8_join rfl rfl rfl (by decide +kernel) ⟨Nat.le_of_ble_eq_true rfl, Nat.le_of_ble_eq_true rfl⟩) hK hN hA hxs rfl hl.1 rfl (Nat.le_of_ble_eq_true rfl) dL_join_5 ⟨Nat.le_of_ble_eq_true rfl, Nat.le_of_ble_eq_true rfl⟩ (fun ce q9 H locs hN h8 h9 h10 => ?_)
  refine vx_catch (own := RL) (name := "java/lang/IndexOutOfBoundsException") (E := xE 0) hown [] ⟨0, 10, 13, 21⟩ [⟨0, 10, 17, 15⟩] (by rw [htab]; rfl) (fun z hz => absurd hz List.not_mem_nil) (by decide) (by decide) (hts (.classLink RL 21 "java/lang/IndexOutOfBoundsException") (by decide +kernel)) (va_Nw.use (xB_on (.castable "java/lang/IndexOutOfBoundsException" "java/lang/IndexOutOfBoundsException") (by decide)) (hxs.2.2.2 (.castable "java/lang/IndexOutOfBoundsException" "java/lang/IndexOutOfBoundsException") (by decide))) h8 h9 h10 ?_
  refine W.eq (g2 := F0 m 13 ls [.ref q9]) rfl ?_
  refine lv_astore (lv' := [(4, .ref q9), (0, .ref (ad 0 0)), (1, .int x1), (2, .int x2), (3, .ref o)]) hx hb dL_join_13 hl (by decide) rfl (fun ls hl => ?_)
  refine lv_iconst (v := 1) hx hb dL_join_15 (by decide) ?_
  exact W.iret (v := 1) hx hb hr (fun t ht hW => ⟨⟨1, (ad, f), rfl, ⟨rfl, rfl⟩, rfl, by rw [ht]; exact hN.1.1, va_K.moved hW.alike hLK, by rw [ht]; exact hN.2.1, hN.2.2.2 0 _ rfl, hN.1.2.1⟩, hN.1.2.2.F ht⟩) hN.1.2.2.2.2 dL_join_16 hlocks
set_option maxRecDepth 20000 in
theorem cHx_join_2 (l : Launch) (hlf : l.stackTraces = false) (D : va_G) (yI yO yL : ClassId) (z0 : Nat) (ad : Nat → Nat → Nat) {g : CS} {x1 : Int32} {x2 : Int32} (o : Nat) (f : Nat → Int64) (sz : Nat) (h : fC_Court_join g x1 x2 = some (.inl 2)) : Met l yL_join wsL_join ({ frames := 8, cells := 1, slots := 6, locals := 135 }) (va_Pc [.ref (ad 0 0), .int x1, .int x2, .ref o] (hPre D yI yO yL z0 ad g o f sz)) (hQ D yI yO yL z0 ad g o f 2 (f 0) (hAd ad g sz o)) 1 6 (hAd ad g sz o) := by
  refine lh_ofW (cc := cL_join) (maxL := 5) (ret := some .int) (hh := [(0, 10, 13, 21), (0, 10, 17, 15)]) (by decide) rfl ?_
  intro p e s m args below meth c s₁ B hml htab hv
  obtain ⟨hv0, hw, hLK, hP, ho, hsz, hxs, hys, hns⟩ := hv
  subst hsz
  have hv1 : args = [.ref (ad 0 0), .int x1, .int x2, .ref o].toArray := hv0
  subst hv1
  have hx := B.exec
  have hb := B.bytes
  have hr := B.returns
  have hts := atoms_spec (ws := wsL_join) B.pre
  have hown : s.vm.findClass RL = some m.cls := findClass_of_methodNamed B.named
  have hlocks := B.notSynchronized
  have hK := hLK.c
  have hN := hN_start hw hP ho
  generalize hAe : hAd ad g s.heap.size o = A at hN hxs hys ⊢
  have hA : ∀ q, s.heap.size ≤ q → A q := fun q h => by rw [← hAe]; exact Or.inl (Or.inr h)
  have hl := lv_entry ([.ref (ad 0 0), .int x1, .int x2, .ref o]) (n := 5) (Nat.le_of_ble_eq_true rfl)
  rw [lg_entry_eq]
  generalize (lg_sl ([.ref (ad 0 0), .int x1, .int x2, .ref o]) ++ List.replicate (5 - (lg_sl ([.ref (ad 0 0), .int x1, .int x2, .ref o])).length) Slot.unset).toArray = ls at hl ⊢
  have hl : lv_has ls 5 [(0, .ref (ad 0 0)), (1, .int x1), (2, .int x2), (3, .ref o)] := hl
  refine lv_aload_n hx hb dL_join_0 rfl (lv_at hl 3 rfl) ?_
  refine lv_iconst (v := 0) hx hb dL_join_1 (by decide) ?_
  refine lv_aload_n hx hb dL_join_2 rfl (lv_at hl 0 rfl) ?_
  refine lv_iload_n hx hb dL_join_3 rfl (lv_at hl 1 rfl) ?_
  refine lv_iload_n hx hb dL_join_4 rfl (lv_at hl 2 rfl) ?_
  refine hg_callX (As := [.int x1, .int x2]) (rest := [.int 0, .ref o]) ⟨hx, hb, hml, hown, hts⟩ (cX_Court_join l hlf D yI yO z0 ad s.heap.size h) (cwV 2 hts gL_join_X8_join rfl rfl rfl (by decide +kernel) ⟨Nat.le_of_ble_eq_true rfl, Nat.le_of_ble_eq_true rfl⟩) hK hN hA hxs rfl hl.1 rfl (Nat.le_of_ble_eq_true rfl) dL_join_5 ⟨Nat.le_of_ble_eq_true rfl, Nat.le_of_ble_eq_true rfl⟩ (fun ce q9 H locs hN h8 h9 h10 => ?_)
  refine vx_catch (own := RL) (name := "java/lang/IllegalStateException") (E := xE 2) hown [⟨0, 10, 13, 21⟩] ⟨0, 10, 17, 15⟩ [] (by rw [htab]; rfl) (List.forall_mem_cons.mpr ⟨Or.inr ⟨by decide, "java/lang/IndexOutOfBoundsException", hts (.classLink RL 21 "java/lang/IndexOutOfBoundsException") (by decide +kernel), hns ("java/lang/IllegalStateException", "java/lang/IndexOutOfBoundsException") (by decide)⟩, (fun z hz => absurd hz List.not_mem_nil)⟩) (by decide) (by decide) (hts (.classLink RL 15 "java/lang/IllegalStateException") (by decide +kernel)) (va_Nw.use (xB_on (.castable "java/lang/IllegalStateException" "java/lang/IllegalStateException") (by decide)) (hxs.2.2.2 (.castable "java/lang/IllegalStateException" "java/lang/IllegalStateException") (by decide))) h8 h9 h10 ?_
  refine W.eq (g2 := F0 m 17 ls [.ref q9]) rfl ?_
  refine lv_astore (lv' := [(4, .ref q9), (0, .ref (ad 0 0)), (1, .int x1), (2, .int x2), (3, .ref o)]) hx hb dL_join_17 hl (by decide) rfl (fun ls hl => ?_)
  refine lv_iconst (v := 2) hx hb dL_join_19 (by decide) ?_
  exact W.iret (v := 2) hx hb hr (fun t ht hW => ⟨⟨2, (ad, f), rfl, ⟨rfl, rfl⟩, rfl, by rw [ht]; exact hN.1.1, va_K.moved hW.alike hLK, by rw [ht]; exact hN.2.1, hN.2.2.2 0 _ rfl, hN.1.2.1⟩, hN.1.2.2.F ht⟩) hN.1.2.2.2.2 dL_join_20 hlocks
