set_option maxRecDepth 20000 in
theorem cH_refuse (l : Launch) (hlf : l.stackTraces = false) (D : va_G) (yI yO yL : ClassId) (z0 : Nat) (ad : Nat → Nat → Nat) {g : CS} {x1 : Int32} (o : Nat) (f : Nat → Int64) (sz : Nat) {rz : Int32} {gz : CS} (h : fC_Court_refuse g x1 = some (.inr (rz, gz))) : Met l yL_refuse wsL_refuse ({ frames := 8, cells := 0, slots := 0, locals := 133 }) (va_Pc [.ref (ad 0 0), .int x1, .ref o] (hPre D yI yO yL z0 ad g o f sz)) (hQ D yI yO yL z0 ad gz o f 0 rz.toInt64 (hAd ad g sz o)) 0 0 (hAd ad g sz o) := by
  refine lh_ofW (cc := cL_refuse) (maxL := 4) (ret := some .int) (hh := [(0, 9, 12, 21), (0, 9, 15, 15)]) (by decide) rfl ?_
  intro p e s m args below meth c s₁ B hml htab hv
  obtain ⟨hv0, hw, hLK, hP, ho, hsz, hxs, hys, hns⟩ := hv
  subst hsz
  have hv1 : args = [.ref (ad 0 0), .int x1, .ref o].toArray := hv0
  subst hv1
  have hx := B.exec
  have hb := B.bytes
  have hr := B.returns
  have hts := atoms_spec (ws := wsL_refuse) B.pre
  have hown : s.vm.findClass RL = some m.cls := findClass_of_methodNamed B.named
  have hlocks := B.notSynchronized
  have hK := hLK.c
  have hN := hN_start hw hP ho
  generalize hAe : hAd ad g s.heap.size o = A at hN hxs hys ⊢
  have hA : ∀ q, s.heap.size ≤ q → A q := fun q h => by rw [← hAe]; exact Or.inl (Or.inr h)
  have hl := lv_entry ([.ref (ad 0 0), .int x1, .ref o]) (n := 4) (Nat.le_of_ble_eq_true rfl)
  rw [lg_entry_eq]
  generalize (lg_sl ([.ref (ad 0 0), .int x1, .ref o]) ++ List.replicate (4 - (lg_sl ([.ref (ad 0 0), .int x1, .ref o])).length) Slot.unset).toArray = ls at hl ⊢
  have hl : lv_has ls 4 [(0, .ref (ad 0 0)), (1, .int x1), (2, .ref o)] := hl
  refine lv_aload_n hx hb dL_refuse_0 rfl (lv_at hl 2 rfl) ?_
  refine lv_iconst (v := 0) hx hb dL_refuse_1 (by decide) ?_
  refine lv_aload_n hx hb dL_refuse_2 rfl (lv_at hl 0 rfl) ?_
  refine lv_iload_n hx hb dL_refuse_3 rfl (lv_at hl 1 rfl) ?_
  refine hg_callV (As := [.int x1]) (rest := [.int 0, .ref o]) ⟨hx, hb, hml, hown, hts⟩ (cC_Court_refuse l D yI yO z0 ad h) (cwV 1 hts gL_refuse_X8_refuse rfl rfl rfl (by decide +kernel) ⟨Nat.le_of_ble_eq_true rfl, Nat.le_of_ble_eq_true rfl⟩) hK hN rfl hl.1 rfl (Nat.le_of_ble_eq_true rfl) dL_refuse_4 ⟨Nat.le_of_ble_eq_true rfl, Nat.le_of_ble_eq_true rfl⟩ (fun H locs hN => ?_)
  have had : ad 0 0 = ad 0 0 := rfl
  refine lv_i2l (v := rz.toInt64) hx hb dL_refuse_7 rfl ?_
  refine hg_last hx hb hLK hN dL_refuse_8 (fun f1 H locs hf1 hN => ?_)
  refine lv_goto (tgt := 18) hx hb dL_refuse_9 (by decide) ?_
  refine lv_iconst (v := 0) hx hb dL_refuse_18 (by decide) ?_
  exact W.iret (v := 0) hx hb hr (fun t ht hW => ⟨⟨0, (ad, f1), rfl, ⟨rfl, hf1⟩, had, by rw [ht]; exact hN.1.1, va_K.moved hW.alike hLK, by rw [ht]; exact hN.2.1, hN.2.2.2 0 _ rfl, hN.1.2.1⟩, hN.1.2.2.F ht⟩) hN.1.2.2.2.2 dL_refuse_19 hlocks
set_option maxRecDepth 20000 in
theorem cHx_refuse_0 (l : Launch) (hlf : l.stackTraces = false) (D : va_G) (yI yO yL : ClassId) (z0 : Nat) (ad : Nat → Nat → Nat) {g : CS} {x1 : Int32} (o : Nat) (f : Nat → Int64) (sz : Nat) (h : fC_Court_refuse g x1 = some (.inl 0)) : Met l yL_refuse wsL_refuse ({ frames := 8, cells := 1, slots := 6, locals := 133 }) (va_Pc [.ref (ad 0 0), .int x1, .ref o] (hPre D yI yO yL z0 ad g o f sz)) (hQ D yI yO yL z0 ad g o f 1 (f 0) (hAd ad g sz o)) 1 6 (hAd ad g sz o) := by
  refine lh_ofW (cc := cL_refuse) (maxL := 4) (ret := some .int) (hh := [(0, 9, 12, 21), (0, 9, 15, 15)]) (by decide) rfl ?_
  intro p e s m args below meth c s₁ B hml htab hv
  obtain ⟨hv0, hw, hLK, hP, ho, hsz, hxs, hys, hns⟩ := hv
  subst hsz
  have hv1 : args = [.ref (ad 0 0), .int x1, .ref o].toArray := hv0
  subst hv1
  have hx := B.exec
  have hb := B.bytes
  have hr := B.returns
  have hts := atoms_spec (ws := wsL_refuse) B.pre
  have hown : s.vm.findClass RL = some m.cls := findClass_of_methodNamed B.named
  have hlocks := B.notSynchronized
  have hK := hLK.c
  have hN := hN_start hw hP ho
  generalize hAe : hAd ad g s.heap.size o = A at hN hxs hys ⊢
  have hA : ∀ q, s.heap.size ≤ q → A q := fun q h => by rw [← hAe]; exact Or.inl (Or.inr h)
  have hl := lv_entry ([.ref (ad 0 0), .int x1, .ref o]) (n := 4) (Nat.le_of_ble_eq_true rfl)
  rw [lg_entry_eq]
  generalize (lg_sl ([.ref (ad 0 0), .int x1, .ref o]) ++ List.replicate (4 - (lg_sl ([.ref (ad 0 0), .int x1, .ref o])).length) Slot.unset).toArray = ls at hl ⊢
  have hl : lv_has ls 4 [(0, .ref (ad 0 0)), (1, .int x1), (2, .ref o)] := hl
  refine lv_aload_n hx hb dL_refuse_0 rfl (lv_at hl 2 rfl) ?_
  refine lv_iconst (v := 0) hx hb dL_refuse_1 (by decide) ?_
  refine lv_aload_n hx hb dL_refuse_2 rfl (lv_at hl 0 rfl) ?_
  refine lv_iload_n hx hb dL_refuse_3 rfl (lv_at hl 1 rfl) ?_
  refine hg_callX (As := [.int x1]) (rest := [.int 0, .ref o]) ⟨hx, hb, hml, hown, hts⟩ (cX_Court_refuse l hlf D yI yO z0 ad s.heap.size h) (cwV 1 hts gL_refuse_X8_refuse rfl rfl rfl (by decide +kernel) ⟨Nat.le_of_ble_eq_true rfl, Nat.le_of_ble_eq_true rfl⟩) hK hN hA hxs rfl hl.1 rfl (Nat.le_of_ble_eq_true rfl) dL_refuse_4 ⟨Nat.le_of_ble_eq_true rfl, Nat.le_of_ble_eq_true rfl⟩ (fun ce q9 H locs hN h8 h9 h10 => ?_)
  refine vx_catch (own := RL) (name := "java/lang/IndexOutOfBoundsException") (E := xE 0) hown [] ⟨0, 9, 12, 21⟩ [⟨0, 9, 15, 15⟩] (by rw [htab]; rfl) (fun z hz => absurd hz List.not_mem_nil) (by decide) (by decide) (hts (.classLink RL 21 "java/lang/IndexOutOfBoundsException") (by decide +kernel)) (va_Nw.use (xB_on (.castable "java/lang/IndexOutOfBoundsException" "java/lang/IndexOutOfBoundsException") (by decide)) (hxs.2.2.2 (.castable "java/lang/IndexOutOfBoundsException" "java/lang/IndexOutOfBoundsException") (by decide))) h8 h9 h10 ?_
  refine W.eq (g2 := F0 m 12 ls [.ref q9]) rfl ?_
  refine lv_astore_n (lv' := [(3, .ref q9), (0, .ref (ad 0 0)), (1, .int x1), (2, .ref o)]) hx hb dL_refuse_12 rfl hl (by decide) rfl (fun ls hl => ?_)
  refine lv_iconst (v := 1) hx hb dL_refuse_13 (by decide) ?_
  exact W.iret (v := 1) hx hb hr (fun t ht hW => ⟨⟨1, (ad, f), rfl, ⟨rfl, rfl⟩, rfl, by rw [ht]; exact hN.1.1, va_K.moved hW.alike hLK, by rw [ht]; exact hN.2.1, hN.2.2.2 0 _ rfl, hN.1.2.1⟩, hN.1.2.2.F ht⟩) hN.1.2.2.2.2 dL_refuse_14 hlocks
set_option maxRecDepth 20000 in
theorem cHx_refuse_2 (l : Launch) (hlf : l.stackTraces = false) (D : va_G) (yI yO yL : ClassId) (z0 : Nat) (ad : Nat → Nat → Nat) {g : CS} {x1 : Int32} (o : Nat) (f : Nat → Int64) (sz : Nat) (h : fC_Court_refuse g x1 = some (.inl 2)) : Met l yL_refuse wsL_refuse ({ frames := 8, cells := 1, slots := 6, locals := 133 }) (va_Pc [.ref (ad 0 0), .int x1, .ref o] (hPre D yI yO yL z0 ad g o f sz)) (hQ D yI yO yL z0 ad g o f 2 (f 0) (hAd ad g sz o)) 1 6 (hAd ad g sz o) := by
  refine lh_ofW (cc := cL_refuse) (maxL := 4) (ret := some .int) (hh := [(0, 9, 12, 21), (0, 9, 15, 15)]) (by decide) rfl ?_
  intro p e s m args below meth c s₁ B hml htab hv
  obtain ⟨hv0, hw, hLK, hP, ho, hsz, hxs, hys, hns⟩ := hv
  subst hsz
  have hv1 : args = [.ref (ad 0 0), .int x1, .ref o].toArray := hv0
  subst hv1
  have hx := B.exec
  have hb := B.bytes
  have hr := B.returns
  have hts := atoms_spec (ws := wsL_refuse) B.pre
  have hown : s.vm.findClass RL = some m.cls := findClass_of_methodNamed B.named
  have hlocks := B.notSynchronized
  have hK := hLK.c
  have hN := hN_start hw hP ho
  generalize hAe : hAd ad g s.heap.size o = A at hN hxs hys ⊢
  have hA : ∀ q, s.heap.size ≤ q → A q := fun q h => by rw [← hAe]; exact Or.inl (Or.inr h)
  have hl := lv_entry ([.ref (ad 0 0), .int x1, .ref o]) (n := 4) (Nat.le_of_ble_eq_true rfl)
  rw [lg_entry_eq]
  generalize (lg_sl ([.ref (ad 0 0), .int x1, .ref o]) ++ List.replicate (4 - (lg_sl ([.ref (ad 0 0), .int x1, .ref o])).length) Slot.unset).toArray = ls at hl ⊢
  have hl : lv_has ls 4 [(0, .ref (ad 0 0)), (1, .int x1), (2, .ref o)] := hl
  refine lv_aload_n hx hb dL_refuse_0 rfl (lv_at hl 2 rfl) ?_
  refine lv_iconst (v := 0) hx hb dL_refuse_1 (by decide) ?_
  refine lv_aload_n hx hb dL_refuse_2 rfl (lv_at hl 0 rfl) ?_
  refine lv_iload_n hx hb dL_refuse_3 rfl (lv_at hl 1 rfl) ?_
  refine hg_callX (As := [.int x1]) (rest := [.int 0, .ref o]) ⟨hx, hb, hml, hown, hts⟩ (cX_Court_refuse l hlf D yI yO z0 ad s.heap.size h) (cwV 1 hts gL_refuse_X8_refuse rfl rfl rfl (by decide +kernel) ⟨Nat.le_of_ble_eq_true rfl, Nat.le_of_ble_eq_true rfl⟩) hK hN hA hxs rfl hl.1 rfl (Nat.le_of_ble_eq_true rfl) dL_refuse_4 ⟨Nat.le_of_ble_eq_true rfl, Nat.le_of_ble_eq_true rfl⟩ (fun ce q9 H locs hN h8 h9 h10 => ?_)
  refine vx_catch (own := RL) (name := "java/lang/IllegalStateException") (E := xE 2) hown [⟨0, 9, 12, 21⟩] ⟨0, 9, 15, 15⟩ [] (by rw [htab]; rfl) (List.forall_mem_cons.mpr ⟨Or.inr ⟨by decide, "java/lang/IndexOutOfBoundsException", hts (.classLink RL 21 "java/lang/IndexOutOfBoundsException") (by decide +kernel), hns ("java/lang/IllegalStateException", "java/lang/IndexOutOfBoundsException") (by decide)⟩, (fun z hz => absurd hz List.not_mem_nil)⟩) (by decide) (by decide) (hts (.classLink RL 15 "java/lang/IllegalStateException") (by decide +kernel)) (va_Nw.use (xB_on (.castable "java/lang/IllegalStateException" "java/lang/IllegalStateException") (by decide)) (hxs.2.2.2 (.castable "java/lang/IllegalStateException" "java/lang/IllegalStateException") (by decide))) h8 h9 h10 ?_
  refine W.eq (g2 := F0 m 15 ls [.ref q9]) rfl ?_
  refine lv_astore_n (lv' := [(3, .ref q9), (0, .ref (ad 0 0)), (1, .int x1), (2, .ref o)]) hx hb dL_refuse_15 rfl hl (by decide) rfl (fun ls hl => ?_)
  refine lv_iconst (v := 2) hx hb dL_refuse_16 (by decide) ?_
  exact W.iret (v := 2) hx hb hr (fun t ht hW => ⟨⟨2, (ad, f), rfl, ⟨rfl, rfl⟩, rfl, by rw [ht]; exact hN.1.1, va_K.moved hW.alike hLK, by rw [ht]; exact hN.2.1, hN.2.2.2 0 _ rfl, hN.1.2.1⟩, hN.1.2.2.F ht⟩) hN.1.2.2.2.2 dL_refuse_17 hlocks
set_option maxRecDepth 20000 in
theorem cH_appeal (l : Launch) (hlf : l.stackTraces = false) (D : va_G) (yI yO yL : ClassId) (z0 : Nat) (ad : Nat → Nat → Nat) {g : CS} {x1 : Int32} (o : Nat) (f : Nat → Int64) (sz : Nat) {rz : Int32} {gz : CS} (h : fC_Court_appeal g x1 = some (.inr (rz, gz))) : Met l yL_appeal wsL_appeal ({ frames := 8, cells := 0, slots := 0, locals := 133 }) (va_Pc [.ref (ad 0 0), .int x1, .ref o] (hPre D yI yO yL z0 ad g o f sz)) (hQ D yI yO yL z0 ad gz o f 0 rz.toInt64 (hAd ad g sz o)) 0 0 (hAd ad g sz o) := by
  refine lh_ofW (cc := cL_appeal) (maxL := 4) (ret := some .int) (hh := [(0, 9, 12, 21), (0, 9, 15, 15)]) (by decide) rfl ?_
  intro p e s m args below meth c s₁ B hml htab hv
  obtain ⟨hv0, hw, hLK, hP, ho, hsz, hxs, hys, hns⟩ := hv
  subst hsz
  have hv1 : args = [.ref (ad 0 0), .int x1, .ref o].toArray := hv0
  subst hv1
  have hx := B.exec
  have hb := B.bytes
  have hr := B.returns
  have hts := atoms_spec (ws := wsL_appeal) B.pre
  have hown : s.vm.findClass RL = some m.cls := findClass_of_methodNamed B.named
  have hlocks := B.notSynchronized
  have hK := hLK.c
  have hN := hN_start hw hP ho
  generalize hAe : hAd ad g s.heap.size o = A at hN hxs hys ⊢
  have hA : ∀ q, s.heap.size ≤ q → A q := fun q h => by rw [← hAe]; exact Or.inl (Or.inr h)
  have hl := lv_entry ([.ref (ad 0 0), .int x1, .ref o]) (n := 4) (Nat.le_of_ble_eq_true rfl)
  rw [lg_entry_eq]
  generalize (lg_sl ([.ref (ad 0 0), .int x1, .ref o]) ++ List.replicate (4 - (lg_sl ([.ref (ad 0 0), .int x1, .ref o])).length) Slot.unset).toArray = ls at hl ⊢
  have hl : lv_has ls 4 [(0, .ref (ad 0 0)), (1, .int x1), (2, .ref o)] := hl
  refine lv_aload_n hx hb dL_appeal_0 rfl (lv_at hl 2 rfl) ?_
  refine lv_iconst (v := 0) hx hb dL_appeal_1 (by decide) ?_
  refine lv_aload_n hx hb dL_appeal_2 rfl (lv_at hl 0 rfl) ?_
  refine lv_iload_n hx hb dL_appeal_3 rfl (lv_at hl 1 rfl) ?_
  refine hg_callV (As := [.int x1]) (rest := [.int 0, .ref o]) ⟨hx, hb, hml, hown, hts⟩ (cC_Court_appeal l D yI yO z0 ad h) (cwV 1 hts gL_appeal_X8_appeal rfl rfl rfl (by decide +kernel) ⟨Nat.le_of_ble_eq_true rfl, Nat.le_of_ble_eq_true rfl⟩) hK hN rfl hl.1 rfl (Nat.le_of_ble_eq_true rfl) dL_appeal_4 ⟨Nat.le_of_ble_eq_true rfl, Nat.le_of_ble_eq_true rfl⟩ (fun H locs hN => ?_)
  have had : ad 0 0 = ad 0 0 := rfl
  refine lv_i2l (v := rz.toInt64) hx hb dL_appeal_7 rfl ?_
  refine hg_last hx hb hLK hN dL_appeal_8 (fun f1 H locs hf1 hN => ?_)
  refine lv_goto (tgt := 18) hx hb dL_appeal_9 (by decide) ?_
  refine lv_iconst (v := 0) hx hb dL_appeal_18 (by decide) ?_
  exact W.iret (v := 0) hx hb hr (fun t ht hW => ⟨⟨0, (ad, f1), rfl, ⟨rfl, hf1⟩, had, by rw [ht]; exact hN.1.1, va_K.moved hW.alike hLK, by rw [ht]; exact hN.2.1, hN.2.2.2 0 _ rfl, hN.1.2.1⟩, hN.1.2.2.F ht⟩) hN.1.2.2.2.2 dL_appeal_19 hlocks
set_option maxRecDepth 20000 in
theorem cHx_appeal_0 (l : Launch) (hlf : l.stackTraces = false) (D : va_G) (yI yO yL : ClassId) (z0 : Nat) (ad : Nat → Nat → Nat) {g : CS} {x1 : Int32} (o : Nat) (f : Nat → Int64) (sz : Nat) (h : fC_Court_appeal g x1 = some (.inl 0)) : Met l yL_appeal wsL_appeal ({ frames := 8, cells := 1, slots := 6, locals := 133 }) (va_Pc [.ref (ad 0 0), .int x1, .ref o] (hPre D yI yO yL z0 ad g o f sz)) (hQ D yI yO yL z0 ad g o f 1 (f 0) (hAd ad g sz o)) 1 6 (hAd ad g sz o) := by
  refine lh_ofW (cc := cL_appeal) (maxL := 4) (ret := some .int) (hh := [(0, 9, 12, 21), (0, 9, 15, 15)]) (by decide) rfl ?_
  intro p e s m args below meth c s₁ B hml htab hv
  obtain ⟨hv0, hw, hLK, hP, ho, hsz, hxs, hys, hns⟩ := hv
  subst hsz
  have hv1 : args = [.ref (ad 0 0), .int x1, .ref o].toArray := hv0
  subst hv1
  have hx := B.exec
  have hb := B.bytes
  have hr := B.returns
  have hts := atoms_spec (ws := wsL_appeal) B.pre
  have hown : s.vm.findClass RL = some m.cls := findClass_of_methodNamed B.named
  have hlocks := B.notSynchronized
  have hK := hLK.c
  have hN := hN_start hw hP ho
  generalize hAe : hAd ad g s.heap.size o = A at hN hxs hys ⊢
  have hA : ∀ q, s.heap.size ≤ q → A q := fun q h => by rw [← hAe]; exact Or.inl (Or.inr h)
  have hl := lv_entry ([.ref (ad 0 0), .int x1, .ref o]) (n := 4) (Nat.le_of_ble_eq_true rfl)
  rw [lg_entry_eq]
  generalize (lg_sl ([.ref (ad 0 0), .int x1, .ref o]) ++ List.replicate (4 - (lg_sl ([.ref (ad 0 0), .int x1, .ref o])).length) Slot.unset).toArray = ls at hl ⊢
  have hl : lv_has ls 4 [(0, .ref (ad 0 0)), (1, .int x1), (2, .ref o)] := hl
  refine lv_aload_n hx hb dL_appeal_0 rfl (lv_at hl 2 rfl) ?_
  refine lv_iconst (v := 0) hx hb dL_appeal_1 (by decide) ?_
  refine lv_aload_n hx hb dL_appeal_2 rfl (lv_at hl 0 rfl) ?_
  refine lv_iload_n hx hb dL_appeal_3 rfl (lv_at hl 1 rfl) ?_
  refine hg_callX (As := [.int x1]) (rest := [.int 0, .ref o]) ⟨hx, hb, hml, hown, hts⟩ (cX_Court_appeal l hlf D yI yO z0 ad s.heap.size h) (cwV 1 hts gL_appeal_X8_appeal rfl rfl rfl (by decide +kernel) ⟨Nat.le_of_ble_eq_true rfl, Nat.le_of_ble_eq_true rfl⟩) hK hN hA hxs rfl hl.1 rfl (Nat.le_of_ble_eq_true rfl) dL_appeal_4 ⟨Nat.le_of_ble_eq_true rfl, Nat.le_of_ble_eq_true rfl⟩ (fun ce q9 H locs hN h8 h9 h10 => ?_)
  refine vx_catch (own := RL) (name := "java/lang/IndexOutOfBoundsException") (E := xE 0) hown [] ⟨0, 9, 12, 21⟩ [⟨0, 9, 15, 15⟩] (by rw [htab]; rfl) (fun z hz => absurd hz List.not_mem_nil) (by decide) (by decide) (hts (.classLink RL 21 "java/lang/IndexOutOfBoundsException") (by decide +kernel)) (va_Nw.use (xB_on (.castable "java/lang/IndexOutOfBoundsException" "java/lang/IndexOutOfBoundsException") (by decide)) (hxs.2.2.2 (.castable "java/lang/IndexOutOfBoundsException" "java/lang/IndexOutOfBoundsException") (by decide))) h8 h9 h10 ?_
  refine W.eq (g2 := F0 m 12 ls [.ref q9]) rfl ?_
  refine lv_astore_n (lv' := [(3, .ref q9), (0, .ref (ad 0 0)), (1, .int x1), (2, .ref o)]) hx hb dL_appeal_12 rfl hl (by decide) rfl (fun ls hl => ?_)
  refine lv_iconst (v := 1) hx hb dL_appeal_13 (by decide) ?_
  exact W.iret (v := 1) hx hb hr (fun t ht hW => ⟨⟨1, (ad, f), rfl, ⟨rfl, rfl⟩, rfl, by rw [ht]; exact hN.1.1, va_K.moved hW.alike hLK, by rw [ht]; exact hN.2.1, hN.2.2.2 0 _ rfl, hN.1.2.1⟩, hN.1.2.2.F ht⟩) hN.1.2.2.2.2 dL_appeal_14 hlocks
set_option maxRecDepth 20000 in
theorem cHx_appeal_2 (l : Launch) (hlf : l.stackTraces = false) (D : va_G) (yI yO yL : ClassId) (z0 : Nat) (ad : Nat → Nat → Nat) {g : CS} {x1 : Int32} (o : Nat) (f : Nat → Int64) (sz : Nat) (h : fC_Court_appeal g x1 = some (.inl 2)) : Met l yL_appeal wsL_appeal ({ frames := 8, cells := 1, slots := 6, locals := 133 }) (va_Pc [.ref (ad 0 0), .int x1, .ref o] (hPre D yI yO yL z0 ad g o f sz)) (hQ D yI yO yL z0 ad g o f 2 (f 0) (hAd ad g sz o)) 1 6 (hAd ad g sz o) := by
  refine lh_ofW (cc := cL_appeal) (maxL := 4) (ret := some .int) (hh := [(0, 9, 12, 21), (0, 9, 15, 15)]) (by decide) rfl ?_
  intro p e s m args below meth c s₁ B hml htab hv
  obtain ⟨hv0, hw, hLK, hP, ho, hsz, hxs, hys, hns⟩ := hv
  subst hsz
  have hv1 : args = [.ref (ad 0 0), .int x1, .ref o].toArray := hv0
  subst hv1
  have hx := B.exec
  have hb := B.bytes
  have hr := B.returns
  have hts := atoms_spec (ws := wsL_appeal) B.pre
  have hown : s.vm.findClass RL = some m.cls := findClass_of_methodNamed B.named
  have hlocks := B.notSynchronized
  have hK := hLK.c
  have hN := hN_start hw hP ho
  generalize hAe : hAd ad g s.heap.size o = A at hN hxs hys ⊢
  have hA : ∀ q, s.heap.size ≤ q → A q := fun q h => by rw [← hAe]; exact Or.inl (Or.inr h)
  have hl := lv_entry ([.ref (ad 0 0), .int x1, .ref o]) (n := 4) (Nat.le_of_ble_eq_true rfl)
  rw [lg_entry_eq]
  generalize (lg_sl ([.ref (ad 0 0), .int x1, .ref o]) ++ List.replicate (4 - (lg_sl ([.ref (ad 0 0), .int x1, .ref o])).length) Slot.unset).toArray = ls at hl ⊢
  have hl : lv_has ls 4 [(0, .ref (ad 0 0)), (1, .int x1), (2, .ref o)] := hl
  refine lv_aload_n hx hb dL_appeal_0 rfl (lv_at hl 2 rfl) ?_
  refine lv_iconst (v := 0) hx hb dL_appeal_1 (by decide) ?_
  refine lv_aload_n hx hb dL_appeal_2 rfl (lv_at hl 0 rfl) ?_
  refine lv_iload_n hx hb dL_appeal_3 rfl (lv_at hl 1 rfl) ?_
  refine hg_callX (As := [.int x1]) (rest := [.int 0, .ref o]) ⟨hx, hb, hml, hown, hts⟩ (cX_Court_appeal l hlf D yI yO z0 ad s.heap.size h) (cwV 1 hts gL_appeal_X8_appeal rfl rfl rfl (by decide +kernel) ⟨Nat.le_of_ble_eq_true rfl, Nat.le_of_ble_eq_true rfl⟩) hK hN hA hxs rfl hl.1 rfl (Nat.le_of_ble_eq_true rfl) dL_appeal_4 ⟨Nat.le_of_ble_eq_true rfl, Nat.le_of_ble_eq_true rfl⟩ (fun ce q9 H locs hN h8 h9 h10 => ?_)
  refine vx_catch (own := RL) (name := "java/lang/IllegalStateException") (E := xE 2) hown [⟨0, 9, 12, 21⟩] ⟨0, 9, 15, 15⟩ [] (by rw [htab]; rfl) (List.forall_mem_cons.mpr ⟨Or.inr ⟨by decide, "java/lang/IndexOutOfBoundsException", hts (.classLink RL 21 "java/lang/IndexOutOfBoundsException") (by decide +kernel), hns ("java/lang/IllegalStateException", "java/lang/IndexOutOfBoundsException") (by decide)⟩, (fun z hz => absurd hz List.not_mem_nil)⟩) (by decide) (by decide) (hts (.classLink RL 15 "java/lang/IllegalStateException") (by decide +kernel)) (va_Nw.use (xB_on (.castable "java/lang/IllegalStateException" "java/lang/IllegalStateException") (by decide)) (hxs.2.2.2 (.castable "java/lang/IllegalStateException" "java/lang/IllegalStateException") (by decide))) h8 h9 h10 ?_
  refine W.eq (g2 := F0 m 15 ls [.ref q9]) rfl ?_
  refine lv_astore_n (lv' := [(3, .ref q9), (0, .ref (ad 0 0)), (1, .int x1), (2, .ref o)]) hx hb dL_appeal_15 rfl hl (by decide) rfl (fun ls hl => ?_)
  refine lv_iconst (v := 2) hx hb dL_appeal_16 (by decide) ?_
  exact W.iret (v := 2) hx hb hr (fun t ht hW => ⟨⟨2, (ad, f), rfl, ⟨rfl, rfl⟩, rfl, by rw [ht]; exact hN.1.1, va_K.moved hW.alike hLK, by rw [ht]; exact hN.2.1, hN.2.2.2 0 _ rfl, hN.1.2.1⟩, hN.1.2.2.F ht⟩) hN.1.2.2.2.2 dL_appeal_17 hlocks
set_option maxRecDepth 20000 in
theorem cH_judge (l : Launch) (hlf : l.stackTraces = false) (D : va_G) (yI yO yL : ClassId) (z0 : Nat) (ad : Nat → Nat → Nat) {g : CS} {x1 : Int32} {x2 : Int32} (o : Nat) (f : Nat → Int64) (sz : Nat) {rz : Int32} {gz : CS} (h : fC_Court_judge g x1 x2 = some (.inr (rz, gz))) : Met l yL_judge wsL_judge ({ frames := 8, cells := 0, slots := 0, locals := 134 }) (va_Pc [.ref (ad 0 0), .int x1, .int x2, .ref o] (hPre D yI yO yL z0 ad g o f sz)) (hQ D yI yO yL z0 ad gz o f 0 rz.toInt64 (hAd ad g sz o)) 0 0 (hAd ad g sz o) := by
  refine lh_ofW (cc := cL_judge) (maxL := 5) (ret := some .int) (hh := [(0, 10, 13, 21), (0, 10, 17, 15)]) (by decide) rfl ?_
  intro p e s m args below meth c s₁ B hml htab hv
  obtain ⟨hv0, hw, hLK, hP, ho, hsz, hxs, hys, hns⟩ := hv
  subst hsz
  have hv1 : args = [.ref (ad 0 0), .int x1, .int x2, .ref o].toArray := hv0
  subst hv1
  have hx := B.exec
  have hb := B.bytes
  have hr := B.returns
  have hts := atoms_spec (ws := wsL_judge) B.pre
  have hown : s.vm.findClass RL = some m.cls := findClass_of_methodNamed B.named
  have hlocks := B.notSynchronized
  have hK := hLK.c
  have hN := hN_start hw hP ho
  generalize hAe : hAd ad g s.heap.size o = A at hN hxs hys ⊢
  have hA : ∀ q, s.heap.size ≤ q → A q := fun q h => by rw [← hAe]; exact Or.inl (Or.inr h)
  have hl := lv_entry ([.ref (ad 0 0), .int x1, .int x2, .ref o]) (n := 5) (Nat.le_of_ble_eq_true rfl)
  rw [lg_entry_eq]
  generalize (lg_sl ([.ref (ad 0 0), .int x1, .int x2, .ref o]) ++ List.replicate (5 - (lg_sl ([.ref (ad 0 0), .int x1, .int x2, .ref o])).length) Slot.unset).toArray = ls at hl ⊢
  have hl : lv_has ls 5 [(0, .ref (ad 0 0)), (1, .int x1), (2, .int x2), (3, .ref o)] := hl
  refine lv_aload_n hx hb dL_judge_0 rfl (lv_at hl 3 rfl) ?_
  refine lv_iconst (v := 0) hx hb dL_judge_1 (by decide) ?_
  refine lv_aload_n hx hb dL_judge_2 rfl (lv_at hl 0 rfl) ?_
  refine lv_iload_n hx hb dL_judge_3 rfl (lv_at hl 1 rfl) ?_
  refine lv_iload_n hx hb dL_judge_4 rfl (lv_at hl 2 rfl) ?_
  refine hg_callV (As := [.int x1, .int x2]) (rest := [.int 0, .ref o]) ⟨hx, hb, hml, hown, hts⟩ (cC_Court_judge l D yI yO z0 ad h) (cwV 2 hts gL_judge_X8_judge rfl rfl rfl (by decide +kernel) ⟨Nat.le_of_ble_eq_true rfl, Nat.le_of_ble_eq_true rfl⟩) hK hN rfl hl.1 rfl (Nat.le_of_ble_eq_true rfl) dL_judge_5 ⟨Nat.le_of_ble_eq_true rfl, Nat.le_of_ble_eq_true rfl⟩ (fun H locs hN => ?_)
  have had : ad 0 0 = ad 0 0 := rfl
  refine lv_i2l (v := rz.toInt64) hx hb dL_judge_8 rfl ?_
  refine hg_last hx hb hLK hN dL_judge_9 (fun f1 H locs hf1 hN => ?_)
  refine lv_goto (tgt := 21) hx hb dL_judge_10 (by decide) ?_
  refine lv_iconst (v := 0) hx hb dL_judge_21 (by decide) ?_
  exact W.iret (v := 0) hx hb hr (fun t ht hW => ⟨⟨0, (ad, f1), rfl, ⟨rfl, hf1⟩, had, by rw [ht]; exact hN.1.1, va_K.moved hW.alike hLK, by rw [ht]; exact hN.2.1, hN.2.2.2 0 _ rfl, hN.1.2.1⟩, hN.1.2.2.F ht⟩) hN.1.2.2.2.2 dL_judge_22 hlocks
set_option maxRecDepth 20000 in
theorem cHx_judge_0 (l : Launch) (hlf : l.stackTraces = false) (D : va_G) (yI yO yL : ClassId) (z0 : Nat) (ad : Nat → Nat → Nat) {g : CS} {x1 : Int32} {x2 : Int32} (o : Nat) (f : Nat → Int64) (sz : Nat) (h : fC_Court_judge g x1 x2 = some (.inl 0)) : Met l yL_judge wsL_judge ({ frames := 8, cells := 1, slots := 6, locals := 134 }) (va_Pc [.ref (ad 0 0), .int x1, .int x2, .ref o] (hPre D yI yO yL z0 ad g o f sz)) (hQ D yI yO yL z0 ad g o f 1 (f 0) (hAd ad g sz o)) 1 6 (hAd ad g sz o) := by
  refine lh_ofW (cc := cL_judge) (maxL := 5) (ret := some .int) (hh := [(0, 10, 13, 21), (0, 10, 17, 15)]) (by decide) rfl ?_
  intro p e s m args below meth c s₁ B hml htab hv
  obtain ⟨hv0, hw, hLK, hP, ho, hsz, hxs, hys, hns⟩ := hv
  subst hsz
  have hv1 : args = [.ref (ad 0 0), .int x1, .int x2, .ref o].toArray := hv0
  subst hv1
  have hx := B.exec
  have hb := B.bytes
  have hr := B.returns
  have hts := atoms_spec (ws := wsL_judge) B.pre
  have hown : s.vm.findClass RL = some m.cls := findClass_of_methodNamed B.named
  have hlocks := B.notSynchronized
  have hK := hLK.c
  have hN := hN_start hw hP ho
  generalize hAe : hAd ad g s.heap.size o = A at hN hxs hys ⊢
  have hA : ∀ q, s.heap.size ≤ q → A q := fun q h => by rw [← hAe]; exact Or.inl (Or.inr h)
  have hl := lv_entry ([.ref (ad 0 0), .int x1, .int x2, .ref o]) (n := 5) (Nat.le_of_ble_eq_true rfl)
  rw [lg_entry_eq]
  generalize (lg_sl ([.ref (ad 0 0), .int x1, .int x2, .ref o]) ++ List.replicate (5 - (lg_sl ([.ref (ad 0 0), .int x1, .int x2, .ref o])).length) Slot.unset).toArray = ls at hl ⊢
  have hl : lv_has ls 5 [(0, .ref (ad 0 0)), (1, .int x1), (2, .int x2), (3, .ref o)] := hl
  refine lv_aload_n hx hb dL_judge_0 rfl (lv_at hl 3 rfl) ?_
  refine lv_iconst (v := 0) hx hb dL_judge_1 (by decide) ?_
  refine lv_aload_n hx hb dL_judge_2 rfl (lv_at hl 0 rfl) ?_
  refine lv_iload_n hx hb dL_judge_3 rfl (lv_at hl 1 rfl) ?_
  refine lv_iload_n hx hb dL_judge_4 rfl (lv_at hl 2 rfl) ?_
  refine hg_callX (As := [.int x1, .int x2]) (rest := [.int 0, .ref o]) ⟨hx, hb, hml, hown, hts⟩ (cX_Court_judge l hlf D yI yO z0 ad s.heap.size h) (cwV 2 hts gL_judge_X8_judge rfl rfl rfl (by decide +kernel) ⟨Nat.le_of_ble_eq_true rfl, Nat.le_of_ble_eq_true rfl⟩) hK hN hA hxs rfl hl.1 rfl (Nat.le_of_ble_eq_true rfl) dL_judge_5 ⟨Nat.le_of_ble_eq_true rfl, Nat.le_of_ble_eq_true rfl⟩ (fun ce q9 H locs hN h8 h9 h10 => ?_)
  refine vx_catch (own := RL) (name := "java/lang/IndexOutOfBoundsException") (E := xE 0) hown [] ⟨0, 10, 13, 21⟩ [⟨0, 10, 17, 15⟩] (by rw [htab]; rfl) (fun z hz => absurd hz List.not_mem_nil) (by decide) (by decide) (hts (.classLink RL 21 "java/lang/IndexOutOfBoundsException") (by decide +kernel)) (va_Nw.use (xB_on (.castable "java/lang/IndexOutOfBoundsException" "java/lang/IndexOutOfBoundsException") (by decide)) (hxs.2.2.2 (.castable "java/lang/IndexOutOfBoundsException" "java/lang/IndexOutOfBoundsException") (by decide))) h8 h9 h10 ?_
  refine W.eq (g2 := F0 m 13 ls [.ref q9]) rfl ?_
  refine lv_astore (lv' := [(4, .ref q9), (0, .ref (ad 0 0)), (1, .int x1), (2, .int x2), (3, .ref o)]) hx hb dL_judge_13 hl (by decide) rfl (fun ls hl => ?_)
  refine lv_iconst (v := 1) hx hb dL_judge_15 (by decide) ?_
  exact W.iret (v := 1) hx hb hr (fun t ht hW => ⟨⟨1, (ad, f), rfl, ⟨rfl, rfl⟩, rfl, by rw [ht]; exact hN.1.1, va_K.moved hW.alike hLK, by rw [ht]; exact hN.2.1, hN.2.2.2 0 _ rfl, hN.1.2.1⟩, hN.1.2.2.F ht⟩) hN.1.2.2.2.2 dL_judge_16 hlocks
set_option maxRecDepth 20000 in
theorem cHx_judge_2 (l : Launch) (hlf : l.stackTraces = false) (D : va_G) (yI yO yL : ClassId) (z0 : Nat) (ad : Nat → Nat → Nat) {g : CS} {x1 : Int32} {x2 : Int32} (o : Nat) (f : Nat → Int64) (sz : Nat) (h : fC_Court_judge g x1 x2 = some (.inl 2)) : Met l yL_judge wsL_judge ({ frames := 8, cells := 1, slots := 6, locals := 134 }) (va_Pc [.ref (ad 0 0), .int x1, .int x2, .ref o] (hPre D yI yO yL z0 ad g o f sz)) (hQ D yI yO yL z0 ad g o f 2 (f 0) (hAd ad g sz o)) 1 6 (hAd ad g sz o) := by
  refine lh_ofW (cc := cL_judge) (maxL := 5) (ret := some .int) (hh := [(0, 10, 13, 21), (0, 10, 17, 15)]) (by decide) rfl ?_
  intro p e s m args below meth c s₁ B hml htab hv
  obtain ⟨hv0, hw, hLK, hP, ho, hsz, hxs, hys, hns⟩ := hv
  subst hsz
  have hv1 : args = [.ref (ad 0 0), .int x1, .int x2, .ref o].toArray := hv0
  subst hv1
  have hx := B.exec
  have hb := B.bytes
  have hr := B.returns
  have hts := atoms_spec (ws := wsL_judge) B.pre
  have hown : s.vm.findClass RL = some m.cls := findClass_of_methodNamed B.named
  have hlocks := B.notSynchronized
  have hK := hLK.c
  have hN := hN_start hw hP ho
  generalize hAe : hAd ad g s.heap.size o = A at hN hxs hys ⊢
  have hA : ∀ q, s.heap.size ≤ q → A q := fun q h => by rw [← hAe]; exact Or.inl (Or.inr h)
  have hl := lv_entry ([.ref (ad 0 0), .int x1, .int x2, .ref o]) (n := 5) (Nat.le_of_ble_eq_true rfl)
  rw [lg_entry_eq]
  generalize (lg_sl ([.ref (ad 0 0), .int x1, .int x2, .ref o]) ++ List.replicate (5 - (lg_sl ([.ref (ad 0 0), .int x1, .int x2, .ref o])).length) Slot.unset).toArray = ls at hl ⊢
  have hl : lv_has ls 5 [(0, .ref (ad 0 0)), (1, .int x1), (2, .int x2), (3, .ref o)] := hl
  refine lv_aload_n hx hb dL_judge_0 rfl (lv_at hl 3 rfl) ?_
  refine lv_iconst (v := 0) hx hb dL_judge_1 (by decide) ?_
  refine lv_aload_n hx hb dL_judge_2 rfl (lv_at hl 0 rfl) ?_
  refine lv_iload_n hx hb dL_judge_3 rfl (lv_at hl 1 rfl) ?_
  refine lv_iload_n hx hb dL_judge_4 rfl (lv_at hl 2 rfl) ?_
  refine hg_callX (As := [.int x1, .int x2]) (rest := [.int 0, .ref o]) ⟨hx, hb, hml, hown, hts⟩ (cX_Court_judge l hlf D yI yO z0 ad s.heap.size h) (cwV 2 hts gL_judge_X8_judge rfl rfl rfl (by decide +kernel) ⟨Nat.le_of_ble_eq_true rfl, Nat.le_of_ble_eq_true rfl⟩) hK hN hA hxs rfl hl.1 rfl (Nat.le_of_ble_eq_true rfl) dL_judge_5 ⟨Nat.le_of_ble_eq_true rfl, Nat.le_of_ble_eq_true rfl⟩ (fun ce q9 H locs hN h8 h9 h10 => ?_)
  refine vx_catch (own := RL) (name := "java/lang/IllegalStateException") (E := xE 2) hown [⟨0, 10, 13, 21⟩] ⟨0, 10, 17, 15⟩ [] (by rw [htab]; rfl) (List.forall_mem_cons.mpr ⟨Or.inr ⟨by decide, "java/lang/IndexOutOfBoundsException", hts (.classLink RL 21 "java/lang/IndexOutOfBoundsException") (by decide +kernel), hns ("java/lang/IllegalStateException", "java/lang/IndexOutOfBoundsException") (by decide)⟩, (fun z hz => absurd hz List.not_mem_nil)⟩) (by decide) (by decide) (hts (.classLink RL 15 "java/lang/IllegalStateException") (by decide +kernel)) (va_Nw.use (xB_on (.castable "java/lang/IllegalStateException" "java/lang/IllegalStateException") (by decide)) (hxs.2.2.2 (.castable "java/lang/IllegalStateException" "java/lang/IllegalStateException") (by decide))) h8 h9 h10 ?_
  refine W.eq (g2 := F0 m 17 ls [.ref q9]) rfl ?_
  refine lv_astore (lv' := [(4, .ref q9), (0, .ref (ad 0 0)), (1, .int x1), (2, .int x2), (3, .ref o)]) hx hb dL_judge_17 hl (by decide) rfl (fun ls hl => ?_)
  refine lv_iconst (v := 2) hx hb dL_judge_19 (by decide) ?_
  exact W.iret (v := 2) hx hb hr (fun t ht hW => ⟨⟨2, (ad, f), rfl, ⟨rfl, rfl⟩, rfl, by rw [ht]; exact hN.1.1, va_K.moved hW.alike hLK, by rw [ht]; exact hN.2.1, hN.2.2.2 0 _ rfl, hN.1.2.1⟩, hN.1.2.2.F ht⟩) hN.1.2.2.2.2 dL_judge_20 hlocks
set_option maxRecDepth 20000 in
theorem cH_withdraw (l : Launch) (hlf : l.stackTraces = false) (D : va_G) (yI yO yL : ClassId) (z0 : Nat) (ad : Nat → Nat → Nat) {g : CS} {x1 : Int32} (o : Nat) (f : Nat → Int64) (sz : Nat) {rz : Int32} {gz : CS} (h : fC_Court_withdraw g x1 = some (.inr (rz, gz))) : Met l yL_withdraw wsL_withdraw ({ frames := 8, cells := 0, slots := 0, locals := 133 }) (va_Pc [.ref (ad 0 0), .int x1, .ref o] (hPre D yI yO yL z0 ad g o f sz)) (hQ D yI yO yL z0 ad gz o f 0 rz.toInt64 (hAd ad g sz o)) 0 0 (hAd ad g sz o) := by
  refine lh_ofW (cc := cL_withdraw) (maxL := 4) (ret := some .int) (hh := [(0, 9, 12, 21), (0, 9, 15, 15)]) (by decide) rfl ?_
  intro p e s m args below meth c s₁ B hml htab hv
  obtain ⟨hv0, hw, hLK, hP, ho, hsz, hxs, hys, hns⟩ := hv
  subst hsz
  have hv1 : args = [.ref (ad 0 0), .int x1, .ref o].toArray := hv0
  subst hv1
  have hx := B.exec
  have hb := B.bytes
  have hr := B.returns
  have hts := atoms_spec (ws := wsL_withdraw) B.pre
  have hown : s.vm.findClass RL = some m.cls := findClass_of_methodNamed B.named
  have hlocks := B.notSynchronized
  have hK := hLK.c
  have hN := hN_start hw hP ho
  generalize hAe : hAd ad g s.heap.size o = A at hN hxs hys ⊢
  have hA : ∀ q, s.heap.size ≤ q → A q := fun q h => by rw [← hAe]; exact Or.inl (Or.inr h)
  have hl := lv_entry ([.ref (ad 0 0), .int x1, .ref o]) (n := 4) (Nat.le_of_ble_eq_true rfl)
  rw [lg_entry_eq]
  generalize (lg_sl ([.ref (ad 0 0), .int x1, .ref o]) ++ List.replicate (4 - (lg_sl ([.ref (ad 0 0), .int x1, .ref o])).length) Slot.unset).toArray = ls at hl ⊢
  have hl : lv_has ls 4 [(0, .ref (ad 0 0)), (1, .int x1), (2, .ref o)] := hl
  refine lv_aload_n hx hb dL_withdraw_0 rfl (lv_at hl 2 rfl) ?_
  refine lv_iconst (v := 0) hx hb dL_withdraw_1 (by decide) ?_
  refine lv_aload_n hx hb dL_withdraw_2 rfl (lv_at hl 0 rfl) ?_
  refine lv_iload_n hx hb dL_withdraw_3 rfl (lv_at hl 1 rfl) ?_
  refine hg_callV (As := [.int x1]) (rest := [.int 0, .ref o]) ⟨hx, hb, hml, hown, hts⟩ (cC_Court_withdraw l D yI yO z0 ad h) (cwV 1 hts gL_withdraw_X8_withdraw rfl rfl rfl (by decide +kernel) ⟨Nat.le_of_ble_eq_true rfl, Nat.le_of_ble_eq_true rfl⟩) hK hN rfl hl.1 rfl (Nat.le_of_ble_eq_true rfl) dL_withdraw_4 ⟨Nat.le_of_ble_eq_true rfl, Nat.le_of_ble_eq_true rfl⟩ (fun H locs hN => ?_)
  have had : ad 0 0 = ad 0 0 := rfl
  refine lv_i2l (v := rz.toInt64) hx hb dL_withdraw_7 rfl ?_
  refine hg_last hx hb hLK hN dL_withdraw_8 (fun f1 H locs hf1 hN => ?_)
  refine lv_goto (tgt := 18) hx hb dL_withdraw_9 (by decide) ?_
  refine lv_iconst (v := 0) hx hb dL_withdraw_18 (by decide) ?_
  exact W.iret (v := 0) hx hb hr (fun t ht hW => ⟨⟨0, (ad, f1), rfl, ⟨rfl, hf1⟩, had, by rw [ht]; exact hN.1.1, va_K.moved hW.alike hLK, by rw [ht]; exact hN.2.1, hN.2.2.2 0 _ rfl, hN.1.2.1⟩, hN.1.2.2.F ht⟩) hN.1.2.2.2.2 dL_withdraw_19 hlocks
set_option maxRecDepth 20000 in
theorem cHx_withdraw_0 (l : Launch) (hlf : l.stackTraces = false) (D : va_G) (yI yO yL : ClassId) (z0 : Nat) (ad : Nat → Nat → Nat) {g : CS} {x1 : Int32} (o : Nat) (f : Nat → Int64) (sz : Nat) (h : fC_Court_withdraw g x1 = some (.inl 0)) : Met l yL_withdraw wsL_withdraw ({ frames := 8, cells := 1, slots := 6, locals := 133 }) (va_Pc [.ref (ad 0 0), .int x1, .ref o] (hPre D yI yO yL z0 ad g o f sz)) (hQ D yI yO yL z0 ad g o f 1 (f 0) (hAd ad g sz o)) 1 6 (hAd ad g sz o) := by
  refine lh_ofW (cc := cL_withdraw) (maxL := 4) (ret := some .int) (hh := [(0, 9, 12, 21), (0, 9, 15, 15)]) (by decide) rfl ?_
  intro p e s m args below meth c s₁ B hml htab hv
  obtain ⟨hv0, hw, hLK, hP, ho, hsz, hxs, hys, hns⟩ := hv
  subst hsz
  have hv1 : args = [.ref (ad 0 0), .int x1, .ref o].toArray := hv0
  subst hv1
  have hx := B.exec
  have hb := B.bytes
  have hr := B.returns
  have hts := atoms_spec (ws := wsL_withdraw) B.pre
  have hown : s.vm.findClass RL = some m.cls := findClass_of_methodNamed B.named
  have hlocks := B.notSynchronized
  have hK := hLK.c
  have hN := hN_start hw hP ho
  generalize hAe : hAd ad g s.heap.size o = A at hN hxs hys ⊢
  have hA : ∀ q, s.heap.size ≤ q → A q := fun q h => by rw [← hAe]; exact Or.inl (Or.inr h)
  have hl := lv_entry ([.ref (ad 0 0), .int x1, .ref o]) (n := 4) (Nat.le_of_ble_eq_true rfl)
  rw [lg_entry_eq]
  generalize (lg_sl ([.ref (ad 0 0), .int x1, .ref o]) ++ List.replicate (4 - (lg_sl ([.ref (ad 0 0), .int x1, .ref o])).length) Slot.unset).toArray = ls at hl ⊢
  have hl : lv_has ls 4 [(0, .ref (ad 0 0)), (1, .int x1), (2, .ref o)] := hl
  refine lv_aload_n hx hb dL_withdraw_0 rfl (lv_at hl 2 rfl) ?_
  refine lv_iconst (v := 0) hx hb dL_withdraw_1 (by decide) ?_
  refine lv_aload_n hx hb dL_withdraw_2 rfl (lv_at hl 0 rfl) ?_
  refine lv_iload_n hx hb dL_withdraw_3 rfl (lv_at hl 1 rfl) ?_
  refine hg_callX (As := [.int x1]) (rest := [.int 0, .ref o]) ⟨hx, hb, hml, hown, hts⟩ (cX_Court_withdraw l hlf D yI yO z0 ad s.heap.size h) (cwV 1 hts gL_withdraw_X8_withdraw rfl rfl rfl (by decide +kernel) ⟨Nat.le_of_ble_eq_true rfl, Nat.le_of_ble_eq_true rfl⟩) hK hN hA hxs rfl hl.1 rfl (Nat.le_of_ble_eq_true rfl) dL_withdraw_4 ⟨Nat.le_of_ble_eq_true rfl, Nat.le_of_ble_eq_true rfl⟩ (fun ce q9 H locs hN h8 h9 h10 => ?_)
  refine vx_catch (own := RL) (name := "java/lang/IndexOutOfBoundsException") (E := xE 0) hown [] ⟨0, 9, 12, 21⟩ [⟨0, 9, 15, 15⟩] (by rw [htab]; rfl) (fun z hz => absurd hz List.not_mem_nil) (by decide) (by decide) (hts (.classLink RL 21 "java/lang/IndexOutOfBoundsException") (by decide +kernel)) (va_Nw.use (xB_on (.castable "java/lang/IndexOutOfBoundsException" "java/lang/IndexOutOfBoundsException") (by decide)) (hxs.2.2.2 (.castable "java/lang/IndexOutOfBoundsException" "java/lang/IndexOutOfBoundsException") (by decide))) h8 h9 h10 ?_
  refine W.eq (g2 := F0 m 12 ls [.ref q9]) rfl ?_
  refine lv_astore_n (lv' := [(3, .ref q9), (0, .ref (ad 0 0)), (1, .int x1), (2, .ref o)]) hx hb dL_withdraw_12 rfl hl (by decide) rfl (fun ls hl => ?_)
  refine lv_iconst (v := 1) hx hb dL_withdraw_13 (by decide) ?_
  exact W.iret (v := 1) hx hb hr (fun t ht hW => ⟨⟨1, (ad, f), rfl, ⟨rfl, rfl⟩, rfl, by rw [ht]; exact hN.1.1, va_K.moved hW.alike hLK, by rw [ht]; exact hN.2.1, hN.2.2.2 0 _ rfl, hN.1.2.1⟩, hN.1.2.2.F ht⟩) hN.1.2.2.2.2 dL_withdraw_14 hlocks
set_option maxRecDepth 20000 in
theorem cHx_withdraw_2 (l : Launch) (hlf : l.stackTraces = false) (D : va_G) (yI yO yL : ClassId) (z0 : Nat) (ad : Nat → Nat → Nat) {g : CS} {x1 : Int32} (o : Nat) (f : Nat → Int64) (sz : Nat) (h : fC_Court_withdraw g x1 = some (.inl 2)) : Met l yL_withdraw wsL_withdraw ({ frames := 8, cells := 1, slots := 6, locals := 133 }) (va_Pc [.ref (ad 0 0), .int x1, .ref o] (hPre D yI yO yL z0 ad g o f sz)) (hQ D yI yO yL z0 ad g o f 2 (f 0) (hAd ad g sz o)) 1 6 (hAd ad g sz o) := by
  refine lh_ofW (cc := cL_withdraw) (maxL := 4) (ret := some .int) (hh := [(0, 9, 12, 21), (0, 9, 15, 15)]) (by decide) rfl ?_
  intro p e s m args below meth c s₁ B hml htab hv
  obtain ⟨hv0, hw, hLK, hP, ho, hsz, hxs, hys, hns⟩ := hv
  subst hsz
  have hv1 : args = [.ref (ad 0 0), .int x1, .ref o].toArray := hv0
  subst hv1
  have hx := B.exec
  have hb := B.bytes
  have hr := B.returns
  have hts := atoms_spec (ws := wsL_withdraw) B.pre
  have hown : s.vm.findClass RL = some m.cls := findClass_of_methodNamed B.named
  have hlocks := B.notSynchronized
  have hK := hLK.c
  have hN := hN_start hw hP ho
  generalize hAe : hAd ad g s.heap.size o = A at hN hxs hys ⊢
  have hA : ∀ q, s.heap.size ≤ q → A q := fun q h => by rw [← hAe]; exact Or.inl (Or.inr h)
  have hl := lv_entry ([.ref (ad 0 0), .int x1, .ref o]) (n := 4) (Nat.le_of_ble_eq_true rfl)
  rw [lg_entry_eq]
  generalize (lg_sl ([.ref (ad 0 0), .int x1, .ref o]) ++ List.replicate (4 - (lg_sl ([.ref (ad 0 0), .int x1, .ref o])).length) Slot.unset).toArray = ls at hl ⊢
  have hl : lv_has ls 4 [(0, .ref (ad 0 0)), (1, .int x1), (2, .ref o)] := hl
  refine lv_aload_n hx hb dL_withdraw_0 rfl (lv_at hl 2 rfl) ?_
  refine lv_iconst (v := 0) hx hb dL_withdraw_1 (by decide) ?_
  refine lv_aload_n hx hb dL_withdraw_2 rfl (lv_at hl 0 rfl) ?_
  refine lv_iload_n hx hb dL_withdraw_3 rfl (lv_at hl 1 rfl) ?_
  refine hg_callX (As := [.int x1]) (rest := [.int 0, .ref o]) ⟨hx, hb, hml, hown, hts⟩ (cX_Court_withdraw l hlf D yI yO z0 ad s.heap.size h) (cwV 1 hts gL_withdraw_X8_withdraw rfl rfl rfl (by decide +kernel) ⟨Nat.le_of_ble_eq_true rfl, Nat.le_of_ble_eq_true rfl⟩) hK hN hA hxs rfl hl.1 rfl (Nat.le_of_ble_eq_true rfl) dL_withdraw_4 ⟨Nat.le_of_ble_eq_true rfl, Nat.le_of_ble_eq_true rfl⟩ (fun ce q9 H locs hN h8 h9 h10 => ?_)
  refine vx_catch (own := RL) (name := "java/lang/IllegalStateException") (E := xE 2) hown [⟨0, 9, 12, 21⟩] ⟨0, 9, 15, 15⟩ [] (by rw [htab]; rfl) (List.forall_mem_cons.mpr ⟨Or.inr ⟨by decide, "java/lang/IndexOutOfBoundsException", hts (.classLink RL 21 "java/lang/IndexOutOfBoundsException") (by decide +kernel), hns ("java/lang/IllegalStateException", "java/lang/IndexOutOfBoundsException") (by decide)⟩, (fun z hz => absurd hz List.not_mem_nil)⟩) (by decide) (by decide) (hts (.classLink RL 15 "java/lang/IllegalStateException") (by decide +kernel)) (va_Nw.use (xB_on (.castable "java/lang/IllegalStateException" "java/lang/IllegalStateException") (by decide)) (hxs.2.2.2 (.castable "java/lang/IllegalStateException" "java/lang/IllegalStateException") (by decide))) h8 h9 h10 ?_
  refine W.eq (g2 := F0 m 15 ls [.ref q9]) rfl ?_
  refine lv_astore_n (lv' := [(3, .ref q9), (0, .ref (ad 0 0)), (1, .int x1), (2, .ref o)]) hx hb dL_withdraw_15 rfl hl (by decide) rfl (fun ls hl => ?_)
  refine lv_iconst (v := 2) hx hb dL_withdraw_16 (by decide) ?_
  exact W.iret (v := 2) hx hb hr (fun t ht hW => ⟨⟨2, (ad, f), rfl, ⟨rfl, rfl⟩, rfl, by rw [ht]; exact hN.1.1, va_K.moved hW.alike hLK, by rw [ht]; exact hN.2.1, hN.2.2.2 0 _ rfl, hN.1.2.1⟩, hN.1.2.2.F ht⟩) hN.1.2.2.2.2 dL_withdraw_17 hlocks
set_option maxRecDepth 20000 in
theorem cH_extend (l : Launch) (hlf : l.stackTraces = false) (D : va_G) (yI yO yL : ClassId) (z0 : Nat) (ad : Nat → Nat → Nat) {g : CS} {x1 : Int32} {x2 : Int32} (o : Nat) (f : Nat → Int64) (sz : Nat) {rz : Int32} {gz : CS} (h : fC_Court_extend g x1 x2 = some (.inr (rz, gz))) : Met l yL_extend wsL_extend ({ frames := 8, cells := 0, slots := 0, locals := 135 }) (va_Pc [.ref (ad 0 0), .int x1, .int x2, .ref o] (hPre D yI yO yL z0 ad g o f sz)) (hQ D yI yO yL z0 ad gz o f 0 rz.toInt64 (hAd ad g sz o)) 0 0 (hAd ad g sz o) := by
  refine lh_ofW (cc := cL_extend) (maxL := 5) (ret := some .int) (hh := [(0, 10, 13, 21), (0, 10, 17, 15)]) (by decide) rfl ?_
  intro p e s m args below meth c s₁ B hml htab hv
  obtain ⟨hv0, hw, hLK, hP, ho, hsz, hxs, hys, hns⟩ := hv
  subst hsz
  have hv1 : args = [.ref (ad 0 0), .int x1, .int x2, .ref o].toArray := hv0
  subst hv1
  have hx := B.exec
  have hb := B.bytes
  have hr := B.returns
  have hts := atoms_spec (ws := wsL_extend) B.pre
  have hown : s.vm.findClass RL = some m.cls := findClass_of_methodNamed B.named
  have hlocks := B.notSynchronized
  have hK := hLK.c
  have hN := hN_start hw hP ho
  generalize hAe : hAd ad g s.heap.size o = A at hN hxs hys ⊢
  have hA : ∀ q, s.heap.size ≤ q → A q := fun q h => by rw [← hAe]; exact Or.inl (Or.inr h)
  have hl := lv_entry ([.ref (ad 0 0), .int x1, .int x2, .ref o]) (n := 5) (Nat.le_of_ble_eq_true rfl)
  rw [lg_entry_eq]
  generalize (lg_sl ([.ref (ad 0 0), .int x1, .int x2, .ref o]) ++ List.replicate (5 - (lg_sl ([.ref (ad 0 0), .int x1, .int x2, .ref o])).length) Slot.unset).toArray = ls at hl ⊢
  have hl : lv_has ls 5 [(0, .ref (ad 0 0)), (1, .int x1), (2, .int x2), (3, .ref o)] := hl
  refine lv_aload_n hx hb dL_extend_0 rfl (lv_at hl 3 rfl) ?_
  refine lv_iconst (v := 0) hx hb dL_extend_1 (by decide) ?_
  refine lv_aload_n hx hb dL_extend_2 rfl (lv_at hl 0 rfl) ?_
  refine lv_iload_n hx hb dL_extend_3 rfl (lv_at hl 1 rfl) ?_
  refine lv_iload_n hx hb dL_extend_4 rfl (lv_at hl 2 rfl) ?_
  refine hg_callV (As := [.int x1, .int x2]) (rest := [.int 0, .ref o]) ⟨hx, hb, hml, hown, hts⟩ (cC_Court_extend l D yI yO z0 ad h) (cwV 2 hts gL_extend_X8_extend rfl rfl rfl (by decide +kernel) ⟨Nat.le_of_ble_eq_true rfl, Nat.le_of_ble_eq_true rfl⟩) hK hN rfl hl.1 rfl (Nat.le_of_ble_eq_true rfl) dL_extend_5 ⟨Nat.le_of_ble_eq_true rfl, Nat.le_of_ble_eq_true rfl⟩ (fun H locs hN => ?_)
  have had : ad 0 0 = ad 0 0 := rfl
  refine lv_i2l (v := rz.toInt64) hx hb dL_extend_8 rfl ?_
  refine hg_last hx hb hLK hN dL_extend_9 (fun f1 H locs hf1 hN => ?_)
  refine lv_goto (tgt := 21) hx hb dL_extend_10 (by decide) ?_
  refine lv_iconst (v := 0) hx hb dL_extend_21 (by decide) ?_
  exact W.iret (v := 0) hx hb hr (fun t ht hW => ⟨⟨0, (ad, f1), rfl, ⟨rfl, hf1⟩, had, by rw [ht]; exact hN.1.1, va_K.moved hW.alike hLK, by rw [ht]; exact hN.2.1, hN.2.2.2 0 _ rfl, hN.1.2.1⟩, hN.1.2.2.F ht⟩) hN.1.2.2.2.2 dL_extend_22 hlocks
set_option maxRecDepth 20000 in
theorem cHx_extend_0 (l : Launch) (hlf : l.stackTraces = false) (D : va_G) (yI yO yL : ClassId) (z0 : Nat) (ad : Nat → Nat → Nat) {g : CS} {x1 : Int32} {x2 : Int32} (o : Nat) (f : Nat → Int64) (sz : Nat) (h : fC_Court_extend g x1 x2 = some (.inl 0)) : Met l yL_extend wsL_extend ({ frames := 8, cells := 1, slots := 6, locals := 135 }) (va_Pc [.ref (ad 0 0), .int x1, .int x2, .ref o] (hPre D yI yO yL z0 ad g o f sz)) (hQ D yI yO yL z0 ad g o f 1 (f 0) (hAd ad g sz o)) 1 6 (hAd ad g sz o) := by
  refine lh_ofW (cc := cL_extend) (maxL := 5) (ret := some .int) (hh := [(0, 10, 13, 21), (0, 10, 17, 15)]) (by decide) rfl ?_
  intro p e s m args below meth c s₁ B hml htab hv
  obtain ⟨hv0, hw, hLK, hP, ho, hsz, hxs, hys, hns⟩ := hv
  subst hsz
  have hv1 : args = [.ref (ad 0 0), .int x1, .int x2, .ref o].toArray := hv0
  subst hv1
  have hx := B.exec
  have hb := B.bytes
  have hr := B.returns
  have hts := atoms_spec (ws := wsL_extend) B.pre
  have hown : s.vm.findClass RL = some m.cls := findClass_of_methodNamed B.named
  have hlocks := B.notSynchronized
  have hK := hLK.c
  have hN := hN_start hw hP ho
  generalize hAe : hAd ad g s.heap.size o = A at hN hxs hys ⊢
  have hA : ∀ q, s.heap.size ≤ q → A q := fun q h => by rw [← hAe]; exact Or.inl (Or.inr h)
  have hl := lv_entry ([.ref (ad 0 0), .int x1, .int x2, .ref o]) (n := 5) (Nat.le_of_ble_eq_true rfl)
  rw [lg_entry_eq]
  generalize (lg_sl ([.ref (ad 0 0), .int x1, .int x2, .ref o]) ++ List.replicate (5 - (lg_sl ([.ref (ad 0 0), .int x1, .int x2, .ref o])).length) Slot.unset).toArray = ls at hl ⊢
  have hl : lv_has ls 5 [(0, .ref (ad 0 0)), (1, .int x1), (2, .int x2), (3, .ref o)] := hl
  refine lv_aload_n hx hb dL_extend_0 rfl (lv_at hl 3 rfl) ?_
  refine lv_iconst (v := 0) hx hb dL_extend_1 (by decide) ?_
  refine lv_aload_n hx hb dL_extend_2 rfl (lv_at hl 0 rfl) ?_
  refine lv_iload_n hx hb dL_extend_3 rfl (lv_at hl 1 rfl) ?_
  refine lv_iload_n hx hb dL_extend_4 rfl (lv_at hl 2 rfl) ?_
  refine hg_callX (As := [.int x1, .int x2]) (rest := [.int 0, .ref o]) ⟨hx, hb, hml, hown, hts⟩ (cX_Court_extend l hlf D yI yO z0 ad s.heap.size h) (cwV 2 hts gL_extend_X8_extend rfl rfl rfl (by decide +kernel) ⟨Nat.le_of_ble_eq_true rfl, Nat.le_of_ble_eq_true rfl⟩) hK hN hA hxs rfl hl.1 rfl (Nat.le_of_ble_eq_true rfl) dL_extend_5 ⟨Nat.le_of_ble_eq_true rfl, Nat.le_of_ble_eq_true rfl⟩ (fun ce q9 H locs hN h8 h9 h10 => ?_)
  refine vx_catch (own := RL) (name := "java/lang/IndexOutOfBoundsException") (E := xE 0) hown [] ⟨0, 10, 13, 21⟩ [⟨0, 10, 17, 15⟩] (by rw [htab]; rfl) (fun z hz => absurd hz List.not_mem_nil) (by decide) (by decide) (hts (.classLink RL 21 "java/lang/IndexOutOfBoundsException") (by decide +kernel)) (va_Nw.use (xB_on (.castable "java/lang/IndexOutOfBoundsException" "java/lang/IndexOutOfBoundsException") (by decide)) (hxs.2.2.2 (.castable "java/lang/IndexOutOfBoundsException" "java/lang/IndexOutOfBoundsException") (by decide))) h8 h9 h10 ?_
  refine W.eq (g2 := F0 m 13 ls [.ref q9]) rfl ?_
  refine lv_astore (lv' := [(4, .ref q9), (0, .ref (ad 0 0)), (1, .int x1), (2, .int x2), (3, .ref o)]) hx hb dL_extend_13 hl (by decide) rfl (fun ls hl => ?_)
  refine lv_iconst (v := 1) hx hb dL_extend_15 (by decide) ?_
  exact W.iret (v := 1) hx hb hr (fun t ht hW => ⟨⟨1, (ad, f), rfl, ⟨rfl, rfl⟩, rfl, by rw [ht]; exact hN.1.1, va_K.moved hW.alike hLK, by rw [ht]; exact hN.2.1, hN.2.2.2 0 _ rfl, hN.1.2.1⟩, hN.1.2.2.F ht⟩) hN.1.2.2.2.2 dL_extend_16 hlocks
set_option maxRecDepth 20000 in
theorem cHx_extend_2 (l : Launch) (hlf : l.stackTraces = false) (D : va_G) (yI yO yL : ClassId) (z0 : Nat) (ad : Nat → Nat → Nat) {g : CS} {x1 : Int32} {x2 : Int32} (o : Nat) (f : Nat → Int64) (sz : Nat) (h : fC_Court_extend g x1 x2 = some (.inl 2)) : Met l yL_extend wsL_extend ({ frames := 8, cells := 1, slots := 6, locals := 135 }) (va_Pc [.ref (ad 0 0), .int x1, .int x2, .ref o] (hPre D yI yO yL z0 ad g o f sz)) (hQ D yI yO yL z0 ad g o f 2 (f 0) (hAd ad g sz o)) 1 6 (hAd ad g sz o) := by
  refine lh_ofW (cc := cL_extend) (maxL := 5) (ret := some .int) (hh := [(0, 10, 13, 21), (0, 10, 17, 15)]) (by decide) rfl ?_
  intro p e s m args below meth c s₁ B hml htab hv
  obtain ⟨hv0, hw, hLK, hP, ho, hsz, hxs, hys, hns⟩ := hv
  subst hsz
  have hv1 : args = [.ref (ad 0 0), .int x1, .int x2, .ref o].toArray := hv0
  subst hv1
  have hx := B.exec
  have hb := B.bytes
  have hr := B.returns
  have hts := atoms_spec (ws := wsL_extend) B.pre
  have hown : s.vm.findClass RL = some m.cls := findClass_of_methodNamed B.named
  have hlocks := B.notSynchronized
  have hK := hLK.c
  have hN := hN_start hw hP ho
  generalize hAe : hAd ad g s.heap.size o = A at hN hxs hys ⊢
  have hA : ∀ q, s.heap.size ≤ q → A q := fun q h => by rw [← hAe]; exact Or.inl (Or.inr h)
  have hl := lv_entry ([.ref (ad 0 0), .int x1, .int x2, .ref o]) (n := 5) (Nat.le_of_ble_eq_true rfl)
  rw [lg_entry_eq]
  generalize (lg_sl ([.ref (ad 0 0), .int x1, .int x2, .ref o]) ++ List.replicate (5 - (lg_sl ([.ref (ad 0 0), .int x1, .int x2, .ref o])).length) Slot.unset).toArray = ls at hl ⊢
  have hl : lv_has ls 5 [(0, .ref (ad 0 0)), (1, .int x1), (2, .int x2), (3, .ref o)] := hl
  refine lv_aload_n hx hb dL_extend_0 rfl (lv_at hl 3 rfl) ?_
  refine lv_iconst (v := 0) hx hb dL_extend_1 (by decide) ?_
  refine lv_aload_n hx hb dL_extend_2 rfl (lv_at hl 0 rfl) ?_
  refine lv_iload_n hx hb dL_extend_3 rfl (lv_at hl 1 rfl) ?_
  refine lv_iload_n hx hb dL_extend_4 rfl (lv_at hl 2 rfl) ?_
  refine hg_callX (As := [.int x1, .int x2]) (rest := [.int 0, .ref o]) ⟨hx, hb, hml, hown, hts⟩ (cX_Court_extend l hlf D yI yO z0 ad s.heap.size h) (cwV 2 hts gL_extend_X8_extend rfl rfl rfl (by decide +kernel) ⟨Nat.le_of_ble_eq_true rfl, Nat.le_of_ble_eq_true rfl⟩) hK hN hA hxs rfl hl.1 rfl (Nat.le_of_ble_eq_true rfl) dL_extend_5 ⟨Nat.le_of_ble_eq_true rfl, Nat.le_of_ble_eq_true rfl⟩ (fun ce q9 H locs hN h8 h9 h10 => ?_)
  refine vx_catch (own := RL) (name := "java/lang/IllegalStateException") (E := xE 2) hown [⟨0, 10, 13, 21⟩] ⟨0, 10, 17, 15⟩ [] (by rw [htab]; rfl) (List.forall_mem_cons.mpr ⟨Or.inr ⟨by decide, "java/lang/IndexOutOfBoundsException", hts (.classLink RL 21 "java/lang/IndexOutOfBoundsException") (by decide +kernel), hns ("java/lang/IllegalStateException", "java/lang/IndexOutOfBoundsException") (by decide)⟩, (fun z hz => absurd hz List.not_mem_nil)⟩) (by decide) (by decide) (hts (.classLink RL 15 "java/lang/IllegalStateException") (by decide +kernel)) (va_Nw.use (xB_on (.castable "java/lang/IllegalStateException" "java/lang/IllegalStateException") (by decide)) (hxs.2.2.2 (.castable "java/lang/IllegalStateException" "java/lang/IllegalStateException") (by decide))) h8 h9 h10 ?_
  refine W.eq (g2 := F0 m 17 ls [.ref q9]) rfl ?_
  refine lv_astore (lv' := [(4, .ref q9), (0, .ref (ad 0 0)), (1, .int x1), (2, .int x2), (3, .ref o)]) hx hb dL_extend_17 hl (by decide) rfl (fun ls hl => ?_)
  refine lv_iconst (v := 2) hx hb dL_extend_19 (by decide) ?_
  exact W.iret (v := 2) hx hb hr (fun t ht hW => ⟨⟨2, (ad, f), rfl, ⟨rfl, rfl⟩, rfl, by rw [ht]; exact hN.1.1, va_K.moved hW.alike hLK, by rw [ht]; exact hN.2.1, hN.2.2.2 0 _ rfl, hN.1.2.1⟩, hN.1.2.2.F ht⟩) hN.1.2.2.2.2 dL_extend_20 hlocks
set_option maxRecDepth 20000 in
theorem cH_oath (l : Launch) (hlf : l.stackTraces = false) (D : va_G) (yI yO yL : ClassId) (z0 : Nat) (ad : Nat → Nat → Nat) {g : CS} {x1 : Int32} {x2 : Int32} (o : Nat) (f : Nat → Int64) (sz : Nat) {rz : Int32} {gz : CS} (h : fC_Court_oath g x1 x2 = some (.inr (rz, gz))) : Met l yL_oath wsL_oath ({ frames := 8, cells := 0, slots := 0, locals := 135 }) (va_Pc [.ref (ad 0 0), .int x1, .int x2, .ref o] (hPre D yI yO yL z0 ad g o f sz)) (hQ D yI yO yL z0 ad gz o f 0 rz.toInt64 (hAd ad g sz o)) 0 0 (hAd ad g sz o) := by
  refine lh_ofW (cc := cL_oath) (maxL := 5) (ret := some .int) (hh := [(0, 10, 13, 21), (0, 10, 17, 15)]) (by decide) rfl ?_
  intro p e s m args below meth c s₁ B hml htab hv
  obtain ⟨hv0, hw, hLK, hP, ho, hsz, hxs, hys, hns⟩ := hv
  subst hsz
  have hv1 : args = [.ref (ad 0 0), .int x1, .int x2, .ref o].toArray := hv0
  subst hv1
  have hx := B.exec
  have hb := B.bytes
  have hr := B.returns
  have hts := atoms_spec (ws := wsL_oath) B.pre
  have hown : s.vm.findClass RL = some m.cls := findClass_of_methodNamed B.named
  have hlocks := B.notSynchronized
  have hK := hLK.c
  have hN := hN_start hw hP ho
  generalize hAe : hAd ad g s.heap.size o = A at hN hxs hys ⊢
  have hA : ∀ q, s.heap.size ≤ q → A q := fun q h => by rw [← hAe]; exact Or.inl (Or.inr h)
  have hl := lv_entry ([.ref (ad 0 0), .int x1, .int x2, .ref o]) (n := 5) (Nat.le_of_ble_eq_true rfl)
  rw [lg_entry_eq]
  generalize (lg_sl ([.ref (ad 0 0), .int x1, .int x2, .ref o]) ++ List.replicate (5 - (lg_sl ([.ref (ad 0 0), .int x1, .int x2, .ref o])).length) Slot.unset).toArray = ls at hl ⊢
  have hl : lv_has ls 5 [(0, .ref (ad 0 0)), (1, .int x1), (2, .int x2), (3, .ref o)] := hl
  refine lv_aload_n hx hb dL_oath_0 rfl (lv_at hl 3 rfl) ?_
  refine lv_iconst (v := 0) hx hb dL_oath_1 (by decide) ?_
  refine lv_aload_n hx hb dL_oath_2 rfl (lv_at hl 0 rfl) ?_
  refine lv_iload_n hx hb dL_oath_3 rfl (lv_at hl 1 rfl) ?_
  refine lv_iload_n hx hb dL_oath_4 rfl (lv_at hl 2 rfl) ?_
  refine hg_callV (As := [.int x1, .int x2]) (rest := [.int 0, .ref o]) ⟨hx, hb, hml, hown, hts⟩ (cC_Court_oath l D yI yO z0 ad h) (cwV 2 hts gL_oath_X8_oath rfl rfl rfl (by decide +kernel) ⟨Nat.le_of_ble_eq_true rfl, Nat.le_of_ble_eq_true rfl⟩) hK hN rfl hl.1 rfl (Nat.le_of_ble_eq_true rfl) dL_oath_5 ⟨Nat.le_of_ble_eq_true rfl, Nat.le_of_ble_eq_true rfl⟩ (fun H locs hN => ?_)
  have had : ad 0 0 = ad 0 0 := rfl
  refine lv_i2l (v := rz.toInt64) hx hb dL_oath_8 rfl ?_
  refine hg_last hx hb hLK hN dL_oath_9 (fun f1 H locs hf1 hN => ?_)
  refine lv_goto (tgt := 21) hx hb dL_oath_10 (by decide) ?_
  refine lv_iconst (v := 0) hx hb dL_oath_21 (by decide) ?_
  exact W.iret (v := 0) hx hb hr (fun t ht hW => ⟨⟨0, (ad, f1), rfl, ⟨rfl, hf1⟩, had, by rw [ht]; exact hN.1.1, va_K.moved hW.alike hLK, by rw [ht]; exact hN.2.1, hN.2.2.2 0 _ rfl, hN.1.2.1⟩, hN.1.2.2.F ht⟩) hN.1.2.2.2.2 dL_oath_22 hlocks
set_option maxRecDepth 20000 in
theorem cHx_oath_0 (l : Launch) (hlf : l.stackTraces = false) (D : va_G) (yI yO yL : ClassId) (z0 : Nat) (ad : Nat → Nat → Nat) {g : CS} {x1 : Int32} {x2 : Int32} (o : Nat) (f : Nat → Int64) (sz : Nat) (h : fC_Court_oath g x1 x2 = some (.inl 0)) : Met l yL_oath wsL_oath ({ frames := 8, cells := 1, slots := 6, locals := 135 }) (va_Pc [.ref (ad 0 0), .int x1, .int x2, .ref o] (hPre D yI yO yL z0 ad g o f sz)) (hQ D yI yO yL z0 ad g o f 1 (f 0) (hAd ad g sz o)) 1 6 (hAd ad g sz o) := by
  refine lh_ofW (cc := cL_oath) (maxL := 5) (ret := some .int) (hh := [(0, 10, 13, 21), (0, 10, 17, 15)]) (by decide) rfl ?_
  intro p e s m args below meth c s₁ B hml htab hv
  obtain ⟨hv0, hw, hLK, hP, ho, hsz, hxs, hys, hns⟩ := hv
  subst hsz
  have hv1 : args = [.ref (ad 0 0), .int x1, .int x2, .ref o].toArray := hv0
  subst hv1
  have hx := B.exec
  have hb := B.bytes
  have hr := B.returns
  have hts := atoms_spec (ws := wsL_oath) B.pre
  have hown : s.vm.findClass RL = some m.cls := findClass_of_methodNamed B.named
  have hlocks := B.notSynchronized
  have hK := hLK.c
  have hN := hN_start hw hP ho
  generalize hAe : hAd ad g s.heap.size o = A at hN hxs hys ⊢
  have hA : ∀ q, s.heap.size ≤ q → A q := fun q h => by rw [← hAe]; exact Or.inl (Or.inr h)
  have hl := lv_entry ([.ref (ad 0 0), .int x1, .int x2, .ref o]) (n := 5) (Nat.le_of_ble_eq_true rfl)
  rw [lg_entry_eq]
  generalize (lg_sl ([.ref (ad 0 0), .int x1, .int x2, .ref o]) ++ List.replicate (5 - (lg_sl ([.ref (ad 0 0), .int x1, .int x2, .ref o])).length) Slot.unset).toArray = ls at hl ⊢
  have hl : lv_has ls 5 [(0, .ref (ad 0 0)), (1, .int x1), (2, .int x2), (3, .ref o)] := hl
  refine lv_aload_n hx hb dL_oath_0 rfl (lv_at hl 3 rfl) ?_
  refine lv_iconst (v := 0) hx hb dL_oath_1 (by decide) ?_
  refine lv_aload_n hx hb dL_oath_2 rfl (lv_at hl 0 rfl) ?_
  refine lv_iload_n hx hb dL_oath_3 rfl (lv_at hl 1 rfl) ?_
  refine lv_iload_n hx hb dL_oath_4 rfl (lv_at hl 2 rfl) ?_
  refine hg_callX (As := [.int x1, .int x2]) (rest := [.int 0, .ref o]) ⟨hx, hb, hml, hown, hts⟩ (cX_Court_oath l hlf D yI yO z0 ad s.heap.size h) (cwV 2 hts gL_oath_X8_oath rfl rfl rfl (by decide +kernel) ⟨Nat.le_of_ble_eq_true rfl, Nat.le_of_ble_eq_true rfl⟩) hK hN hA hxs rfl hl.1 rfl (Nat.le_of_ble_eq_true rfl) dL_oath_5 ⟨Nat.le_of_ble_eq_true rfl, Nat.le_of_ble_eq_true rfl⟩ (fun ce q9 H locs hN h8 h9 h10 => ?_)
  refine vx_catch (own := RL) (name := "java/lang/IndexOutOfBoundsException") (E := xE 0) hown [] ⟨0, 10, 13, 21⟩ [⟨0, 10, 17, 15⟩] (by rw [htab]; rfl) (fun z hz => absurd hz List.not_mem_nil) (by decide) (by decide) (hts (.classLink RL 21 "java/lang/IndexOutOfBoundsException") (by decide +kernel)) (va_Nw.use (xB_on (.castable "java/lang/IndexOutOfBoundsException" "java/lang/IndexOutOfBoundsException") (by decide)) (hxs.2.2.2 (.castable "java/lang/IndexOutOfBoundsException" "java/lang/IndexOutOfBoundsException") (by decide))) h8 h9 h10 ?_
  refine W.eq (g2 := F0 m 13 ls [.ref q9]) rfl ?_
  refine lv_astore (lv' := [(4, .ref q9), (0, .ref (ad 0 0)), (1, .int x1), (2, .int x2), (3, .ref o)]) hx hb dL_oath_13 hl (by decide) rfl (fun ls hl => ?_)
  refine lv_iconst (v := 1) hx hb dL_oath_15 (by decide) ?_
  exact W.iret (v := 1) hx hb hr (fun t ht hW => ⟨⟨1, (ad, f), rfl, ⟨rfl, rfl⟩, rfl, by rw [ht]; exact hN.1.1, va_K.moved hW.alike hLK, by rw [ht]; exact hN.2.1, hN.2.2.2 0 _ rfl, hN.1.2.1⟩, hN.1.2.2.F ht⟩) hN.1.2.2.2.2 dL_oath_16 hlocks
set_option maxRecDepth 20000 in
theorem cHx_oath_2 (l : Launch) (hlf : l.stackTraces = false) (D : va_G) (yI yO yL : ClassId) (z0 : Nat) (ad : Nat → Nat → Nat) {g : CS} {x1 : Int32} {x2 : Int32} (o : Nat) (f : Nat → Int64) (sz : Nat) (h : fC_Court_oath g x1 x2 = some (.inl 2)) : Met l yL_oath wsL_oath ({ frames := 8, cells := 1, slots := 6, locals := 135 }) (va_Pc [.ref (ad 0 0), .int x1, .int x2, .ref o] (hPre D yI yO yL z0 ad g o f sz)) (hQ D yI yO yL z0 ad g o f 2 (f 0) (hAd ad g sz o)) 1 6 (hAd ad g sz o) := by
  refine lh_ofW (cc := cL_oath) (maxL := 5) (ret := some .int) (hh := [(0, 10, 13, 21), (0, 10, 17, 15)]) (by decide) rfl ?_
  intro p e s m args below meth c s₁ B hml htab hv
  obtain ⟨hv0, hw, hLK, hP, ho, hsz, hxs, hys, hns⟩ := hv
  subst hsz
  have hv1 : args = [.ref (ad 0 0), .int x1, .int x2, .ref o].toArray := hv0
  subst hv1
  have hx := B.exec
  have hb := B.bytes
  have hr := B.returns
  have hts := atoms_spec (ws := wsL_oath) B.pre
  have hown : s.vm.findClass RL = some m.cls := findClass_of_methodNamed B.named
  have hlocks := B.notSynchronized
  have hK := hLK.c
  have hN := hN_start hw hP ho
  generalize hAe : hAd ad g s.heap.size o = A at hN hxs hys ⊢
  have hA : ∀ q, s.heap.size ≤ q → A q := fun q h => by rw [← hAe]; exact Or.inl (Or.inr h)
  have hl := lv_entry ([.ref (ad 0 0), .int x1, .int x2, .ref o]) (n := 5) (Nat.le_of_ble_eq_true rfl)
  rw [lg_entry_eq]
  generalize (lg_sl ([.ref (ad 0 0), .int x1, .int x2, .ref o]) ++ List.replicate (5 - (lg_sl ([.ref (ad 0 0), .int x1, .int x2, .ref o])).length) Slot.unset).toArray = ls at hl ⊢
  have hl : lv_has ls 5 [(0, .ref (ad 0 0)), (1, .int x1), (2, .int x2), (3, .ref o)] := hl
  refine lv_aload_n hx hb dL_oath_0 rfl (lv_at hl 3 rfl) ?_
  refine lv_iconst (v := 0) hx hb dL_oath_1 (by decide) ?_
  refine lv_aload_n hx hb dL_oath_2 rfl (lv_at hl 0 rfl) ?_
  refine lv_iload_n hx hb dL_oath_3 rfl (lv_at hl 1 rfl) ?_
  refine lv_iload_n hx hb dL_oath_4 rfl (lv_at hl 2 rfl) ?_
  refine hg_callX (As := [.int x1, .int x2]) (rest := [.int 0, .ref o]) ⟨hx, hb, hml, hown, hts⟩ (cX_Court_oath l hlf D yI yO z0 ad s.heap.size h) (cwV 2 hts gL_oath_X8_oath rfl rfl rfl (by decide +kernel) ⟨Nat.le_of_ble_eq_true rfl, Nat.le_of_ble_eq_true rfl⟩) hK hN hA hxs rfl hl.1 rfl (Nat.le_of_ble_eq_true rfl) dL_oath_5 ⟨Nat.le_of_ble_eq_true rfl, Nat.le_of_ble_eq_true rfl⟩ (fun ce q9 H locs hN h8 h9 h10 => ?_)
  refine vx_catch (own := RL) (name := "java/lang/IllegalStateException") (E := xE 2) hown [⟨0, 10, 13, 21⟩] ⟨0, 10, 17, 15⟩ [] (by rw [htab]; rfl) (List.forall_mem_cons.mpr ⟨Or.inr ⟨by decide, "java/lang/IndexOutOfBoundsException", hts (.classLink RL 21 "java/lang/IndexOutOfBoundsException") (by decide +kernel), hns ("java/lang/IllegalStateException", "java/lang/IndexOutOfBoundsException") (by decide)⟩, (fun z hz => absurd hz List.not_mem_nil)⟩) (by decide) (by decide) (hts (.classLink RL 15 "java/lang/IllegalStateException") (by decide +kernel)) (va_Nw.use (xB_on (.castable "java/lang/IllegalStateException" "java/lang/IllegalStateException") (by decide)) (hxs.2.2.2 (.castable "java/lang/IllegalStateException" "java/lang/IllegalStateException") (by decide))) h8 h9 h10 ?_
  refine W.eq (g2 := F0 m 17 ls [.ref q9]) rfl ?_
  refine lv_astore (lv' := [(4, .ref q9), (0, .ref (ad 0 0)), (1, .int x1), (2, .int x2), (3, .ref o)]) hx hb dL_oath_17 hl (by decide) rfl (fun ls hl => ?_)
  refine lv_iconst (v := 2) hx hb dL_oath_19 (by decide) ?_
  exact W.iret (v := 2) hx hb hr (fun t ht hW => ⟨⟨2, (ad, f), rfl, ⟨rfl, rfl⟩, rfl, by rw [ht]; exact hN.1.1, va_K.moved hW.alike hLK, by rw [ht]; exact hN.2.1, hN.2.2.2 0 _ rfl, hN.1.2.1⟩, hN.1.2.2.F ht⟩) hN.1.2.2.2.2 dL_oath_20 hlocks
set_option maxRecDepth 20000 in
theorem cH_pass (l : Launch) (hlf : l.stackTraces = false) (D : va_G) (yI yO yL : ClassId) (z0 : Nat) (ad : Nat → Nat → Nat) {g : CS} {x1 : Int32} (o : Nat) (f : Nat → Int64) (sz : Nat) {rz : Int32} {gz : CS} (h : fC_Court_pass g x1 = some (.inr (rz, gz))) : Met l yL_pass wsL_pass ({ frames := 9, cells := 0, slots := 0, locals := 200 }) (va_Pc [.ref (ad 0 0), .int x1, .ref o] (hPre D yI yO yL z0 ad g o f sz)) (hQ D yI yO yL z0 ad gz o f 0 rz.toInt64 (hAd ad g sz o)) 0 0 (hAd ad g sz o) := by
  refine lh_ofW (cc := cL_pass) (maxL := 4) (ret := some .int) (hh := [(0, 9, 12, 13), (0, 9, 15, 15)]) (by decide) rfl ?_
  intro p e s m args below meth c s₁ B hml htab hv
  obtain ⟨hv0, hw, hLK, hP, ho, hsz, hxs, hys, hns⟩ := hv
  subst hsz
  have hv1 : args = [.ref (ad 0 0), .int x1, .ref o].toArray := hv0
  subst hv1
  have hx := B.exec
  have hb := B.bytes
  have hr := B.returns
  have hts := atoms_spec (ws := wsL_pass) B.pre
  have hown : s.vm.findClass RL = some m.cls := findClass_of_methodNamed B.named
  have hlocks := B.notSynchronized
  have hK := hLK.c
  have hN := hN_start hw hP ho
  generalize hAe : hAd ad g s.heap.size o = A at hN hxs hys ⊢
  have hA : ∀ q, s.heap.size ≤ q → A q := fun q h => by rw [← hAe]; exact Or.inl (Or.inr h)
  have hl := lv_entry ([.ref (ad 0 0), .int x1, .ref o]) (n := 4) (Nat.le_of_ble_eq_true rfl)
  rw [lg_entry_eq]
  generalize (lg_sl ([.ref (ad 0 0), .int x1, .ref o]) ++ List.replicate (4 - (lg_sl ([.ref (ad 0 0), .int x1, .ref o])).length) Slot.unset).toArray = ls at hl ⊢
  have hl : lv_has ls 4 [(0, .ref (ad 0 0)), (1, .int x1), (2, .ref o)] := hl
  refine lv_aload_n hx hb dL_pass_0 rfl (lv_at hl 2 rfl) ?_
  refine lv_iconst (v := 0) hx hb dL_pass_1 (by decide) ?_
  refine lv_aload_n hx hb dL_pass_2 rfl (lv_at hl 0 rfl) ?_
  refine lv_iload_n hx hb dL_pass_3 rfl (lv_at hl 1 rfl) ?_
  refine hg_callV (As := [.int x1]) (rest := [.int 0, .ref o]) ⟨hx, hb, hml, hown, hts⟩ (cC_Court_pass l D yI yO z0 ad h) (cwV 1 hts gL_pass_X8_pass rfl rfl rfl (by decide +kernel) ⟨Nat.le_of_ble_eq_true rfl, Nat.le_of_ble_eq_true rfl⟩) hK hN rfl hl.1 rfl (Nat.le_of_ble_eq_true rfl) dL_pass_4 ⟨Nat.le_of_ble_eq_true rfl, Nat.le_of_ble_eq_true rfl⟩ (fun H locs hN => ?_)
  have had : ad 0 0 = ad 0 0 := rfl
  refine lv_i2l (v := rz.toInt64) hx hb dL_pass_7 rfl ?_
  refine hg_last hx hb hLK hN dL_pass_8 (fun f1 H locs hf1 hN => ?_)
  refine lv_goto (tgt := 18) hx hb dL_pass_9 (by decide) ?_
  refine lv_iconst (v := 0) hx hb dL_pass_18 (by decide) ?_
  exact W.iret (v := 0) hx hb hr (fun t ht hW => ⟨⟨0, (ad, f1), rfl, ⟨rfl, hf1⟩, had, by rw [ht]; exact hN.1.1, va_K.moved hW.alike hLK, by rw [ht]; exact hN.2.1, hN.2.2.2 0 _ rfl, hN.1.2.1⟩, hN.1.2.2.F ht⟩) hN.1.2.2.2.2 dL_pass_19 hlocks
set_option maxRecDepth 20000 in
theorem cHx_pass_1 (l : Launch) (hlf : l.stackTraces = false) (D : va_G) (yI yO yL : ClassId) (z0 : Nat) (ad : Nat → Nat → Nat) {g : CS} {x1 : Int32} (o : Nat) (f : Nat → Int64) (sz : Nat) (h : fC_Court_pass g x1 = some (.inl 1)) : Met l yL_pass wsL_pass ({ frames := 9, cells := 1, slots := 6, locals := 200 }) (va_Pc [.ref (ad 0 0), .int x1, .ref o] (hPre D yI yO yL z0 ad g o f sz)) (hQ D yI yO yL z0 ad g o f 1 (f 0) (hAd ad g sz o)) 1 6 (hAd ad g sz o) := by
  refine lh_ofW (cc := cL_pass) (maxL := 4) (ret := some .int) (hh := [(0, 9, 12, 13), (0, 9, 15, 15)]) (by decide) rfl ?_
  intro p e s m args below meth c s₁ B hml htab hv
  obtain ⟨hv0, hw, hLK, hP, ho, hsz, hxs, hys, hns⟩ := hv
  subst hsz
  have hv1 : args = [.ref (ad 0 0), .int x1, .ref o].toArray := hv0
  subst hv1
  have hx := B.exec
  have hb := B.bytes
  have hr := B.returns
  have hts := atoms_spec (ws := wsL_pass) B.pre
  have hown : s.vm.findClass RL = some m.cls := findClass_of_methodNamed B.named
  have hlocks := B.notSynchronized
  have hK := hLK.c
  have hN := hN_start hw hP ho
  generalize hAe : hAd ad g s.heap.size o = A at hN hxs hys ⊢
  have hA : ∀ q, s.heap.size ≤ q → A q := fun q h => by rw [← hAe]; exact Or.inl (Or.inr h)
  have hl := lv_entry ([.ref (ad 0 0), .int x1, .ref o]) (n := 4) (Nat.le_of_ble_eq_true rfl)
  rw [lg_entry_eq]
  generalize (lg_sl ([.ref (ad 0 0), .int x1, .ref o]) ++ List.replicate (4 - (lg_sl ([.ref (ad 0 0), .int x1, .ref o])).length) Slot.unset).toArray = ls at hl ⊢
  have hl : lv_has ls 4 [(0, .ref (ad 0 0)), (1, .int x1), (2, .ref o)] := hl
  refine lv_aload_n hx hb dL_pass_0 rfl (lv_at hl 2 rfl) ?_
  refine lv_iconst (v := 0) hx hb dL_pass_1 (by decide) ?_
  refine lv_aload_n hx hb dL_pass_2 rfl (lv_at hl 0 rfl) ?_
  refine lv_iload_n hx hb dL_pass_3 rfl (lv_at hl 1 rfl) ?_
  refine hg_callX (As := [.int x1]) (rest := [.int 0, .ref o]) ⟨hx, hb, hml, hown, hts⟩ (cX_Court_pass l hlf D yI yO z0 ad s.heap.size h) (cwV 1 hts gL_pass_X8_pass rfl rfl rfl (by decide +kernel) ⟨Nat.le_of_ble_eq_true rfl, Nat.le_of_ble_eq_true rfl⟩) hK hN hA hxs rfl hl.1 rfl (Nat.le_of_ble_eq_true rfl) dL_pass_4 ⟨Nat.le_of_ble_eq_true rfl, Nat.le_of_ble_eq_true rfl⟩ (fun ce q9 H locs hN h8 h9 h10 => ?_)
  refine vx_catch (own := RL) (name := "java/lang/IllegalArgumentException") (E := xE 1) hown [] ⟨0, 9, 12, 13⟩ [⟨0, 9, 15, 15⟩] (by rw [htab]; rfl) (fun z hz => absurd hz List.not_mem_nil) (by decide) (by decide) (hts (.classLink RL 13 "java/lang/IllegalArgumentException") (by decide +kernel)) (va_Nw.use (xB_on (.castable "java/lang/IllegalArgumentException" "java/lang/IllegalArgumentException") (by decide)) (hxs.2.2.2 (.castable "java/lang/IllegalArgumentException" "java/lang/IllegalArgumentException") (by decide))) h8 h9 h10 ?_
  refine W.eq (g2 := F0 m 12 ls [.ref q9]) rfl ?_
  refine lv_astore_n (lv' := [(3, .ref q9), (0, .ref (ad 0 0)), (1, .int x1), (2, .ref o)]) hx hb dL_pass_12 rfl hl (by decide) rfl (fun ls hl => ?_)
  refine lv_iconst (v := 1) hx hb dL_pass_13 (by decide) ?_
  exact W.iret (v := 1) hx hb hr (fun t ht hW => ⟨⟨1, (ad, f), rfl, ⟨rfl, rfl⟩, rfl, by rw [ht]; exact hN.1.1, va_K.moved hW.alike hLK, by rw [ht]; exact hN.2.1, hN.2.2.2 0 _ rfl, hN.1.2.1⟩, hN.1.2.2.F ht⟩) hN.1.2.2.2.2 dL_pass_14 hlocks
set_option maxRecDepth 20000 in
theorem cHx_pass_2 (l : Launch) (hlf : l.stackTraces = false) (D : va_G) (yI yO yL : ClassId) (z0 : Nat) (ad : Nat → Nat → Nat) {g : CS} {x1 : Int32} (o : Nat) (f : Nat → Int64) (sz : Nat) (h : fC_Court_pass g x1 = some (.inl 2)) : Met l yL_pass wsL_pass ({ frames := 9, cells := 1, slots := 6, locals := 200 }) (va_Pc [.ref (ad 0 0), .int x1, .ref o] (hPre D yI yO yL z0 ad g o f sz)) (hQ D yI yO yL z0 ad g o f 2 (f 0) (hAd ad g sz o)) 1 6 (hAd ad g sz o) := by
  refine lh_ofW (cc := cL_pass) (maxL := 4) (ret := some .int) (hh := [(0, 9, 12, 13), (0, 9, 15, 15)]) (by decide) rfl ?_
  intro p e s m args below meth c s₁ B hml htab hv
  obtain ⟨hv0, hw, hLK, hP, ho, hsz, hxs, hys, hns⟩ := hv
  subst hsz
  have hv1 : args = [.ref (ad 0 0), .int x1, .ref o].toArray := hv0
  subst hv1
  have hx := B.exec
  have hb := B.bytes
  have hr := B.returns
  have hts := atoms_spec (ws := wsL_pass) B.pre
  have hown : s.vm.findClass RL = some m.cls := findClass_of_methodNamed B.named
  have hlocks := B.notSynchronized
  have hK := hLK.c
  have hN := hN_start hw hP ho
  generalize hAe : hAd ad g s.heap.size o = A at hN hxs hys ⊢
  have hA : ∀ q, s.heap.size ≤ q → A q := fun q h => by rw [← hAe]; exact Or.inl (Or.inr h)
  have hl := lv_entry ([.ref (ad 0 0), .int x1, .ref o]) (n := 4) (Nat.le_of_ble_eq_true rfl)
  rw [lg_entry_eq]
  generalize (lg_sl ([.ref (ad 0 0), .int x1, .ref o]) ++ List.replicate (4 - (lg_sl ([.ref (ad 0 0), .int x1, .ref o])).length) Slot.unset).toArray = ls at hl ⊢
  have hl : lv_has ls 4 [(0, .ref (ad 0 0)), (1, .int x1), (2, .ref o)] := hl
  refine lv_aload_n hx hb dL_pass_0 rfl (lv_at hl 2 rfl) ?_
  refine lv_iconst (v := 0) hx hb dL_pass_1 (by decide) ?_
  refine lv_aload_n hx hb dL_pass_2 rfl (lv_at hl 0 rfl) ?_
  refine lv_iload_n hx hb dL_pass_3 rfl (lv_at hl 1 rfl) ?_
  refine hg_callX (As := [.int x1]) (rest := [.int 0, .ref o]) ⟨hx, hb, hml, hown, hts⟩ (cX_Court_pass l hlf D yI yO z0 ad s.heap.size h) (cwV 1 hts gL_pass_X8_pass rfl rfl rfl (by decide +kernel) ⟨Nat.le_of_ble_eq_true rfl, Nat.le_of_ble_eq_true rfl⟩) hK hN hA hxs rfl hl.1 rfl (Nat.le_of_ble_eq_true rfl) dL_pass_4 ⟨Nat.le_of_ble_eq_true rfl, Nat.le_of_ble_eq_true rfl⟩ (fun ce q9 H locs hN h8 h9 h10 => ?_)
  refine vx_catch (own := RL) (name := "java/lang/IllegalStateException") (E := xE 2) hown [⟨0, 9, 12, 13⟩] ⟨0, 9, 15, 15⟩ [] (by rw [htab]; rfl) (List.forall_mem_cons.mpr ⟨Or.inr ⟨by decide, "java/lang/IllegalArgumentException", hts (.classLink RL 13 "java/lang/IllegalArgumentException") (by decide +kernel), hns ("java/lang/IllegalStateException", "java/lang/IllegalArgumentException") (by decide)⟩, (fun z hz => absurd hz List.not_mem_nil)⟩) (by decide) (by decide) (hts (.classLink RL 15 "java/lang/IllegalStateException") (by decide +kernel)) (va_Nw.use (xB_on (.castable "java/lang/IllegalStateException" "java/lang/IllegalStateException") (by decide)) (hxs.2.2.2 (.castable "java/lang/IllegalStateException" "java/lang/IllegalStateException") (by decide))) h8 h9 h10 ?_
  refine W.eq (g2 := F0 m 15 ls [.ref q9]) rfl ?_
  refine lv_astore_n (lv' := [(3, .ref q9), (0, .ref (ad 0 0)), (1, .int x1), (2, .ref o)]) hx hb dL_pass_15 rfl hl (by decide) rfl (fun ls hl => ?_)
  refine lv_iconst (v := 2) hx hb dL_pass_16 (by decide) ?_
  exact W.iret (v := 2) hx hb hr (fun t ht hW => ⟨⟨2, (ad, f), rfl, ⟨rfl, rfl⟩, rfl, by rw [ht]; exact hN.1.1, va_K.moved hW.alike hLK, by rw [ht]; exact hN.2.1, hN.2.2.2 0 _ rfl, hN.1.2.1⟩, hN.1.2.2.F ht⟩) hN.1.2.2.2.2 dL_pass_17 hlocks
set_option maxRecDepth 20000 in
theorem cH_status (l : Launch) (hlf : l.stackTraces = false) (D : va_G) (yI yO yL : ClassId) (z0 : Nat) (ad : Nat → Nat → Nat) {g : CS} {x1 : Int32} (o : Nat) (f : Nat → Int64) (sz : Nat) {rz : Int32} (h : fC_Court_status g x1 = some (.inr rz)) : Met l yL_status wsL_status ({ frames := 8, cells := 0, slots := 0, locals := 132 }) (va_Pc [.ref (ad 0 0), .int x1, .ref o] (hPre D yI yO yL z0 ad g o f sz)) (hQ D yI yO yL z0 ad g o f 0 rz.toInt64 (hAd ad g sz o)) 0 0 (hAd ad g sz o) := by
  refine lh_ofW (cc := cL_status) (maxL := 4) (ret := some .int) (hh := [(0, 9, 12, 21)]) (by decide) rfl ?_
  intro p e s m args below meth c s₁ B hml htab hv
  obtain ⟨hv0, hw, hLK, hP, ho, hsz, hxs, hys, hns⟩ := hv
  subst hsz
  have hv1 : args = [.ref (ad 0 0), .int x1, .ref o].toArray := hv0
  subst hv1
  have hx := B.exec
  have hb := B.bytes
  have hr := B.returns
  have hts := atoms_spec (ws := wsL_status) B.pre
  have hown : s.vm.findClass RL = some m.cls := findClass_of_methodNamed B.named
  have hlocks := B.notSynchronized
  have hK := hLK.c
  have hN := hN_start hw hP ho
  generalize hAe : hAd ad g s.heap.size o = A at hN hxs hys ⊢
  have hA : ∀ q, s.heap.size ≤ q → A q := fun q h => by rw [← hAe]; exact Or.inl (Or.inr h)
  have hl := lv_entry ([.ref (ad 0 0), .int x1, .ref o]) (n := 4) (Nat.le_of_ble_eq_true rfl)
  rw [lg_entry_eq]
  generalize (lg_sl ([.ref (ad 0 0), .int x1, .ref o]) ++ List.replicate (4 - (lg_sl ([.ref (ad 0 0), .int x1, .ref o])).length) Slot.unset).toArray = ls at hl ⊢
  have hl : lv_has ls 4 [(0, .ref (ad 0 0)), (1, .int x1), (2, .ref o)] := hl
  refine lv_aload_n hx hb dL_status_0 rfl (lv_at hl 2 rfl) ?_
  refine lv_iconst (v := 0) hx hb dL_status_1 (by decide) ?_
  refine lv_aload_n hx hb dL_status_2 rfl (lv_at hl 0 rfl) ?_
  refine lv_iload_n hx hb dL_status_3 rfl (lv_at hl 1 rfl) ?_
  refine hg_callV (As := [.int x1]) (rest := [.int 0, .ref o]) ⟨hx, hb, hml, hown, hts⟩ (cC_Court_status l D yI yO z0 ad h) (cwV 1 hts gL_status_X8_status rfl rfl rfl (by decide +kernel) ⟨Nat.le_of_ble_eq_true rfl, Nat.le_of_ble_eq_true rfl⟩) hK hN rfl hl.1 rfl (Nat.le_of_ble_eq_true rfl) dL_status_4 ⟨Nat.le_of_ble_eq_true rfl, Nat.le_of_ble_eq_true rfl⟩ (fun H locs hN => ?_)
  have had : ad 0 0 = ad 0 0 := rfl
  refine lv_i2l (v := rz.toInt64) hx hb dL_status_7 rfl ?_
  refine hg_last hx hb hLK hN dL_status_8 (fun f1 H locs hf1 hN => ?_)
  refine lv_goto (tgt := 15) hx hb dL_status_9 (by decide) ?_
  refine lv_iconst (v := 0) hx hb dL_status_15 (by decide) ?_
  exact W.iret (v := 0) hx hb hr (fun t ht hW => ⟨⟨0, (ad, f1), rfl, ⟨rfl, hf1⟩, had, by rw [ht]; exact hN.1.1, va_K.moved hW.alike hLK, by rw [ht]; exact hN.2.1, hN.2.2.2 0 _ rfl, hN.1.2.1⟩, hN.1.2.2.F ht⟩) hN.1.2.2.2.2 dL_status_16 hlocks
set_option maxRecDepth 20000 in
theorem cHx_status_0 (l : Launch) (hlf : l.stackTraces = false) (D : va_G) (yI yO yL : ClassId) (z0 : Nat) (ad : Nat → Nat → Nat) {g : CS} {x1 : Int32} (o : Nat) (f : Nat → Int64) (sz : Nat) (h : fC_Court_status g x1 = some (.inl 0)) : Met l yL_status wsL_status ({ frames := 8, cells := 1, slots := 6, locals := 132 }) (va_Pc [.ref (ad 0 0), .int x1, .ref o] (hPre D yI yO yL z0 ad g o f sz)) (hQ D yI yO yL z0 ad g o f 1 (f 0) (hAd ad g sz o)) 1 6 (hAd ad g sz o) := by
  refine lh_ofW (cc := cL_status) (maxL := 4) (ret := some .int) (hh := [(0, 9, 12, 21)]) (by decide) rfl ?_
  intro p e s m args below meth c s₁ B hml htab hv
  obtain ⟨hv0, hw, hLK, hP, ho, hsz, hxs, hys, hns⟩ := hv
  subst hsz
  have hv1 : args = [.ref (ad 0 0), .int x1, .ref o].toArray := hv0
  subst hv1
  have hx := B.exec
  have hb := B.bytes
  have hr := B.returns
  have hts := atoms_spec (ws := wsL_status) B.pre
  have hown : s.vm.findClass RL = some m.cls := findClass_of_methodNamed B.named
  have hlocks := B.notSynchronized
  have hK := hLK.c
  have hN := hN_start hw hP ho
  generalize hAe : hAd ad g s.heap.size o = A at hN hxs hys ⊢
  have hA : ∀ q, s.heap.size ≤ q → A q := fun q h => by rw [← hAe]; exact Or.inl (Or.inr h)
  have hl := lv_entry ([.ref (ad 0 0), .int x1, .ref o]) (n := 4) (Nat.le_of_ble_eq_true rfl)
  rw [lg_entry_eq]
  generalize (lg_sl ([.ref (ad 0 0), .int x1, .ref o]) ++ List.replicate (4 - (lg_sl ([.ref (ad 0 0), .int x1, .ref o])).length) Slot.unset).toArray = ls at hl ⊢
  have hl : lv_has ls 4 [(0, .ref (ad 0 0)), (1, .int x1), (2, .ref o)] := hl
  refine lv_aload_n hx hb dL_status_0 rfl (lv_at hl 2 rfl) ?_
  refine lv_iconst (v := 0) hx hb dL_status_1 (by decide) ?_
  refine lv_aload_n hx hb dL_status_2 rfl (lv_at hl 0 rfl) ?_
  refine lv_iload_n hx hb dL_status_3 rfl (lv_at hl 1 rfl) ?_
  refine hg_callX (As := [.int x1]) (rest := [.int 0, .ref o]) ⟨hx, hb, hml, hown, hts⟩ (cX_Court_status l hlf D yI yO z0 ad s.heap.size h) (cwV 1 hts gL_status_X8_status rfl rfl rfl (by decide +kernel) ⟨Nat.le_of_ble_eq_true rfl, Nat.le_of_ble_eq_true rfl⟩) hK hN hA hxs rfl hl.1 rfl (Nat.le_of_ble_eq_true rfl) dL_status_4 ⟨Nat.le_of_ble_eq_true rfl, Nat.le_of_ble_eq_true rfl⟩ (fun ce q9 H locs hN h8 h9 h10 => ?_)
  refine vx_catch (own := RL) (name := "java/lang/IndexOutOfBoundsException") (E := xE 0) hown [] ⟨0, 9, 12, 21⟩ [] (by rw [htab]; rfl) (fun z hz => absurd hz List.not_mem_nil) (by decide) (by decide) (hts (.classLink RL 21 "java/lang/IndexOutOfBoundsException") (by decide +kernel)) (va_Nw.use (xB_on (.castable "java/lang/IndexOutOfBoundsException" "java/lang/IndexOutOfBoundsException") (by decide)) (hxs.2.2.2 (.castable "java/lang/IndexOutOfBoundsException" "java/lang/IndexOutOfBoundsException") (by decide))) h8 h9 h10 ?_
  refine W.eq (g2 := F0 m 12 ls [.ref q9]) rfl ?_
  refine lv_astore_n (lv' := [(3, .ref q9), (0, .ref (ad 0 0)), (1, .int x1), (2, .ref o)]) hx hb dL_status_12 rfl hl (by decide) rfl (fun ls hl => ?_)
  refine lv_iconst (v := 1) hx hb dL_status_13 (by decide) ?_
  exact W.iret (v := 1) hx hb hr (fun t ht hW => ⟨⟨1, (ad, f), rfl, ⟨rfl, rfl⟩, rfl, by rw [ht]; exact hN.1.1, va_K.moved hW.alike hLK, by rw [ht]; exact hN.2.1, hN.2.2.2 0 _ rfl, hN.1.2.1⟩, hN.1.2.2.F ht⟩) hN.1.2.2.2.2 dL_status_14 hlocks
