set_option maxRecDepth 20000 in
theorem cH_about (l : Launch) (hlf : l.stackTraces = false) (D : va_G) (yI yO yL : ClassId) (z0 : Nat) (ad : Nat → Nat → Nat) {g : CS} {x1 : Int32} {x2 : Int32} (o : Nat) (f : Nat → Int64) (sz : Nat) {rz : Int32} (h : fC_Court_about g x1 x2 = some (.inr rz)) : Met l yL_about wsL_about ({ frames := 8, cells := 0, slots := 0, locals := 134 }) (va_Pc [.ref (ad 0 0), .int x1, .int x2, .ref o] (hPre D yI yO yL z0 ad g o f sz)) (hQ D yI yO yL z0 ad g o f 0 rz.toInt64 (hAd ad g sz o)) 0 0 (hAd ad g sz o) := by
  refine lh_ofW (cc := cL_about) (maxL := 5) (ret := some .int) (hh := [(0, 10, 13, 21), (0, 10, 17, 13)]) (by decide) rfl ?_
  intro p e s m args below meth c s₁ B hml htab hv
  obtain ⟨hv0, hw, hLK, hP, ho, hsz, hxs, hys, hns⟩ := hv
  subst hsz
  have hv1 : args = [.ref (ad 0 0), .int x1, .int x2, .ref o].toArray := hv0
  subst hv1
  have hx := B.exec
  have hb := B.bytes
  have hr := B.returns
  have hts := atoms_spec (ws := wsL_about) B.pre
  have hown : s.vm.findClass RL = some m.cls := findClass_of_methodNamed B.named
  have hlocks := B.notSynchronized
  have hK := hLK.c
  have hN := hN_start hw hP ho
  generalize hAe : hAd ad g s.heap.size o = A at hN hxs hys ⊢
  have hA : ∀ q, s.heap.size ≤ q → A q := fun q h => by rw [← hAe]; exact Or.inl (Or.inr h)
  have hl := lv_entry ([.ref (ad 0 0), .int x1, .int x2, .ref o]) (n := 5) (Nat.le_of_ble_eq_true rfl)
  rw [lg_entry_eq]
  generalize (lg_sl ([.ref (ad 0 0), .int x1, .int x2, .ref o]) ++ List.replicate (5 - (lg_sl ([.ref (ad 0 0), .int x1, .int x2, .ref o])).length) Slot.unset).toArray = ls at hl ⊢
  have hl : lv_has ls 5 [(0, .ref (ad 0 0)), (1, .int x1), (2, .int x2), (3, .ref o)] := hl
  refine lv_aload_n hx hb dL_about_0 rfl (lv_at hl 3 rfl) ?_
  refine lv_iconst (v := 0) hx hb dL_about_1 (by decide) ?_
  refine lv_aload_n hx hb dL_about_2 rfl (lv_at hl 0 rfl) ?_
  refine lv_iload_n hx hb dL_about_3 rfl (lv_at hl 1 rfl) ?_
  refine lv_iload_n hx hb dL_about_4 rfl (lv_at hl 2 rfl) ?_
  refine hg_callV (As := [.int x1, .int x2]) (rest := [.int 0, .ref o]) ⟨hx, hb, hml, hown, hts⟩ (cC_Court_about l D yI yO z0 ad h) (cwV 2 hts gL_about_X8_about rfl rfl rfl (by decide +kernel) ⟨Nat.le_of_ble_eq_true rfl, Nat.le_of_ble_eq_true rfl⟩) hK hN rfl hl.1 rfl (Nat.le_of_ble_eq_true rfl) dL_about_5 ⟨Nat.le_of_ble_eq_true rfl, Nat.le_of_ble_eq_true rfl⟩ (fun H locs hN => ?_)
  have had : ad 0 0 = ad 0 0 := rfl
  refine lv_i2l (v := rz.toInt64) hx hb dL_about_8 rfl ?_
  refine hg_last hx hb hLK hN dL_about_9 (fun f1 H locs hf1 hN => ?_)
  refine lv_goto (tgt := 21) hx hb dL_about_10 (by decide) ?_
  refine lv_iconst (v := 0) hx hb dL_about_21 (by decide) ?_
  exact W.iret (v := 0) hx hb hr (fun t ht hW => ⟨⟨0, (ad, f1), rfl, ⟨rfl, hf1⟩, had, by rw [ht]; exact hN.1.1, va_K.moved hW.alike hLK, by rw [ht]; exact hN.2.1, hN.2.2.2 0 _ rfl, hN.1.2.1⟩, hN.1.2.2.F ht⟩) hN.1.2.2.2.2 dL_about_22 hlocks
set_option maxRecDepth 20000 in
theorem cHx_about_0 (l : Launch) (hlf : l.stackTraces = false) (D : va_G) (yI yO yL : ClassId) (z0 : Nat) (ad : Nat → Nat → Nat) {g : CS} {x1 : Int32} {x2 : Int32} (o : Nat) (f : Nat → Int64) (sz : Nat) (h : fC_Court_about g x1 x2 = some (.inl 0)) : Met l yL_about wsL_about ({ frames := 8, cells := 1, slots := 6, locals := 134 }) (va_Pc [.ref (ad 0 0), .int x1, .int x2, .ref o] (hPre D yI yO yL z0 ad g o f sz)) (hQ D yI yO yL z0 ad g o f 1 (f 0) (hAd ad g sz o)) 1 6 (hAd ad g sz o) := by
  refine lh_ofW (cc := cL_about) (maxL := 5) (ret := some .int) (hh := [(0, 10, 13, 21), (0, 10, 17, 13)]) (by decide) rfl ?_
  intro p e s m args below meth c s₁ B hml htab hv
  obtain ⟨hv0, hw, hLK, hP, ho, hsz, hxs, hys, hns⟩ := hv
  subst hsz
  have hv1 : args = [.ref (ad 0 0), .int x1, .int x2, .ref o].toArray := hv0
  subst hv1
  have hx := B.exec
  have hb := B.bytes
  have hr := B.returns
  have hts := atoms_spec (ws := wsL_about) B.pre
  have hown : s.vm.findClass RL = some m.cls := findClass_of_methodNamed B.named
  have hlocks := B.notSynchronized
  have hK := hLK.c
  have hN := hN_start hw hP ho
  generalize hAe : hAd ad g s.heap.size o = A at hN hxs hys ⊢
  have hA : ∀ q, s.heap.size ≤ q → A q := fun q h => by rw [← hAe]; exact Or.inl (Or.inr h)
  have hl := lv_entry ([.ref (ad 0 0), .int x1, .int x2, .ref o]) (n := 5) (Nat.le_of_ble_eq_true rfl)
  rw [lg_entry_eq]
  generalize (lg_sl ([.ref (ad 0 0), .int x1, .int x2, .ref o]) ++ List.replicate (5 - (lg_sl ([.ref (ad 0 0), .int x1, .int x2, .ref o])).length) Slot.unset).toArray = ls at hl ⊢
  have hl : lv_has ls 5 [(0, .ref (ad 0 0)), (1, .int x1), (2, .int x2), (3, .ref o)] := hl
  refine lv_aload_n hx hb dL_about_0 rfl (lv_at hl 3 rfl) ?_
  refine lv_iconst (v := 0) hx hb dL_about_1 (by decide) ?_
  refine lv_aload_n hx hb dL_about_2 rfl (lv_at hl 0 rfl) ?_
  refine lv_iload_n hx hb dL_about_3 rfl (lv_at hl 1 rfl) ?_
  refine lv_iload_n hx hb dL_about_4 rfl (lv_at hl 2 rfl) ?_
  refine hg_callX (As := [.int x1, .int x2]) (rest := [.int 0, .ref o]) ⟨hx, hb, hml, hown, hts⟩ (cX_Court_about l hlf D yI yO z0 ad s.heap.size h) (cwV 2 hts gL_about_X8_about rfl rfl rfl (by decide +kernel) ⟨Nat.le_of_ble_eq_true rfl, Nat.le_of_ble_eq_true rfl⟩) hK hN hA hxs rfl hl.1 rfl (Nat.le_of_ble_eq_true rfl) dL_about_5 ⟨Nat.le_of_ble_eq_true rfl, Nat.le_of_ble_eq_true rfl⟩ (fun ce q9 H locs hN h8 h9 h10 => ?_)
  refine vx_catch (own := RL) (name := "java/lang/IndexOutOfBoundsException") (E := xE 0) hown [] ⟨0, 10, 13, 21⟩ [⟨0, 10, 17, 13⟩] (by rw [htab]; rfl) (fun z hz => absurd hz List.not_mem_nil) (by decide) (by decide) (hts (.classLink RL 21 "java/lang/IndexOutOfBoundsException") (by decide +kernel)) (va_Nw.use (xB_on (.castable "java/lang/IndexOutOfBoundsException" "java/lang/IndexOutOfBoundsException") (by decide)) (hxs.2.2.2 (.castable "java/lang/IndexOutOfBoundsException" "java/lang/IndexOutOfBoundsException") (by decide))) h8 h9 h10 ?_
  refine W.eq (g2 := F0 m 13 ls [.ref q9]) rfl ?_
  refine lv_astore (lv' := [(4, .ref q9), (0, .ref (ad 0 0)), (1, .int x1), (2, .int x2), (3, .ref o)]) hx hb dL_about_13 hl (by decide) rfl (fun ls hl => ?_)
  refine lv_iconst (v := 1) hx hb dL_about_15 (by decide) ?_
  exact W.iret (v := 1) hx hb hr (fun t ht hW => ⟨⟨1, (ad, f), rfl, ⟨rfl, rfl⟩, rfl, by rw [ht]; exact hN.1.1, va_K.moved hW.alike hLK, by rw [ht]; exact hN.2.1, hN.2.2.2 0 _ rfl, hN.1.2.1⟩, hN.1.2.2.F ht⟩) hN.1.2.2.2.2 dL_about_16 hlocks
set_option maxRecDepth 20000 in
theorem cHx_about_1 (l : Launch) (hlf : l.stackTraces = false) (D : va_G) (yI yO yL : ClassId) (z0 : Nat) (ad : Nat → Nat → Nat) {g : CS} {x1 : Int32} {x2 : Int32} (o : Nat) (f : Nat → Int64) (sz : Nat) (h : fC_Court_about g x1 x2 = some (.inl 1)) : Met l yL_about wsL_about ({ frames := 8, cells := 1, slots := 6, locals := 134 }) (va_Pc [.ref (ad 0 0), .int x1, .int x2, .ref o] (hPre D yI yO yL z0 ad g o f sz)) (hQ D yI yO yL z0 ad g o f 2 (f 0) (hAd ad g sz o)) 1 6 (hAd ad g sz o) := by
  refine lh_ofW (cc := cL_about) (maxL := 5) (ret := some .int) (hh := [(0, 10, 13, 21), (0, 10, 17, 13)]) (by decide) rfl ?_
  intro p e s m args below meth c s₁ B hml htab hv
  obtain ⟨hv0, hw, hLK, hP, ho, hsz, hxs, hys, hns⟩ := hv
  subst hsz
  have hv1 : args = [.ref (ad 0 0), .int x1, .int x2, .ref o].toArray := hv0
  subst hv1
  have hx := B.exec
  have hb := B.bytes
  have hr := B.returns
  have hts := atoms_spec (ws := wsL_about) B.pre
  have hown : s.vm.findClass RL = some m.cls := findClass_of_methodNamed B.named
  have hlocks := B.notSynchronized
  have hK := hLK.c
  have hN := hN_start hw hP ho
  generalize hAe : hAd ad g s.heap.size o = A at hN hxs hys ⊢
  have hA : ∀ q, s.heap.size ≤ q → A q := fun q h => by rw [← hAe]; exact Or.inl (Or.inr h)
  have hl := lv_entry ([.ref (ad 0 0), .int x1, .int x2, .ref o]) (n := 5) (Nat.le_of_ble_eq_true rfl)
  rw [lg_entry_eq]
  generalize (lg_sl ([.ref (ad 0 0), .int x1, .int x2, .ref o]) ++ List.replicate (5 - (lg_sl ([.ref (ad 0 0), .int x1, .int x2, .ref o])).length) Slot.unset).toArray = ls at hl ⊢
  have hl : lv_has ls 5 [(0, .ref (ad 0 0)), (1, .int x1), (2, .int x2), (3, .ref o)] := hl
  refine lv_aload_n hx hb dL_about_0 rfl (lv_at hl 3 rfl) ?_
  refine lv_iconst (v := 0) hx hb dL_about_1 (by decide) ?_
  refine lv_aload_n hx hb dL_about_2 rfl (lv_at hl 0 rfl) ?_
  refine lv_iload_n hx hb dL_about_3 rfl (lv_at hl 1 rfl) ?_
  refine lv_iload_n hx hb dL_about_4 rfl (lv_at hl 2 rfl) ?_
  refine hg_callX (As := [.int x1, .int x2]) (rest := [.int 0, .ref o]) ⟨hx, hb, hml, hown, hts⟩ (cX_Court_about l hlf D yI yO z0 ad s.heap.size h) (cwV 2 hts gL_about_X8_about rfl rfl rfl (by decide +kernel) ⟨Nat.le_of_ble_eq_true rfl, Nat.le_of_ble_eq_true rfl⟩) hK hN hA hxs rfl hl.1 rfl (Nat.le_of_ble_eq_true rfl) dL_about_5 ⟨Nat.le_of_ble_eq_true rfl, Nat.le_of_ble_eq_true rfl⟩ (fun ce q9 H locs hN h8 h9 h10 => ?_)
  refine vx_catch (own := RL) (name := "java/lang/IllegalArgumentException") (E := xE 1) hown [⟨0, 10, 13, 21⟩] ⟨0, 10, 17, 13⟩ [] (by rw [htab]; rfl) (List.forall_mem_cons.mpr ⟨Or.inr ⟨by decide, "java/lang/IndexOutOfBoundsException", hts (.classLink RL 21 "java/lang/IndexOutOfBoundsException") (by decide +kernel), hns ("java/lang/IllegalArgumentException", "java/lang/IndexOutOfBoundsException") (by decide)⟩, (fun z hz => absurd hz List.not_mem_nil)⟩) (by decide) (by decide) (hts (.classLink RL 13 "java/lang/IllegalArgumentException") (by decide +kernel)) (va_Nw.use (xB_on (.castable "java/lang/IllegalArgumentException" "java/lang/IllegalArgumentException") (by decide)) (hxs.2.2.2 (.castable "java/lang/IllegalArgumentException" "java/lang/IllegalArgumentException") (by decide))) h8 h9 h10 ?_
  refine W.eq (g2 := F0 m 17 ls [.ref q9]) rfl ?_
  refine lv_astore (lv' := [(4, .ref q9), (0, .ref (ad 0 0)), (1, .int x1), (2, .int x2), (3, .ref o)]) hx hb dL_about_17 hl (by decide) rfl (fun ls hl => ?_)
  refine lv_iconst (v := 2) hx hb dL_about_19 (by decide) ?_
  exact W.iret (v := 2) hx hb hr (fun t ht hW => ⟨⟨2, (ad, f), rfl, ⟨rfl, rfl⟩, rfl, by rw [ht]; exact hN.1.1, va_K.moved hW.alike hLK, by rw [ht]; exact hN.2.1, hN.2.2.2 0 _ rfl, hN.1.2.1⟩, hN.1.2.2.F ht⟩) hN.1.2.2.2.2 dL_about_20 hlocks
set_option maxRecDepth 20000 in
theorem cH_daysAnew (l : Launch) (hlf : l.stackTraces = false) (D : va_G) (yI yO yL : ClassId) (z0 : Nat) (ad : Nat → Nat → Nat) {g : CS} {x1 : Int32} (o : Nat) (f : Nat → Int64) (sz : Nat) {rz : Int32} (h : fC_Court_daysAnew g x1 = some (.inr rz)) : Met l yL_daysAnew wsL_daysAnew ({ frames := 8, cells := 0, slots := 0, locals := 135 }) (va_Pc [.ref (ad 0 0), .int x1, .ref o] (hPre D yI yO yL z0 ad g o f sz)) (hQ D yI yO yL z0 ad g o f 0 rz.toInt64 (hAd ad g sz o)) 0 0 (hAd ad g sz o) := by
  refine lh_ofW (cc := cL_daysAnew) (maxL := 4) (ret := some .int) (hh := [(0, 9, 12, 21)]) (by decide) rfl ?_
  intro p e s m args below meth c s₁ B hml htab hv
  obtain ⟨hv0, hw, hLK, hP, ho, hsz, hxs, hys, hns⟩ := hv
  subst hsz
  have hv1 : args = [.ref (ad 0 0), .int x1, .ref o].toArray := hv0
  subst hv1
  have hx := B.exec
  have hb := B.bytes
  have hr := B.returns
  have hts := atoms_spec (ws := wsL_daysAnew) B.pre
  have hown : s.vm.findClass RL = some m.cls := findClass_of_methodNamed B.named
  have hlocks := B.notSynchronized
  have hK := hLK.c
  have hN := hN_start hw hP ho
  generalize hAe : hAd ad g s.heap.size o = A at hN hxs hys ⊢
  have hA : ∀ q, s.heap.size ≤ q → A q := fun q h => by rw [← hAe]; exact Or.inl (Or.inr h)
  have hl := lv_entry ([.ref (ad 0 0), .int x1, .ref o]) (n := 4) (Nat.le_of_ble_eq_true rfl)
  rw [lg_entry_eq]
  generalize (lg_sl ([.ref (ad 0 0), .int x1, .ref o]) ++ List.replicate (4 - (lg_sl ([.ref (ad 0 0), .int x1, .ref o])).length) Slot.unset).toArray = ls at hl ⊢
  have hl : lv_has ls 4 [(0, .ref (ad 0 0)), (1, .int x1), (2, .ref o)] := hl
  refine lv_aload_n hx hb dL_daysAnew_0 rfl (lv_at hl 2 rfl) ?_
  refine lv_iconst (v := 0) hx hb dL_daysAnew_1 (by decide) ?_
  refine lv_aload_n hx hb dL_daysAnew_2 rfl (lv_at hl 0 rfl) ?_
  refine lv_iload_n hx hb dL_daysAnew_3 rfl (lv_at hl 1 rfl) ?_
  refine hg_callV (As := [.int x1]) (rest := [.int 0, .ref o]) ⟨hx, hb, hml, hown, hts⟩ (cC_Court_daysAnew l D yI yO z0 ad h) (cwV 1 hts gL_daysAnew_X8_daysAnew rfl rfl rfl (by decide +kernel) ⟨Nat.le_of_ble_eq_true rfl, Nat.le_of_ble_eq_true rfl⟩) hK hN rfl hl.1 rfl (Nat.le_of_ble_eq_true rfl) dL_daysAnew_4 ⟨Nat.le_of_ble_eq_true rfl, Nat.le_of_ble_eq_true rfl⟩ (fun H locs hN => ?_)
  have had : ad 0 0 = ad 0 0 := rfl
  refine lv_i2l (v := rz.toInt64) hx hb dL_daysAnew_7 rfl ?_
  refine hg_last hx hb hLK hN dL_daysAnew_8 (fun f1 H locs hf1 hN => ?_)
  refine lv_goto (tgt := 15) hx hb dL_daysAnew_9 (by decide) ?_
  refine lv_iconst (v := 0) hx hb dL_daysAnew_15 (by decide) ?_
  exact W.iret (v := 0) hx hb hr (fun t ht hW => ⟨⟨0, (ad, f1), rfl, ⟨rfl, hf1⟩, had, by rw [ht]; exact hN.1.1, va_K.moved hW.alike hLK, by rw [ht]; exact hN.2.1, hN.2.2.2 0 _ rfl, hN.1.2.1⟩, hN.1.2.2.F ht⟩) hN.1.2.2.2.2 dL_daysAnew_16 hlocks
set_option maxRecDepth 20000 in
theorem cHx_daysAnew_0 (l : Launch) (hlf : l.stackTraces = false) (D : va_G) (yI yO yL : ClassId) (z0 : Nat) (ad : Nat → Nat → Nat) {g : CS} {x1 : Int32} (o : Nat) (f : Nat → Int64) (sz : Nat) (h : fC_Court_daysAnew g x1 = some (.inl 0)) : Met l yL_daysAnew wsL_daysAnew ({ frames := 8, cells := 1, slots := 6, locals := 135 }) (va_Pc [.ref (ad 0 0), .int x1, .ref o] (hPre D yI yO yL z0 ad g o f sz)) (hQ D yI yO yL z0 ad g o f 1 (f 0) (hAd ad g sz o)) 1 6 (hAd ad g sz o) := by
  refine lh_ofW (cc := cL_daysAnew) (maxL := 4) (ret := some .int) (hh := [(0, 9, 12, 21)]) (by decide) rfl ?_
  intro p e s m args below meth c s₁ B hml htab hv
  obtain ⟨hv0, hw, hLK, hP, ho, hsz, hxs, hys, hns⟩ := hv
  subst hsz
  have hv1 : args = [.ref (ad 0 0), .int x1, .ref o].toArray := hv0
  subst hv1
  have hx := B.exec
  have hb := B.bytes
  have hr := B.returns
  have hts := atoms_spec (ws := wsL_daysAnew) B.pre
  have hown : s.vm.findClass RL = some m.cls := findClass_of_methodNamed B.named
  have hlocks := B.notSynchronized
  have hK := hLK.c
  have hN := hN_start hw hP ho
  generalize hAe : hAd ad g s.heap.size o = A at hN hxs hys ⊢
  have hA : ∀ q, s.heap.size ≤ q → A q := fun q h => by rw [← hAe]; exact Or.inl (Or.inr h)
  have hl := lv_entry ([.ref (ad 0 0), .int x1, .ref o]) (n := 4) (Nat.le_of_ble_eq_true rfl)
  rw [lg_entry_eq]
  generalize (lg_sl ([.ref (ad 0 0), .int x1, .ref o]) ++ List.replicate (4 - (lg_sl ([.ref (ad 0 0), .int x1, .ref o])).length) Slot.unset).toArray = ls at hl ⊢
  have hl : lv_has ls 4 [(0, .ref (ad 0 0)), (1, .int x1), (2, .ref o)] := hl
  refine lv_aload_n hx hb dL_daysAnew_0 rfl (lv_at hl 2 rfl) ?_
  refine lv_iconst (v := 0) hx hb dL_daysAnew_1 (by decide) ?_
  refine lv_aload_n hx hb dL_daysAnew_2 rfl (lv_at hl 0 rfl) ?_
  refine lv_iload_n hx hb dL_daysAnew_3 rfl (lv_at hl 1 rfl) ?_
  refine hg_callX (As := [.int x1]) (rest := [.int 0, .ref o]) ⟨hx, hb, hml, hown, hts⟩ (cX_Court_daysAnew l hlf D yI yO z0 ad s.heap.size h) (cwV 1 hts gL_daysAnew_X8_daysAnew rfl rfl rfl (by decide +kernel) ⟨Nat.le_of_ble_eq_true rfl, Nat.le_of_ble_eq_true rfl⟩) hK hN hA hxs rfl hl.1 rfl (Nat.le_of_ble_eq_true rfl) dL_daysAnew_4 ⟨Nat.le_of_ble_eq_true rfl, Nat.le_of_ble_eq_true rfl⟩ (fun ce q9 H locs hN h8 h9 h10 => ?_)
  refine vx_catch (own := RL) (name := "java/lang/IndexOutOfBoundsException") (E := xE 0) hown [] ⟨0, 9, 12, 21⟩ [] (by rw [htab]; rfl) (fun z hz => absurd hz List.not_mem_nil) (by decide) (by decide) (hts (.classLink RL 21 "java/lang/IndexOutOfBoundsException") (by decide +kernel)) (va_Nw.use (xB_on (.castable "java/lang/IndexOutOfBoundsException" "java/lang/IndexOutOfBoundsException") (by decide)) (hxs.2.2.2 (.castable "java/lang/IndexOutOfBoundsException" "java/lang/IndexOutOfBoundsException") (by decide))) h8 h9 h10 ?_
  refine W.eq (g2 := F0 m 12 ls [.ref q9]) rfl ?_
  refine lv_astore_n (lv' := [(3, .ref q9), (0, .ref (ad 0 0)), (1, .int x1), (2, .ref o)]) hx hb dL_daysAnew_12 rfl hl (by decide) rfl (fun ls hl => ?_)
  refine lv_iconst (v := 1) hx hb dL_daysAnew_13 (by decide) ?_
  exact W.iret (v := 1) hx hb hr (fun t ht hW => ⟨⟨1, (ad, f), rfl, ⟨rfl, rfl⟩, rfl, by rw [ht]; exact hN.1.1, va_K.moved hW.alike hLK, by rw [ht]; exact hN.2.1, hN.2.2.2 0 _ rfl, hN.1.2.1⟩, hN.1.2.2.F ht⟩) hN.1.2.2.2.2 dL_daysAnew_14 hlocks
set_option maxRecDepth 20000 in
theorem cH_was (l : Launch) (hlf : l.stackTraces = false) (D : va_G) (yI yO yL : ClassId) (z0 : Nat) (ad : Nat → Nat → Nat) {g : CS} {x1 : Int32} {x2 : Int32} (o : Nat) (f : Nat → Int64) (sz : Nat) {rz : Int32} (h : fC_Court_was g x1 x2 = some (.inr rz)) : Met l yL_was wsL_was ({ frames := 8, cells := 0, slots := 0, locals := 134 }) (va_Pc [.ref (ad 0 0), .int x1, .int x2, .ref o] (hPre D yI yO yL z0 ad g o f sz)) (hQ D yI yO yL z0 ad g o f 0 rz.toInt64 (hAd ad g sz o)) 0 0 (hAd ad g sz o) := by
  refine lh_ofW (cc := cL_was) (maxL := 5) (ret := some .int) (hh := [(0, 10, 13, 21), (0, 10, 17, 13)]) (by decide) rfl ?_
  intro p e s m args below meth c s₁ B hml htab hv
  obtain ⟨hv0, hw, hLK, hP, ho, hsz, hxs, hys, hns⟩ := hv
  subst hsz
  have hv1 : args = [.ref (ad 0 0), .int x1, .int x2, .ref o].toArray := hv0
  subst hv1
  have hx := B.exec
  have hb := B.bytes
  have hr := B.returns
  have hts := atoms_spec (ws := wsL_was) B.pre
  have hown : s.vm.findClass RL = some m.cls := findClass_of_methodNamed B.named
  have hlocks := B.notSynchronized
  have hK := hLK.c
  have hN := hN_start hw hP ho
  generalize hAe : hAd ad g s.heap.size o = A at hN hxs hys ⊢
  have hA : ∀ q, s.heap.size ≤ q → A q := fun q h => by rw [← hAe]; exact Or.inl (Or.inr h)
  have hl := lv_entry ([.ref (ad 0 0), .int x1, .int x2, .ref o]) (n := 5) (Nat.le_of_ble_eq_true rfl)
  rw [lg_entry_eq]
  generalize (lg_sl ([.ref (ad 0 0), .int x1, .int x2, .ref o]) ++ List.replicate (5 - (lg_sl ([.ref (ad 0 0), .int x1, .int x2, .ref o])).length) Slot.unset).toArray = ls at hl ⊢
  have hl : lv_has ls 5 [(0, .ref (ad 0 0)), (1, .int x1), (2, .int x2), (3, .ref o)] := hl
  refine lv_aload_n hx hb dL_was_0 rfl (lv_at hl 3 rfl) ?_
  refine lv_iconst (v := 0) hx hb dL_was_1 (by decide) ?_
  refine lv_aload_n hx hb dL_was_2 rfl (lv_at hl 0 rfl) ?_
  refine lv_iload_n hx hb dL_was_3 rfl (lv_at hl 1 rfl) ?_
  refine lv_iload_n hx hb dL_was_4 rfl (lv_at hl 2 rfl) ?_
  refine hg_callV (As := [.int x1, .int x2]) (rest := [.int 0, .ref o]) ⟨hx, hb, hml, hown, hts⟩ (cC_Court_was l D yI yO z0 ad h) (cwV 2 hts gL_was_X8_was rfl rfl rfl (by decide +kernel) ⟨Nat.le_of_ble_eq_true rfl, Nat.le_of_ble_eq_true rfl⟩) hK hN rfl hl.1 rfl (Nat.le_of_ble_eq_true rfl) dL_was_5 ⟨Nat.le_of_ble_eq_true rfl, Nat.le_of_ble_eq_true rfl⟩ (fun H locs hN => ?_)
  have had : ad 0 0 = ad 0 0 := rfl
  refine lv_i2l (v := rz.toInt64) hx hb dL_was_8 rfl ?_
  refine hg_last hx hb hLK hN dL_was_9 (fun f1 H locs hf1 hN => ?_)
  refine lv_goto (tgt := 21) hx hb dL_was_10 (by decide) ?_
  refine lv_iconst (v := 0) hx hb dL_was_21 (by decide) ?_
  exact W.iret (v := 0) hx hb hr (fun t ht hW => ⟨⟨0, (ad, f1), rfl, ⟨rfl, hf1⟩, had, by rw [ht]; exact hN.1.1, va_K.moved hW.alike hLK, by rw [ht]; exact hN.2.1, hN.2.2.2 0 _ rfl, hN.1.2.1⟩, hN.1.2.2.F ht⟩) hN.1.2.2.2.2 dL_was_22 hlocks
set_option maxRecDepth 20000 in
theorem cHx_was_0 (l : Launch) (hlf : l.stackTraces = false) (D : va_G) (yI yO yL : ClassId) (z0 : Nat) (ad : Nat → Nat → Nat) {g : CS} {x1 : Int32} {x2 : Int32} (o : Nat) (f : Nat → Int64) (sz : Nat) (h : fC_Court_was g x1 x2 = some (.inl 0)) : Met l yL_was wsL_was ({ frames := 8, cells := 1, slots := 6, locals := 134 }) (va_Pc [.ref (ad 0 0), .int x1, .int x2, .ref o] (hPre D yI yO yL z0 ad g o f sz)) (hQ D yI yO yL z0 ad g o f 1 (f 0) (hAd ad g sz o)) 1 6 (hAd ad g sz o) := by
  refine lh_ofW (cc := cL_was) (maxL := 5) (ret := some .int) (hh := [(0, 10, 13, 21), (0, 10, 17, 13)]) (by decide) rfl ?_
  intro p e s m args below meth c s₁ B hml htab hv
  obtain ⟨hv0, hw, hLK, hP, ho, hsz, hxs, hys, hns⟩ := hv
  subst hsz
  have hv1 : args = [.ref (ad 0 0), .int x1, .int x2, .ref o].toArray := hv0
  subst hv1
  have hx := B.exec
  have hb := B.bytes
  have hr := B.returns
  have hts := atoms_spec (ws := wsL_was) B.pre
  have hown : s.vm.findClass RL = some m.cls := findClass_of_methodNamed B.named
  have hlocks := B.notSynchronized
  have hK := hLK.c
  have hN := hN_start hw hP ho
  generalize hAe : hAd ad g s.heap.size o = A at hN hxs hys ⊢
  have hA : ∀ q, s.heap.size ≤ q → A q := fun q h => by rw [← hAe]; exact Or.inl (Or.inr h)
  have hl := lv_entry ([.ref (ad 0 0), .int x1, .int x2, .ref o]) (n := 5) (Nat.le_of_ble_eq_true rfl)
  rw [lg_entry_eq]
  generalize (lg_sl ([.ref (ad 0 0), .int x1, .int x2, .ref o]) ++ List.replicate (5 - (lg_sl ([.ref (ad 0 0), .int x1, .int x2, .ref o])).length) Slot.unset).toArray = ls at hl ⊢
  have hl : lv_has ls 5 [(0, .ref (ad 0 0)), (1, .int x1), (2, .int x2), (3, .ref o)] := hl
  refine lv_aload_n hx hb dL_was_0 rfl (lv_at hl 3 rfl) ?_
  refine lv_iconst (v := 0) hx hb dL_was_1 (by decide) ?_
  refine lv_aload_n hx hb dL_was_2 rfl (lv_at hl 0 rfl) ?_
  refine lv_iload_n hx hb dL_was_3 rfl (lv_at hl 1 rfl) ?_
  refine lv_iload_n hx hb dL_was_4 rfl (lv_at hl 2 rfl) ?_
  refine hg_callX (As := [.int x1, .int x2]) (rest := [.int 0, .ref o]) ⟨hx, hb, hml, hown, hts⟩ (cX_Court_was l hlf D yI yO z0 ad s.heap.size h) (cwV 2 hts gL_was_X8_was rfl rfl rfl (by decide +kernel) ⟨Nat.le_of_ble_eq_true rfl, Nat.le_of_ble_eq_true rfl⟩) hK hN hA hxs rfl hl.1 rfl (Nat.le_of_ble_eq_true rfl) dL_was_5 ⟨Nat.le_of_ble_eq_true rfl, Nat.le_of_ble_eq_true rfl⟩ (fun ce q9 H locs hN h8 h9 h10 => ?_)
  refine vx_catch (own := RL) (name := "java/lang/IndexOutOfBoundsException") (E := xE 0) hown [] ⟨0, 10, 13, 21⟩ [⟨0, 10, 17, 13⟩] (by rw [htab]; rfl) (fun z hz => absurd hz List.not_mem_nil) (by decide) (by decide) (hts (.classLink RL 21 "java/lang/IndexOutOfBoundsException") (by decide +kernel)) (va_Nw.use (xB_on (.castable "java/lang/IndexOutOfBoundsException" "java/lang/IndexOutOfBoundsException") (by decide)) (hxs.2.2.2 (.castable "java/lang/IndexOutOfBoundsException" "java/lang/IndexOutOfBoundsException") (by decide))) h8 h9 h10 ?_
  refine W.eq (g2 := F0 m 13 ls [.ref q9]) rfl ?_
  refine lv_astore (lv' := [(4, .ref q9), (0, .ref (ad 0 0)), (1, .int x1), (2, .int x2), (3, .ref o)]) hx hb dL_was_13 hl (by decide) rfl (fun ls hl => ?_)
  refine lv_iconst (v := 1) hx hb dL_was_15 (by decide) ?_
  exact W.iret (v := 1) hx hb hr (fun t ht hW => ⟨⟨1, (ad, f), rfl, ⟨rfl, rfl⟩, rfl, by rw [ht]; exact hN.1.1, va_K.moved hW.alike hLK, by rw [ht]; exact hN.2.1, hN.2.2.2 0 _ rfl, hN.1.2.1⟩, hN.1.2.2.F ht⟩) hN.1.2.2.2.2 dL_was_16 hlocks
set_option maxRecDepth 20000 in
theorem cHx_was_1 (l : Launch) (hlf : l.stackTraces = false) (D : va_G) (yI yO yL : ClassId) (z0 : Nat) (ad : Nat → Nat → Nat) {g : CS} {x1 : Int32} {x2 : Int32} (o : Nat) (f : Nat → Int64) (sz : Nat) (h : fC_Court_was g x1 x2 = some (.inl 1)) : Met l yL_was wsL_was ({ frames := 8, cells := 1, slots := 6, locals := 134 }) (va_Pc [.ref (ad 0 0), .int x1, .int x2, .ref o] (hPre D yI yO yL z0 ad g o f sz)) (hQ D yI yO yL z0 ad g o f 2 (f 0) (hAd ad g sz o)) 1 6 (hAd ad g sz o) := by
  refine lh_ofW (cc := cL_was) (maxL := 5) (ret := some .int) (hh := [(0, 10, 13, 21), (0, 10, 17, 13)]) (by decide) rfl ?_
  intro p e s m args below meth c s₁ B hml htab hv
  obtain ⟨hv0, hw, hLK, hP, ho, hsz, hxs, hys, hns⟩ := hv
  subst hsz
  have hv1 : args = [.ref (ad 0 0), .int x1, .int x2, .ref o].toArray := hv0
  subst hv1
  have hx := B.exec
  have hb := B.bytes
  have hr := B.returns
  have hts := atoms_spec (ws := wsL_was) B.pre
  have hown : s.vm.findClass RL = some m.cls := findClass_of_methodNamed B.named
  have hlocks := B.notSynchronized
  have hK := hLK.c
  have hN := hN_start hw hP ho
  generalize hAe : hAd ad g s.heap.size o = A at hN hxs hys ⊢
  have hA : ∀ q, s.heap.size ≤ q → A q := fun q h => by rw [← hAe]; exact Or.inl (Or.inr h)
  have hl := lv_entry ([.ref (ad 0 0), .int x1, .int x2, .ref o]) (n := 5) (Nat.le_of_ble_eq_true rfl)
  rw [lg_entry_eq]
  generalize (lg_sl ([.ref (ad 0 0), .int x1, .int x2, .ref o]) ++ List.replicate (5 - (lg_sl ([.ref (ad 0 0), .int x1, .int x2, .ref o])).length) Slot.unset).toArray = ls at hl ⊢
  have hl : lv_has ls 5 [(0, .ref (ad 0 0)), (1, .int x1), (2, .int x2), (3, .ref o)] := hl
  refine lv_aload_n hx hb dL_was_0 rfl (lv_at hl 3 rfl) ?_
  refine lv_iconst (v := 0) hx hb dL_was_1 (by decide) ?_
  refine lv_aload_n hx hb dL_was_2 rfl (lv_at hl 0 rfl) ?_
  refine lv_iload_n hx hb dL_was_3 rfl (lv_at hl 1 rfl) ?_
  refine lv_iload_n hx hb dL_was_4 rfl (lv_at hl 2 rfl) ?_
  refine hg_callX (As := [.int x1, .int x2]) (rest := [.int 0, .ref o]) ⟨hx, hb, hml, hown, hts⟩ (cX_Court_was l hlf D yI yO z0 ad s.heap.size h) (cwV 2 hts gL_was_X8_was rfl rfl rfl (by decide +kernel) ⟨Nat.le_of_ble_eq_true rfl, Nat.le_of_ble_eq_true rfl⟩) hK hN hA hxs rfl hl.1 rfl (Nat.le_of_ble_eq_true rfl) dL_was_5 ⟨Nat.le_of_ble_eq_true rfl, Nat.le_of_ble_eq_true rfl⟩ (fun ce q9 H locs hN h8 h9 h10 => ?_)
  refine vx_catch (own := RL) (name := "java/lang/IllegalArgumentException") (E := xE 1) hown [⟨0, 10, 13, 21⟩] ⟨0, 10, 17, 13⟩ [] (by rw [htab]; rfl) (List.forall_mem_cons.mpr ⟨Or.inr ⟨by decide, "java/lang/IndexOutOfBoundsException", hts (.classLink RL 21 "java/lang/IndexOutOfBoundsException") (by decide +kernel), hns ("java/lang/IllegalArgumentException", "java/lang/IndexOutOfBoundsException") (by decide)⟩, (fun z hz => absurd hz List.not_mem_nil)⟩) (by decide) (by decide) (hts (.classLink RL 13 "java/lang/IllegalArgumentException") (by decide +kernel)) (va_Nw.use (xB_on (.castable "java/lang/IllegalArgumentException" "java/lang/IllegalArgumentException") (by decide)) (hxs.2.2.2 (.castable "java/lang/IllegalArgumentException" "java/lang/IllegalArgumentException") (by decide))) h8 h9 h10 ?_
  refine W.eq (g2 := F0 m 17 ls [.ref q9]) rfl ?_
  refine lv_astore (lv' := [(4, .ref q9), (0, .ref (ad 0 0)), (1, .int x1), (2, .int x2), (3, .ref o)]) hx hb dL_was_17 hl (by decide) rfl (fun ls hl => ?_)
  refine lv_iconst (v := 2) hx hb dL_was_19 (by decide) ?_
  exact W.iret (v := 2) hx hb hr (fun t ht hW => ⟨⟨2, (ad, f), rfl, ⟨rfl, rfl⟩, rfl, by rw [ht]; exact hN.1.1, va_K.moved hW.alike hLK, by rw [ht]; exact hN.2.1, hN.2.2.2 0 _ rfl, hN.1.2.1⟩, hN.1.2.2.F ht⟩) hN.1.2.2.2.2 dL_was_20 hlocks
set_option maxRecDepth 20000 in
theorem cH_reason (l : Launch) (hlf : l.stackTraces = false) (D : va_G) (yI yO yL : ClassId) (z0 : Nat) (ad : Nat → Nat → Nat) {g : CS} {x1 : Int32} {x2 : Int32} (o : Nat) (f : Nat → Int64) (sz : Nat) {rz : Int32} (h : fC_Court_reason g x1 x2 = some (.inr rz)) : Met l yL_reason wsL_reason ({ frames := 8, cells := 0, slots := 0, locals := 155 }) (va_Pc [.ref (ad 0 0), .int x1, .int x2, .ref o] (hPre D yI yO yL z0 ad g o f sz)) (hQ D yI yO yL z0 ad g o f 0 rz.toInt64 (hAd ad g sz o)) 0 0 (hAd ad g sz o) := by
  refine lh_ofW (cc := cL_reason) (maxL := 5) (ret := some .int) (hh := [(0, 10, 13, 21)]) (by decide) rfl ?_
  intro p e s m args below meth c s₁ B hml htab hv
  obtain ⟨hv0, hw, hLK, hP, ho, hsz, hxs, hys, hns⟩ := hv
  subst hsz
  have hv1 : args = [.ref (ad 0 0), .int x1, .int x2, .ref o].toArray := hv0
  subst hv1
  have hx := B.exec
  have hb := B.bytes
  have hr := B.returns
  have hts := atoms_spec (ws := wsL_reason) B.pre
  have hown : s.vm.findClass RL = some m.cls := findClass_of_methodNamed B.named
  have hlocks := B.notSynchronized
  have hK := hLK.c
  have hN := hN_start hw hP ho
  generalize hAe : hAd ad g s.heap.size o = A at hN hxs hys ⊢
  have hA : ∀ q, s.heap.size ≤ q → A q := fun q h => by rw [← hAe]; exact Or.inl (Or.inr h)
  have hl := lv_entry ([.ref (ad 0 0), .int x1, .int x2, .ref o]) (n := 5) (Nat.le_of_ble_eq_true rfl)
  rw [lg_entry_eq]
  generalize (lg_sl ([.ref (ad 0 0), .int x1, .int x2, .ref o]) ++ List.replicate (5 - (lg_sl ([.ref (ad 0 0), .int x1, .int x2, .ref o])).length) Slot.unset).toArray = ls at hl ⊢
  have hl : lv_has ls 5 [(0, .ref (ad 0 0)), (1, .int x1), (2, .int x2), (3, .ref o)] := hl
  refine lv_aload_n hx hb dL_reason_0 rfl (lv_at hl 3 rfl) ?_
  refine lv_iconst (v := 0) hx hb dL_reason_1 (by decide) ?_
  refine lv_aload_n hx hb dL_reason_2 rfl (lv_at hl 0 rfl) ?_
  refine lv_iload_n hx hb dL_reason_3 rfl (lv_at hl 1 rfl) ?_
  refine lv_iload_n hx hb dL_reason_4 rfl (lv_at hl 2 rfl) ?_
  refine hg_callV (As := [.int x1, .int x2]) (rest := [.int 0, .ref o]) ⟨hx, hb, hml, hown, hts⟩ (cC_Court_reason l D yI yO z0 ad h) (cwV 2 hts gL_reason_X8_reason rfl rfl rfl (by decide +kernel) ⟨Nat.le_of_ble_eq_true rfl, Nat.le_of_ble_eq_true rfl⟩) hK hN rfl hl.1 rfl (Nat.le_of_ble_eq_true rfl) dL_reason_5 ⟨Nat.le_of_ble_eq_true rfl, Nat.le_of_ble_eq_true rfl⟩ (fun H locs hN => ?_)
  have had : ad 0 0 = ad 0 0 := rfl
  refine lv_i2l (v := rz.toInt64) hx hb dL_reason_8 rfl ?_
  refine hg_last hx hb hLK hN dL_reason_9 (fun f1 H locs hf1 hN => ?_)
  refine lv_goto (tgt := 17) hx hb dL_reason_10 (by decide) ?_
  refine lv_iconst (v := 0) hx hb dL_reason_17 (by decide) ?_
  exact W.iret (v := 0) hx hb hr (fun t ht hW => ⟨⟨0, (ad, f1), rfl, ⟨rfl, hf1⟩, had, by rw [ht]; exact hN.1.1, va_K.moved hW.alike hLK, by rw [ht]; exact hN.2.1, hN.2.2.2 0 _ rfl, hN.1.2.1⟩, hN.1.2.2.F ht⟩) hN.1.2.2.2.2 dL_reason_18 hlocks
set_option maxRecDepth 20000 in
theorem cHx_reason_0 (l : Launch) (hlf : l.stackTraces = false) (D : va_G) (yI yO yL : ClassId) (z0 : Nat) (ad : Nat → Nat → Nat) {g : CS} {x1 : Int32} {x2 : Int32} (o : Nat) (f : Nat → Int64) (sz : Nat) (h : fC_Court_reason g x1 x2 = some (.inl 0)) : Met l yL_reason wsL_reason ({ frames := 8, cells := 1, slots := 6, locals := 155 }) (va_Pc [.ref (ad 0 0), .int x1, .int x2, .ref o] (hPre D yI yO yL z0 ad g o f sz)) (hQ D yI yO yL z0 ad g o f 1 (f 0) (hAd ad g sz o)) 1 6 (hAd ad g sz o) := by
  refine lh_ofW (cc := cL_reason) (maxL := 5) (ret := some .int) (hh := [(0, 10, 13, 21)]) (by decide) rfl ?_
  intro p e s m args below meth c s₁ B hml htab hv
  obtain ⟨hv0, hw, hLK, hP, ho, hsz, hxs, hys, hns⟩ := hv
  subst hsz
  have hv1 : args = [.ref (ad 0 0), .int x1, .int x2, .ref o].toArray := hv0
  subst hv1
  have hx := B.exec
  have hb := B.bytes
  have hr := B.returns
  have hts := atoms_spec (ws := wsL_reason) B.pre
  have hown : s.vm.findClass RL = some m.cls := findClass_of_methodNamed B.named
  have hlocks := B.notSynchronized
  have hK := hLK.c
  have hN := hN_start hw hP ho
  generalize hAe : hAd ad g s.heap.size o = A at hN hxs hys ⊢
  have hA : ∀ q, s.heap.size ≤ q → A q := fun q h => by rw [← hAe]; exact Or.inl (Or.inr h)
  have hl := lv_entry ([.ref (ad 0 0), .int x1, .int x2, .ref o]) (n := 5) (Nat.le_of_ble_eq_true rfl)
  rw [lg_entry_eq]
  generalize (lg_sl ([.ref (ad 0 0), .int x1, .int x2, .ref o]) ++ List.replicate (5 - (lg_sl ([.ref (ad 0 0), .int x1, .int x2, .ref o])).length) Slot.unset).toArray = ls at hl ⊢
  have hl : lv_has ls 5 [(0, .ref (ad 0 0)), (1, .int x1), (2, .int x2), (3, .ref o)] := hl
  refine lv_aload_n hx hb dL_reason_0 rfl (lv_at hl 3 rfl) ?_
  refine lv_iconst (v := 0) hx hb dL_reason_1 (by decide) ?_
  refine lv_aload_n hx hb dL_reason_2 rfl (lv_at hl 0 rfl) ?_
  refine lv_iload_n hx hb dL_reason_3 rfl (lv_at hl 1 rfl) ?_
  refine lv_iload_n hx hb dL_reason_4 rfl (lv_at hl 2 rfl) ?_
  refine hg_callX (As := [.int x1, .int x2]) (rest := [.int 0, .ref o]) ⟨hx, hb, hml, hown, hts⟩ (cX_Court_reason l hlf D yI yO z0 ad s.heap.size h) (cwV 2 hts gL_reason_X8_reason rfl rfl rfl (by decide +kernel) ⟨Nat.le_of_ble_eq_true rfl, Nat.le_of_ble_eq_true rfl⟩) hK hN hA hxs rfl hl.1 rfl (Nat.le_of_ble_eq_true rfl) dL_reason_5 ⟨Nat.le_of_ble_eq_true rfl, Nat.le_of_ble_eq_true rfl⟩ (fun ce q9 H locs hN h8 h9 h10 => ?_)
  refine vx_catch (own := RL) (name := "java/lang/IndexOutOfBoundsException") (E := xE 0) hown [] ⟨0, 10, 13, 21⟩ [] (by rw [htab]; rfl) (fun z hz => absurd hz List.not_mem_nil) (by decide) (by decide) (hts (.classLink RL 21 "java/lang/IndexOutOfBoundsException") (by decide +kernel)) (va_Nw.use (xB_on (.castable "java/lang/IndexOutOfBoundsException" "java/lang/IndexOutOfBoundsException") (by decide)) (hxs.2.2.2 (.castable "java/lang/IndexOutOfBoundsException" "java/lang/IndexOutOfBoundsException") (by decide))) h8 h9 h10 ?_
  refine W.eq (g2 := F0 m 13 ls [.ref q9]) rfl ?_
  refine lv_astore (lv' := [(4, .ref q9), (0, .ref (ad 0 0)), (1, .int x1), (2, .int x2), (3, .ref o)]) hx hb dL_reason_13 hl (by decide) rfl (fun ls hl => ?_)
  refine lv_iconst (v := 1) hx hb dL_reason_15 (by decide) ?_
  exact W.iret (v := 1) hx hb hr (fun t ht hW => ⟨⟨1, (ad, f), rfl, ⟨rfl, rfl⟩, rfl, by rw [ht]; exact hN.1.1, va_K.moved hW.alike hLK, by rw [ht]; exact hN.2.1, hN.2.2.2 0 _ rfl, hN.1.2.1⟩, hN.1.2.2.F ht⟩) hN.1.2.2.2.2 dL_reason_16 hlocks
set_option maxRecDepth 20000 in
theorem cH_banned (l : Launch) (hlf : l.stackTraces = false) (D : va_G) (yI yO yL : ClassId) (z0 : Nat) (ad : Nat → Nat → Nat) {g : CS} {x1 : Int32} {x2 : Int32} {x3 : Int32} (o : Nat) (f : Nat → Int64) (sz : Nat) {rz : Int32} (h : fC_Court_banned g x1 x2 x3 = some (.inr rz)) : Met l yL_banned wsL_banned ({ frames := 8, cells := 0, slots := 0, locals := 137 }) (va_Pc [.ref (ad 0 0), .int x1, .int x2, .int x3, .ref o] (hPre D yI yO yL z0 ad g o f sz)) (hQ D yI yO yL z0 ad g o f 0 rz.toInt64 (hAd ad g sz o)) 0 0 (hAd ad g sz o) := by
  refine lh_ofW (cc := cL_banned) (maxL := 6) (ret := some .int) (hh := [(0, 12, 15, 21)]) (by decide) rfl ?_
  intro p e s m args below meth c s₁ B hml htab hv
  obtain ⟨hv0, hw, hLK, hP, ho, hsz, hxs, hys, hns⟩ := hv
  subst hsz
  have hv1 : args = [.ref (ad 0 0), .int x1, .int x2, .int x3, .ref o].toArray := hv0
  subst hv1
  have hx := B.exec
  have hb := B.bytes
  have hr := B.returns
  have hts := atoms_spec (ws := wsL_banned) B.pre
  have hown : s.vm.findClass RL = some m.cls := findClass_of_methodNamed B.named
  have hlocks := B.notSynchronized
  have hK := hLK.c
  have hN := hN_start hw hP ho
  generalize hAe : hAd ad g s.heap.size o = A at hN hxs hys ⊢
  have hA : ∀ q, s.heap.size ≤ q → A q := fun q h => by rw [← hAe]; exact Or.inl (Or.inr h)
  have hl := lv_entry ([.ref (ad 0 0), .int x1, .int x2, .int x3, .ref o]) (n := 6) (Nat.le_of_ble_eq_true rfl)
  rw [lg_entry_eq]
  generalize (lg_sl ([.ref (ad 0 0), .int x1, .int x2, .int x3, .ref o]) ++ List.replicate (6 - (lg_sl ([.ref (ad 0 0), .int x1, .int x2, .int x3, .ref o])).length) Slot.unset).toArray = ls at hl ⊢
  have hl : lv_has ls 6 [(0, .ref (ad 0 0)), (1, .int x1), (2, .int x2), (3, .int x3), (4, .ref o)] := hl
  refine lv_aload hx hb dL_banned_0 (lv_at hl 4 rfl) ?_
  refine lv_iconst (v := 0) hx hb dL_banned_2 (by decide) ?_
  refine lv_aload_n hx hb dL_banned_3 rfl (lv_at hl 0 rfl) ?_
  refine lv_iload_n hx hb dL_banned_4 rfl (lv_at hl 1 rfl) ?_
  refine lv_iload_n hx hb dL_banned_5 rfl (lv_at hl 2 rfl) ?_
  refine lv_iload_n hx hb dL_banned_6 rfl (lv_at hl 3 rfl) ?_
  refine hg_callV (As := [.int x1, .int x2, .int x3]) (rest := [.int 0, .ref o]) ⟨hx, hb, hml, hown, hts⟩ (cC_Court_banned l D yI yO z0 ad h) (cwV 3 hts gL_banned_X8_banned rfl rfl rfl (by decide +kernel) ⟨Nat.le_of_ble_eq_true rfl, Nat.le_of_ble_eq_true rfl⟩) hK hN rfl hl.1 rfl (Nat.le_of_ble_eq_true rfl) dL_banned_7 ⟨Nat.le_of_ble_eq_true rfl, Nat.le_of_ble_eq_true rfl⟩ (fun H locs hN => ?_)
  have had : ad 0 0 = ad 0 0 := rfl
  refine lv_i2l (v := rz.toInt64) hx hb dL_banned_10 rfl ?_
  refine hg_last hx hb hLK hN dL_banned_11 (fun f1 H locs hf1 hN => ?_)
  refine lv_goto (tgt := 19) hx hb dL_banned_12 (by decide) ?_
  refine lv_iconst (v := 0) hx hb dL_banned_19 (by decide) ?_
  exact W.iret (v := 0) hx hb hr (fun t ht hW => ⟨⟨0, (ad, f1), rfl, ⟨rfl, hf1⟩, had, by rw [ht]; exact hN.1.1, va_K.moved hW.alike hLK, by rw [ht]; exact hN.2.1, hN.2.2.2 0 _ rfl, hN.1.2.1⟩, hN.1.2.2.F ht⟩) hN.1.2.2.2.2 dL_banned_20 hlocks
set_option maxRecDepth 20000 in
theorem cHx_banned_0 (l : Launch) (hlf : l.stackTraces = false) (D : va_G) (yI yO yL : ClassId) (z0 : Nat) (ad : Nat → Nat → Nat) {g : CS} {x1 : Int32} {x2 : Int32} {x3 : Int32} (o : Nat) (f : Nat → Int64) (sz : Nat) (h : fC_Court_banned g x1 x2 x3 = some (.inl 0)) : Met l yL_banned wsL_banned ({ frames := 8, cells := 1, slots := 6, locals := 137 }) (va_Pc [.ref (ad 0 0), .int x1, .int x2, .int x3, .ref o] (hPre D yI yO yL z0 ad g o f sz)) (hQ D yI yO yL z0 ad g o f 1 (f 0) (hAd ad g sz o)) 1 6 (hAd ad g sz o) := by
  refine lh_ofW (cc := cL_banned) (maxL := 6) (ret := some .int) (hh := [(0, 12, 15, 21)]) (by decide) rfl ?_
  intro p e s m args below meth c s₁ B hml htab hv
  obtain ⟨hv0, hw, hLK, hP, ho, hsz, hxs, hys, hns⟩ := hv
  subst hsz
  have hv1 : args = [.ref (ad 0 0), .int x1, .int x2, .int x3, .ref o].toArray := hv0
  subst hv1
  have hx := B.exec
  have hb := B.bytes
  have hr := B.returns
  have hts := atoms_spec (ws := wsL_banned) B.pre
  have hown : s.vm.findClass RL = some m.cls := findClass_of_methodNamed B.named
  have hlocks := B.notSynchronized
  have hK := hLK.c
  have hN := hN_start hw hP ho
  generalize hAe : hAd ad g s.heap.size o = A at hN hxs hys ⊢
  have hA : ∀ q, s.heap.size ≤ q → A q := fun q h => by rw [← hAe]; exact Or.inl (Or.inr h)
  have hl := lv_entry ([.ref (ad 0 0), .int x1, .int x2, .int x3, .ref o]) (n := 6) (Nat.le_of_ble_eq_true rfl)
  rw [lg_entry_eq]
  generalize (lg_sl ([.ref (ad 0 0), .int x1, .int x2, .int x3, .ref o]) ++ List.replicate (6 - (lg_sl ([.ref (ad 0 0), .int x1, .int x2, .int x3, .ref o])).length) Slot.unset).toArray = ls at hl ⊢
  have hl : lv_has ls 6 [(0, .ref (ad 0 0)), (1, .int x1), (2, .int x2), (3, .int x3), (4, .ref o)] := hl
  refine lv_aload hx hb dL_banned_0 (lv_at hl 4 rfl) ?_
  refine lv_iconst (v := 0) hx hb dL_banned_2 (by decide) ?_
  refine lv_aload_n hx hb dL_banned_3 rfl (lv_at hl 0 rfl) ?_
  refine lv_iload_n hx hb dL_banned_4 rfl (lv_at hl 1 rfl) ?_
  refine lv_iload_n hx hb dL_banned_5 rfl (lv_at hl 2 rfl) ?_
  refine lv_iload_n hx hb dL_banned_6 rfl (lv_at hl 3 rfl) ?_
  refine hg_callX (As := [.int x1, .int x2, .int x3]) (rest := [.int 0, .ref o]) ⟨hx, hb, hml, hown, hts⟩ (cX_Court_banned l hlf D yI yO z0 ad s.heap.size h) (cwV 3 hts gL_banned_X8_banned rfl rfl rfl (by decide +kernel) ⟨Nat.le_of_ble_eq_true rfl, Nat.le_of_ble_eq_true rfl⟩) hK hN hA hxs rfl hl.1 rfl (Nat.le_of_ble_eq_true rfl) dL_banned_7 ⟨Nat.le_of_ble_eq_true rfl, Nat.le_of_ble_eq_true rfl⟩ (fun ce q9 H locs hN h8 h9 h10 => ?_)
  refine vx_catch (own := RL) (name := "java/lang/IndexOutOfBoundsException") (E := xE 0) hown [] ⟨0, 12, 15, 21⟩ [] (by rw [htab]; rfl) (fun z hz => absurd hz List.not_mem_nil) (by decide) (by decide) (hts (.classLink RL 21 "java/lang/IndexOutOfBoundsException") (by decide +kernel)) (va_Nw.use (xB_on (.castable "java/lang/IndexOutOfBoundsException" "java/lang/IndexOutOfBoundsException") (by decide)) (hxs.2.2.2 (.castable "java/lang/IndexOutOfBoundsException" "java/lang/IndexOutOfBoundsException") (by decide))) h8 h9 h10 ?_
  refine W.eq (g2 := F0 m 15 ls [.ref q9]) rfl ?_
  refine lv_astore (lv' := [(5, .ref q9), (0, .ref (ad 0 0)), (1, .int x1), (2, .int x2), (3, .int x3), (4, .ref o)]) hx hb dL_banned_15 hl (by decide) rfl (fun ls hl => ?_)
  refine lv_iconst (v := 1) hx hb dL_banned_17 (by decide) ?_
  exact W.iret (v := 1) hx hb hr (fun t ht hW => ⟨⟨1, (ad, f), rfl, ⟨rfl, rfl⟩, rfl, by rw [ht]; exact hN.1.1, va_K.moved hW.alike hLK, by rw [ht]; exact hN.2.1, hN.2.2.2 0 _ rfl, hN.1.2.1⟩, hN.1.2.2.F ht⟩) hN.1.2.2.2.2 dL_banned_18 hlocks
set_option maxRecDepth 20000 in
theorem cH_ofVisa (l : Launch) (hlf : l.stackTraces = false) (D : va_G) (yI yO yL : ClassId) (z0 : Nat) (ad : Nat → Nat → Nat) {g : CS} {x1 : Int32} {x2 : Int32} (o : Nat) (f : Nat → Int64) (sz : Nat) {rz : Int32} (h : fC_Court_ofVisa g x1 x2 = some (.inr rz)) : Met l yL_ofVisa wsL_ofVisa ({ frames := 8, cells := 0, slots := 0, locals := 134 }) (va_Pc [.ref (ad 0 0), .int x1, .int x2, .ref o] (hPre D yI yO yL z0 ad g o f sz)) (hQ D yI yO yL z0 ad g o f 0 rz.toInt64 (hAd ad g sz o)) 0 0 (hAd ad g sz o) := by
  refine lh_ofW (cc := cL_ofVisa) (maxL := 5) (ret := some .int) (hh := [(0, 10, 13, 21), (0, 10, 17, 13)]) (by decide) rfl ?_
  intro p e s m args below meth c s₁ B hml htab hv
  obtain ⟨hv0, hw, hLK, hP, ho, hsz, hxs, hys, hns⟩ := hv
  subst hsz
  have hv1 : args = [.ref (ad 0 0), .int x1, .int x2, .ref o].toArray := hv0
  subst hv1
  have hx := B.exec
  have hb := B.bytes
  have hr := B.returns
  have hts := atoms_spec (ws := wsL_ofVisa) B.pre
  have hown : s.vm.findClass RL = some m.cls := findClass_of_methodNamed B.named
  have hlocks := B.notSynchronized
  have hK := hLK.c
  have hN := hN_start hw hP ho
  generalize hAe : hAd ad g s.heap.size o = A at hN hxs hys ⊢
  have hA : ∀ q, s.heap.size ≤ q → A q := fun q h => by rw [← hAe]; exact Or.inl (Or.inr h)
  have hl := lv_entry ([.ref (ad 0 0), .int x1, .int x2, .ref o]) (n := 5) (Nat.le_of_ble_eq_true rfl)
  rw [lg_entry_eq]
  generalize (lg_sl ([.ref (ad 0 0), .int x1, .int x2, .ref o]) ++ List.replicate (5 - (lg_sl ([.ref (ad 0 0), .int x1, .int x2, .ref o])).length) Slot.unset).toArray = ls at hl ⊢
  have hl : lv_has ls 5 [(0, .ref (ad 0 0)), (1, .int x1), (2, .int x2), (3, .ref o)] := hl
  refine lv_aload_n hx hb dL_ofVisa_0 rfl (lv_at hl 3 rfl) ?_
  refine lv_iconst (v := 0) hx hb dL_ofVisa_1 (by decide) ?_
  refine lv_aload_n hx hb dL_ofVisa_2 rfl (lv_at hl 0 rfl) ?_
  refine lv_iload_n hx hb dL_ofVisa_3 rfl (lv_at hl 1 rfl) ?_
  refine lv_iload_n hx hb dL_ofVisa_4 rfl (lv_at hl 2 rfl) ?_
  refine hg_callV (As := [.int x1, .int x2]) (rest := [.int 0, .ref o]) ⟨hx, hb, hml, hown, hts⟩ (cC_Court_ofVisa l D yI yO z0 ad h) (cwV 2 hts gL_ofVisa_X8_ofVisa rfl rfl rfl (by decide +kernel) ⟨Nat.le_of_ble_eq_true rfl, Nat.le_of_ble_eq_true rfl⟩) hK hN rfl hl.1 rfl (Nat.le_of_ble_eq_true rfl) dL_ofVisa_5 ⟨Nat.le_of_ble_eq_true rfl, Nat.le_of_ble_eq_true rfl⟩ (fun H locs hN => ?_)
  have had : ad 0 0 = ad 0 0 := rfl
  refine lv_i2l (v := rz.toInt64) hx hb dL_ofVisa_8 rfl ?_
  refine hg_last hx hb hLK hN dL_ofVisa_9 (fun f1 H locs hf1 hN => ?_)
  refine lv_goto (tgt := 21) hx hb dL_ofVisa_10 (by decide) ?_
  refine lv_iconst (v := 0) hx hb dL_ofVisa_21 (by decide) ?_
  exact W.iret (v := 0) hx hb hr (fun t ht hW => ⟨⟨0, (ad, f1), rfl, ⟨rfl, hf1⟩, had, by rw [ht]; exact hN.1.1, va_K.moved hW.alike hLK, by rw [ht]; exact hN.2.1, hN.2.2.2 0 _ rfl, hN.1.2.1⟩, hN.1.2.2.F ht⟩) hN.1.2.2.2.2 dL_ofVisa_22 hlocks
set_option maxRecDepth 20000 in
theorem cHx_ofVisa_0 (l : Launch) (hlf : l.stackTraces = false) (D : va_G) (yI yO yL : ClassId) (z0 : Nat) (ad : Nat → Nat → Nat) {g : CS} {x1 : Int32} {x2 : Int32} (o : Nat) (f : Nat → Int64) (sz : Nat) (h : fC_Court_ofVisa g x1 x2 = some (.inl 0)) : Met l yL_ofVisa wsL_ofVisa ({ frames := 8, cells := 1, slots := 6, locals := 134 }) (va_Pc [.ref (ad 0 0), .int x1, .int x2, .ref o] (hPre D yI yO yL z0 ad g o f sz)) (hQ D yI yO yL z0 ad g o f 1 (f 0) (hAd ad g sz o)) 1 6 (hAd ad g sz o) := by
  refine lh_ofW (cc := cL_ofVisa) (maxL := 5) (ret := some .int) (hh := [(0, 10, 13, 21), (0, 10, 17, 13)]) (by decide) rfl ?_
  intro p e s m args below meth c s₁ B hml htab hv
  obtain ⟨hv0, hw, hLK, hP, ho, hsz, hxs, hys, hns⟩ := hv
  subst hsz
  have hv1 : args = [.ref (ad 0 0), .int x1, .int x2, .ref o].toArray := hv0
  subst hv1
  have hx := B.exec
  have hb := B.bytes
  have hr := B.returns
  have hts := atoms_spec (ws := wsL_ofVisa) B.pre
  have hown : s.vm.findClass RL = some m.cls := findClass_of_methodNamed B.named
  have hlocks := B.notSynchronized
  have hK := hLK.c
  have hN := hN_start hw hP ho
  generalize hAe : hAd ad g s.heap.size o = A at hN hxs hys ⊢
  have hA : ∀ q, s.heap.size ≤ q → A q := fun q h => by rw [← hAe]; exact Or.inl (Or.inr h)
  have hl := lv_entry ([.ref (ad 0 0), .int x1, .int x2, .ref o]) (n := 5) (Nat.le_of_ble_eq_true rfl)
  rw [lg_entry_eq]
  generalize (lg_sl ([.ref (ad 0 0), .int x1, .int x2, .ref o]) ++ List.replicate (5 - (lg_sl ([.ref (ad 0 0), .int x1, .int x2, .ref o])).length) Slot.unset).toArray = ls at hl ⊢
  have hl : lv_has ls 5 [(0, .ref (ad 0 0)), (1, .int x1), (2, .int x2), (3, .ref o)] := hl
  refine lv_aload_n hx hb dL_ofVisa_0 rfl (lv_at hl 3 rfl) ?_
  refine lv_iconst (v := 0) hx hb dL_ofVisa_1 (by decide) ?_
  refine lv_aload_n hx hb dL_ofVisa_2 rfl (lv_at hl 0 rfl) ?_
  refine lv_iload_n hx hb dL_ofVisa_3 rfl (lv_at hl 1 rfl) ?_
  refine lv_iload_n hx hb dL_ofVisa_4 rfl (lv_at hl 2 rfl) ?_
  refine hg_callX (As := [.int x1, .int x2]) (rest := [.int 0, .ref o]) ⟨hx, hb, hml, hown, hts⟩ (cX_Court_ofVisa l hlf D yI yO z0 ad s.heap.size h) (cwV 2 hts gL_ofVisa_X8_ofVisa rfl rfl rfl (by decide +kernel) ⟨Nat.le_of_ble_eq_true rfl, Nat.le_of_ble_eq_true rfl⟩) hK hN hA hxs rfl hl.1 rfl (Nat.le_of_ble_eq_true rfl) dL_ofVisa_5 ⟨Nat.le_of_ble_eq_true rfl, Nat.le_of_ble_eq_true rfl⟩ (fun ce q9 H locs hN h8 h9 h10 => ?_)
  refine vx_catch (own := RL) (name := "java/lang/IndexOutOfBoundsException") (E := xE 0) hown [] ⟨0, 10, 13, 21⟩ [⟨0, 10, 17, 13⟩] (by rw [htab]; rfl) (fun z hz => absurd hz List.not_mem_nil) (by decide) (by decide) (hts (.classLink RL 21 "java/lang/IndexOutOfBoundsException") (by decide +kernel)) (va_Nw.use (xB_on (.castable "java/lang/IndexOutOfBoundsException" "java/lang/IndexOutOfBoundsException") (by decide)) (hxs.2.2.2 (.castable "java/lang/IndexOutOfBoundsException" "java/lang/IndexOutOfBoundsException") (by decide))) h8 h9 h10 ?_
  refine W.eq (g2 := F0 m 13 ls [.ref q9]) rfl ?_
  refine lv_astore (lv' := [(4, .ref q9), (0, .ref (ad 0 0)), (1, .int x1), (2, .int x2), (3, .ref o)]) hx hb dL_ofVisa_13 hl (by decide) rfl (fun ls hl => ?_)
  refine lv_iconst (v := 1) hx hb dL_ofVisa_15 (by decide) ?_
  exact W.iret (v := 1) hx hb hr (fun t ht hW => ⟨⟨1, (ad, f), rfl, ⟨rfl, rfl⟩, rfl, by rw [ht]; exact hN.1.1, va_K.moved hW.alike hLK, by rw [ht]; exact hN.2.1, hN.2.2.2 0 _ rfl, hN.1.2.1⟩, hN.1.2.2.F ht⟩) hN.1.2.2.2.2 dL_ofVisa_16 hlocks
set_option maxRecDepth 20000 in
theorem cHx_ofVisa_1 (l : Launch) (hlf : l.stackTraces = false) (D : va_G) (yI yO yL : ClassId) (z0 : Nat) (ad : Nat → Nat → Nat) {g : CS} {x1 : Int32} {x2 : Int32} (o : Nat) (f : Nat → Int64) (sz : Nat) (h : fC_Court_ofVisa g x1 x2 = some (.inl 1)) : Met l yL_ofVisa wsL_ofVisa ({ frames := 8, cells := 1, slots := 6, locals := 134 }) (va_Pc [.ref (ad 0 0), .int x1, .int x2, .ref o] (hPre D yI yO yL z0 ad g o f sz)) (hQ D yI yO yL z0 ad g o f 2 (f 0) (hAd ad g sz o)) 1 6 (hAd ad g sz o) := by
  refine lh_ofW (cc := cL_ofVisa) (maxL := 5) (ret := some .int) (hh := [(0, 10, 13, 21), (0, 10, 17, 13)]) (by decide) rfl ?_
  intro p e s m args below meth c s₁ B hml htab hv
  obtain ⟨hv0, hw, hLK, hP, ho, hsz, hxs, hys, hns⟩ := hv
  subst hsz
  have hv1 : args = [.ref (ad 0 0), .int x1, .int x2, .ref o].toArray := hv0
  subst hv1
  have hx := B.exec
  have hb := B.bytes
  have hr := B.returns
  have hts := atoms_spec (ws := wsL_ofVisa) B.pre
  have hown : s.vm.findClass RL = some m.cls := findClass_of_methodNamed B.named
  have hlocks := B.notSynchronized
  have hK := hLK.c
  have hN := hN_start hw hP ho
  generalize hAe : hAd ad g s.heap.size o = A at hN hxs hys ⊢
  have hA : ∀ q, s.heap.size ≤ q → A q := fun q h => by rw [← hAe]; exact Or.inl (Or.inr h)
  have hl := lv_entry ([.ref (ad 0 0), .int x1, .int x2, .ref o]) (n := 5) (Nat.le_of_ble_eq_true rfl)
  rw [lg_entry_eq]
  generalize (lg_sl ([.ref (ad 0 0), .int x1, .int x2, .ref o]) ++ List.replicate (5 - (lg_sl ([.ref (ad 0 0), .int x1, .int x2, .ref o])).length) Slot.unset).toArray = ls at hl ⊢
  have hl : lv_has ls 5 [(0, .ref (ad 0 0)), (1, .int x1), (2, .int x2), (3, .ref o)] := hl
  refine lv_aload_n hx hb dL_ofVisa_0 rfl (lv_at hl 3 rfl) ?_
  refine lv_iconst (v := 0) hx hb dL_ofVisa_1 (by decide) ?_
  refine lv_aload_n hx hb dL_ofVisa_2 rfl (lv_at hl 0 rfl) ?_
  refine lv_iload_n hx hb dL_ofVisa_3 rfl (lv_at hl 1 rfl) ?_
  refine lv_iload_n hx hb dL_ofVisa_4 rfl (lv_at hl 2 rfl) ?_
  refine hg_callX (As := [.int x1, .int x2]) (rest := [.int 0, .ref o]) ⟨hx, hb, hml, hown, hts⟩ (cX_Court_ofVisa l hlf D yI yO z0 ad s.heap.size h) (cwV 2 hts gL_ofVisa_X8_ofVisa rfl rfl rfl (by decide +kernel) ⟨Nat.le_of_ble_eq_true rfl, Nat.le_of_ble_eq_true rfl⟩) hK hN hA hxs rfl hl.1 rfl (Nat.le_of_ble_eq_true rfl) dL_ofVisa_5 ⟨Nat.le_of_ble_eq_true rfl, Nat.le_of_ble_eq_true rfl⟩ (fun ce q9 H locs hN h8 h9 h10 => ?_)
  refine vx_catch (own := RL) (name := "java/lang/IllegalArgumentException") (E := xE 1) hown [⟨0, 10, 13, 21⟩] ⟨0, 10, 17, 13⟩ [] (by rw [htab]; rfl) (List.forall_mem_cons.mpr ⟨Or.inr ⟨by decide, "java/lang/IndexOutOfBoundsException", hts (.classLink RL 21 "java/lang/IndexOutOfBoundsException") (by decide +kernel), hns ("java/lang/IllegalArgumentException", "java/lang/IndexOutOfBoundsException") (by decide)⟩, (fun z hz => absurd hz List.not_mem_nil)⟩) (by decide) (by decide) (hts (.classLink RL 13 "java/lang/IllegalArgumentException") (by decide +kernel)) (va_Nw.use (xB_on (.castable "java/lang/IllegalArgumentException" "java/lang/IllegalArgumentException") (by decide)) (hxs.2.2.2 (.castable "java/lang/IllegalArgumentException" "java/lang/IllegalArgumentException") (by decide))) h8 h9 h10 ?_
  refine W.eq (g2 := F0 m 17 ls [.ref q9]) rfl ?_
  refine lv_astore (lv' := [(4, .ref q9), (0, .ref (ad 0 0)), (1, .int x1), (2, .int x2), (3, .ref o)]) hx hb dL_ofVisa_17 hl (by decide) rfl (fun ls hl => ?_)
  refine lv_iconst (v := 2) hx hb dL_ofVisa_19 (by decide) ?_
  exact W.iret (v := 2) hx hb hr (fun t ht hW => ⟨⟨2, (ad, f), rfl, ⟨rfl, rfl⟩, rfl, by rw [ht]; exact hN.1.1, va_K.moved hW.alike hLK, by rw [ht]; exact hN.2.1, hN.2.2.2 0 _ rfl, hN.1.2.1⟩, hN.1.2.2.F ht⟩) hN.1.2.2.2.2 dL_ofVisa_20 hlocks
set_option maxRecDepth 20000 in
theorem cH_ofRequest (l : Launch) (hlf : l.stackTraces = false) (D : va_G) (yI yO yL : ClassId) (z0 : Nat) (ad : Nat → Nat → Nat) {g : CS} {x1 : Int32} {x2 : Int32} (o : Nat) (f : Nat → Int64) (sz : Nat) {rz : Int32} (h : fC_Court_ofRequest g x1 x2 = some (.inr rz)) : Met l yL_ofRequest wsL_ofRequest ({ frames := 8, cells := 0, slots := 0, locals := 134 }) (va_Pc [.ref (ad 0 0), .int x1, .int x2, .ref o] (hPre D yI yO yL z0 ad g o f sz)) (hQ D yI yO yL z0 ad g o f 0 rz.toInt64 (hAd ad g sz o)) 0 0 (hAd ad g sz o) := by
  refine lh_ofW (cc := cL_ofRequest) (maxL := 5) (ret := some .int) (hh := [(0, 10, 13, 21), (0, 10, 17, 13)]) (by decide) rfl ?_
  intro p e s m args below meth c s₁ B hml htab hv
  obtain ⟨hv0, hw, hLK, hP, ho, hsz, hxs, hys, hns⟩ := hv
  subst hsz
  have hv1 : args = [.ref (ad 0 0), .int x1, .int x2, .ref o].toArray := hv0
  subst hv1
  have hx := B.exec
  have hb := B.bytes
  have hr := B.returns
  have hts := atoms_spec (ws := wsL_ofRequest) B.pre
  have hown : s.vm.findClass RL = some m.cls := findClass_of_methodNamed B.named
  have hlocks := B.notSynchronized
  have hK := hLK.c
  have hN := hN_start hw hP ho
  generalize hAe : hAd ad g s.heap.size o = A at hN hxs hys ⊢
  have hA : ∀ q, s.heap.size ≤ q → A q := fun q h => by rw [← hAe]; exact Or.inl (Or.inr h)
  have hl := lv_entry ([.ref (ad 0 0), .int x1, .int x2, .ref o]) (n := 5) (Nat.le_of_ble_eq_true rfl)
  rw [lg_entry_eq]
  generalize (lg_sl ([.ref (ad 0 0), .int x1, .int x2, .ref o]) ++ List.replicate (5 - (lg_sl ([.ref (ad 0 0), .int x1, .int x2, .ref o])).length) Slot.unset).toArray = ls at hl ⊢
  have hl : lv_has ls 5 [(0, .ref (ad 0 0)), (1, .int x1), (2, .int x2), (3, .ref o)] := hl
  refine lv_aload_n hx hb dL_ofRequest_0 rfl (lv_at hl 3 rfl) ?_
  refine lv_iconst (v := 0) hx hb dL_ofRequest_1 (by decide) ?_
  refine lv_aload_n hx hb dL_ofRequest_2 rfl (lv_at hl 0 rfl) ?_
  refine lv_iload_n hx hb dL_ofRequest_3 rfl (lv_at hl 1 rfl) ?_
  refine lv_iload_n hx hb dL_ofRequest_4 rfl (lv_at hl 2 rfl) ?_
  refine hg_callV (As := [.int x1, .int x2]) (rest := [.int 0, .ref o]) ⟨hx, hb, hml, hown, hts⟩ (cC_Court_ofRequest l D yI yO z0 ad h) (cwV 2 hts gL_ofRequest_X8_ofRequest rfl rfl rfl (by decide +kernel) ⟨Nat.le_of_ble_eq_true rfl, Nat.le_of_ble_eq_true rfl⟩) hK hN rfl hl.1 rfl (Nat.le_of_ble_eq_true rfl) dL_ofRequest_5 ⟨Nat.le_of_ble_eq_true rfl, Nat.le_of_ble_eq_true rfl⟩ (fun H locs hN => ?_)
  have had : ad 0 0 = ad 0 0 := rfl
  refine lv_i2l (v := rz.toInt64) hx hb dL_ofRequest_8 rfl ?_
  refine hg_last hx hb hLK hN dL_ofRequest_9 (fun f1 H locs hf1 hN => ?_)
  refine lv_goto (tgt := 21) hx hb dL_ofRequest_10 (by decide) ?_
  refine lv_iconst (v := 0) hx hb dL_ofRequest_21 (by decide) ?_
  exact W.iret (v := 0) hx hb hr (fun t ht hW => ⟨⟨0, (ad, f1), rfl, ⟨rfl, hf1⟩, had, by rw [ht]; exact hN.1.1, va_K.moved hW.alike hLK, by rw [ht]; exact hN.2.1, hN.2.2.2 0 _ rfl, hN.1.2.1⟩, hN.1.2.2.F ht⟩) hN.1.2.2.2.2 dL_ofRequest_22 hlocks
set_option maxRecDepth 20000 in
theorem cHx_ofRequest_0 (l : Launch) (hlf : l.stackTraces = false) (D : va_G) (yI yO yL : ClassId) (z0 : Nat) (ad : Nat → Nat → Nat) {g : CS} {x1 : Int32} {x2 : Int32} (o : Nat) (f : Nat → Int64) (sz : Nat) (h : fC_Court_ofRequest g x1 x2 = some (.inl 0)) : Met l yL_ofRequest wsL_ofRequest ({ frames := 8, cells := 1, slots := 6, locals := 134 }) (va_Pc [.ref (ad 0 0), .int x1, .int x2, .ref o] (hPre D yI yO yL z0 ad g o f sz)) (hQ D yI yO yL z0 ad g o f 1 (f 0) (hAd ad g sz o)) 1 6 (hAd ad g sz o) := by
  refine lh_ofW (cc := cL_ofRequest) (maxL := 5) (ret := some .int) (hh := [(0, 10, 13, 21), (0, 10, 17, 13)]) (by decide) rfl ?_
  intro p e s m args below meth c s₁ B hml htab hv
  obtain ⟨hv0, hw, hLK, hP, ho, hsz, hxs, hys, hns⟩ := hv
  subst hsz
  have hv1 : args = [.ref (ad 0 0), .int x1, .int x2, .ref o].toArray := hv0
  subst hv1
  have hx := B.exec
  have hb := B.bytes
  have hr := B.returns
  have hts := atoms_spec (ws := wsL_ofRequest) B.pre
  have hown : s.vm.findClass RL = some m.cls := findClass_of_methodNamed B.named
  have hlocks := B.notSynchronized
  have hK := hLK.c
  have hN := hN_start hw hP ho
  generalize hAe : hAd ad g s.heap.size o = A at hN hxs hys ⊢
  have hA : ∀ q, s.heap.size ≤ q → A q := fun q h => by rw [← hAe]; exact Or.inl (Or.inr h)
  have hl := lv_entry ([.ref (ad 0 0), .int x1, .int x2, .ref o]) (n := 5) (Nat.le_of_ble_eq_true rfl)
  rw [lg_entry_eq]
  generalize (lg_sl ([.ref (ad 0 0), .int x1, .int x2, .ref o]) ++ List.replicate (5 - (lg_sl ([.ref (ad 0 0), .int x1, .int x2, .ref o])).length) Slot.unset).toArray = ls at hl ⊢
  have hl : lv_has ls 5 [(0, .ref (ad 0 0)), (1, .int x1), (2, .int x2), (3, .ref o)] := hl
  refine lv_aload_n hx hb dL_ofRequest_0 rfl (lv_at hl 3 rfl) ?_
  refine lv_iconst (v := 0) hx hb dL_ofRequest_1 (by decide) ?_
  refine lv_aload_n hx hb dL_ofRequest_2 rfl (lv_at hl 0 rfl) ?_
  refine lv_iload_n hx hb dL_ofRequest_3 rfl (lv_at hl 1 rfl) ?_
  refine lv_iload_n hx hb dL_ofRequest_4 rfl (lv_at hl 2 rfl) ?_
  refine hg_callX (As := [.int x1, .int x2]) (rest := [.int 0, .ref o]) ⟨hx, hb, hml, hown, hts⟩ (cX_Court_ofRequest l hlf D yI yO z0 ad s.heap.size h) (cwV 2 hts gL_ofRequest_X8_ofRequest rfl rfl rfl (by decide +kernel) ⟨Nat.le_of_ble_eq_true rfl, Nat.le_of_ble_eq_true rfl⟩) hK hN hA hxs rfl hl.1 rfl (Nat.le_of_ble_eq_true rfl) dL_ofRequest_5 ⟨Nat.le_of_ble_eq_true rfl, Nat.le_of_ble_eq_true rfl⟩ (fun ce q9 H locs hN h8 h9 h10 => ?_)
  refine vx_catch (own := RL) (name := "java/lang/IndexOutOfBoundsException") (E := xE 0) hown [] ⟨0, 10, 13, 21⟩ [⟨0, 10, 17, 13⟩] (by rw [htab]; rfl) (fun z hz => absurd hz List.not_mem_nil) (by decide) (by decide) (hts (.classLink RL 21 "java/lang/IndexOutOfBoundsException") (by decide +kernel)) (va_Nw.use (xB_on (.castable "java/lang/IndexOutOfBoundsException" "java/lang/IndexOutOfBoundsException") (by decide)) (hxs.2.2.2 (.castable "java/lang/IndexOutOfBoundsException" "java/lang/IndexOutOfBoundsException") (by decide))) h8 h9 h10 ?_
  refine W.eq (g2 := F0 m 13 ls [.ref q9]) rfl ?_
  refine lv_astore (lv' := [(4, .ref q9), (0, .ref (ad 0 0)), (1, .int x1), (2, .int x2), (3, .ref o)]) hx hb dL_ofRequest_13 hl (by decide) rfl (fun ls hl => ?_)
  refine lv_iconst (v := 1) hx hb dL_ofRequest_15 (by decide) ?_
  exact W.iret (v := 1) hx hb hr (fun t ht hW => ⟨⟨1, (ad, f), rfl, ⟨rfl, rfl⟩, rfl, by rw [ht]; exact hN.1.1, va_K.moved hW.alike hLK, by rw [ht]; exact hN.2.1, hN.2.2.2 0 _ rfl, hN.1.2.1⟩, hN.1.2.2.F ht⟩) hN.1.2.2.2.2 dL_ofRequest_16 hlocks
set_option maxRecDepth 20000 in
theorem cHx_ofRequest_1 (l : Launch) (hlf : l.stackTraces = false) (D : va_G) (yI yO yL : ClassId) (z0 : Nat) (ad : Nat → Nat → Nat) {g : CS} {x1 : Int32} {x2 : Int32} (o : Nat) (f : Nat → Int64) (sz : Nat) (h : fC_Court_ofRequest g x1 x2 = some (.inl 1)) : Met l yL_ofRequest wsL_ofRequest ({ frames := 8, cells := 1, slots := 6, locals := 134 }) (va_Pc [.ref (ad 0 0), .int x1, .int x2, .ref o] (hPre D yI yO yL z0 ad g o f sz)) (hQ D yI yO yL z0 ad g o f 2 (f 0) (hAd ad g sz o)) 1 6 (hAd ad g sz o) := by
  refine lh_ofW (cc := cL_ofRequest) (maxL := 5) (ret := some .int) (hh := [(0, 10, 13, 21), (0, 10, 17, 13)]) (by decide) rfl ?_
  intro p e s m args below meth c s₁ B hml htab hv
  obtain ⟨hv0, hw, hLK, hP, ho, hsz, hxs, hys, hns⟩ := hv
  subst hsz
  have hv1 : args = [.ref (ad 0 0), .int x1, .int x2, .ref o].toArray := hv0
  subst hv1
  have hx := B.exec
  have hb := B.bytes
  have hr := B.returns
  have hts := atoms_spec (ws := wsL_ofRequest) B.pre
  have hown : s.vm.findClass RL = some m.cls := findClass_of_methodNamed B.named
  have hlocks := B.notSynchronized
  have hK := hLK.c
  have hN := hN_start hw hP ho
  generalize hAe : hAd ad g s.heap.size o = A at hN hxs hys ⊢
  have hA : ∀ q, s.heap.size ≤ q → A q := fun q h => by rw [← hAe]; exact Or.inl (Or.inr h)
  have hl := lv_entry ([.ref (ad 0 0), .int x1, .int x2, .ref o]) (n := 5) (Nat.le_of_ble_eq_true rfl)
  rw [lg_entry_eq]
  generalize (lg_sl ([.ref (ad 0 0), .int x1, .int x2, .ref o]) ++ List.replicate (5 - (lg_sl ([.ref (ad 0 0), .int x1, .int x2, .ref o])).length) Slot.unset).toArray = ls at hl ⊢
  have hl : lv_has ls 5 [(0, .ref (ad 0 0)), (1, .int x1), (2, .int x2), (3, .ref o)] := hl
  refine lv_aload_n hx hb dL_ofRequest_0 rfl (lv_at hl 3 rfl) ?_
  refine lv_iconst (v := 0) hx hb dL_ofRequest_1 (by decide) ?_
  refine lv_aload_n hx hb dL_ofRequest_2 rfl (lv_at hl 0 rfl) ?_
  refine lv_iload_n hx hb dL_ofRequest_3 rfl (lv_at hl 1 rfl) ?_
  refine lv_iload_n hx hb dL_ofRequest_4 rfl (lv_at hl 2 rfl) ?_
  refine hg_callX (As := [.int x1, .int x2]) (rest := [.int 0, .ref o]) ⟨hx, hb, hml, hown, hts⟩ (cX_Court_ofRequest l hlf D yI yO z0 ad s.heap.size h) (cwV 2 hts gL_ofRequest_X8_ofRequest rfl rfl rfl (by decide +kernel) ⟨Nat.le_of_ble_eq_true rfl, Nat.le_of_ble_eq_true rfl⟩) hK hN hA hxs rfl hl.1 rfl (Nat.le_of_ble_eq_true rfl) dL_ofRequest_5 ⟨Nat.le_of_ble_eq_true rfl, Nat.le_of_ble_eq_true rfl⟩ (fun ce q9 H locs hN h8 h9 h10 => ?_)
  refine vx_catch (own := RL) (name := "java/lang/IllegalArgumentException") (E := xE 1) hown [⟨0, 10, 13, 21⟩] ⟨0, 10, 17, 13⟩ [] (by rw [htab]; rfl) (List.forall_mem_cons.mpr ⟨Or.inr ⟨by decide, "java/lang/IndexOutOfBoundsException", hts (.classLink RL 21 "java/lang/IndexOutOfBoundsException") (by decide +kernel), hns ("java/lang/IllegalArgumentException", "java/lang/IndexOutOfBoundsException") (by decide)⟩, (fun z hz => absurd hz List.not_mem_nil)⟩) (by decide) (by decide) (hts (.classLink RL 13 "java/lang/IllegalArgumentException") (by decide +kernel)) (va_Nw.use (xB_on (.castable "java/lang/IllegalArgumentException" "java/lang/IllegalArgumentException") (by decide)) (hxs.2.2.2 (.castable "java/lang/IllegalArgumentException" "java/lang/IllegalArgumentException") (by decide))) h8 h9 h10 ?_
  refine W.eq (g2 := F0 m 17 ls [.ref q9]) rfl ?_
  refine lv_astore (lv' := [(4, .ref q9), (0, .ref (ad 0 0)), (1, .int x1), (2, .int x2), (3, .ref o)]) hx hb dL_ofRequest_17 hl (by decide) rfl (fun ls hl => ?_)
  refine lv_iconst (v := 2) hx hb dL_ofRequest_19 (by decide) ?_
  exact W.iret (v := 2) hx hb hr (fun t ht hW => ⟨⟨2, (ad, f), rfl, ⟨rfl, rfl⟩, rfl, by rw [ht]; exact hN.1.1, va_K.moved hW.alike hLK, by rw [ht]; exact hN.2.1, hN.2.2.2 0 _ rfl, hN.1.2.1⟩, hN.1.2.2.F ht⟩) hN.1.2.2.2.2 dL_ofRequest_20 hlocks
set_option maxRecDepth 20000 in
theorem cH_permit (l : Launch) (hlf : l.stackTraces = false) (D : va_G) (yI yO yL : ClassId) (z0 : Nat) (ad : Nat → Nat → Nat) {g : CS} {x1 : Int32} {x2 : Int32} (o : Nat) (f : Nat → Int64) (sz : Nat) {rz : Int32} (h : fC_Court_permit g x1 x2 = some (.inr rz)) : Met l yL_permit wsL_permit ({ frames := 8, cells := 0, slots := 0, locals := 135 }) (va_Pc [.ref (ad 0 0), .int x1, .int x2, .ref o] (hPre D yI yO yL z0 ad g o f sz)) (hQ D yI yO yL z0 ad g o f 0 rz.toInt64 (hAd ad g sz o)) 0 0 (hAd ad g sz o) := by
  refine lh_ofW (cc := cL_permit) (maxL := 5) (ret := some .int) (hh := [(0, 10, 13, 21)]) (by decide) rfl ?_
  intro p e s m args below meth c s₁ B hml htab hv
  obtain ⟨hv0, hw, hLK, hP, ho, hsz, hxs, hys, hns⟩ := hv
  subst hsz
  have hv1 : args = [.ref (ad 0 0), .int x1, .int x2, .ref o].toArray := hv0
  subst hv1
  have hx := B.exec
  have hb := B.bytes
  have hr := B.returns
  have hts := atoms_spec (ws := wsL_permit) B.pre
  have hown : s.vm.findClass RL = some m.cls := findClass_of_methodNamed B.named
  have hlocks := B.notSynchronized
  have hK := hLK.c
  have hN := hN_start hw hP ho
  generalize hAe : hAd ad g s.heap.size o = A at hN hxs hys ⊢
  have hA : ∀ q, s.heap.size ≤ q → A q := fun q h => by rw [← hAe]; exact Or.inl (Or.inr h)
  have hl := lv_entry ([.ref (ad 0 0), .int x1, .int x2, .ref o]) (n := 5) (Nat.le_of_ble_eq_true rfl)
  rw [lg_entry_eq]
  generalize (lg_sl ([.ref (ad 0 0), .int x1, .int x2, .ref o]) ++ List.replicate (5 - (lg_sl ([.ref (ad 0 0), .int x1, .int x2, .ref o])).length) Slot.unset).toArray = ls at hl ⊢
  have hl : lv_has ls 5 [(0, .ref (ad 0 0)), (1, .int x1), (2, .int x2), (3, .ref o)] := hl
  refine lv_aload_n hx hb dL_permit_0 rfl (lv_at hl 3 rfl) ?_
  refine lv_iconst (v := 0) hx hb dL_permit_1 (by decide) ?_
  refine lv_aload_n hx hb dL_permit_2 rfl (lv_at hl 0 rfl) ?_
  refine lv_iload_n hx hb dL_permit_3 rfl (lv_at hl 1 rfl) ?_
  refine lv_iload_n hx hb dL_permit_4 rfl (lv_at hl 2 rfl) ?_
  refine hg_callV (As := [.int x1, .int x2]) (rest := [.int 0, .ref o]) ⟨hx, hb, hml, hown, hts⟩ (cC_Court_permit l D yI yO z0 ad h) (cwV 2 hts gL_permit_X8_permit rfl rfl rfl (by decide +kernel) ⟨Nat.le_of_ble_eq_true rfl, Nat.le_of_ble_eq_true rfl⟩) hK hN rfl hl.1 rfl (Nat.le_of_ble_eq_true rfl) dL_permit_5 ⟨Nat.le_of_ble_eq_true rfl, Nat.le_of_ble_eq_true rfl⟩ (fun H locs hN => ?_)
  have had : ad 0 0 = ad 0 0 := rfl
  refine lv_i2l (v := rz.toInt64) hx hb dL_permit_8 rfl ?_
  refine hg_last hx hb hLK hN dL_permit_9 (fun f1 H locs hf1 hN => ?_)
  refine lv_goto (tgt := 17) hx hb dL_permit_10 (by decide) ?_
  refine lv_iconst (v := 0) hx hb dL_permit_17 (by decide) ?_
  exact W.iret (v := 0) hx hb hr (fun t ht hW => ⟨⟨0, (ad, f1), rfl, ⟨rfl, hf1⟩, had, by rw [ht]; exact hN.1.1, va_K.moved hW.alike hLK, by rw [ht]; exact hN.2.1, hN.2.2.2 0 _ rfl, hN.1.2.1⟩, hN.1.2.2.F ht⟩) hN.1.2.2.2.2 dL_permit_18 hlocks
set_option maxRecDepth 20000 in
theorem cHx_permit_0 (l : Launch) (hlf : l.stackTraces = false) (D : va_G) (yI yO yL : ClassId) (z0 : Nat) (ad : Nat → Nat → Nat) {g : CS} {x1 : Int32} {x2 : Int32} (o : Nat) (f : Nat → Int64) (sz : Nat) (h : fC_Court_permit g x1 x2 = some (.inl 0)) : Met l yL_permit wsL_permit ({ frames := 8, cells := 1, slots := 6, locals := 135 }) (va_Pc [.ref (ad 0 0), .int x1, .int x2, .ref o] (hPre D yI yO yL z0 ad g o f sz)) (hQ D yI yO yL z0 ad g o f 1 (f 0) (hAd ad g sz o)) 1 6 (hAd ad g sz o) := by
  refine lh_ofW (cc := cL_permit) (maxL := 5) (ret := some .int) (hh := [(0, 10, 13, 21)]) (by decide) rfl ?_
  intro p e s m args below meth c s₁ B hml htab hv
  obtain ⟨hv0, hw, hLK, hP, ho, hsz, hxs, hys, hns⟩ := hv
  subst hsz
  have hv1 : args = [.ref (ad 0 0), .int x1, .int x2, .ref o].toArray := hv0
  subst hv1
  have hx := B.exec
  have hb := B.bytes
  have hr := B.returns
  have hts := atoms_spec (ws := wsL_permit) B.pre
  have hown : s.vm.findClass RL = some m.cls := findClass_of_methodNamed B.named
  have hlocks := B.notSynchronized
  have hK := hLK.c
  have hN := hN_start hw hP ho
  generalize hAe : hAd ad g s.heap.size o = A at hN hxs hys ⊢
  have hA : ∀ q, s.heap.size ≤ q → A q := fun q h => by rw [← hAe]; exact Or.inl (Or.inr h)
  have hl := lv_entry ([.ref (ad 0 0), .int x1, .int x2, .ref o]) (n := 5) (Nat.le_of_ble_eq_true rfl)
  rw [lg_entry_eq]
  generalize (lg_sl ([.ref (ad 0 0), .int x1, .int x2, .ref o]) ++ List.replicate (5 - (lg_sl ([.ref (ad 0 0), .int x1, .int x2, .ref o])).length) Slot.unset).toArray = ls at hl ⊢
  have hl : lv_has ls 5 [(0, .ref (ad 0 0)), (1, .int x1), (2, .int x2), (3, .ref o)] := hl
  refine lv_aload_n hx hb dL_permit_0 rfl (lv_at hl 3 rfl) ?_
  refine lv_iconst (v := 0) hx hb dL_permit_1 (by decide) ?_
  refine lv_aload_n hx hb dL_permit_2 rfl (lv_at hl 0 rfl) ?_
  refine lv_iload_n hx hb dL_permit_3 rfl (lv_at hl 1 rfl) ?_
  refine lv_iload_n hx hb dL_permit_4 rfl (lv_at hl 2 rfl) ?_
  refine hg_callX (As := [.int x1, .int x2]) (rest := [.int 0, .ref o]) ⟨hx, hb, hml, hown, hts⟩ (cX_Court_permit l hlf D yI yO z0 ad s.heap.size h) (cwV 2 hts gL_permit_X8_permit rfl rfl rfl (by decide +kernel) ⟨Nat.le_of_ble_eq_true rfl, Nat.le_of_ble_eq_true rfl⟩) hK hN hA hxs rfl hl.1 rfl (Nat.le_of_ble_eq_true rfl) dL_permit_5 ⟨Nat.le_of_ble_eq_true rfl, Nat.le_of_ble_eq_true rfl⟩ (fun ce q9 H locs hN h8 h9 h10 => ?_)
  refine vx_catch (own := RL) (name := "java/lang/IndexOutOfBoundsException") (E := xE 0) hown [] ⟨0, 10, 13, 21⟩ [] (by rw [htab]; rfl) (fun z hz => absurd hz List.not_mem_nil) (by decide) (by decide) (hts (.classLink RL 21 "java/lang/IndexOutOfBoundsException") (by decide +kernel)) (va_Nw.use (xB_on (.castable "java/lang/IndexOutOfBoundsException" "java/lang/IndexOutOfBoundsException") (by decide)) (hxs.2.2.2 (.castable "java/lang/IndexOutOfBoundsException" "java/lang/IndexOutOfBoundsException") (by decide))) h8 h9 h10 ?_
  refine W.eq (g2 := F0 m 13 ls [.ref q9]) rfl ?_
  refine lv_astore (lv' := [(4, .ref q9), (0, .ref (ad 0 0)), (1, .int x1), (2, .int x2), (3, .ref o)]) hx hb dL_permit_13 hl (by decide) rfl (fun ls hl => ?_)
  refine lv_iconst (v := 1) hx hb dL_permit_15 (by decide) ?_
  exact W.iret (v := 1) hx hb hr (fun t ht hW => ⟨⟨1, (ad, f), rfl, ⟨rfl, rfl⟩, rfl, by rw [ht]; exact hN.1.1, va_K.moved hW.alike hLK, by rw [ht]; exact hN.2.1, hN.2.2.2 0 _ rfl, hN.1.2.1⟩, hN.1.2.2.F ht⟩) hN.1.2.2.2.2 dL_permit_16 hlocks
