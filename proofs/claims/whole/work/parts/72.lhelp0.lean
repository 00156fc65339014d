/-! ===== the law's helpers ===== -/
theorem lh_ofW {l : Launch} {y : MethodName} {ws ws' : List Cond} {rm : Room} {Pc : Array Value → State → Prop} {Qc : Array Value → State → Outcome → State → Prop} {mc ms : Nat} {free : Addr → Prop} {cc : ByteArray} {maxL : Nat} {ret : Option FieldType} {hh : List (Nat × Nat × Nat × Nat)}
    (hy : plainName y.cls = true) (hw : ws = Cond.codeWith y cc maxL ret hh :: ws')
    (body : ∀ p e s m args below meth c s₁, BodyLoose p l y (headSpec ws rm) cc maxL ret e s m args below meth c s₁ → c.maxLocals = maxL → c.exceptionTable.toList = Jvm.tableOf hh → Pc args s →
      W p l e (headSpec ws rm).room s m args below meth c s.heap [] 0 0 (MQ below Qc args s mc ms free) (entryFrame m args maxL)) : Met l y ws rm Pc Qc mc ms free := by
  refine MetFree.of_bodyS (code := cc) (maxLocals := maxL) (ret := ret) hy ?_ ?_
  · intro args s m h hn
    obtain ⟨m9, meth, c, hn9, h1, h2, h3, h4, -, h5, h6, -⟩ := Cond.codeWith_spec (atoms_spec (ws := ws) h _ (by rw [hw]; exact List.mem_cons_self))
    cases hn.symm.trans hn9
    exact ⟨meth, c, h1, h2, h3, h4, h5, h6⟩
  · intro p e s m args below meth c s₁ B hml hP _
    have hh0 : s₁.heap = s.heap := by rw [B.state]; rfl
    obtain ⟨t, a1, o, b1, b2, b3⟩ := body p e s m args below meth c s₁ B hml (vx_table (x := y) B (atoms_spec (ws := ws) B.pre _ (by rw [hw]; exact List.mem_cons_self))) hP s₁ hh0 (Stand.of_body B)
    exact ⟨t, o, a1, b1, b2, ⟨b3.1, b3.2⟩⟩
theorem hN_start {D : va_G} {yI yO yL : ClassId} {z0 : Nat} {ad : Nat → Nat → Nat} {g : CS} {s : State} {o : Nat} {f : Nat → Int64} (hw : cw D yI yO z0 ad g s.heap) (hP : va_P D vwCl (lw1 yL o f) s.heap) (ho : ¬ cF ad g o) : nX D yI yO z0 ad g (hAd ad g s.heap.size o) s s.heap [] (lw1 yL o f) := by
  refine ⟨⟨hw, fun k i hi => Or.inl (Or.inl ⟨k, i, hi, rfl⟩), va_S.rf⟩, hP, ⟨fun i j a b h1 h2 _ => ?_, fun k q hq => ?_⟩, fun k q hq => ?_⟩
  · rcases i with _ | i <;> rcases j with _ | j <;> first | rfl | (simp [lw1] at h1; done) | (simp [lw1] at h2; done)
  · rcases k with _ | k
    · cases hq; exact Or.inr rfl
    · simp [lw1] at hq
  · rcases k with _ | k
    · cases hq; exact ho
    · simp [lw1] at hq
set_option maxRecDepth 20000 in
theorem cH_land (l : Launch) (hlf : l.stackTraces = false) (D : va_G) (yI yO yL : ClassId) (z0 : Nat) (ad : Nat → Nat → Nat) {g : CS} {x1 : Int32} {x2 : Int32} {x3 : Int32} {x4 : Int32} (o : Nat) (f : Nat → Int64) (sz : Nat) {rz : Int32} {gz : CS} (hI : yOK g) (h : fC_Court_land g x1 x2 x3 x4 = some (.inr (rz, gz))) : Met l yL_land wsL_land ({ frames := 8, cells := 20, slots := 7700, locals := 226 }) (va_Pc [.ref (ad 0 0), .int x1, .int x2, .int x3, .int x4, .ref o] (hPre D yI yO yL z0 ad g o f sz)) (hQ D yI yO yL z0 ad gz o f 0 rz.toInt64 (hAd ad g sz o)) 20 7700 (hAd ad g sz o) := by
  refine lh_ofW (cc := cL_land) (maxL := 7) (ret := some .int) (hh := [(0, 14, 17, 13), (0, 14, 21, 15)]) (by decide) rfl ?_
  intro p e s m args below meth c s₁ B hml htab hv
  obtain ⟨hv0, hw, hLK, hP, ho, hsz, hxs, hys, hns⟩ := hv
  subst hsz
  have hv1 : args = [.ref (ad 0 0), .int x1, .int x2, .int x3, .int x4, .ref o].toArray := hv0
  subst hv1
  have hx := B.exec
  have hb := B.bytes
  have hr := B.returns
  have hts := atoms_spec (ws := wsL_land) B.pre
  have hown : s.vm.findClass RL = some m.cls := findClass_of_methodNamed B.named
  have hlocks := B.notSynchronized
  have hK := hLK.c
  have hN := hN_start hw hP ho
  generalize hAe : hAd ad g s.heap.size o = A at hN hxs hys ⊢
  have hA : ∀ q, s.heap.size ≤ q → A q := fun q h => by rw [← hAe]; exact Or.inl (Or.inr h)
  have hl := lv_entry ([.ref (ad 0 0), .int x1, .int x2, .int x3, .int x4, .ref o]) (n := 7) (Nat.le_of_ble_eq_true rfl)
  rw [lg_entry_eq]
  generalize (lg_sl ([.ref (ad 0 0), .int x1, .int x2, .int x3, .int x4, .ref o]) ++ List.replicate (7 - (lg_sl ([.ref (ad 0 0), .int x1, .int x2, .int x3, .int x4, .ref o])).length) Slot.unset).toArray = ls at hl ⊢
  have hl : lv_has ls 7 [(0, .ref (ad 0 0)), (1, .int x1), (2, .int x2), (3, .int x3), (4, .int x4), (5, .ref o)] := hl
  refine lv_aload hx hb dL_land_0 (lv_at hl 5 rfl) ?_
  refine lv_iconst (v := 0) hx hb dL_land_2 (by decide) ?_
  refine lv_aload_n hx hb dL_land_3 rfl (lv_at hl 0 rfl) ?_
  refine lv_iload_n hx hb dL_land_4 rfl (lv_at hl 1 rfl) ?_
  refine lv_iload_n hx hb dL_land_5 rfl (lv_at hl 2 rfl) ?_
  refine lv_iload_n hx hb dL_land_6 rfl (lv_at hl 3 rfl) ?_
  refine lv_iload hx hb dL_land_7 (lv_at hl 4 rfl) ?_
  refine hg_callY (As := [.int x1, .int x2, .int x3, .int x4]) (rest := [.int 0, .ref o]) ⟨hx, hb, hml, hown, hts⟩ (cC_Court_land l D yI yO z0 ad s.heap.size hI h) (cwV 4 hts gL_land_X8_land rfl rfl rfl (by decide +kernel) ⟨Nat.le_of_ble_eq_true rfl, Nat.le_of_ble_eq_true rfl⟩) hys hK hN hA rfl hl.1 rfl (Nat.le_of_ble_eq_true rfl) dL_land_9 ⟨Nat.le_of_ble_eq_true rfl, Nat.le_of_ble_eq_true rfl⟩ (fun ad1 H locs had hN => ?_)
  refine lv_i2l (v := rz.toInt64) hx hb dL_land_12 rfl ?_
  refine hg_last hx hb hLK hN dL_land_13 (fun f1 H locs hf1 hN => ?_)
  refine lv_goto (tgt := 25) hx hb dL_land_14 (by decide) ?_
  refine lv_iconst (v := 0) hx hb dL_land_25 (by decide) ?_
  refine W.widen (k := 20) (n := 7700) (Nat.le_of_ble_eq_true rfl) (Nat.le_of_ble_eq_true rfl) ?_
  exact W.iret (v := 0) hx hb hr (fun t ht hW => ⟨⟨0, (ad1, f1), rfl, ⟨rfl, hf1⟩, had, by rw [ht]; exact hN.1.1, va_K.moved hW.alike hLK, by rw [ht]; exact hN.2.1, hN.2.2.2 0 _ rfl, hN.1.2.1⟩, hN.1.2.2.F ht⟩) hN.1.2.2.2.2 dL_land_26 hlocks
set_option maxRecDepth 20000 in
theorem cHx_land_1 (l : Launch) (hlf : l.stackTraces = false) (D : va_G) (yI yO yL : ClassId) (z0 : Nat) (ad : Nat → Nat → Nat) {g : CS} {x1 : Int32} {x2 : Int32} {x3 : Int32} {x4 : Int32} (o : Nat) (f : Nat → Int64) (sz : Nat) (h : fC_Court_land g x1 x2 x3 x4 = some (.inl 1)) : Met l yL_land wsL_land ({ frames := 8, cells := 1, slots := 6, locals := 226 }) (va_Pc [.ref (ad 0 0), .int x1, .int x2, .int x3, .int x4, .ref o] (hPre D yI yO yL z0 ad g o f sz)) (hQ D yI yO yL z0 ad g o f 1 (f 0) (hAd ad g sz o)) 1 6 (hAd ad g sz o) := by
  refine lh_ofW (cc := cL_land) (maxL := 7) (ret := some .int) (hh := [(0, 14, 17, 13), (0, 14, 21, 15)]) (by decide) rfl ?_
  intro p e s m args below meth c s₁ B hml htab hv
  obtain ⟨hv0, hw, hLK, hP, ho, hsz, hxs, hys, hns⟩ := hv
  subst hsz
  have hv1 : args = [.ref (ad 0 0), .int x1, .int x2, .int x3, .int x4, .ref o].toArray := hv0
  subst hv1
  have hx := B.exec
  have hb := B.bytes
  have hr := B.returns
  have hts := atoms_spec (ws := wsL_land) B.pre
  have hown : s.vm.findClass RL = some m.cls := findClass_of_methodNamed B.named
  have hlocks := B.notSynchronized
  have hK := hLK.c
  have hN := hN_start hw hP ho
  generalize hAe : hAd ad g s.heap.size o = A at hN hxs hys ⊢
  have hA : ∀ q, s.heap.size ≤ q → A q := fun q h => by rw [← hAe]; exact Or.inl (Or.inr h)
  have hl := lv_entry ([.ref (ad 0 0), .int x1, .int x2, .int x3, .int x4, .ref o]) (n := 7) (Nat.le_of_ble_eq_true rfl)
  rw [lg_entry_eq]
  generalize (lg_sl ([.ref (ad 0 0), .int x1, .int x2, .int x3, .int x4, .ref o]) ++ List.replicate (7 - (lg_sl ([.ref (ad 0 0), .int x1, .int x2, .int x3, .int x4, .ref o])).length) Slot.unset).toArray = ls at hl ⊢
  have hl : lv_has ls 7 [(0, .ref (ad 0 0)), (1, .int x1), (2, .int x2), (3, .int x3), (4, .int x4), (5, .ref o)] := hl
  refine lv_aload hx hb dL_land_0 (lv_at hl 5 rfl) ?_
  refine lv_iconst (v := 0) hx hb dL_land_2 (by decide) ?_
  refine lv_aload_n hx hb dL_land_3 rfl (lv_at hl 0 rfl) ?_
  refine lv_iload_n hx hb dL_land_4 rfl (lv_at hl 1 rfl) ?_
  refine lv_iload_n hx hb dL_land_5 rfl (lv_at hl 2 rfl) ?_
  refine lv_iload_n hx hb dL_land_6 rfl (lv_at hl 3 rfl) ?_
  refine lv_iload hx hb dL_land_7 (lv_at hl 4 rfl) ?_
  refine hg_callX (As := [.int x1, .int x2, .int x3, .int x4]) (rest := [.int 0, .ref o]) ⟨hx, hb, hml, hown, hts⟩ (cX_Court_land l hlf D yI yO z0 ad s.heap.size h) (cwV 4 hts gL_land_X8_land rfl rfl rfl (by decide +kernel) ⟨Nat.le_of_ble_eq_true rfl, Nat.le_of_ble_eq_true rfl⟩) hK hN hA hxs rfl hl.1 rfl (Nat.le_of_ble_eq_true rfl) dL_land_9 ⟨Nat.le_of_ble_eq_true rfl, Nat.le_of_ble_eq_true rfl⟩ (fun ce q9 H locs hN h8 h9 h10 => ?_)
  refine vx_catch (own := RL) (name := "java/lang/IllegalArgumentException") (E := xE 1) hown [] ⟨0, 14, 17, 13⟩ [⟨0, 14, 21, 15⟩] (by rw [htab]; rfl) (fun z hz => absurd hz List.not_mem_nil) (by decide) (by decide) (hts (.classLink RL 13 "java/lang/IllegalArgumentException") (by decide +kernel)) (va_Nw.use (xB_on (.castable "java/lang/IllegalArgumentException" "java/lang/IllegalArgumentException") (by decide)) (hxs.2.2.2 (.castable "java/lang/IllegalArgumentException" "java/lang/IllegalArgumentException") (by decide))) h8 h9 h10 ?_
  refine W.eq (g2 := F0 m 17 ls [.ref q9]) rfl ?_
  refine lv_astore (lv' := [(6, .ref q9), (0, .ref (ad 0 0)), (1, .int x1), (2, .int x2), (3, .int x3), (4, .int x4), (5, .ref o)]) hx hb dL_land_17 hl (by decide) rfl (fun ls hl => ?_)
  refine lv_iconst (v := 1) hx hb dL_land_19 (by decide) ?_
  exact W.iret (v := 1) hx hb hr (fun t ht hW => ⟨⟨1, (ad, f), rfl, ⟨rfl, rfl⟩, rfl, by rw [ht]; exact hN.1.1, va_K.moved hW.alike hLK, by rw [ht]; exact hN.2.1, hN.2.2.2 0 _ rfl, hN.1.2.1⟩, hN.1.2.2.F ht⟩) hN.1.2.2.2.2 dL_land_20 hlocks
set_option maxRecDepth 20000 in
theorem cHx_land_2 (l : Launch) (hlf : l.stackTraces = false) (D : va_G) (yI yO yL : ClassId) (z0 : Nat) (ad : Nat → Nat → Nat) {g : CS} {x1 : Int32} {x2 : Int32} {x3 : Int32} {x4 : Int32} (o : Nat) (f : Nat → Int64) (sz : Nat) (h : fC_Court_land g x1 x2 x3 x4 = some (.inl 2)) : Met l yL_land wsL_land ({ frames := 8, cells := 1, slots := 6, locals := 226 }) (va_Pc [.ref (ad 0 0), .int x1, .int x2, .int x3, .int x4, .ref o] (hPre D yI yO yL z0 ad g o f sz)) (hQ D yI yO yL z0 ad g o f 2 (f 0) (hAd ad g sz o)) 1 6 (hAd ad g sz o) := by
  refine lh_ofW (cc := cL_land) (maxL := 7) (ret := some .int) (hh := [(0, 14, 17, 13), (0, 14, 21, 15)]) (by decide) rfl ?_
  intro p e s m args below meth c s₁ B hml htab hv
  obtain ⟨hv0, hw, hLK, hP, ho, hsz, hxs, hys, hns⟩ := hv
  subst hsz
  have hv1 : args = [.ref (ad 0 0), .int x1, .int x2, .int x3, .int x4, .ref o].toArray := hv0
  subst hv1
  have hx := B.exec
  have hb := B.bytes
  have hr := B.returns
  have hts := atoms_spec (ws := wsL_land) B.pre
  have hown : s.vm.findClass RL = some m.cls := findClass_of_methodNamed B.named
  have hlocks := B.notSynchronized
  have hK := hLK.c
  have hN := hN_start hw hP ho
  generalize hAe : hAd ad g s.heap.size o = A at hN hxs hys ⊢
  have hA : ∀ q, s.heap.size ≤ q → A q := fun q h => by rw [← hAe]; exact Or.inl (Or.inr h)
  have hl := lv_entry ([.ref (ad 0 0), .int x1, .int x2, .int x3, .int x4, .ref o]) (n := 7) (Nat.le_of_ble_eq_true rfl)
  rw [lg_entry_eq]
  generalize (lg_sl ([.ref (ad 0 0), .int x1, .int x2, .int x3, .int x4, .ref o]) ++ List.replicate (7 - (lg_sl ([.ref (ad 0 0), .int x1, .int x2, .int x3, .int x4, .ref o])).length) Slot.unset).toArray = ls at hl ⊢
  have hl : lv_has ls 7 [(0, .ref (ad 0 0)), (1, .int x1), (2, .int x2), (3, .int x3), (4, .int x4), (5, .ref o)] := hl
  refine lv_aload hx hb dL_land_0 (lv_at hl 5 rfl) ?_
  refine lv_iconst (v := 0) hx hb dL_land_2 (by decide) ?_
  refine lv_aload_n hx hb dL_land_3 rfl (lv_at hl 0 rfl) ?_
  refine lv_iload_n hx hb dL_land_4 rfl (lv_at hl 1 rfl) ?_
  refine lv_iload_n hx hb dL_land_5 rfl (lv_at hl 2 rfl) ?_
  refine lv_iload_n hx hb dL_land_6 rfl (lv_at hl 3 rfl) ?_
  refine lv_iload hx hb dL_land_7 (lv_at hl 4 rfl) ?_
  refine hg_callX (As := [.int x1, .int x2, .int x3, .int x4]) (rest := [.int 0, .ref o]) ⟨hx, hb, hml, hown, hts⟩ (cX_Court_land l hlf D yI yO z0 ad s.heap.size h) (cwV 4 hts gL_land_X8_land rfl rfl rfl (by decide +kernel) ⟨Nat.le_of_ble_eq_true rfl, Nat.le_of_ble_eq_true rfl⟩) hK hN hA hxs rfl hl.1 rfl (Nat.le_of_ble_eq_true rfl) dL_land_9 ⟨Nat.le_of_ble_eq_true rfl, Nat.le_of_ble_eq_true rfl⟩ (fun ce q9 H locs hN h8 h9 h10 => ?_)
  refine vx_catch (own := RL) (name := "java/lang/IllegalStateException") (E := xE 2) hown [⟨0, 14, 17, 13⟩] ⟨0, 14, 21, 15⟩ [] (by rw [htab]; rfl) (List.forall_mem_cons.mpr ⟨Or.inr ⟨by decide, "java/lang/IllegalArgumentException", hts (.classLink RL 13 "java/lang/IllegalArgumentException") (by decide +kernel), hns ("java/lang/IllegalStateException", "java/lang/IllegalArgumentException") (by decide)⟩, (fun z hz => absurd hz List.not_mem_nil)⟩) (by decide) (by decide) (hts (.classLink RL 15 "java/lang/IllegalStateException") (by decide +kernel)) (va_Nw.use (xB_on (.castable "java/lang/IllegalStateException" "java/lang/IllegalStateException") (by decide)) (hxs.2.2.2 (.castable "java/lang/IllegalStateException" "java/lang/IllegalStateException") (by decide))) h8 h9 h10 ?_
  refine W.eq (g2 := F0 m 21 ls [.ref q9]) rfl ?_
  refine lv_astore (lv' := [(6, .ref q9), (0, .ref (ad 0 0)), (1, .int x1), (2, .int x2), (3, .int x3), (4, .int x4), (5, .ref o)]) hx hb dL_land_21 hl (by decide) rfl (fun ls hl => ?_)
  refine lv_iconst (v := 2) hx hb dL_land_23 (by decide) ?_
  exact W.iret (v := 2) hx hb hr (fun t ht hW => ⟨⟨2, (ad, f), rfl, ⟨rfl, rfl⟩, rfl, by rw [ht]; exact hN.1.1, va_K.moved hW.alike hLK, by rw [ht]; exact hN.2.1, hN.2.2.2 0 _ rfl, hN.1.2.1⟩, hN.1.2.2.F ht⟩) hN.1.2.2.2.2 dL_land_24 hlocks
set_option maxRecDepth 20000 in
theorem cH_waive (l : Launch) (hlf : l.stackTraces = false) (D : va_G) (yI yO yL : ClassId) (z0 : Nat) (ad : Nat → Nat → Nat) {g : CS} {x1 : Int32} {x2 : Int32} {x3 : Int32} (o : Nat) (f : Nat → Int64) (sz : Nat) {rz : Int32} {gz : CS} (h : fC_Court_waive g x1 x2 x3 = some (.inr (rz, gz))) : Met l yL_waive wsL_waive ({ frames := 8, cells := 0, slots := 0, locals := 137 }) (va_Pc [.ref (ad 0 0), .int x1, .int x2, .int x3, .ref o] (hPre D yI yO yL z0 ad g o f sz)) (hQ D yI yO yL z0 ad gz o f 0 (if rz = 0 then (0 : Int64) else 1) (hAd ad g sz o)) 0 0 (hAd ad g sz o) := by
  refine lh_ofW (cc := cL_waive) (maxL := 6) (ret := some .int) (hh := [(0, 19, 22, 21), (0, 19, 26, 13)]) (by decide) rfl ?_
  intro p e s m args below meth c s₁ B hml htab hv
  obtain ⟨hv0, hw, hLK, hP, ho, hsz, hxs, hys, hns⟩ := hv
  subst hsz
  have hv1 : args = [.ref (ad 0 0), .int x1, .int x2, .int x3, .ref o].toArray := hv0
  subst hv1
  have hx := B.exec
  have hb := B.bytes
  have hr := B.returns
  have hts := atoms_spec (ws := wsL_waive) B.pre
  have hown : s.vm.findClass RL = some m.cls := findClass_of_methodNamed B.named
  have hlocks := B.notSynchronized
  have hK := hLK.c
  have hN := hN_start hw hP ho
  generalize hAe : hAd ad g s.heap.size o = A at hN hxs hys ⊢
  have hA : ∀ q, s.heap.size ≤ q → A q := fun q h => by rw [← hAe]; exact Or.inl (Or.inr h)
  have hl := lv_entry ([.ref (ad 0 0), .int x1, .int x2, .int x3, .ref o]) (n := 6) (Nat.le_of_ble_eq_true rfl)
  rw [lg_entry_eq]
  generalize (lg_sl ([.ref (ad 0 0), .int x1, .int x2, .int x3, .ref o]) ++ List.replicate (6 - (lg_sl ([.ref (ad 0 0), .int x1, .int x2, .int x3, .ref o])).length) Slot.unset).toArray = ls at hl ⊢
  have hl : lv_has ls 6 [(0, .ref (ad 0 0)), (1, .int x1), (2, .int x2), (3, .int x3), (4, .ref o)] := hl
  refine lv_aload hx hb dL_waive_0 (lv_at hl 4 rfl) ?_
  refine lv_iconst (v := 0) hx hb dL_waive_2 (by decide) ?_
  refine lv_aload_n hx hb dL_waive_3 rfl (lv_at hl 0 rfl) ?_
  refine lv_iload_n hx hb dL_waive_4 rfl (lv_at hl 1 rfl) ?_
  refine lv_iload_n hx hb dL_waive_5 rfl (lv_at hl 2 rfl) ?_
  refine lv_iload_n hx hb dL_waive_6 rfl (lv_at hl 3 rfl) ?_
  refine hg_callV (As := [.int x1, .int x2, .int x3]) (rest := [.int 0, .ref o]) ⟨hx, hb, hml, hown, hts⟩ (cC_Court_waive l D yI yO z0 ad h) (cwV 3 hts gL_waive_X8_waive rfl rfl rfl (by decide +kernel) ⟨Nat.le_of_ble_eq_true rfl, Nat.le_of_ble_eq_true rfl⟩) hK hN rfl hl.1 rfl (Nat.le_of_ble_eq_true rfl) dL_waive_7 ⟨Nat.le_of_ble_eq_true rfl, Nat.le_of_ble_eq_true rfl⟩ (fun H locs hN => ?_)
  have had : ad 0 0 = ad 0 0 := rfl
  refine lv_if_eq (tgt := 17) hx hb dL_waive_10 (by decide) (fun c1 => ?_) (fun c1 => ?_)
  · refine lv_lconst (v := 0) hx hb dL_waive_17 (by decide) ?_
    refine hg_last hx hb hLK hN dL_waive_18 (fun f1 H locs hf1 hN => ?_)
    refine lv_goto (tgt := 30) hx hb dL_waive_19 (by decide) ?_
    refine lv_iconst (v := 0) hx hb dL_waive_30 (by decide) ?_
    exact W.iret (v := 0) hx hb hr (fun t ht hW => ⟨⟨0, (ad, f1), rfl, ⟨rfl, by rw [if_pos c1]; exact hf1⟩, had, by rw [ht]; exact hN.1.1, va_K.moved hW.alike hLK, by rw [ht]; exact hN.2.1, hN.2.2.2 0 _ rfl, hN.1.2.1⟩, hN.1.2.2.F ht⟩) hN.1.2.2.2.2 dL_waive_31 hlocks
  · refine lv_lconst (v := 1) hx hb dL_waive_13 (by decide) ?_
    refine lv_goto (tgt := 18) hx hb dL_waive_14 (by decide) ?_
    refine hg_last hx hb hLK hN dL_waive_18 (fun f1 H locs hf1 hN => ?_)
    refine lv_goto (tgt := 30) hx hb dL_waive_19 (by decide) ?_
    refine lv_iconst (v := 0) hx hb dL_waive_30 (by decide) ?_
    exact W.iret (v := 0) hx hb hr (fun t ht hW => ⟨⟨0, (ad, f1), rfl, ⟨rfl, by rw [if_neg c1]; exact hf1⟩, had, by rw [ht]; exact hN.1.1, va_K.moved hW.alike hLK, by rw [ht]; exact hN.2.1, hN.2.2.2 0 _ rfl, hN.1.2.1⟩, hN.1.2.2.F ht⟩) hN.1.2.2.2.2 dL_waive_31 hlocks
set_option maxRecDepth 20000 in
theorem cHx_waive_0 (l : Launch) (hlf : l.stackTraces = false) (D : va_G) (yI yO yL : ClassId) (z0 : Nat) (ad : Nat → Nat → Nat) {g : CS} {x1 : Int32} {x2 : Int32} {x3 : Int32} (o : Nat) (f : Nat → Int64) (sz : Nat) (h : fC_Court_waive g x1 x2 x3 = some (.inl 0)) : Met l yL_waive wsL_waive ({ frames := 8, cells := 1, slots := 6, locals := 137 }) (va_Pc [.ref (ad 0 0), .int x1, .int x2, .int x3, .ref o] (hPre D yI yO yL z0 ad g o f sz)) (hQ D yI yO yL z0 ad g o f 1 (f 0) (hAd ad g sz o)) 1 6 (hAd ad g sz o) := by
  refine lh_ofW (cc := cL_waive) (maxL := 6) (ret := some .int) (hh := [(0, 19, 22, 21), (0, 19, 26, 13)]) (by decide) rfl ?_
  intro p e s m args below meth c s₁ B hml htab hv
  obtain ⟨hv0, hw, hLK, hP, ho, hsz, hxs, hys, hns⟩ := hv
  subst hsz
  have hv1 : args = [.ref (ad 0 0), .int x1, .int x2, .int x3, .ref o].toArray := hv0
  subst hv1
  have hx := B.exec
  have hb := B.bytes
  have hr := B.returns
  have hts := atoms_spec (ws := wsL_waive) B.pre
  have hown : s.vm.findClass RL = some m.cls := findClass_of_methodNamed B.named
  have hlocks := B.notSynchronized
  have hK := hLK.c
  have hN := hN_start hw hP ho
  generalize hAe : hAd ad g s.heap.size o = A at hN hxs hys ⊢
  have hA : ∀ q, s.heap.size ≤ q → A q := fun q h => by rw [← hAe]; exact Or.inl (Or.inr h)
  have hl := lv_entry ([.ref (ad 0 0), .int x1, .int x2, .int x3, .ref o]) (n := 6) (Nat.le_of_ble_eq_true rfl)
  rw [lg_entry_eq]
  generalize (lg_sl ([.ref (ad 0 0), .int x1, .int x2, .int x3, .ref o]) ++ List.replicate (6 - (lg_sl ([.ref (ad 0 0), .int x1, .int x2, .int x3, .ref o])).length) Slot.unset).toArray = ls at hl ⊢
  have hl : lv_has ls 6 [(0, .ref (ad 0 0)), (1, .int x1), (2, .int x2), (3, .int x3), (4, .ref o)] := hl
  refine lv_aload hx hb dL_waive_0 (lv_at hl 4 rfl) ?_
  refine lv_iconst (v := 0) hx hb dL_waive_2 (by decide) ?_
  refine lv_aload_n hx hb dL_waive_3 rfl (lv_at hl 0 rfl) ?_
  refine lv_iload_n hx hb dL_waive_4 rfl (lv_at hl 1 rfl) ?_
  refine lv_iload_n hx hb dL_waive_5 rfl (lv_at hl 2 rfl) ?_
  refine lv_iload_n hx hb dL_waive_6 rfl (lv_at hl 3 rfl) ?_
  refine hg_callX (As := [.int x1, .int x2, .int x3]) (rest := [.int 0, .ref o]) ⟨hx, hb, hml, hown, hts⟩ (cX_Court_waive l hlf D yI yO z0 ad s.heap.size h) (cwV 3 hts gL_waive_X8_waive rfl rfl rfl (by decide +kernel) ⟨Nat.le_of_ble_eq_true rfl, Nat.le_of_ble_eq_true rfl⟩) hK hN hA hxs rfl hl.1 rfl (Nat.le_of_ble_eq_true rfl) dL_waive_7 ⟨Nat.le_of_ble_eq_true rfl, Nat.le_of_ble_eq_true rfl⟩ (fun ce q9 H locs hN h8 h9 h10 => ?_)
  refine vx_catch (own := RL) (name := "java/lang/IndexOutOfBoundsException") (E := xE 0) hown [] ⟨0, 19, 22, 21⟩ [⟨0, 19, 26, 13⟩] (by rw [htab]; rfl) (fun z hz => absurd hz List.not_mem_nil) (by decide) (by decide) (hts (.classLink RL 21 "java/lang/IndexOutOfBoundsException") (by decide +kernel)) (va_Nw.use (xB_on (.castable "java/lang/IndexOutOfBoundsException" "java/lang/IndexOutOfBoundsException") (by decide)) (hxs.2.2.2 (.castable "java/lang/IndexOutOfBoundsException" "java/lang/IndexOutOfBoundsException") (by decide))) h8 h9 h10 ?_
  refine W.eq (g2 := F0 m 22 ls [.ref q9]) rfl ?_
  refine lv_astore (lv' := [(5, .ref q9), (0, .ref (ad 0 0)), (1, .int x1), (2, .int x2), (3, .int x3), (4, .ref o)]) hx hb dL_waive_22 hl (by decide) rfl (fun ls hl => ?_)
  refine lv_iconst (v := 1) hx hb dL_waive_24 (by decide) ?_
  exact W.iret (v := 1) hx hb hr (fun t ht hW => ⟨⟨1, (ad, f), rfl, ⟨rfl, rfl⟩, rfl, by rw [ht]; exact hN.1.1, va_K.moved hW.alike hLK, by rw [ht]; exact hN.2.1, hN.2.2.2 0 _ rfl, hN.1.2.1⟩, hN.1.2.2.F ht⟩) hN.1.2.2.2.2 dL_waive_25 hlocks
set_option maxRecDepth 20000 in
theorem cHx_waive_1 (l : Launch) (hlf : l.stackTraces = false) (D : va_G) (yI yO yL : ClassId) (z0 : Nat) (ad : Nat → Nat → Nat) {g : CS} {x1 : Int32} {x2 : Int32} {x3 : Int32} (o : Nat) (f : Nat → Int64) (sz : Nat) (h : fC_Court_waive g x1 x2 x3 = some (.inl 1)) : Met l yL_waive wsL_waive ({ frames := 8, cells := 1, slots := 6, locals := 137 }) (va_Pc [.ref (ad 0 0), .int x1, .int x2, .int x3, .ref o] (hPre D yI yO yL z0 ad g o f sz)) (hQ D yI yO yL z0 ad g o f 2 (f 0) (hAd ad g sz o)) 1 6 (hAd ad g sz o) := by
  refine lh_ofW (cc := cL_waive) (maxL := 6) (ret := some .int) (hh := [(0, 19, 22, 21), (0, 19, 26, 13)]) (by decide) rfl ?_
  intro p e s m args below meth c s₁ B hml htab hv
  obtain ⟨hv0, hw, hLK, hP, ho, hsz, hxs, hys, hns⟩ := hv
  subst hsz
  have hv1 : args = [.ref (ad 0 0), .int x1, .int x2, .int x3, .ref o].toArray := hv0
  subst hv1
  have hx := B.exec
  have hb := B.bytes
  have hr := B.returns
  have hts := atoms_spec (ws := wsL_waive) B.pre
  have hown : s.vm.findClass RL = some m.cls := findClass_of_methodNamed B.named
  have hlocks := B.notSynchronized
  have hK := hLK.c
  have hN := hN_start hw hP ho
  generalize hAe : hAd ad g s.heap.size o = A at hN hxs hys ⊢
  have hA : ∀ q, s.heap.size ≤ q → A q := fun q h => by rw [← hAe]; exact Or.inl (Or.inr h)
  have hl := lv_entry ([.ref (ad 0 0), .int x1, .int x2, .int x3, .ref o]) (n := 6) (Nat.le_of_ble_eq_true rfl)
  rw [lg_entry_eq]
  generalize (lg_sl ([.ref (ad 0 0), .int x1, .int x2, .int x3, .ref o]) ++ List.replicate (6 - (lg_sl ([.ref (ad 0 0), .int x1, .int x2, .int x3, .ref o])).length) Slot.unset).toArray = ls at hl ⊢
  have hl : lv_has ls 6 [(0, .ref (ad 0 0)), (1, .int x1), (2, .int x2), (3, .int x3), (4, .ref o)] := hl
  refine lv_aload hx hb dL_waive_0 (lv_at hl 4 rfl) ?_
  refine lv_iconst (v := 0) hx hb dL_waive_2 (by decide) ?_
  refine lv_aload_n hx hb dL_waive_3 rfl (lv_at hl 0 rfl) ?_
  refine lv_iload_n hx hb dL_waive_4 rfl (lv_at hl 1 rfl) ?_
  refine lv_iload_n hx hb dL_waive_5 rfl (lv_at hl 2 rfl) ?_
  refine lv_iload_n hx hb dL_waive_6 rfl (lv_at hl 3 rfl) ?_
  refine hg_callX (As := [.int x1, .int x2, .int x3]) (rest := [.int 0, .ref o]) ⟨hx, hb, hml, hown, hts⟩ (cX_Court_waive l hlf D yI yO z0 ad s.heap.size h) (cwV 3 hts gL_waive_X8_waive rfl rfl rfl (by decide +kernel) ⟨Nat.le_of_ble_eq_true rfl, Nat.le_of_ble_eq_true rfl⟩) hK hN hA hxs rfl hl.1 rfl (Nat.le_of_ble_eq_true rfl) dL_waive_7 ⟨Nat.le_of_ble_eq_true rfl, Nat.le_of_ble_eq_true rfl⟩ (fun ce q9 H locs hN h8 h9 h10 => ?_)
  refine vx_catch (own := RL) (name := "java/lang/IllegalArgumentException") (E := xE 1) hown [⟨0, 19, 22, 21⟩] ⟨0, 19, 26, 13⟩ [] (by rw [htab]; rfl) (List.forall_mem_cons.mpr ⟨Or.inr ⟨by decide, "java/lang/IndexOutOfBoundsException", hts (.classLink RL 21 "java/lang/IndexOutOfBoundsException") (by decide +kernel), hns ("java/lang/IllegalArgumentException", "java/lang/IndexOutOfBoundsException") (by decide)⟩, (fun z hz => absurd hz List.not_mem_nil)⟩) (by decide) (by decide) (hts (.classLink RL 13 "java/lang/IllegalArgumentException") (by decide +kernel)) (va_Nw.use (xB_on (.castable "java/lang/IllegalArgumentException" "java/lang/IllegalArgumentException") (by decide)) (hxs.2.2.2 (.castable "java/lang/IllegalArgumentException" "java/lang/IllegalArgumentException") (by decide))) h8 h9 h10 ?_
  refine W.eq (g2 := F0 m 26 ls [.ref q9]) rfl ?_
  refine lv_astore (lv' := [(5, .ref q9), (0, .ref (ad 0 0)), (1, .int x1), (2, .int x2), (3, .int x3), (4, .ref o)]) hx hb dL_waive_26 hl (by decide) rfl (fun ls hl => ?_)
  refine lv_iconst (v := 2) hx hb dL_waive_28 (by decide) ?_
  exact W.iret (v := 2) hx hb hr (fun t ht hW => ⟨⟨2, (ad, f), rfl, ⟨rfl, rfl⟩, rfl, by rw [ht]; exact hN.1.1, va_K.moved hW.alike hLK, by rw [ht]; exact hN.2.1, hN.2.2.2 0 _ rfl, hN.1.2.1⟩, hN.1.2.2.F ht⟩) hN.1.2.2.2.2 dL_waive_29 hlocks
set_option maxRecDepth 20000 in
theorem cH_rule (l : Launch) (hlf : l.stackTraces = false) (D : va_G) (yI yO yL : ClassId) (z0 : Nat) (ad : Nat → Nat → Nat) {g : CS} {x1 : Int32} {x2 : Int32} {x3 : Int32} (o : Nat) (f : Nat → Int64) (sz : Nat) {rz : Int32} {gz : CS} (hI : yOK g) (h : fC_Court_rule g x1 x2 x3 = some (.inr (rz, gz))) : Met l yL_rule wsL_rule ({ frames := 8, cells := 20, slots := 7700, locals := 224 }) (va_Pc [.ref (ad 0 0), .int x1, .int x2, .int x3, .ref o] (hPre D yI yO yL z0 ad g o f sz)) (hQ D yI yO yL z0 ad gz o f 0 rz.toInt64 (hAd ad g sz o)) 20 7700 (hAd ad g sz o) := by
  refine lh_ofW (cc := cL_rule) (maxL := 6) (ret := some .int) (hh := [(0, 12, 15, 13), (0, 12, 19, 15)]) (by decide) rfl ?_
  intro p e s m args below meth c s₁ B hml htab hv
  obtain ⟨hv0, hw, hLK, hP, ho, hsz, hxs, hys, hns⟩ := hv
  subst hsz
  have hv1 : args = [.ref (ad 0 0), .int x1, .int x2, .int x3, .ref o].toArray := hv0
  subst hv1
  have hx := B.exec
  have hb := B.bytes
  have hr := B.returns
  have hts := atoms_spec (ws := wsL_rule) B.pre
  have hown : s.vm.findClass RL = some m.cls := findClass_of_methodNamed B.named
  have hlocks := B.notSynchronized
  have hK := hLK.c
  have hN := hN_start hw hP ho
  generalize hAe : hAd ad g s.heap.size o = A at hN hxs hys ⊢
  have hA : ∀ q, s.heap.size ≤ q → A q := fun q h => by rw [← hAe]; exact Or.inl (Or.inr h)
  have hl := lv_entry ([.ref (ad 0 0), .int x1, .int x2, .int x3, .ref o]) (n := 6) (Nat.le_of_ble_eq_true rfl)
  rw [lg_entry_eq]
  generalize (lg_sl ([.ref (ad 0 0), .int x1, .int x2, .int x3, .ref o]) ++ List.replicate (6 - (lg_sl ([.ref (ad 0 0), .int x1, .int x2, .int x3, .ref o])).length) Slot.unset).toArray = ls at hl ⊢
  have hl : lv_has ls 6 [(0, .ref (ad 0 0)), (1, .int x1), (2, .int x2), (3, .int x3), (4, .ref o)] := hl
  refine lv_aload hx hb dL_rule_0 (lv_at hl 4 rfl) ?_
  refine lv_iconst (v := 0) hx hb dL_rule_2 (by decide) ?_
  refine lv_aload_n hx hb dL_rule_3 rfl (lv_at hl 0 rfl) ?_
  refine lv_iload_n hx hb dL_rule_4 rfl (lv_at hl 1 rfl) ?_
  refine lv_iload_n hx hb dL_rule_5 rfl (lv_at hl 2 rfl) ?_
  refine lv_iload_n hx hb dL_rule_6 rfl (lv_at hl 3 rfl) ?_
  refine hg_callY (As := [.int x1, .int x2, .int x3]) (rest := [.int 0, .ref o]) ⟨hx, hb, hml, hown, hts⟩ (cC_Court_rule l D yI yO z0 ad s.heap.size hI h) (cwV 3 hts gL_rule_X8_rule rfl rfl rfl (by decide +kernel) ⟨Nat.le_of_ble_eq_true rfl, Nat.le_of_ble_eq_true rfl⟩) hys hK hN hA rfl hl.1 rfl (Nat.le_of_ble_eq_true rfl) dL_rule_7 ⟨Nat.le_of_ble_eq_true rfl, Nat.le_of_ble_eq_true rfl⟩ (fun ad1 H locs had hN => ?_)
  refine lv_i2l (v := rz.toInt64) hx hb dL_rule_10 rfl ?_
  refine hg_last hx hb hLK hN dL_rule_11 (fun f1 H locs hf1 hN => ?_)
  refine lv_goto (tgt := 23) hx hb dL_rule_12 (by decide) ?_
  refine lv_iconst (v := 0) hx hb dL_rule_23 (by decide) ?_
  refine W.widen (k := 20) (n := 7700) (Nat.le_of_ble_eq_true rfl) (Nat.le_of_ble_eq_true rfl) ?_
  exact W.iret (v := 0) hx hb hr (fun t ht hW => ⟨⟨0, (ad1, f1), rfl, ⟨rfl, hf1⟩, had, by rw [ht]; exact hN.1.1, va_K.moved hW.alike hLK, by rw [ht]; exact hN.2.1, hN.2.2.2 0 _ rfl, hN.1.2.1⟩, hN.1.2.2.F ht⟩) hN.1.2.2.2.2 dL_rule_24 hlocks
set_option maxRecDepth 20000 in
theorem cHx_rule_1 (l : Launch) (hlf : l.stackTraces = false) (D : va_G) (yI yO yL : ClassId) (z0 : Nat) (ad : Nat → Nat → Nat) {g : CS} {x1 : Int32} {x2 : Int32} {x3 : Int32} (o : Nat) (f : Nat → Int64) (sz : Nat) (h : fC_Court_rule g x1 x2 x3 = some (.inl 1)) : Met l yL_rule wsL_rule ({ frames := 8, cells := 1, slots := 6, locals := 224 }) (va_Pc [.ref (ad 0 0), .int x1, .int x2, .int x3, .ref o] (hPre D yI yO yL z0 ad g o f sz)) (hQ D yI yO yL z0 ad g o f 1 (f 0) (hAd ad g sz o)) 1 6 (hAd ad g sz o) := by
  refine lh_ofW (cc := cL_rule) (maxL := 6) (ret := some .int) (hh := [(0, 12, 15, 13), (0, 12, 19, 15)]) (by decide) rfl ?_
  intro p e s m args below meth c s₁ B hml htab hv
  obtain ⟨hv0, hw, hLK, hP, ho, hsz, hxs, hys, hns⟩ := hv
  subst hsz
  have hv1 : args = [.ref (ad 0 0), .int x1, .int x2, .int x3, .ref o].toArray := hv0
  subst hv1
  have hx := B.exec
  have hb := B.bytes
  have hr := B.returns
  have hts := atoms_spec (ws := wsL_rule) B.pre
  have hown : s.vm.findClass RL = some m.cls := findClass_of_methodNamed B.named
  have hlocks := B.notSynchronized
  have hK := hLK.c
  have hN := hN_start hw hP ho
  generalize hAe : hAd ad g s.heap.size o = A at hN hxs hys ⊢
  have hA : ∀ q, s.heap.size ≤ q → A q := fun q h => by rw [← hAe]; exact Or.inl (Or.inr h)
  have hl := lv_entry ([.ref (ad 0 0), .int x1, .int x2, .int x3, .ref o]) (n := 6) (Nat.le_of_ble_eq_true rfl)
  rw [lg_entry_eq]
  generalize (lg_sl ([.ref (ad 0 0), .int x1, .int x2, .int x3, .ref o]) ++ List.replicate (6 - (lg_sl ([.ref (ad 0 0), .int x1, .int x2, .int x3, .ref o])).length) Slot.unset).toArray = ls at hl ⊢
  have hl : lv_has ls 6 [(0, .ref (ad 0 0)), (1, .int x1), (2, .int x2), (3, .int x3), (4, .ref o)] := hl
  refine lv_aload hx hb dL_rule_0 (lv_at hl 4 rfl) ?_
  refine lv_iconst (v := 0) hx hb dL_rule_2 (by decide) ?_
  refine lv_aload_n hx hb dL_rule_3 rfl (lv_at hl 0 rfl) ?_
  refine lv_iload_n hx hb dL_rule_4 rfl (lv_at hl 1 rfl) ?_
  refine lv_iload_n hx hb dL_rule_5 rfl (lv_at hl 2 rfl) ?_
  refine lv_iload_n hx hb dL_rule_6 rfl (lv_at hl 3 rfl) ?_
  refine hg_callX (As := [.int x1, .int x2, .int x3]) (rest := [.int 0, .ref o]) ⟨hx, hb, hml, hown, hts⟩ (cX_Court_rule l hlf D yI yO z0 ad s.heap.size h) (cwV 3 hts gL_rule_X8_rule rfl rfl rfl (by decide +kernel) ⟨Nat.le_of_ble_eq_true rfl, Nat.le_of_ble_eq_true rfl⟩) hK hN hA hxs rfl hl.1 rfl (Nat.le_of_ble_eq_true rfl) dL_rule_7 ⟨Nat.le_of_ble_eq_true rfl, Nat.le_of_ble_eq_true rfl⟩ (fun ce q9 H locs hN h8 h9 h10 => ?_)
  refine vx_catch (own := RL) (name := "java/lang/IllegalArgumentException") (E := xE 1) hown [] ⟨0, 12, 15, 13⟩ [⟨0, 12, 19, 15⟩] (by rw [htab]; rfl) (fun z hz => absurd hz List.not_mem_nil) (by decide) (by decide) (hts (.classLink RL 13 "java/lang/IllegalArgumentException") (by decide +kernel)) (va_Nw.use (xB_on (.castable "java/lang/IllegalArgumentException" "java/lang/IllegalArgumentException") (by decide)) (hxs.2.2.2 (.castable "java/lang/IllegalArgumentException" "java/lang/IllegalArgumentException") (by decide))) h8 h9 h10 ?_
  refine W.eq (g2 := F0 m 15 ls [.ref q9]) rfl ?_
  refine lv_astore (lv' := [(5, .ref q9), (0, .ref (ad 0 0)), (1, .int x1), (2, .int x2), (3, .int x3), (4, .ref o)]) hx hb dL_rule_15 hl (by decide) rfl (fun ls hl => ?_)
  refine lv_iconst (v := 1) hx hb dL_rule_17 (by decide) ?_
  exact W.iret (v := 1) hx hb hr (fun t ht hW => ⟨⟨1, (ad, f), rfl, ⟨rfl, rfl⟩, rfl, by rw [ht]; exact hN.1.1, va_K.moved hW.alike hLK, by rw [ht]; exact hN.2.1, hN.2.2.2 0 _ rfl, hN.1.2.1⟩, hN.1.2.2.F ht⟩) hN.1.2.2.2.2 dL_rule_18 hlocks
set_option maxRecDepth 20000 in
theorem cHx_rule_2 (l : Launch) (hlf : l.stackTraces = false) (D : va_G) (yI yO yL : ClassId) (z0 : Nat) (ad : Nat → Nat → Nat) {g : CS} {x1 : Int32} {x2 : Int32} {x3 : Int32} (o : Nat) (f : Nat → Int64) (sz : Nat) (h : fC_Court_rule g x1 x2 x3 = some (.inl 2)) : Met l yL_rule wsL_rule ({ frames := 8, cells := 1, slots := 6, locals := 224 }) (va_Pc [.ref (ad 0 0), .int x1, .int x2, .int x3, .ref o] (hPre D yI yO yL z0 ad g o f sz)) (hQ D yI yO yL z0 ad g o f 2 (f 0) (hAd ad g sz o)) 1 6 (hAd ad g sz o) := by
  refine lh_ofW (cc := cL_rule) (maxL := 6) (ret := some .int) (hh := [(0, 12, 15, 13), (0, 12, 19, 15)]) (by decide) rfl ?_
  intro p e s m args below meth c s₁ B hml htab hv
  obtain ⟨hv0, hw, hLK, hP, ho, hsz, hxs, hys, hns⟩ := hv
  subst hsz
  have hv1 : args = [.ref (ad 0 0), .int x1, .int x2, .int x3, .ref o].toArray := hv0
  subst hv1
  have hx := B.exec
  have hb := B.bytes
  have hr := B.returns
  have hts := atoms_spec (ws := wsL_rule) B.pre
  have hown : s.vm.findClass RL = some m.cls := findClass_of_methodNamed B.named
  have hlocks := B.notSynchronized
  have hK := hLK.c
  have hN := hN_start hw hP ho
  generalize hAe : hAd ad g s.heap.size o = A at hN hxs hys ⊢
  have hA : ∀ q, s.heap.size ≤ q → A q := fun q h => by rw [← hAe]; exact Or.inl (Or.inr h)
  have hl := lv_entry ([.ref (ad 0 0), .int x1, .int x2, .int x3, .ref o]) (n := 6) (Nat.le_of_ble_eq_true rfl)
  rw [lg_entry_eq]
  generalize (lg_sl ([.ref (ad 0 0), .int x1, .int x2, .int x3, .ref o]) ++ List.replicate (6 - (lg_sl ([.ref (ad 0 0), .int x1, .int x2, .int x3, .ref o])).length) Slot.unset).toArray = ls at hl ⊢
  have hl : lv_has ls 6 [(0, .ref (ad 0 0)), (1, .int x1), (2, .int x2), (3, .int x3), (4, .ref o)] := hl
  refine lv_aload hx hb dL_rule_0 (lv_at hl 4 rfl) ?_
  refine lv_iconst (v := 0) hx hb dL_rule_2 (by decide) ?_
  refine lv_aload_n hx hb dL_rule_3 rfl (lv_at hl 0 rfl) ?_
  refine lv_iload_n hx hb dL_rule_4 rfl (lv_at hl 1 rfl) ?_
  refine lv_iload_n hx hb dL_rule_5 rfl (lv_at hl 2 rfl) ?_
  refine lv_iload_n hx hb dL_rule_6 rfl (lv_at hl 3 rfl) ?_
  refine hg_callX (As := [.int x1, .int x2, .int x3]) (rest := [.int 0, .ref o]) ⟨hx, hb, hml, hown, hts⟩ (cX_Court_rule l hlf D yI yO z0 ad s.heap.size h) (cwV 3 hts gL_rule_X8_rule rfl rfl rfl (by decide +kernel) ⟨Nat.le_of_ble_eq_true rfl, Nat.le_of_ble_eq_true rfl⟩) hK hN hA hxs rfl hl.1 rfl (Nat.le_of_ble_eq_true rfl) dL_rule_7 ⟨Nat.le_of_ble_eq_true rfl, Nat.le_of_ble_eq_true rfl⟩ (fun ce q9 H locs hN h8 h9 h10 => ?_)
  refine vx_catch (own := RL) (name := "java/lang/IllegalStateException") (E := xE 2) hown [⟨0, 12, 15, 13⟩] ⟨0, 12, 19, 15⟩ [] (by rw [htab]; rfl) (List.forall_mem_cons.mpr ⟨Or.inr ⟨by decide, "java/lang/IllegalArgumentException", hts (.classLink RL 13 "java/lang/IllegalArgumentException") (by decide +kernel), hns ("java/lang/IllegalStateException", "java/lang/IllegalArgumentException") (by decide)⟩, (fun z hz => absurd hz List.not_mem_nil)⟩) (by decide) (by decide) (hts (.classLink RL 15 "java/lang/IllegalStateException") (by decide +kernel)) (va_Nw.use (xB_on (.castable "java/lang/IllegalStateException" "java/lang/IllegalStateException") (by decide)) (hxs.2.2.2 (.castable "java/lang/IllegalStateException" "java/lang/IllegalStateException") (by decide))) h8 h9 h10 ?_
  refine W.eq (g2 := F0 m 19 ls [.ref q9]) rfl ?_
  refine lv_astore (lv' := [(5, .ref q9), (0, .ref (ad 0 0)), (1, .int x1), (2, .int x2), (3, .int x3), (4, .ref o)]) hx hb dL_rule_19 hl (by decide) rfl (fun ls hl => ?_)
  refine lv_iconst (v := 2) hx hb dL_rule_21 (by decide) ?_
  exact W.iret (v := 2) hx hb hr (fun t ht hW => ⟨⟨2, (ad, f), rfl, ⟨rfl, rfl⟩, rfl, by rw [ht]; exact hN.1.1, va_K.moved hW.alike hLK, by rw [ht]; exact hN.2.1, hN.2.2.2 0 _ rfl, hN.1.2.1⟩, hN.1.2.2.F ht⟩) hN.1.2.2.2.2 dL_rule_22 hlocks
set_option maxRecDepth 20000 in
theorem cH_person (l : Launch) (hlf : l.stackTraces = false) (D : va_G) (yI yO yL : ClassId) (z0 : Nat) (ad : Nat → Nat → Nat) {g : CS} {x1 : Int32} {x2 : Int32} (o : Nat) (f : Nat → Int64) (sz : Nat) {rz : Int32} {gz : CS} (hI : yOK g) (h : fC_Court_person g x1 x2 = some (.inr (rz, gz))) : Met l yL_person wsL_person ({ frames := 9, cells := 20, slots := 7700, locals := 249 }) (va_Pc [.ref (ad 0 0), .int x1, .int x2, .ref o] (hPre D yI yO yL z0 ad g o f sz)) (hQ D yI yO yL z0 ad gz o f 0 rz.toInt64 (hAd ad g sz o)) 20 7700 (hAd ad g sz o) := by
  refine lh_ofW (cc := cL_person) (maxL := 5) (ret := some .int) (hh := [(0, 10, 13, 21), (0, 10, 17, 13), (0, 10, 21, 15)]) (by decide) rfl ?_
  intro p e s m args below meth c s₁ B hml htab hv
  obtain ⟨hv0, hw, hLK, hP, ho, hsz, hxs, hys, hns⟩ := hv
  subst hsz
  have hv1 : args = [.ref (ad 0 0), .int x1, .int x2, .ref o].toArray := hv0
  subst hv1
  have hx := B.exec
  have hb := B.bytes
  have hr := B.returns
  have hts := atoms_spec (ws := wsL_person) B.pre
  have hown : s.vm.findClass RL = some m.cls := findClass_of_methodNamed B.named
  have hlocks := B.notSynchronized
  have hK := hLK.c
  have hN := hN_start hw hP ho
  generalize hAe : hAd ad g s.heap.size o = A at hN hxs hys ⊢
  have hA : ∀ q, s.heap.size ≤ q → A q := fun q h => by rw [← hAe]; exact Or.inl (Or.inr h)
  have hl := lv_entry ([.ref (ad 0 0), .int x1, .int x2, .ref o]) (n := 5) (Nat.le_of_ble_eq_true rfl)
  rw [lg_entry_eq]
  generalize (lg_sl ([.ref (ad 0 0), .int x1, .int x2, .ref o]) ++ List.replicate (5 - (lg_sl ([.ref (ad 0 0), .int x1, .int x2, .ref o])).length) Slot.unset).toArray = ls at hl ⊢
  have hl : lv_has ls 5 [(0, .ref (ad 0 0)), (1, .int x1), (2, .int x2), (3, .ref o)] := hl
  refine lv_aload_n hx hb dL_person_0 rfl (lv_at hl 3 rfl) ?_
  refine lv_iconst (v := 0) hx hb dL_person_1 (by decide) ?_
  refine lv_aload_n hx hb dL_person_2 rfl (lv_at hl 0 rfl) ?_
  refine lv_iload_n hx hb dL_person_3 rfl (lv_at hl 1 rfl) ?_
  refine lv_iload_n hx hb dL_person_4 rfl (lv_at hl 2 rfl) ?_
  refine hg_callY (As := [.int x1, .int x2]) (rest := [.int 0, .ref o]) ⟨hx, hb, hml, hown, hts⟩ (cC_Court_person l D yI yO z0 ad s.heap.size hI h) (cwV 2 hts gL_person_X8_person rfl rfl rfl (by decide +kernel) ⟨Nat.le_of_ble_eq_true rfl, Nat.le_of_ble_eq_true rfl⟩) hys hK hN hA rfl hl.1 rfl (Nat.le_of_ble_eq_true rfl) dL_person_5 ⟨Nat.le_of_ble_eq_true rfl, Nat.le_of_ble_eq_true rfl⟩ (fun ad1 H locs had hN => ?_)
  refine lv_i2l (v := rz.toInt64) hx hb dL_person_8 rfl ?_
  refine hg_last hx hb hLK hN dL_person_9 (fun f1 H locs hf1 hN => ?_)
  refine lv_goto (tgt := 25) hx hb dL_person_10 (by decide) ?_
  refine lv_iconst (v := 0) hx hb dL_person_25 (by decide) ?_
  refine W.widen (k := 20) (n := 7700) (Nat.le_of_ble_eq_true rfl) (Nat.le_of_ble_eq_true rfl) ?_
  exact W.iret (v := 0) hx hb hr (fun t ht hW => ⟨⟨0, (ad1, f1), rfl, ⟨rfl, hf1⟩, had, by rw [ht]; exact hN.1.1, va_K.moved hW.alike hLK, by rw [ht]; exact hN.2.1, hN.2.2.2 0 _ rfl, hN.1.2.1⟩, hN.1.2.2.F ht⟩) hN.1.2.2.2.2 dL_person_26 hlocks
set_option maxRecDepth 20000 in
theorem cHx_person_0 (l : Launch) (hlf : l.stackTraces = false) (D : va_G) (yI yO yL : ClassId) (z0 : Nat) (ad : Nat → Nat → Nat) {g : CS} {x1 : Int32} {x2 : Int32} (o : Nat) (f : Nat → Int64) (sz : Nat) (h : fC_Court_person g x1 x2 = some (.inl 0)) : Met l yL_person wsL_person ({ frames := 9, cells := 1, slots := 6, locals := 249 }) (va_Pc [.ref (ad 0 0), .int x1, .int x2, .ref o] (hPre D yI yO yL z0 ad g o f sz)) (hQ D yI yO yL z0 ad g o f 1 (f 0) (hAd ad g sz o)) 1 6 (hAd ad g sz o) := by
  refine lh_ofW (cc := cL_person) (maxL := 5) (ret := some .int) (hh := [(0, 10, 13, 21), (0, 10, 17, 13), (0, 10, 21, 15)]) (by decide) rfl ?_
  intro p e s m args below meth c s₁ B hml htab hv
  obtain ⟨hv0, hw, hLK, hP, ho, hsz, hxs, hys, hns⟩ := hv
  subst hsz
  have hv1 : args = [.ref (ad 0 0), .int x1, .int x2, .ref o].toArray := hv0
  subst hv1
  have hx := B.exec
  have hb := B.bytes
  have hr := B.returns
  have hts := atoms_spec (ws := wsL_person) B.pre
  have hown : s.vm.findClass RL = some m.cls := findClass_of_methodNamed B.named
  have hlocks := B.notSynchronized
  have hK := hLK.c
  have hN := hN_start hw hP ho
  generalize hAe : hAd ad g s.heap.size o = A at hN hxs hys ⊢
  have hA : ∀ q, s.heap.size ≤ q → A q := fun q h => by rw [← hAe]; exact Or.inl (Or.inr h)
  have hl := lv_entry ([.ref (ad 0 0), .int x1, .int x2, .ref o]) (n := 5) (Nat.le_of_ble_eq_true rfl)
  rw [lg_entry_eq]
  generalize (lg_sl ([.ref (ad 0 0), .int x1, .int x2, .ref o]) ++ List.replicate (5 - (lg_sl ([.ref (ad 0 0), .int x1, .int x2, .ref o])).length) Slot.unset).toArray = ls at hl ⊢
  have hl : lv_has ls 5 [(0, .ref (ad 0 0)), (1, .int x1), (2, .int x2), (3, .ref o)] := hl
  refine lv_aload_n hx hb dL_person_0 rfl (lv_at hl 3 rfl) ?_
  refine lv_iconst (v := 0) hx hb dL_person_1 (by decide) ?_
  refine lv_aload_n hx hb dL_person_2 rfl (lv_at hl 0 rfl) ?_
  refine lv_iload_n hx hb dL_person_3 rfl (lv_at hl 1 rfl) ?_
  refine lv_iload_n hx hb dL_person_4 rfl (lv_at hl 2 rfl) ?_
  refine hg_callX (As := [.int x1, .int x2]) (rest := [.int 0, .ref o]) ⟨hx, hb, hml, hown, hts⟩ (cX_Court_person l hlf D yI yO z0 ad s.heap.size h) (cwV 2 hts gL_person_X8_person rfl rfl rfl (by decide +kernel) ⟨Nat.le_of_ble_eq_true rfl, Nat.le_of_ble_eq_true rfl⟩) hK hN hA hxs rfl hl.1 rfl (Nat.le_of_ble_eq_true rfl) dL_person_5 ⟨Nat.le_of_ble_eq_true rfl, Nat.le_of_ble_eq_true rfl⟩ (fun ce q9 H locs hN h8 h9 h10 => ?_)
  refine vx_catch (own := RL) (name := "java/lang/IndexOutOfBoundsException") (E := xE 0) hown [] ⟨0, 10, 13, 21⟩ [⟨0, 10, 17, 13⟩, ⟨0, 10, 21, 15⟩] (by rw [htab]; rfl) (fun z hz => absurd hz List.not_mem_nil) (by decide) (by decide) (hts (.classLink RL 21 "java/lang/IndexOutOfBoundsException") (by decide +kernel)) (va_Nw.use (xB_on (.castable "java/lang/IndexOutOfBoundsException" "java/lang/IndexOutOfBoundsException") (by decide)) (hxs.2.2.2 (.castable "java/lang/IndexOutOfBoundsException" "java/lang/IndexOutOfBoundsException") (by decide))) h8 h9 h10 ?_
  refine W.eq (g2 := F0 m 13 ls [.ref q9]) rfl ?_
  refine lv_astore (lv' := [(4, .ref q9), (0, .ref (ad 0 0)), (1, .int x1), (2, .int x2), (3, .ref o)]) hx hb dL_person_13 hl (by decide) rfl (fun ls hl => ?_)
  refine lv_iconst (v := 1) hx hb dL_person_15 (by decide) ?_
  exact W.iret (v := 1) hx hb hr (fun t ht hW => ⟨⟨1, (ad, f), rfl, ⟨rfl, rfl⟩, rfl, by rw [ht]; exact hN.1.1, va_K.moved hW.alike hLK, by rw [ht]; exact hN.2.1, hN.2.2.2 0 _ rfl, hN.1.2.1⟩, hN.1.2.2.F ht⟩) hN.1.2.2.2.2 dL_person_16 hlocks
set_option maxRecDepth 20000 in
theorem cHx_person_1 (l : Launch) (hlf : l.stackTraces = false) (D : va_G) (yI yO yL : ClassId) (z0 : Nat) (ad : Nat → Nat → Nat) {g : CS} {x1 : Int32} {x2 : Int32} (o : Nat) (f : Nat → Int64) (sz : Nat) (h : fC_Court_person g x1 x2 = some (.inl 1)) : Met l yL_person wsL_person ({ frames := 9, cells := 1, slots := 6, locals := 249 }) (va_Pc [.ref (ad 0 0), .int x1, .int x2, .ref o] (hPre D yI yO yL z0 ad g o f sz)) (hQ D yI yO yL z0 ad g o f 2 (f 0) (hAd ad g sz o)) 1 6 (hAd ad g sz o) := by
  refine lh_ofW (cc := cL_person) (maxL := 5) (ret := some .int) (hh := [(0, 10, 13, 21), (0, 10, 17, 13), (0, 10, 21, 15)]) (by decide) rfl ?_
  intro p e s m args below meth c s₁ B hml htab hv
  obtain ⟨hv0, hw, hLK, hP, ho, hsz, hxs, hys, hns⟩ := hv
  subst hsz
  have hv1 : args = [.ref (ad 0 0), .int x1, .int x2, .ref o].toArray := hv0
  subst hv1
  have hx := B.exec
  have hb := B.bytes
  have hr := B.returns
  have hts := atoms_spec (ws := wsL_person) B.pre
  have hown : s.vm.findClass RL = some m.cls := findClass_of_methodNamed B.named
  have hlocks := B.notSynchronized
  have hK := hLK.c
  have hN := hN_start hw hP ho
  generalize hAe : hAd ad g s.heap.size o = A at hN hxs hys ⊢
  have hA : ∀ q, s.heap.size ≤ q → A q := fun q h => by rw [← hAe]; exact Or.inl (Or.inr h)
  have hl := lv_entry ([.ref (ad 0 0), .int x1, .int x2, .ref o]) (n := 5) (Nat.le_of_ble_eq_true rfl)
  rw [lg_entry_eq]
  generalize (lg_sl ([.ref (ad 0 0), .int x1, .int x2, .ref o]) ++ List.replicate (5 - (lg_sl ([.ref (ad 0 0), .int x1, .int x2, .ref o])).length) Slot.unset).toArray = ls at hl ⊢
  have hl : lv_has ls 5 [(0, .ref (ad 0 0)), (1, .int x1), (2, .int x2), (3, .ref o)] := hl
  refine lv_aload_n hx hb dL_person_0 rfl (lv_at hl 3 rfl) ?_
  refine lv_iconst (v := 0) hx hb dL_person_1 (by decide) ?_
  refine lv_aload_n hx hb dL_person_2 rfl (lv_at hl 0 rfl) ?_
  refine lv_iload_n hx hb dL_person_3 rfl (lv_at hl 1 rfl) ?_
  refine lv_iload_n hx hb dL_person_4 rfl (lv_at hl 2 rfl) ?_
  refine hg_callX (As := [.int x1, .int x2]) (rest := [.int 0, .ref o]) ⟨hx, hb, hml, hown, hts⟩ (cX_Court_person l hlf D yI yO z0 ad s.heap.size h) (cwV 2 hts gL_person_X8_person rfl rfl rfl (by decide +kernel) ⟨Nat.le_of_ble_eq_true rfl, Nat.le_of_ble_eq_true rfl⟩) hK hN hA hxs rfl hl.1 rfl (Nat.le_of_ble_eq_true rfl) dL_person_5 ⟨Nat.le_of_ble_eq_true rfl, Nat.le_of_ble_eq_true rfl⟩ (fun ce q9 H locs hN h8 h9 h10 => ?_)
  refine vx_catch (own := RL) (name := "java/lang/IllegalArgumentException") (E := xE 1) hown [⟨0, 10, 13, 21⟩] ⟨0, 10, 17, 13⟩ [⟨0, 10, 21, 15⟩] (by rw [htab]; rfl) (List.forall_mem_cons.mpr ⟨Or.inr ⟨by decide, "java/lang/IndexOutOfBoundsException", hts (.classLink RL 21 "java/lang/IndexOutOfBoundsException") (by decide +kernel), hns ("java/lang/IllegalArgumentException", "java/lang/IndexOutOfBoundsException") (by decide)⟩, (fun z hz => absurd hz List.not_mem_nil)⟩) (by decide) (by decide) (hts (.classLink RL 13 "java/lang/IllegalArgumentException") (by decide +kernel)) (va_Nw.use (xB_on (.castable "java/lang/IllegalArgumentException" "java/lang/IllegalArgumentException") (by decide)) (hxs.2.2.2 (.castable "java/lang/IllegalArgumentException" "java/lang/IllegalArgumentException") (by decide))) h8 h9 h10 ?_
  refine W.eq (g2 := F0 m 17 ls [.ref q9]) rfl ?_
  refine lv_astore (lv' := [(4, .ref q9), (0, .ref (ad 0 0)), (1, .int x1), (2, .int x2), (3, .ref o)]) hx hb dL_person_17 hl (by decide) rfl (fun ls hl => ?_)
  refine lv_iconst (v := 2) hx hb dL_person_19 (by decide) ?_
  exact W.iret (v := 2) hx hb hr (fun t ht hW => ⟨⟨2, (ad, f), rfl, ⟨rfl, rfl⟩, rfl, by rw [ht]; exact hN.1.1, va_K.moved hW.alike hLK, by rw [ht]; exact hN.2.1, hN.2.2.2 0 _ rfl, hN.1.2.1⟩, hN.1.2.2.F ht⟩) hN.1.2.2.2.2 dL_person_20 hlocks
set_option maxRecDepth 20000 in
theorem cHx_person_2 (l : Launch) (hlf : l.stackTraces = false) (D : va_G) (yI yO yL : ClassId) (z0 : Nat) (ad : Nat → Nat → Nat) {g : CS} {x1 : Int32} {x2 : Int32} (o : Nat) (f : Nat → Int64) (sz : Nat) (h : fC_Court_person g x1 x2 = some (.inl 2)) : Met l yL_person wsL_person ({ frames := 9, cells := 1, slots := 6, locals := 249 }) (va_Pc [.ref (ad 0 0), .int x1, .int x2, .ref o] (hPre D yI yO yL z0 ad g o f sz)) (hQ D yI yO yL z0 ad g o f 3 (f 0) (hAd ad g sz o)) 1 6 (hAd ad g sz o) := by
  refine lh_ofW (cc := cL_person) (maxL := 5) (ret := some .int) (hh := [(0, 10, 13, 21), (0, 10, 17, 13), (0, 10, 21, 15)]) (by decide) rfl ?_
  intro p e s m args below meth c s₁ B hml htab hv
  obtain ⟨hv0, hw, hLK, hP, ho, hsz, hxs, hys, hns⟩ := hv
  subst hsz
  have hv1 : args = [.ref (ad 0 0), .int x1, .int x2, .ref o].toArray := hv0
  subst hv1
  have hx := B.exec
  have hb := B.bytes
  have hr := B.returns
  have hts := atoms_spec (ws := wsL_person) B.pre
  have hown : s.vm.findClass RL = some m.cls := findClass_of_methodNamed B.named
  have hlocks := B.notSynchronized
  have hK := hLK.c
  have hN := hN_start hw hP ho
  generalize hAe : hAd ad g s.heap.size o = A at hN hxs hys ⊢
  have hA : ∀ q, s.heap.size ≤ q → A q := fun q h => by rw [← hAe]; exact Or.inl (Or.inr h)
  have hl := lv_entry ([.ref (ad 0 0), .int x1, .int x2, .ref o]) (n := 5) (Nat.le_of_ble_eq_true rfl)
  rw [lg_entry_eq]
  generalize (lg_sl ([.ref (ad 0 0), .int x1, .int x2, .ref o]) ++ List.replicate (5 - (lg_sl ([.ref (ad 0 0), .int x1, .int x2, .ref o])).length) Slot.unset).toArray = ls at hl ⊢
  have hl : lv_has ls 5 [(0, .ref (ad 0 0)), (1, .int x1), (2, .int x2), (3, .ref o)] := hl
  refine lv_aload_n hx hb dL_person_0 rfl (lv_at hl 3 rfl) ?_
  refine lv_iconst (v := 0) hx hb dL_person_1 (by decide) ?_
  refine lv_aload_n hx hb dL_person_2 rfl (lv_at hl 0 rfl) ?_
  refine lv_iload_n hx hb dL_person_3 rfl (lv_at hl 1 rfl) ?_
  refine lv_iload_n hx hb dL_person_4 rfl (lv_at hl 2 rfl) ?_
  refine hg_callX (As := [.int x1, .int x2]) (rest := [.int 0, .ref o]) ⟨hx, hb, hml, hown, hts⟩ (cX_Court_person l hlf D yI yO z0 ad s.heap.size h) (cwV 2 hts gL_person_X8_person rfl rfl rfl (by decide +kernel) ⟨Nat.le_of_ble_eq_true rfl, Nat.le_of_ble_eq_true rfl⟩) hK hN hA hxs rfl hl.1 rfl (Nat.le_of_ble_eq_true rfl) dL_person_5 ⟨Nat.le_of_ble_eq_true rfl, Nat.le_of_ble_eq_true rfl⟩ (fun ce q9 H locs hN h8 h9 h10 => ?_)
  refine vx_catch (own := RL) (name := "java/lang/IllegalStateException") (E := xE 2) hown [⟨0, 10, 13, 21⟩, ⟨0, 10, 17, 13⟩] ⟨0, 10, 21, 15⟩ [] (by rw [htab]; rfl) (List.forall_mem_cons.mpr ⟨Or.inr ⟨by decide, "java/lang/IndexOutOfBoundsException", hts (.classLink RL 21 "java/lang/IndexOutOfBoundsException") (by decide +kernel), hns ("java/lang/IllegalStateException", "java/lang/IndexOutOfBoundsException") (by decide)⟩, (List.forall_mem_cons.mpr ⟨Or.inr ⟨by decide, "java/lang/IllegalArgumentException", hts (.classLink RL 13 "java/lang/IllegalArgumentException") (by decide +kernel), hns ("java/lang/IllegalStateException", "java/lang/IllegalArgumentException") (by decide)⟩, (fun z hz => absurd hz List.not_mem_nil)⟩)⟩) (by decide) (by decide) (hts (.classLink RL 15 "java/lang/IllegalStateException") (by decide +kernel)) (va_Nw.use (xB_on (.castable "java/lang/IllegalStateException" "java/lang/IllegalStateException") (by decide)) (hxs.2.2.2 (.castable "java/lang/IllegalStateException" "java/lang/IllegalStateException") (by decide))) h8 h9 h10 ?_
  refine W.eq (g2 := F0 m 21 ls [.ref q9]) rfl ?_
  refine lv_astore (lv' := [(4, .ref q9), (0, .ref (ad 0 0)), (1, .int x1), (2, .int x2), (3, .ref o)]) hx hb dL_person_21 hl (by decide) rfl (fun ls hl => ?_)
  refine lv_iconst (v := 3) hx hb dL_person_23 (by decide) ?_
  exact W.iret (v := 3) hx hb hr (fun t ht hW => ⟨⟨3, (ad, f), rfl, ⟨rfl, rfl⟩, rfl, by rw [ht]; exact hN.1.1, va_K.moved hW.alike hLK, by rw [ht]; exact hN.2.1, hN.2.2.2 0 _ rfl, hN.1.2.1⟩, hN.1.2.2.F ht⟩) hN.1.2.2.2.2 dL_person_24 hlocks
set_option maxRecDepth 20000 in
theorem cH_birth (l : Launch) (hlf : l.stackTraces = false) (D : va_G) (yI yO yL : ClassId) (z0 : Nat) (ad : Nat → Nat → Nat) {g : CS} {x1 : Int32} {x2 : Int32} (o : Nat) (f : Nat → Int64) (sz : Nat) {rz : Int32} {gz : CS} (hI : yOK g) (h : fC_Court_birth g x1 x2 = some (.inr (rz, gz))) : Met l yL_birth wsL_birth ({ frames := 9, cells := 20, slots := 7700, locals := 252 }) (va_Pc [.ref (ad 0 0), .int x1, .int x2, .ref o] (hPre D yI yO yL z0 ad g o f sz)) (hQ D yI yO yL z0 ad gz o f 0 rz.toInt64 (hAd ad g sz o)) 20 7700 (hAd ad g sz o) := by
  refine lh_ofW (cc := cL_birth) (maxL := 5) (ret := some .int) (hh := [(0, 10, 13, 21), (0, 10, 17, 13), (0, 10, 21, 15)]) (by decide) rfl ?_
  intro p e s m args below meth c s₁ B hml htab hv
  obtain ⟨hv0, hw, hLK, hP, ho, hsz, hxs, hys, hns⟩ := hv
  subst hsz
  have hv1 : args = [.ref (ad 0 0), .int x1, .int x2, .ref o].toArray := hv0
  subst hv1
  have hx := B.exec
  have hb := B.bytes
  have hr := B.returns
  have hts := atoms_spec (ws := wsL_birth) B.pre
  have hown : s.vm.findClass RL = some m.cls := findClass_of_methodNamed B.named
  have hlocks := B.notSynchronized
  have hK := hLK.c
  have hN := hN_start hw hP ho
  generalize hAe : hAd ad g s.heap.size o = A at hN hxs hys ⊢
  have hA : ∀ q, s.heap.size ≤ q → A q := fun q h => by rw [← hAe]; exact Or.inl (Or.inr h)
  have hl := lv_entry ([.ref (ad 0 0), .int x1, .int x2, .ref o]) (n := 5) (Nat.le_of_ble_eq_true rfl)
  rw [lg_entry_eq]
  generalize (lg_sl ([.ref (ad 0 0), .int x1, .int x2, .ref o]) ++ List.replicate (5 - (lg_sl ([.ref (ad 0 0), .int x1, .int x2, .ref o])).length) Slot.unset).toArray = ls at hl ⊢
  have hl : lv_has ls 5 [(0, .ref (ad 0 0)), (1, .int x1), (2, .int x2), (3, .ref o)] := hl
  refine lv_aload_n hx hb dL_birth_0 rfl (lv_at hl 3 rfl) ?_
  refine lv_iconst (v := 0) hx hb dL_birth_1 (by decide) ?_
  refine lv_aload_n hx hb dL_birth_2 rfl (lv_at hl 0 rfl) ?_
  refine lv_iload_n hx hb dL_birth_3 rfl (lv_at hl 1 rfl) ?_
  refine lv_iload_n hx hb dL_birth_4 rfl (lv_at hl 2 rfl) ?_
  refine hg_callY (As := [.int x1, .int x2]) (rest := [.int 0, .ref o]) ⟨hx, hb, hml, hown, hts⟩ (cC_Court_birth l D yI yO z0 ad s.heap.size hI h) (cwV 2 hts gL_birth_X8_birth rfl rfl rfl (by decide +kernel) ⟨Nat.le_of_ble_eq_true rfl, Nat.le_of_ble_eq_true rfl⟩) hys hK hN hA rfl hl.1 rfl (Nat.le_of_ble_eq_true rfl) dL_birth_5 ⟨Nat.le_of_ble_eq_true rfl, Nat.le_of_ble_eq_true rfl⟩ (fun ad1 H locs had hN => ?_)
  refine lv_i2l (v := rz.toInt64) hx hb dL_birth_8 rfl ?_
  refine hg_last hx hb hLK hN dL_birth_9 (fun f1 H locs hf1 hN => ?_)
  refine lv_goto (tgt := 25) hx hb dL_birth_10 (by decide) ?_
  refine lv_iconst (v := 0) hx hb dL_birth_25 (by decide) ?_
  refine W.widen (k := 20) (n := 7700) (Nat.le_of_ble_eq_true rfl) (Nat.le_of_ble_eq_true rfl) ?_
  exact W.iret (v := 0) hx hb hr (fun t ht hW => ⟨⟨0, (ad1, f1), rfl, ⟨rfl, hf1⟩, had, by rw [ht]; exact hN.1.1, va_K.moved hW.alike hLK, by rw [ht]; exact hN.2.1, hN.2.2.2 0 _ rfl, hN.1.2.1⟩, hN.1.2.2.F ht⟩) hN.1.2.2.2.2 dL_birth_26 hlocks
set_option maxRecDepth 20000 in
theorem cHx_birth_0 (l : Launch) (hlf : l.stackTraces = false) (D : va_G) (yI yO yL : ClassId) (z0 : Nat) (ad : Nat → Nat → Nat) {g : CS} {x1 : Int32} {x2 : Int32} (o : Nat) (f : Nat → Int64) (sz : Nat) (h : fC_Court_birth g x1 x2 = some (.inl 0)) : Met l yL_birth wsL_birth ({ frames := 9, cells := 1, slots := 6, locals := 252 }) (va_Pc [.ref (ad 0 0), .int x1, .int x2, .ref o] (hPre D yI yO yL z0 ad g o f sz)) (hQ D yI yO yL z0 ad g o f 1 (f 0) (hAd ad g sz o)) 1 6 (hAd ad g sz o) := by
  refine lh_ofW (cc := cL_birth) (maxL := 5) (ret := some .int) (hh := [(0, 10, 13, 21), (0, 10, 17, 13), (0, 10, 21, 15)]) (by decide) rfl ?_
  intro p e s m args below meth c s₁ B hml htab hv
  obtain ⟨hv0, hw, hLK, hP, ho, hsz, hxs, hys, hns⟩ := hv
  subst hsz
  have hv1 : args = [.ref (ad 0 0), .int x1, .int x2, .ref o].toArray := hv0
  subst hv1
  have hx := B.exec
  have hb := B.bytes
  have hr := B.returns
  have hts := atoms_spec (ws := wsL_birth) B.pre
  have hown : s.vm.findClass RL = some m.cls := findClass_of_methodNamed B.named
  have hlocks := B.notSynchronized
  have hK := hLK.c
  have hN := hN_start hw hP ho
  generalize hAe : hAd ad g s.heap.size o = A at hN hxs hys ⊢
  have hA : ∀ q, s.heap.size ≤ q → A q := fun q h => by rw [← hAe]; exact Or.inl (Or.inr h)
  have hl := lv_entry ([.ref (ad 0 0), .int x1, .int x2, .ref o]) (n := 5) (Nat.le_of_ble_eq_true rfl)
  rw [lg_entry_eq]
  generalize (lg_sl ([.ref (ad 0 0), .int x1, .int x2, .ref o]) ++ List.replicate (5 - (lg_sl ([.ref (ad 0 0), .int x1, .int x2, .ref o])).length) Slot.unset).toArray = ls at hl ⊢
  have hl : lv_has ls 5 [(0, .ref (ad 0 0)), (1, .int x1), (2, .int x2), (3, .ref o)] := hl
  refine lv_aload_n hx hb dL_birth_0 rfl (lv_at hl 3 rfl) ?_
  refine lv_iconst (v := 0) hx hb dL_birth_1 (by decide) ?_
  refine lv_aload_n hx hb dL_birth_2 rfl (lv_at hl 0 rfl) ?_
  refine lv_iload_n hx hb dL_birth_3 rfl (lv_at hl 1 rfl) ?_
  refine lv_iload_n hx hb dL_birth_4 rfl (lv_at hl 2 rfl) ?_
  refine hg_callX (As := [.int x1, .int x2]) (rest := [.int 0, .ref o]) ⟨hx, hb, hml, hown, hts⟩ (cX_Court_birth l hlf D yI yO z0 ad s.heap.size h) (cwV 2 hts gL_birth_X8_birth rfl rfl rfl (by decide +kernel) ⟨Nat.le_of_ble_eq_true rfl, Nat.le_of_ble_eq_true rfl⟩) hK hN hA hxs rfl hl.1 rfl (Nat.le_of_ble_eq_true rfl) dL_birth_5 ⟨Nat.le_of_ble_eq_true rfl, Nat.le_of_ble_eq_true rfl⟩ (fun ce q9 H locs hN h8 h9 h10 => ?_)
  refine vx_catch (own := RL) (name := "java/lang/IndexOutOfBoundsException") (E := xE 0) hown [] ⟨0, 10, 13, 21⟩ [⟨0, 10, 17, 13⟩, ⟨0, 10, 21, 15⟩] (by rw [htab]; rfl) (fun z hz => absurd hz List.not_mem_nil) (by decide) (by decide) (hts (.classLink RL 21 "java/lang/IndexOutOfBoundsException") (by decide +kernel)) (va_Nw.use (xB_on (.castable "java/lang/IndexOutOfBoundsException" "java/lang/IndexOutOfBoundsException") (by decide)) (hxs.2.2.2 (.castable "java/lang/IndexOutOfBoundsException" "java/lang/IndexOutOfBoundsException") (by decide))) h8 h9 h10 ?_
  refine W.eq (g2 := F0 m 13 ls [.ref q9]) rfl ?_
  refine lv_astore (lv' := [(4, .ref q9), (0, .ref (ad 0 0)), (1, .int x1), (2, .int x2), (3, .ref o)]) hx hb dL_birth_13 hl (by decide) rfl (fun ls hl => ?_)
  refine lv_iconst (v := 1) hx hb dL_birth_15 (by decide) ?_
  exact W.iret (v := 1) hx hb hr (fun t ht hW => ⟨⟨1, (ad, f), rfl, ⟨rfl, rfl⟩, rfl, by rw [ht]; exact hN.1.1, va_K.moved hW.alike hLK, by rw [ht]; exact hN.2.1, hN.2.2.2 0 _ rfl, hN.1.2.1⟩, hN.1.2.2.F ht⟩) hN.1.2.2.2.2 dL_birth_16 hlocks
set_option maxRecDepth 20000 in
theorem cHx_birth_1 (l : Launch) (hlf : l.stackTraces = false) (D : va_G) (yI yO yL : ClassId) (z0 : Nat) (ad : Nat → Nat → Nat) {g : CS} {x1 : Int32} {x2 : Int32} (o : Nat) (f : Nat → Int64) (sz : Nat) (h : fC_Court_birth g x1 x2 = some (.inl 1)) : Met l yL_birth wsL_birth ({ frames := 9, cells := 1, slots := 6, locals := 252 }) (va_Pc [.ref (ad 0 0), .int x1, .int x2, .ref o] (hPre D yI yO yL z0 ad g o f sz)) (hQ D yI yO yL z0 ad g o f 2 (f 0) (hAd ad g sz o)) 1 6 (hAd ad g sz o) := by
  refine lh_ofW (cc := cL_birth) (maxL := 5) (ret := some .int) (hh := [(0, 10, 13, 21), (0, 10, 17, 13), (0, 10, 21, 15)]) (by decide) rfl ?_
  intro p e s m args below meth c s₁ B hml htab hv
  obtain ⟨hv0, hw, hLK, hP, ho, hsz, hxs, hys, hns⟩ := hv
  subst hsz
  have hv1 : args = [.ref (ad 0 0), .int x1, .int x2, .ref o].toArray := hv0
  subst hv1
  have hx := B.exec
  have hb := B.bytes
  have hr := B.returns
  have hts := atoms_spec (ws := wsL_birth) B.pre
  have hown : s.vm.findClass RL = some m.cls := findClass_of_methodNamed B.named
  have hlocks := B.notSynchronized
  have hK := hLK.c
  have hN := hN_start hw hP ho
  generalize hAe : hAd ad g s.heap.size o = A at hN hxs hys ⊢
  have hA : ∀ q, s.heap.size ≤ q → A q := fun q h => by rw [← hAe]; exact Or.inl (Or.inr h)
  have hl := lv_entry ([.ref (ad 0 0), .int x1, .int x2, .ref o]) (n := 5) (Nat.le_of_ble_eq_true rfl)
  rw [lg_entry_eq]
  generalize (lg_sl ([.ref (ad 0 0), .int x1, .int x2, .ref o]) ++ List.replicate (5 - (lg_sl ([.ref (ad 0 0), .int x1, .int x2, .ref o])).length) Slot.unset).toArray = ls at hl ⊢
  have hl : lv_has ls 5 [(0, .ref (ad 0 0)), (1, .int x1), (2, .int x2), (3, .ref o)] := hl
  refine lv_aload_n hx hb dL_birth_0 rfl (lv_at hl 3 rfl) ?_
  refine lv_iconst (v := 0) hx hb dL_birth_1 (by decide) ?_
  refine lv_aload_n hx hb dL_birth_2 rfl (lv_at hl 0 rfl) ?_
  refine lv_iload_n hx hb dL_birth_3 rfl (lv_at hl 1 rfl) ?_
  refine lv_iload_n hx hb dL_birth_4 rfl (lv_at hl 2 rfl) ?_
  refine hg_callX (As := [.int x1, .int x2]) (rest := [.int 0, .ref o]) ⟨hx, hb, hml, hown, hts⟩ (cX_Court_birth l hlf D yI yO z0 ad s.heap.size h) (cwV 2 hts gL_birth_X8_birth rfl rfl rfl (by decide +kernel) ⟨Nat.le_of_ble_eq_true rfl, Nat.le_of_ble_eq_true rfl⟩) hK hN hA hxs rfl hl.1 rfl (Nat.le_of_ble_eq_true rfl) dL_birth_5 ⟨Nat.le_of_ble_eq_true rfl, Nat.le_of_ble_eq_true rfl⟩ (fun ce q9 H locs hN h8 h9 h10 => ?_)
  refine vx_catch (own := RL) (name := "java/lang/IllegalArgumentException") (E := xE 1) hown [⟨0, 10, 13, 21⟩] ⟨0, 10, 17, 13⟩ [⟨0, 10, 21, 15⟩] (by rw [htab]; rfl) (List.forall_mem_cons.mpr ⟨Or.inr ⟨by decide, "java/lang/IndexOutOfBoundsException", hts (.classLink RL 21 "java/lang/IndexOutOfBoundsException") (by decide +kernel), hns ("java/lang/IllegalArgumentException", "java/lang/IndexOutOfBoundsException") (by decide)⟩, (fun z hz => absurd hz List.not_mem_nil)⟩) (by decide) (by decide) (hts (.classLink RL 13 "java/lang/IllegalArgumentException") (by decide +kernel)) (va_Nw.use (xB_on (.castable "java/lang/IllegalArgumentException" "java/lang/IllegalArgumentException") (by decide)) (hxs.2.2.2 (.castable "java/lang/IllegalArgumentException" "java/lang/IllegalArgumentException") (by decide))) h8 h9 h10 ?_
  refine W.eq (g2 := F0 m 17 ls [.ref q9]) rfl ?_
  refine lv_astore (lv' := [(4, .ref q9), (0, .ref (ad 0 0)), (1, .int x1), (2, .int x2), (3, .ref o)]) hx hb dL_birth_17 hl (by decide) rfl (fun ls hl => ?_)
  refine lv_iconst (v := 2) hx hb dL_birth_19 (by decide) ?_
  exact W.iret (v := 2) hx hb hr (fun t ht hW => ⟨⟨2, (ad, f), rfl, ⟨rfl, rfl⟩, rfl, by rw [ht]; exact hN.1.1, va_K.moved hW.alike hLK, by rw [ht]; exact hN.2.1, hN.2.2.2 0 _ rfl, hN.1.2.1⟩, hN.1.2.2.F ht⟩) hN.1.2.2.2.2 dL_birth_20 hlocks
set_option maxRecDepth 20000 in
theorem cHx_birth_2 (l : Launch) (hlf : l.stackTraces = false) (D : va_G) (yI yO yL : ClassId) (z0 : Nat) (ad : Nat → Nat → Nat) {g : CS} {x1 : Int32} {x2 : Int32} (o : Nat) (f : Nat → Int64) (sz : Nat) (h : fC_Court_birth g x1 x2 = some (.inl 2)) : Met l yL_birth wsL_birth ({ frames := 9, cells := 1, slots := 6, locals := 252 }) (va_Pc [.ref (ad 0 0), .int x1, .int x2, .ref o] (hPre D yI yO yL z0 ad g o f sz)) (hQ D yI yO yL z0 ad g o f 3 (f 0) (hAd ad g sz o)) 1 6 (hAd ad g sz o) := by
  refine lh_ofW (cc := cL_birth) (maxL := 5) (ret := some .int) (hh := [(0, 10, 13, 21), (0, 10, 17, 13), (0, 10, 21, 15)]) (by decide) rfl ?_
  intro p e s m args below meth c s₁ B hml htab hv
  obtain ⟨hv0, hw, hLK, hP, ho, hsz, hxs, hys, hns⟩ := hv
  subst hsz
  have hv1 : args = [.ref (ad 0 0), .int x1, .int x2, .ref o].toArray := hv0
  subst hv1
  have hx := B.exec
  have hb := B.bytes
  have hr := B.returns
  have hts := atoms_spec (ws := wsL_birth) B.pre
  have hown : s.vm.findClass RL = some m.cls := findClass_of_methodNamed B.named
  have hlocks := B.notSynchronized
  have hK := hLK.c
  have hN := hN_start hw hP ho
  generalize hAe : hAd ad g s.heap.size o = A at hN hxs hys ⊢
  have hA : ∀ q, s.heap.size ≤ q → A q := fun q h => by rw [← hAe]; exact Or.inl (Or.inr h)
  have hl := lv_entry ([.ref (ad 0 0), .int x1, .int x2, .ref o]) (n := 5) (Nat.le_of_ble_eq_true rfl)
  rw [lg_entry_eq]
  generalize (lg_sl ([.ref (ad 0 0), .int x1, .int x2, .ref o]) ++ List.replicate (5 - (lg_sl ([.ref (ad 0 0), .int x1, .int x2, .ref o])).length) Slot.unset).toArray = ls at hl ⊢
  have hl : lv_has ls 5 [(0, .ref (ad 0 0)), (1, .int x1), (2, .int x2), (3, .ref o)] := hl
  refine lv_aload_n hx hb dL_birth_0 rfl (lv_at hl 3 rfl) ?_
  refine lv_iconst (v := 0) hx hb dL_birth_1 (by decide) ?_
  refine lv_aload_n hx hb dL_birth_2 rfl (lv_at hl 0 rfl) ?_
  refine lv_iload_n hx hb dL_birth_3 rfl (lv_at hl 1 rfl) ?_
  refine lv_iload_n hx hb dL_birth_4 rfl (lv_at hl 2 rfl) ?_
  refine hg_callX (As := [.int x1, .int x2]) (rest := [.int 0, .ref o]) ⟨hx, hb, hml, hown, hts⟩ (cX_Court_birth l hlf D yI yO z0 ad s.heap.size h) (cwV 2 hts gL_birth_X8_birth rfl rfl rfl (by decide +kernel) ⟨Nat.le_of_ble_eq_true rfl, Nat.le_of_ble_eq_true rfl⟩) hK hN hA hxs rfl hl.1 rfl (Nat.le_of_ble_eq_true rfl) dL_birth_5 ⟨Nat.le_of_ble_eq_true rfl, Nat.le_of_ble_eq_true rfl⟩ (fun ce q9 H locs hN h8 h9 h10 => ?_)
  refine vx_catch (own := RL) (name := "java/lang/IllegalStateException") (E := xE 2) hown [⟨0, 10, 13, 21⟩, ⟨0, 10, 17, 13⟩] ⟨0, 10, 21, 15⟩ [] (by rw [htab]; rfl) (List.forall_mem_cons.mpr ⟨Or.inr ⟨by decide, "java/lang/IndexOutOfBoundsException", hts (.classLink RL 21 "java/lang/IndexOutOfBoundsException") (by decide +kernel), hns ("java/lang/IllegalStateException", "java/lang/IndexOutOfBoundsException") (by decide)⟩, (List.forall_mem_cons.mpr ⟨Or.inr ⟨by decide, "java/lang/IllegalArgumentException", hts (.classLink RL 13 "java/lang/IllegalArgumentException") (by decide +kernel), hns ("java/lang/IllegalStateException", "java/lang/IllegalArgumentException") (by decide)⟩, (fun z hz => absurd hz List.not_mem_nil)⟩)⟩) (by decide) (by decide) (hts (.classLink RL 15 "java/lang/IllegalStateException") (by decide +kernel)) (va_Nw.use (xB_on (.castable "java/lang/IllegalStateException" "java/lang/IllegalStateException") (by decide)) (hxs.2.2.2 (.castable "java/lang/IllegalStateException" "java/lang/IllegalStateException") (by decide))) h8 h9 h10 ?_
  refine W.eq (g2 := F0 m 21 ls [.ref q9]) rfl ?_
  refine lv_astore (lv' := [(4, .ref q9), (0, .ref (ad 0 0)), (1, .int x1), (2, .int x2), (3, .ref o)]) hx hb dL_birth_21 hl (by decide) rfl (fun ls hl => ?_)
  refine lv_iconst (v := 3) hx hb dL_birth_23 (by decide) ?_
  exact W.iret (v := 3) hx hb hr (fun t ht hW => ⟨⟨3, (ad, f), rfl, ⟨rfl, rfl⟩, rfl, by rw [ht]; exact hN.1.1, va_K.moved hW.alike hLK, by rw [ht]; exact hN.2.1, hN.2.2.2 0 _ rfl, hN.1.2.1⟩, hN.1.2.2.F ht⟩) hN.1.2.2.2.2 dL_birth_24 hlocks
set_option maxRecDepth 20000 in
theorem cH_nation (l : Launch) (hlf : l.stackTraces = false) (D : va_G) (yI yO yL : ClassId) (z0 : Nat) (ad : Nat → Nat → Nat) {g : CS} {x1 : Int32} {x2 : Int32} {x3 : Int32} (o : Nat) (f : Nat → Int64) (sz : Nat) {rz : Int32} {gz : CS} (h : fC_Court_nation g x1 x2 x3 = some (.inr (rz, gz))) : Met l yL_nation wsL_nation ({ frames := 8, cells := 0, slots := 0, locals := 136 }) (va_Pc [.ref (ad 0 0), .int x1, .int x2, .int x3, .ref o] (hPre D yI yO yL z0 ad g o f sz)) (hQ D yI yO yL z0 ad gz o f 0 rz.toInt64 (hAd ad g sz o)) 0 0 (hAd ad g sz o) := by
  refine lh_ofW (cc := cL_nation) (maxL := 6) (ret := some .int) (hh := [(0, 12, 15, 21)]) (by decide) rfl ?_
  intro p e s m args below meth c s₁ B hml htab hv
  obtain ⟨hv0, hw, hLK, hP, ho, hsz, hxs, hys, hns⟩ := hv
  subst hsz
  have hv1 : args = [.ref (ad 0 0), .int x1, .int x2, .int x3, .ref o].toArray := hv0
  subst hv1
  have hx := B.exec
  have hb := B.bytes
  have hr := B.returns
  have hts := atoms_spec (ws := wsL_nation) B.pre
  have hown : s.vm.findClass RL = some m.cls := findClass_of_methodNamed B.named
  have hlocks := B.notSynchronized
  have hK := hLK.c
  have hN := hN_start hw hP ho
  generalize hAe : hAd ad g s.heap.size o = A at hN hxs hys ⊢
  have hA : ∀ q, s.heap.size ≤ q → A q := fun q h => by rw [← hAe]; exact Or.inl (Or.inr h)
  have hl := lv_entry ([.ref (ad 0 0), .int x1, .int x2, .int x3, .ref o]) (n := 6) (Nat.le_of_ble_eq_true rfl)
  rw [lg_entry_eq]
  generalize (lg_sl ([.ref (ad 0 0), .int x1, .int x2, .int x3, .ref o]) ++ List.replicate (6 - (lg_sl ([.ref (ad 0 0), .int x1, .int x2, .int x3, .ref o])).length) Slot.unset).toArray = ls at hl ⊢
  have hl : lv_has ls 6 [(0, .ref (ad 0 0)), (1, .int x1), (2, .int x2), (3, .int x3), (4, .ref o)] := hl
  refine lv_aload hx hb dL_nation_0 (lv_at hl 4 rfl) ?_
  refine lv_iconst (v := 0) hx hb dL_nation_2 (by decide) ?_
  refine lv_aload_n hx hb dL_nation_3 rfl (lv_at hl 0 rfl) ?_
  refine lv_iload_n hx hb dL_nation_4 rfl (lv_at hl 1 rfl) ?_
  refine lv_iload_n hx hb dL_nation_5 rfl (lv_at hl 2 rfl) ?_
  refine lv_iload_n hx hb dL_nation_6 rfl (lv_at hl 3 rfl) ?_
  refine hg_callV (As := [.int x1, .int x2, .int x3]) (rest := [.int 0, .ref o]) ⟨hx, hb, hml, hown, hts⟩ (cC_Court_nation l D yI yO z0 ad h) (cwV 3 hts gL_nation_X8_nation rfl rfl rfl (by decide +kernel) ⟨Nat.le_of_ble_eq_true rfl, Nat.le_of_ble_eq_true rfl⟩) hK hN rfl hl.1 rfl (Nat.le_of_ble_eq_true rfl) dL_nation_7 ⟨Nat.le_of_ble_eq_true rfl, Nat.le_of_ble_eq_true rfl⟩ (fun H locs hN => ?_)
  have had : ad 0 0 = ad 0 0 := rfl
  refine lv_i2l (v := rz.toInt64) hx hb dL_nation_10 rfl ?_
  refine hg_last hx hb hLK hN dL_nation_11 (fun f1 H locs hf1 hN => ?_)
  refine lv_goto (tgt := 19) hx hb dL_nation_12 (by decide) ?_
  refine lv_iconst (v := 0) hx hb dL_nation_19 (by decide) ?_
  exact W.iret (v := 0) hx hb hr (fun t ht hW => ⟨⟨0, (ad, f1), rfl, ⟨rfl, hf1⟩, had, by rw [ht]; exact hN.1.1, va_K.moved hW.alike hLK, by rw [ht]; exact hN.2.1, hN.2.2.2 0 _ rfl, hN.1.2.1⟩, hN.1.2.2.F ht⟩) hN.1.2.2.2.2 dL_nation_20 hlocks
set_option maxRecDepth 20000 in
theorem cHx_nation_0 (l : Launch) (hlf : l.stackTraces = false) (D : va_G) (yI yO yL : ClassId) (z0 : Nat) (ad : Nat → Nat → Nat) {g : CS} {x1 : Int32} {x2 : Int32} {x3 : Int32} (o : Nat) (f : Nat → Int64) (sz : Nat) (h : fC_Court_nation g x1 x2 x3 = some (.inl 0)) : Met l yL_nation wsL_nation ({ frames := 8, cells := 1, slots := 6, locals := 136 }) (va_Pc [.ref (ad 0 0), .int x1, .int x2, .int x3, .ref o] (hPre D yI yO yL z0 ad g o f sz)) (hQ D yI yO yL z0 ad g o f 1 (f 0) (hAd ad g sz o)) 1 6 (hAd ad g sz o) := by
  refine lh_ofW (cc := cL_nation) (maxL := 6) (ret := some .int) (hh := [(0, 12, 15, 21)]) (by decide) rfl ?_
  intro p e s m args below meth c s₁ B hml htab hv
  obtain ⟨hv0, hw, hLK, hP, ho, hsz, hxs, hys, hns⟩ := hv
  subst hsz
  have hv1 : args = [.ref (ad 0 0), .int x1, .int x2, .int x3, .ref o].toArray := hv0
  subst hv1
  have hx := B.exec
  have hb := B.bytes
  have hr := B.returns
  have hts := atoms_spec (ws := wsL_nation) B.pre
  have hown : s.vm.findClass RL = some m.cls := findClass_of_methodNamed B.named
  have hlocks := B.notSynchronized
  have hK := hLK.c
  have hN := hN_start hw hP ho
  generalize hAe : hAd ad g s.heap.size o = A at hN hxs hys ⊢
  have hA : ∀ q, s.heap.size ≤ q → A q := fun q h => by rw [← hAe]; exact Or.inl (Or.inr h)
  have hl := lv_entry ([.ref (ad 0 0), .int x1, .int x2, .int x3, .ref o]) (n := 6) (Nat.le_of_ble_eq_true rfl)
  rw [lg_entry_eq]
  generalize (lg_sl ([.ref (ad 0 0), .int x1, .int x2, .int x3, .ref o]) ++ List.replicate (6 - (lg_sl ([.ref (ad 0 0), .int x1, .int x2, .int x3, .ref o])).length) Slot.unset).toArray = ls at hl ⊢
  have hl : lv_has ls 6 [(0, .ref (ad 0 0)), (1, .int x1), (2, .int x2), (3, .int x3), (4, .ref o)] := hl
  refine lv_aload hx hb dL_nation_0 (lv_at hl 4 rfl) ?_
  refine lv_iconst (v := 0) hx hb dL_nation_2 (by decide) ?_
  refine lv_aload_n hx hb dL_nation_3 rfl (lv_at hl 0 rfl) ?_
  refine lv_iload_n hx hb dL_nation_4 rfl (lv_at hl 1 rfl) ?_
  refine lv_iload_n hx hb dL_nation_5 rfl (lv_at hl 2 rfl) ?_
  refine lv_iload_n hx hb dL_nation_6 rfl (lv_at hl 3 rfl) ?_
  refine hg_callX (As := [.int x1, .int x2, .int x3]) (rest := [.int 0, .ref o]) ⟨hx, hb, hml, hown, hts⟩ (cX_Court_nation l hlf D yI yO z0 ad s.heap.size h) (cwV 3 hts gL_nation_X8_nation rfl rfl rfl (by decide +kernel) ⟨Nat.le_of_ble_eq_true rfl, Nat.le_of_ble_eq_true rfl⟩) hK hN hA hxs rfl hl.1 rfl (Nat.le_of_ble_eq_true rfl) dL_nation_7 ⟨Nat.le_of_ble_eq_true rfl, Nat.le_of_ble_eq_true rfl⟩ (fun ce q9 H locs hN h8 h9 h10 => ?_)
  refine vx_catch (own := RL) (name := "java/lang/IndexOutOfBoundsException") (E := xE 0) hown [] ⟨0, 12, 15, 21⟩ [] (by rw [htab]; rfl) (fun z hz => absurd hz List.not_mem_nil) (by decide) (by decide) (hts (.classLink RL 21 "java/lang/IndexOutOfBoundsException") (by decide +kernel)) (va_Nw.use (xB_on (.castable "java/lang/IndexOutOfBoundsException" "java/lang/IndexOutOfBoundsException") (by decide)) (hxs.2.2.2 (.castable "java/lang/IndexOutOfBoundsException" "java/lang/IndexOutOfBoundsException") (by decide))) h8 h9 h10 ?_
  refine W.eq (g2 := F0 m 15 ls [.ref q9]) rfl ?_
  refine lv_astore (lv' := [(5, .ref q9), (0, .ref (ad 0 0)), (1, .int x1), (2, .int x2), (3, .int x3), (4, .ref o)]) hx hb dL_nation_15 hl (by decide) rfl (fun ls hl => ?_)
  refine lv_iconst (v := 1) hx hb dL_nation_17 (by decide) ?_
  exact W.iret (v := 1) hx hb hr (fun t ht hW => ⟨⟨1, (ad, f), rfl, ⟨rfl, rfl⟩, rfl, by rw [ht]; exact hN.1.1, va_K.moved hW.alike hLK, by rw [ht]; exact hN.2.1, hN.2.2.2 0 _ rfl, hN.1.2.1⟩, hN.1.2.2.F ht⟩) hN.1.2.2.2.2 dL_nation_18 hlocks
set_option maxRecDepth 20000 in
theorem cH_visa (l : Launch) (hlf : l.stackTraces = false) (D : va_G) (yI yO yL : ClassId) (z0 : Nat) (ad : Nat → Nat → Nat) {g : CS} {x1 : Int32} {x2 : Int32} {x3 : Int32} {x4 : Int32} {x5 : Int32} {x6 : Int32} (o : Nat) (f : Nat → Int64) (sz : Nat) {rz : Int32} {gz : CS} (hI : yOK g) (h : fC_Court_visa g x1 x2 x3 x4 x5 x6 = some (.inr (rz, gz))) : Met l yL_visa wsL_visa ({ frames := 8, cells := 20, slots := 7700, locals := 230 }) (va_Pc [.ref (ad 0 0), .int x1, .int x2, .int x3, .int x4, .int x5, .int x6, .ref o] (hPre D yI yO yL z0 ad g o f sz)) (hQ D yI yO yL z0 ad gz o f 0 rz.toInt64 (hAd ad g sz o)) 20 7700 (hAd ad g sz o) := by
  refine lh_ofW (cc := cL_visa) (maxL := 9) (ret := some .int) (hh := [(0, 18, 21, 21), (0, 18, 25, 13), (0, 18, 29, 15)]) (by decide) rfl ?_
  intro p e s m args below meth c s₁ B hml htab hv
  obtain ⟨hv0, hw, hLK, hP, ho, hsz, hxs, hys, hns⟩ := hv
  subst hsz
  have hv1 : args = [.ref (ad 0 0), .int x1, .int x2, .int x3, .int x4, .int x5, .int x6, .ref o].toArray := hv0
  subst hv1
  have hx := B.exec
  have hb := B.bytes
  have hr := B.returns
  have hts := atoms_spec (ws := wsL_visa) B.pre
  have hown : s.vm.findClass RL = some m.cls := findClass_of_methodNamed B.named
  have hlocks := B.notSynchronized
  have hK := hLK.c
  have hN := hN_start hw hP ho
  generalize hAe : hAd ad g s.heap.size o = A at hN hxs hys ⊢
  have hA : ∀ q, s.heap.size ≤ q → A q := fun q h => by rw [← hAe]; exact Or.inl (Or.inr h)
  have hl := lv_entry ([.ref (ad 0 0), .int x1, .int x2, .int x3, .int x4, .int x5, .int x6, .ref o]) (n := 9) (Nat.le_of_ble_eq_true rfl)
  rw [lg_entry_eq]
  generalize (lg_sl ([.ref (ad 0 0), .int x1, .int x2, .int x3, .int x4, .int x5, .int x6, .ref o]) ++ List.replicate (9 - (lg_sl ([.ref (ad 0 0), .int x1, .int x2, .int x3, .int x4, .int x5, .int x6, .ref o])).length) Slot.unset).toArray = ls at hl ⊢
  have hl : lv_has ls 9 [(0, .ref (ad 0 0)), (1, .int x1), (2, .int x2), (3, .int x3), (4, .int x4), (5, .int x5), (6, .int x6), (7, .ref o)] := hl
  refine lv_aload hx hb dL_visa_0 (lv_at hl 7 rfl) ?_
  refine lv_iconst (v := 0) hx hb dL_visa_2 (by decide) ?_
  refine lv_aload_n hx hb dL_visa_3 rfl (lv_at hl 0 rfl) ?_
  refine lv_iload_n hx hb dL_visa_4 rfl (lv_at hl 1 rfl) ?_
  refine lv_iload_n hx hb dL_visa_5 rfl (lv_at hl 2 rfl) ?_
  refine lv_iload_n hx hb dL_visa_6 rfl (lv_at hl 3 rfl) ?_
  refine lv_iload hx hb dL_visa_7 (lv_at hl 4 rfl) ?_
  refine lv_iload hx hb dL_visa_9 (lv_at hl 5 rfl) ?_
  refine lv_iload hx hb dL_visa_11 (lv_at hl 6 rfl) ?_
  refine hg_callY (As := [.int x1, .int x2, .int x3, .int x4, .int x5, .int x6]) (rest := [.int 0, .ref o]) ⟨hx, hb, hml, hown, hts⟩ (cC_Court_visa l D yI yO z0 ad s.heap.size hI h) (cwV 6 hts gL_visa_X8_visa rfl rfl rfl (by decide +kernel) ⟨Nat.le_of_ble_eq_true rfl, Nat.le_of_ble_eq_true rfl⟩) hys hK hN hA rfl hl.1 rfl (Nat.le_of_ble_eq_true rfl) dL_visa_13 ⟨Nat.le_of_ble_eq_true rfl, Nat.le_of_ble_eq_true rfl⟩ (fun ad1 H locs had hN => ?_)
  refine lv_i2l (v := rz.toInt64) hx hb dL_visa_16 rfl ?_
  refine hg_last hx hb hLK hN dL_visa_17 (fun f1 H locs hf1 hN => ?_)
  refine lv_goto (tgt := 33) hx hb dL_visa_18 (by decide) ?_
  refine lv_iconst (v := 0) hx hb dL_visa_33 (by decide) ?_
  refine W.widen (k := 20) (n := 7700) (Nat.le_of_ble_eq_true rfl) (Nat.le_of_ble_eq_true rfl) ?_
  exact W.iret (v := 0) hx hb hr (fun t ht hW => ⟨⟨0, (ad1, f1), rfl, ⟨rfl, hf1⟩, had, by rw [ht]; exact hN.1.1, va_K.moved hW.alike hLK, by rw [ht]; exact hN.2.1, hN.2.2.2 0 _ rfl, hN.1.2.1⟩, hN.1.2.2.F ht⟩) hN.1.2.2.2.2 dL_visa_34 hlocks
set_option maxRecDepth 20000 in
theorem cHx_visa_0 (l : Launch) (hlf : l.stackTraces = false) (D : va_G) (yI yO yL : ClassId) (z0 : Nat) (ad : Nat → Nat → Nat) {g : CS} {x1 : Int32} {x2 : Int32} {x3 : Int32} {x4 : Int32} {x5 : Int32} {x6 : Int32} (o : Nat) (f : Nat → Int64) (sz : Nat) (h : fC_Court_visa g x1 x2 x3 x4 x5 x6 = some (.inl 0)) : Met l yL_visa wsL_visa ({ frames := 8, cells := 1, slots := 6, locals := 230 }) (va_Pc [.ref (ad 0 0), .int x1, .int x2, .int x3, .int x4, .int x5, .int x6, .ref o] (hPre D yI yO yL z0 ad g o f sz)) (hQ D yI yO yL z0 ad g o f 1 (f 0) (hAd ad g sz o)) 1 6 (hAd ad g sz o) := by
  refine lh_ofW (cc := cL_visa) (maxL := 9) (ret := some .int) (hh := [(0, 18, 21, 21), (0, 18, 25, 13), (0, 18, 29, 15)]) (by decide) rfl ?_
  intro p e s m args below meth c s₁ B hml htab hv
  obtain ⟨hv0, hw, hLK, hP, ho, hsz, hxs, hys, hns⟩ := hv
  subst hsz
  have hv1 : args = [.ref (ad 0 0), .int x1, .int x2, .int x3, .int x4, .int x5, .int x6, .ref o].toArray := hv0
  subst hv1
  have hx := B.exec
  have hb := B.bytes
  have hr := B.returns
  have hts := atoms_spec (ws := wsL_visa) B.pre
  have hown : s.vm.findClass RL = some m.cls := findClass_of_methodNamed B.named
  have hlocks := B.notSynchronized
  have hK := hLK.c
  have hN := hN_start hw hP ho
  generalize hAe : hAd ad g s.heap.size o = A at hN hxs hys ⊢
  have hA : ∀ q, s.heap.size ≤ q → A q := fun q h => by rw [← hAe]; exact Or.inl (Or.inr h)
  have hl := lv_entry ([.ref (ad 0 0), .int x1, .int x2, .int x3, .int x4, .int x5, .int x6, .ref o]) (n := 9) (Nat.le_of_ble_eq_true rfl)
  rw [lg_entry_eq]
  generalize (lg_sl ([.ref (ad 0 0), .int x1, .int x2, .int x3, .int x4, .int x5, .int x6, .ref o]) ++ List.replicate (9 - (lg_sl ([.ref (ad 0 0), .int x1, .int x2, .int x3, .int x4, .int x5, .int x6, .ref o])).length) Slot.unset).toArray = ls at hl ⊢
  have hl : lv_has ls 9 [(0, .ref (ad 0 0)), (1, .int x1), (2, .int x2), (3, .int x3), (4, .int x4), (5, .int x5), (6, .int x6), (7, .ref o)] := hl
  refine lv_aload hx hb dL_visa_0 (lv_at hl 7 rfl) ?_
  refine lv_iconst (v := 0) hx hb dL_visa_2 (by decide) ?_
  refine lv_aload_n hx hb dL_visa_3 rfl (lv_at hl 0 rfl) ?_
  refine lv_iload_n hx hb dL_visa_4 rfl (lv_at hl 1 rfl) ?_
  refine lv_iload_n hx hb dL_visa_5 rfl (lv_at hl 2 rfl) ?_
  refine lv_iload_n hx hb dL_visa_6 rfl (lv_at hl 3 rfl) ?_
  refine lv_iload hx hb dL_visa_7 (lv_at hl 4 rfl) ?_
  refine lv_iload hx hb dL_visa_9 (lv_at hl 5 rfl) ?_
  refine lv_iload hx hb dL_visa_11 (lv_at hl 6 rfl) ?_
  refine hg_callX (As := [.int x1, .int x2, .int x3, .int x4, .int x5, .int x6]) (rest := [.int 0, .ref o]) ⟨hx, hb, hml, hown, hts⟩ (cX_Court_visa l hlf D yI yO z0 ad s.heap.size h) (cwV 6 hts gL_visa_X8_visa rfl rfl rfl (by decide +kernel) ⟨Nat.le_of_ble_eq_true rfl, Nat.le_of_ble_eq_true rfl⟩) hK hN hA hxs rfl hl.1 rfl (Nat.le_of_ble_eq_true rfl) dL_visa_13 ⟨Nat.le_of_ble_eq_true rfl, Nat.le_of_ble_eq_true rfl⟩ (fun ce q9 H locs hN h8 h9 h10 => ?_)
  refine vx_catch (own := RL) (name := "java/lang/IndexOutOfBoundsException") (E := xE 0) hown [] ⟨0, 18, 21, 21⟩ [⟨0, 18, 25, 13⟩, ⟨0, 18, 29, 15⟩] (by rw [htab]; rfl) (fun z hz => absurd hz List.not_mem_nil) (by decide) (by decide) (hts (.classLink RL 21 "java/lang/IndexOutOfBoundsException") (by decide +kernel)) (va_Nw.use (xB_on (.castable "java/lang/IndexOutOfBoundsException" "java/lang/IndexOutOfBoundsException") (by decide)) (hxs.2.2.2 (.castable "java/lang/IndexOutOfBoundsException" "java/lang/IndexOutOfBoundsException") (by decide))) h8 h9 h10 ?_
  refine W.eq (g2 := F0 m 21 ls [.ref q9]) rfl ?_
  refine lv_astore (lv' := [(8, .ref q9), (0, .ref (ad 0 0)), (1, .int x1), (2, .int x2), (3, .int x3), (4, .int x4), (5, .int x5), (6, .int x6), (7, .ref o)]) hx hb dL_visa_21 hl (by decide) rfl (fun ls hl => ?_)
  refine lv_iconst (v := 1) hx hb dL_visa_23 (by decide) ?_
  exact W.iret (v := 1) hx hb hr (fun t ht hW => ⟨⟨1, (ad, f), rfl, ⟨rfl, rfl⟩, rfl, by rw [ht]; exact hN.1.1, va_K.moved hW.alike hLK, by rw [ht]; exact hN.2.1, hN.2.2.2 0 _ rfl, hN.1.2.1⟩, hN.1.2.2.F ht⟩) hN.1.2.2.2.2 dL_visa_24 hlocks
set_option maxRecDepth 20000 in
theorem cHx_visa_1 (l : Launch) (hlf : l.stackTraces = false) (D : va_G) (yI yO yL : ClassId) (z0 : Nat) (ad : Nat → Nat → Nat) {g : CS} {x1 : Int32} {x2 : Int32} {x3 : Int32} {x4 : Int32} {x5 : Int32} {x6 : Int32} (o : Nat) (f : Nat → Int64) (sz : Nat) (h : fC_Court_visa g x1 x2 x3 x4 x5 x6 = some (.inl 1)) : Met l yL_visa wsL_visa ({ frames := 8, cells := 1, slots := 6, locals := 230 }) (va_Pc [.ref (ad 0 0), .int x1, .int x2, .int x3, .int x4, .int x5, .int x6, .ref o] (hPre D yI yO yL z0 ad g o f sz)) (hQ D yI yO yL z0 ad g o f 2 (f 0) (hAd ad g sz o)) 1 6 (hAd ad g sz o) := by
  refine lh_ofW (cc := cL_visa) (maxL := 9) (ret := some .int) (hh := [(0, 18, 21, 21), (0, 18, 25, 13), (0, 18, 29, 15)]) (by decide) rfl ?_
  intro p e s m args below meth c s₁ B hml htab hv
  obtain ⟨hv0, hw, hLK, hP, ho, hsz, hxs, hys, hns⟩ := hv
  subst hsz
  have hv1 : args = [.ref (ad 0 0), .int x1, .int x2, .int x3, .int x4, .int x5, .int x6, .ref o].toArray := hv0
  subst hv1
  have hx := B.exec
  have hb := B.bytes
  have hr := B.returns
  have hts := atoms_spec (ws := wsL_visa) B.pre
  have hown : s.vm.findClass RL = some m.cls := findClass_of_methodNamed B.named
  have hlocks := B.notSynchronized
  have hK := hLK.c
  have hN := hN_start hw hP ho
  generalize hAe : hAd ad g s.heap.size o = A at hN hxs hys ⊢
  have hA : ∀ q, s.heap.size ≤ q → A q := fun q h => by rw [← hAe]; exact Or.inl (Or.inr h)
  have hl := lv_entry ([.ref (ad 0 0), .int x1, .int x2, .int x3, .int x4, .int x5, .int x6, .ref o]) (n := 9) (Nat.le_of_ble_eq_true rfl)
  rw [lg_entry_eq]
  generalize (lg_sl ([.ref (ad 0 0), .int x1, .int x2, .int x3, .int x4, .int x5, .int x6, .ref o]) ++ List.replicate (9 - (lg_sl ([.ref (ad 0 0), .int x1, .int x2, .int x3, .int x4, .int x5, .int x6, .ref o])).length) Slot.unset).toArray = ls at hl ⊢
  have hl : lv_has ls 9 [(0, .ref (ad 0 0)), (1, .int x1), (2, .int x2), (3, .int x3), (4, .int x4), (5, .int x5), (6, .int x6), (7, .ref o)] := hl
  refine lv_aload hx hb dL_visa_0 (lv_at hl 7 rfl) ?_
  refine lv_iconst (v := 0) hx hb dL_visa_2 (by decide) ?_
  refine lv_aload_n hx hb dL_visa_3 rfl (lv_at hl 0 rfl) ?_
  refine lv_iload_n hx hb dL_visa_4 rfl (lv_at hl 1 rfl) ?_
  refine lv_iload_n hx hb dL_visa_5 rfl (lv_at hl 2 rfl) ?_
  refine lv_iload_n hx hb dL_visa_6 rfl (lv_at hl 3 rfl) ?_
  refine lv_iload hx hb dL_visa_7 (lv_at hl 4 rfl) ?_
  refine lv_iload hx hb dL_visa_9 (lv_at hl 5 rfl) ?_
  refine lv_iload hx hb dL_visa_11 (lv_at hl 6 rfl) ?_
  refine hg_callX (As := [.int x1, .int x2, .int x3, .int x4, .int x5, .int x6]) (rest := [.int 0, .ref o]) ⟨hx, hb, hml, hown, hts⟩ (cX_Court_visa l hlf D yI yO z0 ad s.heap.size h) (cwV 6 hts gL_visa_X8_visa rfl rfl rfl (by decide +kernel) ⟨Nat.le_of_ble_eq_true rfl, Nat.le_of_ble_eq_true rfl⟩) hK hN hA hxs rfl hl.1 rfl (Nat.le_of_ble_eq_true rfl) dL_visa_13 ⟨Nat.le_of_ble_eq_true rfl, Nat.le_of_ble_eq_true rfl⟩ (fun ce q9 H locs hN h8 h9 h10 => ?_)
  refine vx_catch (own := RL) (name := "java/lang/IllegalArgumentException") (E := xE 1) hown [⟨0, 18, 21, 21⟩] ⟨0, 18, 25, 13⟩ [⟨0, 18, 29, 15⟩] (by rw [htab]; rfl) (List.forall_mem_cons.mpr ⟨Or.inr ⟨by decide, "java/lang/IndexOutOfBoundsException", hts (.classLink RL 21 "java/lang/IndexOutOfBoundsException") (by decide +kernel), hns ("java/lang/IllegalArgumentException", "java/lang/IndexOutOfBoundsException") (by decide)⟩, (fun z hz => absurd hz List.not_mem_nil)⟩) (by decide) (by decide) (hts (.classLink RL 13 "java/lang/IllegalArgumentException") (by decide +kernel)) (va_Nw.use (xB_on (.castable "java/lang/IllegalArgumentException" "java/lang/IllegalArgumentException") (by decide)) (hxs.2.2.2 (.castable "java/lang/IllegalArgumentException" "java/lang/IllegalArgumentException") (by decide))) h8 h9 h10 ?_
  refine W.eq (g2 := F0 m 25 ls [.ref q9]) rfl ?_
  refine lv_astore (lv' := [(8, .ref q9), (0, .ref (ad 0 0)), (1, .int x1), (2, .int x2), (3, .int x3), (4, .int x4), (5, .int x5), (6, .int x6), (7, .ref o)]) hx hb dL_visa_25 hl (by decide) rfl (fun ls hl => ?_)
  refine lv_iconst (v := 2) hx hb dL_visa_27 (by decide) ?_
  exact W.iret (v := 2) hx hb hr (fun t ht hW => ⟨⟨2, (ad, f), rfl, ⟨rfl, rfl⟩, rfl, by rw [ht]; exact hN.1.1, va_K.moved hW.alike hLK, by rw [ht]; exact hN.2.1, hN.2.2.2 0 _ rfl, hN.1.2.1⟩, hN.1.2.2.F ht⟩) hN.1.2.2.2.2 dL_visa_28 hlocks
set_option maxRecDepth 20000 in
theorem cHx_visa_2 (l : Launch) (hlf : l.stackTraces = false) (D : va_G) (yI yO yL : ClassId) (z0 : Nat) (ad : Nat → Nat → Nat) {g : CS} {x1 : Int32} {x2 : Int32} {x3 : Int32} {x4 : Int32} {x5 : Int32} {x6 : Int32} (o : Nat) (f : Nat → Int64) (sz : Nat) (h : fC_Court_visa g x1 x2 x3 x4 x5 x6 = some (.inl 2)) : Met l yL_visa wsL_visa ({ frames := 8, cells := 1, slots := 6, locals := 230 }) (va_Pc [.ref (ad 0 0), .int x1, .int x2, .int x3, .int x4, .int x5, .int x6, .ref o] (hPre D yI yO yL z0 ad g o f sz)) (hQ D yI yO yL z0 ad g o f 3 (f 0) (hAd ad g sz o)) 1 6 (hAd ad g sz o) := by
  refine lh_ofW (cc := cL_visa) (maxL := 9) (ret := some .int) (hh := [(0, 18, 21, 21), (0, 18, 25, 13), (0, 18, 29, 15)]) (by decide) rfl ?_
  intro p e s m args below meth c s₁ B hml htab hv
  obtain ⟨hv0, hw, hLK, hP, ho, hsz, hxs, hys, hns⟩ := hv
  subst hsz
  have hv1 : args = [.ref (ad 0 0), .int x1, .int x2, .int x3, .int x4, .int x5, .int x6, .ref o].toArray := hv0
  subst hv1
  have hx := B.exec
  have hb := B.bytes
  have hr := B.returns
  have hts := atoms_spec (ws := wsL_visa) B.pre
  have hown : s.vm.findClass RL = some m.cls := findClass_of_methodNamed B.named
  have hlocks := B.notSynchronized
  have hK := hLK.c
  have hN := hN_start hw hP ho
  generalize hAe : hAd ad g s.heap.size o = A at hN hxs hys ⊢
  have hA : ∀ q, s.heap.size ≤ q → A q := fun q h => by rw [← hAe]; exact Or.inl (Or.inr h)
  have hl := lv_entry ([.ref (ad 0 0), .int x1, .int x2, .int x3, .int x4, .int x5, .int x6, .ref o]) (n := 9) (Nat.le_of_ble_eq_true rfl)
  rw [lg_entry_eq]
  generalize (lg_sl ([.ref (ad 0 0), .int x1, .int x2, .int x3, .int x4, .int x5, .int x6, .ref o]) ++ List.replicate (9 - (lg_sl ([.ref (ad 0 0), .int x1, .int x2, .int x3, .int x4, .int x5, .int x6, .ref o])).length) Slot.unset).toArray = ls at hl ⊢
  have hl : lv_has ls 9 [(0, .ref (ad 0 0)), (1, .int x1), (2, .int x2), (3, .int x3), (4, .int x4), (5, .int x5), (6, .int x6), (7, .ref o)] := hl
  refine lv_aload hx hb dL_visa_0 (lv_at hl 7 rfl) ?_
  refine lv_iconst (v := 0) hx hb dL_visa_2 (by decide) ?_
  refine lv_aload_n hx hb dL_visa_3 rfl (lv_at hl 0 rfl) ?_
  refine lv_iload_n hx hb dL_visa_4 rfl (lv_at hl 1 rfl) ?_
  refine lv_iload_n hx hb dL_visa_5 rfl (lv_at hl 2 rfl) ?_
  refine lv_iload_n hx hb dL_visa_6 rfl (lv_at hl 3 rfl) ?_
  refine lv_iload hx hb dL_visa_7 (lv_at hl 4 rfl) ?_
  refine lv_iload hx hb dL_visa_9 (lv_at hl 5 rfl) ?_
  refine lv_iload hx hb dL_visa_11 (lv_at hl 6 rfl) ?_
  refine hg_callX (As := [.int x1, .int x2, .int x3, .int x4, .int x5, .int x6]) (rest := [.int 0, .ref o]) ⟨hx, hb, hml, hown, hts⟩ (cX_Court_visa l hlf D yI yO z0 ad s.heap.size h) (cwV 6 hts gL_visa_X8_visa rfl rfl rfl (by decide +kernel) ⟨Nat.le_of_ble_eq_true rfl, Nat.le_of_ble_eq_true rfl⟩) hK hN hA hxs rfl hl.1 rfl (Nat.le_of_ble_eq_true rfl) dL_visa_13 ⟨Nat.le_of_ble_eq_true rfl, Nat.le_of_ble_eq_true rfl⟩ (fun ce q9 H locs hN h8 h9 h10 => ?_)
  refine vx_catch (own := RL) (name := "java/lang/IllegalStateException") (E := xE 2) hown [⟨0, 18, 21, 21⟩, ⟨0, 18, 25, 13⟩] ⟨0, 18, 29, 15⟩ [] (by rw [htab]; rfl) (List.forall_mem_cons.mpr ⟨Or.inr ⟨by decide, "java/lang/IndexOutOfBoundsException", hts (.classLink RL 21 "java/lang/IndexOutOfBoundsException") (by decide +kernel), hns ("java/lang/IllegalStateException", "java/lang/IndexOutOfBoundsException") (by decide)⟩, (List.forall_mem_cons.mpr ⟨Or.inr ⟨by decide, "java/lang/IllegalArgumentException", hts (.classLink RL 13 "java/lang/IllegalArgumentException") (by decide +kernel), hns ("java/lang/IllegalStateException", "java/lang/IllegalArgumentException") (by decide)⟩, (fun z hz => absurd hz List.not_mem_nil)⟩)⟩) (by decide) (by decide) (hts (.classLink RL 15 "java/lang/IllegalStateException") (by decide +kernel)) (va_Nw.use (xB_on (.castable "java/lang/IllegalStateException" "java/lang/IllegalStateException") (by decide)) (hxs.2.2.2 (.castable "java/lang/IllegalStateException" "java/lang/IllegalStateException") (by decide))) h8 h9 h10 ?_
  refine W.eq (g2 := F0 m 29 ls [.ref q9]) rfl ?_
  refine lv_astore (lv' := [(8, .ref q9), (0, .ref (ad 0 0)), (1, .int x1), (2, .int x2), (3, .int x3), (4, .int x4), (5, .int x5), (6, .int x6), (7, .ref o)]) hx hb dL_visa_29 hl (by decide) rfl (fun ls hl => ?_)
  refine lv_iconst (v := 3) hx hb dL_visa_31 (by decide) ?_
  exact W.iret (v := 3) hx hb hr (fun t ht hW => ⟨⟨3, (ad, f), rfl, ⟨rfl, rfl⟩, rfl, by rw [ht]; exact hN.1.1, va_K.moved hW.alike hLK, by rw [ht]; exact hN.2.1, hN.2.2.2 0 _ rfl, hN.1.2.1⟩, hN.1.2.2.F ht⟩) hN.1.2.2.2.2 dL_visa_32 hlocks
set_option maxRecDepth 20000 in
theorem cH_enter (l : Launch) (hlf : l.stackTraces = false) (D : va_G) (yI yO yL : ClassId) (z0 : Nat) (ad : Nat → Nat → Nat) {g : CS} {x1 : Int32} {x2 : Int32} (o : Nat) (f : Nat → Int64) (sz : Nat) {rz : Int32} {gz : CS} (h : fC_Court_enter g x1 x2 = some (.inr (rz, gz))) : Met l yL_enter wsL_enter ({ frames := 9, cells := 0, slots := 0, locals := 207 }) (va_Pc [.ref (ad 0 0), .int x1, .int x2, .ref o] (hPre D yI yO yL z0 ad g o f sz)) (hQ D yI yO yL z0 ad gz o f 0 rz.toInt64 (hAd ad g sz o)) 0 0 (hAd ad g sz o) := by
  refine lh_ofW (cc := cL_enter) (maxL := 5) (ret := some .int) (hh := [(0, 10, 13, 21), (0, 10, 17, 15)]) (by decide) rfl ?_
  intro p e s m args below meth c s₁ B hml htab hv
  obtain ⟨hv0, hw, hLK, hP, ho, hsz, hxs, hys, hns⟩ := hv
  subst hsz
  have hv1 : args = [.ref (ad 0 0), .int x1, .int x2, .ref o].toArray := hv0
  subst hv1
  have hx := B.exec
  have hb := B.bytes
  have hr := B.returns
  have hts := atoms_spec (ws := wsL_enter) B.pre
  have hown : s.vm.findClass RL = some m.cls := findClass_of_methodNamed B.named
  have hlocks := B.notSynchronized
  have hK := hLK.c
  have hN := hN_start hw hP ho
  generalize hAe : hAd ad g s.heap.size o = A at hN hxs hys ⊢
  have hA : ∀ q, s.heap.size ≤ q → A q := fun q h => by rw [← hAe]; exact Or.inl (Or.inr h)
  have hl := lv_entry ([.ref (ad 0 0), .int x1, .int x2, .ref o]) (n := 5) (Nat.le_of_ble_eq_true rfl)
  rw [lg_entry_eq]
  generalize (lg_sl ([.ref (ad 0 0), .int x1, .int x2, .ref o]) ++ List.replicate (5 - (lg_sl ([.ref (ad 0 0), .int x1, .int x2, .ref o])).length) Slot.unset).toArray = ls at hl ⊢
  have hl : lv_has ls 5 [(0, .ref (ad 0 0)), (1, .int x1), (2, .int x2), (3, .ref o)] := hl
  refine lv_aload_n hx hb dL_enter_0 rfl (lv_at hl 3 rfl) ?_
  refine lv_iconst (v := 0) hx hb dL_enter_1 (by decide) ?_
  refine lv_aload_n hx hb dL_enter_2 rfl (lv_at hl 0 rfl) ?_
  refine lv_iload_n hx hb dL_enter_3 rfl (lv_at hl 1 rfl) ?_
  refine lv_iload_n hx hb dL_enter_4 rfl (lv_at hl 2 rfl) ?_
  refine hg_callV (As := [.int x1, .int x2]) (rest := [.int 0, .ref o]) ⟨hx, hb, hml, hown, hts⟩ (cC_Court_enter l D yI yO z0 ad h) (cwV 2 hts gL_enter_X8_enter rfl rfl rfl (by decide +kernel) ⟨Nat.le_of_ble_eq_true rfl, Nat.le_of_ble_eq_true rfl⟩) hK hN rfl hl.1 rfl (Nat.le_of_ble_eq_true rfl) dL_enter_5 ⟨Nat.le_of_ble_eq_true rfl, Nat.le_of_ble_eq_true rfl⟩ (fun H locs hN => ?_)
  have had : ad 0 0 = ad 0 0 := rfl
  refine lv_i2l (v := rz.toInt64) hx hb dL_enter_8 rfl ?_
  refine hg_last hx hb hLK hN dL_enter_9 (fun f1 H locs hf1 hN => ?_)
  refine lv_goto (tgt := 21) hx hb dL_enter_10 (by decide) ?_
  refine lv_iconst (v := 0) hx hb dL_enter_21 (by decide) ?_
  exact W.iret (v := 0) hx hb hr (fun t ht hW => ⟨⟨0, (ad, f1), rfl, ⟨rfl, hf1⟩, had, by rw [ht]; exact hN.1.1, va_K.moved hW.alike hLK, by rw [ht]; exact hN.2.1, hN.2.2.2 0 _ rfl, hN.1.2.1⟩, hN.1.2.2.F ht⟩) hN.1.2.2.2.2 dL_enter_22 hlocks
set_option maxRecDepth 20000 in
theorem cHx_enter_0 (l : Launch) (hlf : l.stackTraces = false) (D : va_G) (yI yO yL : ClassId) (z0 : Nat) (ad : Nat → Nat → Nat) {g : CS} {x1 : Int32} {x2 : Int32} (o : Nat) (f : Nat → Int64) (sz : Nat) (h : fC_Court_enter g x1 x2 = some (.inl 0)) : Met l yL_enter wsL_enter ({ frames := 9, cells := 1, slots := 6, locals := 207 }) (va_Pc [.ref (ad 0 0), .int x1, .int x2, .ref o] (hPre D yI yO yL z0 ad g o f sz)) (hQ D yI yO yL z0 ad g o f 1 (f 0) (hAd ad g sz o)) 1 6 (hAd ad g sz o) := by
  refine lh_ofW (cc := cL_enter) (maxL := 5) (ret := some .int) (hh := [(0, 10, 13, 21), (0, 10, 17, 15)]) (by decide) rfl ?_
  intro p e s m args below meth c s₁ B hml htab hv
  obtain ⟨hv0, hw, hLK, hP, ho, hsz, hxs, hys, hns⟩ := hv
  subst hsz
  have hv1 : args = [.ref (ad 0 0), .int x1, .int x2, .ref o].toArray := hv0
  subst hv1
  have hx := B.exec
  have hb := B.bytes
  have hr := B.returns
  have hts := atoms_spec (ws := wsL_enter) B.pre
  have hown : s.vm.findClass RL = some m.cls := findClass_of_methodNamed B.named
  have hlocks := B.notSynchronized
  have hK := hLK.c
  have hN := hN_start hw hP ho
  generalize hAe : hAd ad g s.heap.size o = A at hN hxs hys ⊢
  have hA : ∀ q, s.heap.size ≤ q → A q := fun q h => by rw [← hAe]; exact Or.inl (Or.inr h)
  have hl := lv_entry ([.ref (ad 0 0), .int x1, .int x2, .ref o]) (n := 5) (Nat.le_of_ble_eq_true rfl)
  rw [lg_entry_eq]
  generalize (lg_sl ([.ref (ad 0 0), .int x1, .int x2, .ref o]) ++ List.replicate (5 - (lg_sl ([.ref (ad 0 0), .int x1, .int x2, .ref o])).length) Slot.unset).toArray = ls at hl ⊢
  have hl : lv_has ls 5 [(0, .ref (ad 0 0)), (1, .int x1), (2, .int x2), (3, .ref o)] := hl
  refine lv_aload_n hx hb dL_enter_0 rfl (lv_at hl 3 rfl) ?_
  refine lv_iconst (v := 0) hx hb dL_enter_1 (by decide) ?_
  refine lv_aload_n hx hb dL_enter_2 rfl (lv_at hl 0 rfl) ?_
  refine lv_iload_n hx hb dL_enter_3 rfl (lv_at hl 1 rfl) ?_
  refine lv_iload_n hx hb dL_enter_4 rfl (lv_at hl 2 rfl) ?_
  refine hg_callX (As := [.int x1, .int x2]) (rest := [.int 0, .ref o]) ⟨hx, hb, hml, hown, hts⟩ (cX_Court_enter l hlf D yI yO z0 ad s.heap.size h) (cwV 2 hts gL_enter_X8_enter rfl rfl rfl (by decide +kernel) ⟨Nat.le_of_ble_eq_true rfl, Nat.le_of_ble_eq_true rfl⟩) hK hN hA hxs rfl hl.1 rfl (Nat.le_of_ble_eq_true rfl) dL_enter_5 ⟨Nat.le_of_ble_eq_true rfl, Nat.le_of_ble_eq_true rfl⟩ (fun ce q9 H locs hN h8 h9 h10 => ?_)
  refine vx_catch (own := RL) (name := "java/lang/IndexOutOfBoundsException") (E := xE 0) hown [] ⟨0, 10, 13, 21⟩ [⟨0, 10, 17, 15⟩] (by rw [htab]; rfl) (fun z hz => absurd hz List.not_mem_nil) (by decide) (by decide) (hts (.classLink RL 21 "java/lang/IndexOutOfBoundsException") (by decide +kernel)) (va_Nw.use (xB_on (.castable "java/lang/IndexOutOfBoundsException" "java/lang/IndexOutOfBoundsException") (by decide)) (hxs.2.2.2 (.castable "java/lang/IndexOutOfBoundsException" "java/lang/IndexOutOfBoundsException") (by decide))) h8 h9 h10 ?_
  refine W.eq (g2 := F0 m 13 ls [.ref q9]) rfl ?_
  refine lv_astore (lv' := [(4, .ref q9), (0, .ref (ad 0 0)), (1, .int x1), (2, .int x2), (3, .ref o)]) hx hb dL_enter_13 hl (by decide) rfl (fun ls hl => ?_)
  refine lv_iconst (v := 1) hx hb dL_enter_15 (by decide) ?_
  exact W.iret (v := 1) hx hb hr (fun t ht hW => ⟨⟨1, (ad, f), rfl, ⟨rfl, rfl⟩, rfl, by rw [ht]; exact hN.1.1, va_K.moved hW.alike hLK, by rw [ht]; exact hN.2.1, hN.2.2.2 0 _ rfl, hN.1.2.1⟩, hN.1.2.2.F ht⟩) hN.1.2.2.2.2 dL_enter_16 hlocks
set_option maxRecDepth 20000 in
theorem cHx_enter_2 (l : Launch) (hlf : l.stackTraces = false) (D : va_G) (yI yO yL : ClassId) (z0 : Nat) (ad : Nat → Nat → Nat) {g : CS} {x1 : Int32} {x2 : Int32} (o : Nat) (f : Nat → Int64) (sz : Nat) (h : fC_Court_enter g x1 x2 = some (.inl 2)) : Met l yL_enter wsL_enter ({ frames := 9, cells := 1, slots := 6, locals := 207 }) (va_Pc [.ref (ad 0 0), .int x1, .int x2, .ref o] (hPre D yI yO yL z0 ad g o f sz)) (hQ D yI yO yL z0 ad g o f 2 (f 0) (hAd ad g sz o)) 1 6 (hAd ad g sz o) := by
  refine lh_ofW (cc := cL_enter) (maxL := 5) (ret := some .int) (hh := [(0, 10, 13, 21), (0, 10, 17, 15)]) (by decide) rfl ?_
  intro p e s m args below meth c s₁ B hml htab hv
  obtain ⟨hv0, hw, hLK, hP, ho, hsz, hxs, hys, hns⟩ := hv
  subst hsz
  have hv1 : args = [.ref (ad 0 0), .int x1, .int x2, .ref o].toArray := hv0
  subst hv1
  have hx := B.exec
  have hb := B.bytes
  have hr := B.returns
  have hts := atoms_spec (ws := wsL_enter) B.pre
  have hown : s.vm.findClass RL = some m.cls := findClass_of_methodNamed B.named
  have hlocks := B.notSynchronized
  have hK := hLK.c
  have hN := hN_start hw hP ho
  generalize hAe : hAd ad g s.heap.size o = A at hN hxs hys ⊢
  have hA : ∀ q, s.heap.size ≤ q → A q := fun q h => by rw [← hAe]; exact Or.inl (Or.inr h)
  have hl := lv_entry ([.ref (ad 0 0), .int x1, .int x2, .ref o]) (n := 5) (Nat.le_of_ble_eq_true rfl)
  rw [lg_entry_eq]
  generalize (lg_sl ([.ref (ad 0 0), .int x1, .int x2, .ref o]) ++ List.replicate (5 - (lg_sl ([.ref (ad 0 0), .int x1, .int x2, .ref o])).length) Slot.unset).toArray = ls at hl ⊢
  have hl : lv_has ls 5 [(0, .ref (ad 0 0)), (1, .int x1), (2, .int x2), (3, .ref o)] := hl
  refine lv_aload_n hx hb dL_enter_0 rfl (lv_at hl 3 rfl) ?_
  refine lv_iconst (v := 0) hx hb dL_enter_1 (by decide) ?_
  refine lv_aload_n hx hb dL_enter_2 rfl (lv_at hl 0 rfl) ?_
  refine lv_iload_n hx hb dL_enter_3 rfl (lv_at hl 1 rfl) ?_
  refine lv_iload_n hx hb dL_enter_4 rfl (lv_at hl 2 rfl) ?_
  refine hg_callX (As := [.int x1, .int x2]) (rest := [.int 0, .ref o]) ⟨hx, hb, hml, hown, hts⟩ (cX_Court_enter l hlf D yI yO z0 ad s.heap.size h) (cwV 2 hts gL_enter_X8_enter rfl rfl rfl (by decide +kernel) ⟨Nat.le_of_ble_eq_true rfl, Nat.le_of_ble_eq_true rfl⟩) hK hN hA hxs rfl hl.1 rfl (Nat.le_of_ble_eq_true rfl) dL_enter_5 ⟨Nat.le_of_ble_eq_true rfl, Nat.le_of_ble_eq_true rfl⟩ (fun ce q9 H locs hN h8 h9 h10 => ?_)
  refine vx_catch (own := RL) (name := "java/lang/IllegalStateException") (E := xE 2) hown [⟨0, 10, 13, 21⟩] ⟨0, 10, 17, 15⟩ [] (by rw [htab]; rfl) (List.forall_mem_cons.mpr ⟨Or.inr ⟨by decide, "java/lang/IndexOutOfBoundsException", hts (.classLink RL 21 "java/lang/IndexOutOfBoundsException") (by decide +kernel), hns ("java/lang/IllegalStateException", "java/lang/IndexOutOfBoundsException") (by decide)⟩, (fun z hz => absurd hz List.not_mem_nil)⟩) (by decide) (by decide) (hts (.classLink RL 15 "java/lang/IllegalStateException") (by decide +kernel)) (va_Nw.use (xB_on (.castable "java/lang/IllegalStateException" "java/lang/IllegalStateException") (by decide)) (hxs.2.2.2 (.castable "java/lang/IllegalStateException" "java/lang/IllegalStateException") (by decide))) h8 h9 h10 ?_
  refine W.eq (g2 := F0 m 17 ls [.ref q9]) rfl ?_
  refine lv_astore (lv' := [(4, .ref q9), (0, .ref (ad 0 0)), (1, .int x1), (2, .int x2), (3, .ref o)]) hx hb dL_enter_17 hl (by decide) rfl (fun ls hl => ?_)
  refine lv_iconst (v := 2) hx hb dL_enter_19 (by decide) ?_
  exact W.iret (v := 2) hx hb hr (fun t ht hW => ⟨⟨2, (ad, f), rfl, ⟨rfl, rfl⟩, rfl, by rw [ht]; exact hN.1.1, va_K.moved hW.alike hLK, by rw [ht]; exact hN.2.1, hN.2.2.2 0 _ rfl, hN.1.2.1⟩, hN.1.2.2.F ht⟩) hN.1.2.2.2.2 dL_enter_20 hlocks
