set_option maxRecDepth 20000 in
theorem lc_land {p : Program} {l : Launch} {e : Env} {s : State} {m : MethodId} {below : List Frame} {meth : Method} {c : Code} {b L : Nat} {xs : Nat → Int32} {D : va_G} {yI yO yL cZ : ClassId} {z0 : Nat} {q : Nat → Nat} {ad : Nat → Nat → Nat} {g : CS} {u : MS} {o : Nat} {f : Nat → Int64} {H : Heap} {locs : List Loc} {cells slots i : Nat} {ls : Array Slot} {g1 : CS} {u1 : MS} {mc ms : Nat} {code9 rb : Int32} {out : Int64} (C0 : lw_At p s m meth c b L xs) (hT : ∀ w ∈ wsL_law, w.before #[Value.ref b] s = true) (hi : i + 7 ≤ L) (hL : L ≤ 3584) (hB : gB z0 (fun a : Nat => s.heap.size ≤ a) s) (hK : gK D yI yO yL cZ s) (hN : gW D yI yO yL cZ z0 q ad g u o f (fun a : Nat => s.heap.size ≤ a) s H locs) (hl : lv_has ls 7 [(0, .ref b), (1, .ref (ad 0 0)), (2, .ref (q 0)), (3, .ref o), (4, .int (nI i))]) (hr1 : cells + mc ≤ 136060 ∧ slots + ms ≤ 8687926) (hM1 : Met l yL_land wsL_land ({ frames := 8, cells := mc, slots := ms, locals := 226 }) (va_Pc [.ref (ad 0 0), .int (zB (!decide (xs (nI i + 1).toNatClampNeg = 0))), .int (zB (!decide (xs (nI i + 2).toNatClampNeg = 0))), .int (zB (!decide (xs (nI i + 3).toNatClampNeg = 0))), .int (xs (nI i + 4).toNatClampNeg), .ref o] (hPre D yI yO yL z0 ad g o f H.size)) (hQ D yI yO yL z0 ad g1 o f code9 out (hAd ad g H.size o)) mc ms (hAd ad g H.size o)) (hM2 : Met l yX9_land wsX9_land (mR 1 22) (va_Pc [.ref (q 0), .int (zB (!decide (xs (nI i + 1).toNatClampNeg = 0))), .int (zB (!decide (xs (nI i + 2).toNatClampNeg = 0))), .int (zB (!decide (xs (nI i + 3).toNatClampNeg = 0))), .int (xs (nI i + 4).toNatClampNeg)] (mPre D yI cZ q u)) (mQ D yI cZ q rb u1) 0 0 (mF q)) (hcode : u1 0 0 = code9) (hout : code9 = 0 → out = rb.toInt64) (K : ∀ (ad1 : Nat → Nat → Nat) (f1 : Nat → Int64) (H1 : Heap) (locs1 : List Loc) (ls1 : Array Slot), gW D yI yO yL cZ z0 q ad1 g1 u1 o f1 (fun a : Nat => s.heap.size ≤ a) s H1 locs1 → lv_has ls1 7 [(0, .ref b), (1, .ref (ad1 0 0)), (2, .ref (q 0)), (3, .ref o), (4, .int (nI i))] → W p l e room_1 s m #[Value.ref b] below meth c H1 locs1 (cells + mc) (slots + ms) (lw_Z below #[Value.ref b] s) (F0 m 2544 ls1 [])) : W p l e room_1 s m #[Value.ref b] below meth c H locs (cells) (slots) (lw_Z below #[Value.ref b] s) (F0 m 184 ls []) := by
  obtain ⟨hx, hb, hr, hml, hown9, -, hX, hbl, hlocks, -⟩ := C0
  have hown : s.vm.findClass RL = some m.cls := hown9
  have hA : ∀ a : Nat, s.heap.size ≤ a → (fun a : Nat => s.heap.size ≤ a) a := fun _ h => h
  have hbA : ¬ (fun a : Nat => s.heap.size ≤ a) b := Nat.not_le.mpr hbl
  have v1 : vp_in (nI i + 1) L := by
    show vp_in (nI i + nI 1) L
    rw [nI_add]
    exact vp_in_nI (by omega) (by omega)
  have v2 : vp_in (nI i + 2) L := by
    show vp_in (nI i + nI 2) L
    rw [nI_add]
    exact vp_in_nI (by omega) (by omega)
  have v3 : vp_in (nI i + 3) L := by
    show vp_in (nI i + nI 3) L
    rw [nI_add]
    exact vp_in_nI (by omega) (by omega)
  have v4 : vp_in (nI i + 4) L := by
    show vp_in (nI i + nI 4) L
    rw [nI_add]
    exact vp_in_nI (by omega) (by omega)
  refine lv_aload_n hx hb dL_law_184 rfl (lv_at hl 1 rfl) ?_
  refine lv_aload_n hx hb dL_law_185 rfl (lv_at hl 0 rfl) ?_
  refine lv_iload hx hb dL_law_186 (lv_at hl 4 rfl) ?_
  refine lv_iconst (v := 1) hx hb dL_law_188 (by decide) ?_
  refine lv_iadd hx hb dL_law_189 ?_
  refine va_sld hx hb hX hbl hbA hN.1.2.2 v1 dL_law_190 ?_
  refine lb_bool hx hb dL_law_191 dL_law_194 dL_law_195 dL_law_198 ?_
  refine lv_aload_n hx hb dL_law_199 rfl (lv_at hl 0 rfl) ?_
  refine lv_iload hx hb dL_law_200 (lv_at hl 4 rfl) ?_
  refine lv_iconst (v := 2) hx hb dL_law_202 (by decide) ?_
  refine lv_iadd hx hb dL_law_203 ?_
  refine va_sld hx hb hX hbl hbA hN.1.2.2 v2 dL_law_204 ?_
  refine lb_bool hx hb dL_law_205 dL_law_208 dL_law_209 dL_law_212 ?_
  refine lv_aload_n hx hb dL_law_213 rfl (lv_at hl 0 rfl) ?_
  refine lv_iload hx hb dL_law_214 (lv_at hl 4 rfl) ?_
  refine lv_iconst (v := 3) hx hb dL_law_216 (by decide) ?_
  refine lv_iadd hx hb dL_law_217 ?_
  refine va_sld hx hb hX hbl hbA hN.1.2.2 v3 dL_law_218 ?_
  refine lb_bool hx hb dL_law_219 dL_law_222 dL_law_223 dL_law_226 ?_
  refine lv_aload_n hx hb dL_law_227 rfl (lv_at hl 0 rfl) ?_
  refine lv_iload hx hb dL_law_228 (lv_at hl 4 rfl) ?_
  refine lv_iconst (v := 4) hx hb dL_law_230 (by decide) ?_
  refine lv_iadd hx hb dL_law_231 ?_
  refine va_sld hx hb hX hbl hbA hN.1.2.2 v4 dL_law_232 ?_
  refine lv_aload_n hx hb dL_law_233 rfl (lv_at hl 3 rfl) ?_
  refine lh_call (As := [.ref (ad 0 0), .int (zB (!decide (xs (nI i + 1).toNatClampNeg = 0))), .int (zB (!decide (xs (nI i + 2).toNatClampNeg = 0))), .int (zB (!decide (xs (nI i + 3).toNatClampNeg = 0))), .int (xs (nI i + 4).toNatClampNeg), .ref o]) (rest := []) ⟨hx, hb, hml, hown, hT⟩ hM1 (vx_cwSW 6 hT gL_law_L_land rfl rfl rfl (by decide +kernel) ⟨Nat.le_of_ble_eq_true rfl, Nat.le_of_ble_eq_true rfl⟩) hB hK hN hA rfl hl.1 rfl (Nat.le_of_ble_eq_true rfl) dL_law_234 hr1 (fun ad1 f1 H locs had hf1 hN => ?_)
  refine lv_istore (lv' := [(5, .int code9), (0, .ref b), (1, .ref (ad 0 0)), (2, .ref (q 0)), (3, .ref o), (4, .int (nI i))]) hx hb dL_law_237 hl (by decide) rfl (fun ls hl => ?_)
  refine lv_aload_n hx hb dL_law_239 rfl (lv_at hl 3 rfl) ?_
  refine lv_aload_n hx hb dL_law_240 rfl (lv_at hl 1 rfl) ?_
  refine lv_iload hx hb dL_law_241 (lv_at hl 5 rfl) ?_
  refine lv_iconst (v := 1) hx hb dL_law_243 (by decide) ?_
  refine lv_iadd hx hb dL_law_244 ?_
  refine va_sld hx hb hX hbl hbA hN.1.2.2 v1 dL_law_245 ?_
  refine lb_bool hx hb dL_law_246 dL_law_249 dL_law_250 dL_law_253 ?_
  refine lv_aload_n hx hb dL_law_254 rfl (lv_at hl 1 rfl) ?_
  refine lv_iload hx hb dL_law_255 (lv_at hl 5 rfl) ?_
  refine lv_iconst (v := 2) hx hb dL_law_257 (by decide) ?_
  refine lv_iadd hx hb dL_law_258 ?_
  refine va_sld hx hb hX hbl hbA hN.1.2.2 v2 dL_law_259 ?_
  refine lb_bool hx hb dL_law_260 dL_law_263 dL_law_264 dL_law_267 ?_
  refine lv_aload_n hx hb dL_law_268 rfl (lv_at hl 1 rfl) ?_
  refine lv_iload hx hb dL_law_269 (lv_at hl 5 rfl) ?_
  refine lv_iconst (v := 3) hx hb dL_law_271 (by decide) ?_
  refine lv_iadd hx hb dL_law_272 ?_
  refine va_sld hx hb hX hbl hbA hN.1.2.2 v3 dL_law_273 ?_
  refine lb_bool hx hb dL_law_274 dL_law_277 dL_law_278 dL_law_281 ?_
  refine lv_aload_n hx hb dL_law_282 rfl (lv_at hl 1 rfl) ?_
  refine lv_iload hx hb dL_law_283 (lv_at hl 5 rfl) ?_
  refine lv_iconst (v := 4) hx hb dL_law_285 (by decide) ?_
  refine lv_iadd hx hb dL_law_286 ?_
  refine va_sld hx hb hX hbl hbA hN.1.2.2 v4 dL_law_287 ?_
  refine lr_call (As := [.int (zB (!decide (xs (nI i + 1).toNatClampNeg = 0))), .int (zB (!decide (xs (nI i + 2).toNatClampNeg = 0))), .int (zB (!decide (xs (nI i + 3).toNatClampNeg = 0))), .int (xs (nI i + 4).toNatClampNeg)]) (rest := []) ⟨hx, hb, hml, hown, hT⟩ hM2 (cwV 4 hT gL_law_X9_land rfl rfl rfl (by decide +kernel) ⟨Nat.le_of_ble_eq_true rfl, Nat.le_of_ble_eq_true rfl⟩) hK hN rfl hl.1 rfl (Nat.le_of_ble_eq_true rfl) dL_law_288 hr1 (fun H locs hN => ?_)
  refine lv_istore (lv' := [(6, .int rb), (5, .int code9), (0, .ref b), (1, .ref (ad 0 0)), (2, .ref (q 0)), (3, .ref o), (4, .int (nI i))]) hx hb dL_law_291 hl (by decide) rfl (fun ls hl => ?_)
  refine lv_aload_n hx hb dL_law_293 rfl (lv_at hl 4 rfl) ?_
  refine lr_call (As := []) (rest := []) ⟨hx, hb, hml, hown, hT⟩ (cM_thrown l D yI cZ q (u := u1) (rz := u1 0 0) (uz := u1) rfl) (cwV 0 hT gL_law_X9_thrown rfl rfl rfl (by decide +kernel) ⟨Nat.le_of_ble_eq_true rfl, Nat.le_of_ble_eq_true rfl⟩) hK hN rfl hl.1 rfl (Nat.le_of_ble_eq_true rfl) dL_law_294 hr1 (fun H locs hN => ?_)
  refine lv_iload hx hb dL_law_297 (lv_at hl 1 rfl) ?_
  refine lv_icmp_eq (tgt := 304) hx hb dL_law_299 (by decide) (fun c1 => ?_) (fun c1 => absurd hcode c1)
  refine lv_iload hx hb dL_law_304 (lv_at hl 1 rfl) ?_
  refine lv_if_ne (tgt := 321) hx hb dL_law_306 (by decide) (fun c2 => ?_) (fun c2 => ?_)
  · refine lv_goto (tgt := 2544) hx hb dL_law_321 (by decide) ?_
    exact K ad1 f1 H locs ls hN (by rw [had]; exact lv_sub hl [2, 3, 4, 5, 6] rfl)
  · refine lv_aload_n hx hb dL_law_309 rfl (lv_at hl 5 rfl) ?_
    refine lv_iconst (v := 0) hx hb dL_law_310 (by decide) ?_
    refine lr_long hx hb hK hN hf1 dL_law_311 ?_
    refine lv_iload hx hb dL_law_312 (lv_at hl 0 rfl) ?_
    refine lv_i2l (v := rb.toInt64) hx hb dL_law_314 rfl ?_
    refine W.lcmp hx hb dL_law_315 ?_
    refine lv_if_eq (tgt := 321) hx hb dL_law_316 (by decide) (fun c3 => ?_) (fun c3 => absurd ((lg_cmp_eq _ _).mpr (hout c2)) c3)
    refine lv_goto (tgt := 2544) hx hb dL_law_321 (by decide) ?_
    exact K ad1 f1 H locs ls hN (by rw [had]; exact lv_sub hl [2, 3, 4, 5, 6] rfl)
set_option maxRecDepth 20000 in
theorem lc_waive {p : Program} {l : Launch} {e : Env} {s : State} {m : MethodId} {below : List Frame} {meth : Method} {c : Code} {b L : Nat} {xs : Nat → Int32} {D : va_G} {yI yO yL cZ : ClassId} {z0 : Nat} {q : Nat → Nat} {ad : Nat → Nat → Nat} {g : CS} {u : MS} {o : Nat} {f : Nat → Int64} {H : Heap} {locs : List Loc} {cells slots i : Nat} {ls : Array Slot} {g1 : CS} {u1 : MS} {mc ms : Nat} {code9 rb : Int32} {out : Int64} (C0 : lw_At p s m meth c b L xs) (hT : ∀ w ∈ wsL_law, w.before #[Value.ref b] s = true) (hi : i + 7 ≤ L) (hL : L ≤ 3584) (hB : gB z0 (fun a : Nat => s.heap.size ≤ a) s) (hK : gK D yI yO yL cZ s) (hN : gW D yI yO yL cZ z0 q ad g u o f (fun a : Nat => s.heap.size ≤ a) s H locs) (hl : lv_has ls 7 [(0, .ref b), (1, .ref (ad 0 0)), (2, .ref (q 0)), (3, .ref o), (4, .int (nI i))]) (hr1 : cells + mc ≤ 136060 ∧ slots + ms ≤ 8687926) (hM1 : Met l yL_waive wsL_waive ({ frames := 8, cells := mc, slots := ms, locals := 137 }) (va_Pc [.ref (ad 0 0), .int (xs (nI i + 1).toNatClampNeg), .int (xs (nI i + 2).toNatClampNeg), .int (zB (!decide (xs (nI i + 3).toNatClampNeg = 0))), .ref o] (hPre D yI yO yL z0 ad g o f H.size)) (hQ D yI yO yL z0 ad g1 o f code9 out (hAd ad g H.size o)) mc ms (hAd ad g H.size o)) (hM2 : Met l yX9_waive wsX9_waive (mR 2 43) (va_Pc [.ref (q 0), .int (xs (nI i + 1).toNatClampNeg), .int (xs (nI i + 2).toNatClampNeg), .int (zB (!decide (xs (nI i + 3).toNatClampNeg = 0)))] (mPre D yI cZ q u)) (mQ D yI cZ q rb u1) 0 0 (mF q)) (hcode : u1 0 0 = code9) (hout : code9 = 0 → out = (if rb = 0 then (0 : Int64) else 1)) (K : ∀ (ad1 : Nat → Nat → Nat) (f1 : Nat → Int64) (H1 : Heap) (locs1 : List Loc) (ls1 : Array Slot), gW D yI yO yL cZ z0 q ad1 g1 u1 o f1 (fun a : Nat => s.heap.size ≤ a) s H1 locs1 → lv_has ls1 7 [(0, .ref b), (1, .ref (ad1 0 0)), (2, .ref (q 0)), (3, .ref o), (4, .int (nI i))] → W p l e room_1 s m #[Value.ref b] below meth c H1 locs1 (cells + mc) (slots + ms) (lw_Z below #[Value.ref b] s) (F0 m 2544 ls1 [])) : W p l e room_1 s m #[Value.ref b] below meth c H locs (cells) (slots) (lw_Z below #[Value.ref b] s) (F0 m 324 ls []) := by
  obtain ⟨hx, hb, hr, hml, hown9, -, hX, hbl, hlocks, -⟩ := C0
  have hown : s.vm.findClass RL = some m.cls := hown9
  have hA : ∀ a : Nat, s.heap.size ≤ a → (fun a : Nat => s.heap.size ≤ a) a := fun _ h => h
  have hbA : ¬ (fun a : Nat => s.heap.size ≤ a) b := Nat.not_le.mpr hbl
  have v1 : vp_in (nI i + 1) L := by
    show vp_in (nI i + nI 1) L
    rw [nI_add]
    exact vp_in_nI (by omega) (by omega)
  have v2 : vp_in (nI i + 2) L := by
    show vp_in (nI i + nI 2) L
    rw [nI_add]
    exact vp_in_nI (by omega) (by omega)
  have v3 : vp_in (nI i + 3) L := by
    show vp_in (nI i + nI 3) L
    rw [nI_add]
    exact vp_in_nI (by omega) (by omega)
  refine lv_aload_n hx hb dL_law_324 rfl (lv_at hl 1 rfl) ?_
  refine lv_aload_n hx hb dL_law_325 rfl (lv_at hl 0 rfl) ?_
  refine lv_iload hx hb dL_law_326 (lv_at hl 4 rfl) ?_
  refine lv_iconst (v := 1) hx hb dL_law_328 (by decide) ?_
  refine lv_iadd hx hb dL_law_329 ?_
  refine va_sld hx hb hX hbl hbA hN.1.2.2 v1 dL_law_330 ?_
  refine lv_aload_n hx hb dL_law_331 rfl (lv_at hl 0 rfl) ?_
  refine lv_iload hx hb dL_law_332 (lv_at hl 4 rfl) ?_
  refine lv_iconst (v := 2) hx hb dL_law_334 (by decide) ?_
  refine lv_iadd hx hb dL_law_335 ?_
  refine va_sld hx hb hX hbl hbA hN.1.2.2 v2 dL_law_336 ?_
  refine lv_aload_n hx hb dL_law_337 rfl (lv_at hl 0 rfl) ?_
  refine lv_iload hx hb dL_law_338 (lv_at hl 4 rfl) ?_
  refine lv_iconst (v := 3) hx hb dL_law_340 (by decide) ?_
  refine lv_iadd hx hb dL_law_341 ?_
  refine va_sld hx hb hX hbl hbA hN.1.2.2 v3 dL_law_342 ?_
  refine lb_bool hx hb dL_law_343 dL_law_346 dL_law_347 dL_law_350 ?_
  refine lv_aload_n hx hb dL_law_351 rfl (lv_at hl 3 rfl) ?_
  refine lh_call (As := [.ref (ad 0 0), .int (xs (nI i + 1).toNatClampNeg), .int (xs (nI i + 2).toNatClampNeg), .int (zB (!decide (xs (nI i + 3).toNatClampNeg = 0))), .ref o]) (rest := []) ⟨hx, hb, hml, hown, hT⟩ hM1 (vx_cwSW 5 hT gL_law_L_waive rfl rfl rfl (by decide +kernel) ⟨Nat.le_of_ble_eq_true rfl, Nat.le_of_ble_eq_true rfl⟩) hB hK hN hA rfl hl.1 rfl (Nat.le_of_ble_eq_true rfl) dL_law_352 hr1 (fun ad1 f1 H locs had hf1 hN => ?_)
  refine lv_istore (lv' := [(5, .int code9), (0, .ref b), (1, .ref (ad 0 0)), (2, .ref (q 0)), (3, .ref o), (4, .int (nI i))]) hx hb dL_law_355 hl (by decide) rfl (fun ls hl => ?_)
  refine lv_aload_n hx hb dL_law_357 rfl (lv_at hl 3 rfl) ?_
  refine lv_aload_n hx hb dL_law_358 rfl (lv_at hl 1 rfl) ?_
  refine lv_iload hx hb dL_law_359 (lv_at hl 5 rfl) ?_
  refine lv_iconst (v := 1) hx hb dL_law_361 (by decide) ?_
  refine lv_iadd hx hb dL_law_362 ?_
  refine va_sld hx hb hX hbl hbA hN.1.2.2 v1 dL_law_363 ?_
  refine lv_aload_n hx hb dL_law_364 rfl (lv_at hl 1 rfl) ?_
  refine lv_iload hx hb dL_law_365 (lv_at hl 5 rfl) ?_
  refine lv_iconst (v := 2) hx hb dL_law_367 (by decide) ?_
  refine lv_iadd hx hb dL_law_368 ?_
  refine va_sld hx hb hX hbl hbA hN.1.2.2 v2 dL_law_369 ?_
  refine lv_aload_n hx hb dL_law_370 rfl (lv_at hl 1 rfl) ?_
  refine lv_iload hx hb dL_law_371 (lv_at hl 5 rfl) ?_
  refine lv_iconst (v := 3) hx hb dL_law_373 (by decide) ?_
  refine lv_iadd hx hb dL_law_374 ?_
  refine va_sld hx hb hX hbl hbA hN.1.2.2 v3 dL_law_375 ?_
  refine lb_bool hx hb dL_law_376 dL_law_379 dL_law_380 dL_law_383 ?_
  refine lr_call (As := [.int (xs (nI i + 1).toNatClampNeg), .int (xs (nI i + 2).toNatClampNeg), .int (zB (!decide (xs (nI i + 3).toNatClampNeg = 0)))]) (rest := []) ⟨hx, hb, hml, hown, hT⟩ hM2 (cwV 3 hT gL_law_X9_waive rfl rfl rfl (by decide +kernel) ⟨Nat.le_of_ble_eq_true rfl, Nat.le_of_ble_eq_true rfl⟩) hK hN rfl hl.1 rfl (Nat.le_of_ble_eq_true rfl) dL_law_384 hr1 (fun H locs hN => ?_)
  refine lv_istore (lv' := [(6, .int rb), (5, .int code9), (0, .ref b), (1, .ref (ad 0 0)), (2, .ref (q 0)), (3, .ref o), (4, .int (nI i))]) hx hb dL_law_387 hl (by decide) rfl (fun ls hl => ?_)
  refine lv_aload_n hx hb dL_law_389 rfl (lv_at hl 4 rfl) ?_
  refine lr_call (As := []) (rest := []) ⟨hx, hb, hml, hown, hT⟩ (cM_thrown l D yI cZ q (u := u1) (rz := u1 0 0) (uz := u1) rfl) (cwV 0 hT gL_law_X9_thrown rfl rfl rfl (by decide +kernel) ⟨Nat.le_of_ble_eq_true rfl, Nat.le_of_ble_eq_true rfl⟩) hK hN rfl hl.1 rfl (Nat.le_of_ble_eq_true rfl) dL_law_390 hr1 (fun H locs hN => ?_)
  refine lv_iload hx hb dL_law_393 (lv_at hl 1 rfl) ?_
  refine lv_icmp_eq (tgt := 400) hx hb dL_law_395 (by decide) (fun c1 => ?_) (fun c1 => absurd hcode c1)
  refine lv_iload hx hb dL_law_400 (lv_at hl 1 rfl) ?_
  refine lv_if_ne (tgt := 424) hx hb dL_law_402 (by decide) (fun c2 => ?_) (fun c2 => ?_)
  · refine lv_goto (tgt := 2544) hx hb dL_law_424 (by decide) ?_
    exact K ad1 f1 H locs ls hN (by rw [had]; exact lv_sub hl [2, 3, 4, 5, 6] rfl)
  · refine lv_aload_n hx hb dL_law_405 rfl (lv_at hl 5 rfl) ?_
    refine lv_iconst (v := 0) hx hb dL_law_406 (by decide) ?_
    refine lr_long hx hb hK hN hf1 dL_law_407 ?_
    refine lv_iload hx hb dL_law_408 (lv_at hl 0 rfl) ?_
    refine lb_lbool hx hb dL_law_410 dL_law_413 dL_law_414 dL_law_417 ?_
    refine W.lcmp hx hb dL_law_418 ?_
    refine lv_if_eq (tgt := 424) hx hb dL_law_419 (by decide) (fun c3 => ?_) (fun c3 => absurd ((lg_cmp_eq _ _).mpr (hout c2)) c3)
    refine lv_goto (tgt := 2544) hx hb dL_law_424 (by decide) ?_
    exact K ad1 f1 H locs ls hN (by rw [had]; exact lv_sub hl [2, 3, 4, 5, 6] rfl)
set_option maxRecDepth 20000 in
theorem lc_rule {p : Program} {l : Launch} {e : Env} {s : State} {m : MethodId} {below : List Frame} {meth : Method} {c : Code} {b L : Nat} {xs : Nat → Int32} {D : va_G} {yI yO yL cZ : ClassId} {z0 : Nat} {q : Nat → Nat} {ad : Nat → Nat → Nat} {g : CS} {u : MS} {o : Nat} {f : Nat → Int64} {H : Heap} {locs : List Loc} {cells slots i : Nat} {ls : Array Slot} {g1 : CS} {u1 : MS} {mc ms : Nat} {code9 rb : Int32} {out : Int64} (C0 : lw_At p s m meth c b L xs) (hT : ∀ w ∈ wsL_law, w.before #[Value.ref b] s = true) (hi : i + 7 ≤ L) (hL : L ≤ 3584) (hB : gB z0 (fun a : Nat => s.heap.size ≤ a) s) (hK : gK D yI yO yL cZ s) (hN : gW D yI yO yL cZ z0 q ad g u o f (fun a : Nat => s.heap.size ≤ a) s H locs) (hl : lv_has ls 7 [(0, .ref b), (1, .ref (ad 0 0)), (2, .ref (q 0)), (3, .ref o), (4, .int (nI i))]) (hr1 : cells + mc ≤ 136060 ∧ slots + ms ≤ 8687926) (hM1 : Met l yL_rule wsL_rule ({ frames := 8, cells := mc, slots := ms, locals := 224 }) (va_Pc [.ref (ad 0 0), .int (xs (nI i + 1).toNatClampNeg), .int (xs (nI i + 2).toNatClampNeg), .int (xs (nI i + 3).toNatClampNeg), .ref o] (hPre D yI yO yL z0 ad g o f H.size)) (hQ D yI yO yL z0 ad g1 o f code9 out (hAd ad g H.size o)) mc ms (hAd ad g H.size o)) (hM2 : Met l yX9_rule wsX9_rule (mR 1 22) (va_Pc [.ref (q 0), .int (xs (nI i + 1).toNatClampNeg), .int (xs (nI i + 2).toNatClampNeg), .int (xs (nI i + 3).toNatClampNeg)] (mPre D yI cZ q u)) (mQ D yI cZ q rb u1) 0 0 (mF q)) (hcode : u1 0 0 = code9) (hout : code9 = 0 → out = rb.toInt64) (K : ∀ (ad1 : Nat → Nat → Nat) (f1 : Nat → Int64) (H1 : Heap) (locs1 : List Loc) (ls1 : Array Slot), gW D yI yO yL cZ z0 q ad1 g1 u1 o f1 (fun a : Nat => s.heap.size ≤ a) s H1 locs1 → lv_has ls1 7 [(0, .ref b), (1, .ref (ad1 0 0)), (2, .ref (q 0)), (3, .ref o), (4, .int (nI i))] → W p l e room_1 s m #[Value.ref b] below meth c H1 locs1 (cells + mc) (slots + ms) (lw_Z below #[Value.ref b] s) (F0 m 2544 ls1 [])) : W p l e room_1 s m #[Value.ref b] below meth c H locs (cells) (slots) (lw_Z below #[Value.ref b] s) (F0 m 427 ls []) := by
  obtain ⟨hx, hb, hr, hml, hown9, -, hX, hbl, hlocks, -⟩ := C0
  have hown : s.vm.findClass RL = some m.cls := hown9
  have hA : ∀ a : Nat, s.heap.size ≤ a → (fun a : Nat => s.heap.size ≤ a) a := fun _ h => h
  have hbA : ¬ (fun a : Nat => s.heap.size ≤ a) b := Nat.not_le.mpr hbl
  have v1 : vp_in (nI i + 1) L := by
    show vp_in (nI i + nI 1) L
    rw [nI_add]
    exact vp_in_nI (by omega) (by omega)
  have v2 : vp_in (nI i + 2) L := by
    show vp_in (nI i + nI 2) L
    rw [nI_add]
    exact vp_in_nI (by omega) (by omega)
  have v3 : vp_in (nI i + 3) L := by
    show vp_in (nI i + nI 3) L
    rw [nI_add]
    exact vp_in_nI (by omega) (by omega)
  refine lv_aload_n hx hb dL_law_427 rfl (lv_at hl 1 rfl) ?_
  refine lv_aload_n hx hb dL_law_428 rfl (lv_at hl 0 rfl) ?_
  refine lv_iload hx hb dL_law_429 (lv_at hl 4 rfl) ?_
  refine lv_iconst (v := 1) hx hb dL_law_431 (by decide) ?_
  refine lv_iadd hx hb dL_law_432 ?_
  refine va_sld hx hb hX hbl hbA hN.1.2.2 v1 dL_law_433 ?_
  refine lv_aload_n hx hb dL_law_434 rfl (lv_at hl 0 rfl) ?_
  refine lv_iload hx hb dL_law_435 (lv_at hl 4 rfl) ?_
  refine lv_iconst (v := 2) hx hb dL_law_437 (by decide) ?_
  refine lv_iadd hx hb dL_law_438 ?_
  refine va_sld hx hb hX hbl hbA hN.1.2.2 v2 dL_law_439 ?_
  refine lv_aload_n hx hb dL_law_440 rfl (lv_at hl 0 rfl) ?_
  refine lv_iload hx hb dL_law_441 (lv_at hl 4 rfl) ?_
  refine lv_iconst (v := 3) hx hb dL_law_443 (by decide) ?_
  refine lv_iadd hx hb dL_law_444 ?_
  refine va_sld hx hb hX hbl hbA hN.1.2.2 v3 dL_law_445 ?_
  refine lv_aload_n hx hb dL_law_446 rfl (lv_at hl 3 rfl) ?_
  refine lh_call (As := [.ref (ad 0 0), .int (xs (nI i + 1).toNatClampNeg), .int (xs (nI i + 2).toNatClampNeg), .int (xs (nI i + 3).toNatClampNeg), .ref o]) (rest := []) ⟨hx, hb, hml, hown, hT⟩ hM1 (vx_cwSW 5 hT gL_law_L_rule rfl rfl rfl (by decide +kernel) ⟨Nat.le_of_ble_eq_true rfl, Nat.le_of_ble_eq_true rfl⟩) hB hK hN hA rfl hl.1 rfl (Nat.le_of_ble_eq_true rfl) dL_law_447 hr1 (fun ad1 f1 H locs had hf1 hN => ?_)
  refine lv_istore (lv' := [(5, .int code9), (0, .ref b), (1, .ref (ad 0 0)), (2, .ref (q 0)), (3, .ref o), (4, .int (nI i))]) hx hb dL_law_450 hl (by decide) rfl (fun ls hl => ?_)
  refine lv_aload_n hx hb dL_law_452 rfl (lv_at hl 3 rfl) ?_
  refine lv_aload_n hx hb dL_law_453 rfl (lv_at hl 1 rfl) ?_
  refine lv_iload hx hb dL_law_454 (lv_at hl 5 rfl) ?_
  refine lv_iconst (v := 1) hx hb dL_law_456 (by decide) ?_
  refine lv_iadd hx hb dL_law_457 ?_
  refine va_sld hx hb hX hbl hbA hN.1.2.2 v1 dL_law_458 ?_
  refine lv_aload_n hx hb dL_law_459 rfl (lv_at hl 1 rfl) ?_
  refine lv_iload hx hb dL_law_460 (lv_at hl 5 rfl) ?_
  refine lv_iconst (v := 2) hx hb dL_law_462 (by decide) ?_
  refine lv_iadd hx hb dL_law_463 ?_
  refine va_sld hx hb hX hbl hbA hN.1.2.2 v2 dL_law_464 ?_
  refine lv_aload_n hx hb dL_law_465 rfl (lv_at hl 1 rfl) ?_
  refine lv_iload hx hb dL_law_466 (lv_at hl 5 rfl) ?_
  refine lv_iconst (v := 3) hx hb dL_law_468 (by decide) ?_
  refine lv_iadd hx hb dL_law_469 ?_
  refine va_sld hx hb hX hbl hbA hN.1.2.2 v3 dL_law_470 ?_
  refine lr_call (As := [.int (xs (nI i + 1).toNatClampNeg), .int (xs (nI i + 2).toNatClampNeg), .int (xs (nI i + 3).toNatClampNeg)]) (rest := []) ⟨hx, hb, hml, hown, hT⟩ hM2 (cwV 3 hT gL_law_X9_rule rfl rfl rfl (by decide +kernel) ⟨Nat.le_of_ble_eq_true rfl, Nat.le_of_ble_eq_true rfl⟩) hK hN rfl hl.1 rfl (Nat.le_of_ble_eq_true rfl) dL_law_471 hr1 (fun H locs hN => ?_)
  refine lv_istore (lv' := [(6, .int rb), (5, .int code9), (0, .ref b), (1, .ref (ad 0 0)), (2, .ref (q 0)), (3, .ref o), (4, .int (nI i))]) hx hb dL_law_474 hl (by decide) rfl (fun ls hl => ?_)
  refine lv_aload_n hx hb dL_law_476 rfl (lv_at hl 4 rfl) ?_
  refine lr_call (As := []) (rest := []) ⟨hx, hb, hml, hown, hT⟩ (cM_thrown l D yI cZ q (u := u1) (rz := u1 0 0) (uz := u1) rfl) (cwV 0 hT gL_law_X9_thrown rfl rfl rfl (by decide +kernel) ⟨Nat.le_of_ble_eq_true rfl, Nat.le_of_ble_eq_true rfl⟩) hK hN rfl hl.1 rfl (Nat.le_of_ble_eq_true rfl) dL_law_477 hr1 (fun H locs hN => ?_)
  refine lv_iload hx hb dL_law_480 (lv_at hl 1 rfl) ?_
  refine lv_icmp_eq (tgt := 487) hx hb dL_law_482 (by decide) (fun c1 => ?_) (fun c1 => absurd hcode c1)
  refine lv_iload hx hb dL_law_487 (lv_at hl 1 rfl) ?_
  refine lv_if_ne (tgt := 504) hx hb dL_law_489 (by decide) (fun c2 => ?_) (fun c2 => ?_)
  · refine lv_goto (tgt := 2544) hx hb dL_law_504 (by decide) ?_
    exact K ad1 f1 H locs ls hN (by rw [had]; exact lv_sub hl [2, 3, 4, 5, 6] rfl)
  · refine lv_aload_n hx hb dL_law_492 rfl (lv_at hl 5 rfl) ?_
    refine lv_iconst (v := 0) hx hb dL_law_493 (by decide) ?_
    refine lr_long hx hb hK hN hf1 dL_law_494 ?_
    refine lv_iload hx hb dL_law_495 (lv_at hl 0 rfl) ?_
    refine lv_i2l (v := rb.toInt64) hx hb dL_law_497 rfl ?_
    refine W.lcmp hx hb dL_law_498 ?_
    refine lv_if_eq (tgt := 504) hx hb dL_law_499 (by decide) (fun c3 => ?_) (fun c3 => absurd ((lg_cmp_eq _ _).mpr (hout c2)) c3)
    refine lv_goto (tgt := 2544) hx hb dL_law_504 (by decide) ?_
    exact K ad1 f1 H locs ls hN (by rw [had]; exact lv_sub hl [2, 3, 4, 5, 6] rfl)
set_option maxRecDepth 20000 in
theorem lc_person {p : Program} {l : Launch} {e : Env} {s : State} {m : MethodId} {below : List Frame} {meth : Method} {c : Code} {b L : Nat} {xs : Nat → Int32} {D : va_G} {yI yO yL cZ : ClassId} {z0 : Nat} {q : Nat → Nat} {ad : Nat → Nat → Nat} {g : CS} {u : MS} {o : Nat} {f : Nat → Int64} {H : Heap} {locs : List Loc} {cells slots i : Nat} {ls : Array Slot} {g1 : CS} {u1 : MS} {mc ms : Nat} {code9 rb : Int32} {out : Int64} (C0 : lw_At p s m meth c b L xs) (hT : ∀ w ∈ wsL_law, w.before #[Value.ref b] s = true) (hi : i + 7 ≤ L) (hL : L ≤ 3584) (hB : gB z0 (fun a : Nat => s.heap.size ≤ a) s) (hK : gK D yI yO yL cZ s) (hN : gW D yI yO yL cZ z0 q ad g u o f (fun a : Nat => s.heap.size ≤ a) s H locs) (hl : lv_has ls 7 [(0, .ref b), (1, .ref (ad 0 0)), (2, .ref (q 0)), (3, .ref o), (4, .int (nI i))]) (hr1 : cells + mc ≤ 136060 ∧ slots + ms ≤ 8687926) (hM1 : Met l yL_person wsL_person ({ frames := 9, cells := mc, slots := ms, locals := 249 }) (va_Pc [.ref (ad 0 0), .int (xs (nI i + 1).toNatClampNeg), .int (xs (nI i + 2).toNatClampNeg), .ref o] (hPre D yI yO yL z0 ad g o f H.size)) (hQ D yI yO yL z0 ad g1 o f code9 out (hAd ad g H.size o)) mc ms (hAd ad g H.size o)) (hM2 : Met l yX9_person wsX9_person (mR 2 43) (va_Pc [.ref (q 0), .int (xs (nI i + 1).toNatClampNeg), .int (xs (nI i + 2).toNatClampNeg)] (mPre D yI cZ q u)) (mQ D yI cZ q rb u1) 0 0 (mF q)) (hcode : u1 0 0 = code9) (hout : code9 = 0 → out = rb.toInt64) (K : ∀ (ad1 : Nat → Nat → Nat) (f1 : Nat → Int64) (H1 : Heap) (locs1 : List Loc) (ls1 : Array Slot), gW D yI yO yL cZ z0 q ad1 g1 u1 o f1 (fun a : Nat => s.heap.size ≤ a) s H1 locs1 → lv_has ls1 7 [(0, .ref b), (1, .ref (ad1 0 0)), (2, .ref (q 0)), (3, .ref o), (4, .int (nI i))] → W p l e room_1 s m #[Value.ref b] below meth c H1 locs1 (cells + mc) (slots + ms) (lw_Z below #[Value.ref b] s) (F0 m 2544 ls1 [])) : W p l e room_1 s m #[Value.ref b] below meth c H locs (cells) (slots) (lw_Z below #[Value.ref b] s) (F0 m 507 ls []) := by
  obtain ⟨hx, hb, hr, hml, hown9, -, hX, hbl, hlocks, -⟩ := C0
  have hown : s.vm.findClass RL = some m.cls := hown9
  have hA : ∀ a : Nat, s.heap.size ≤ a → (fun a : Nat => s.heap.size ≤ a) a := fun _ h => h
  have hbA : ¬ (fun a : Nat => s.heap.size ≤ a) b := Nat.not_le.mpr hbl
  have v1 : vp_in (nI i + 1) L := by
    show vp_in (nI i + nI 1) L
    rw [nI_add]
    exact vp_in_nI (by omega) (by omega)
  have v2 : vp_in (nI i + 2) L := by
    show vp_in (nI i + nI 2) L
    rw [nI_add]
    exact vp_in_nI (by omega) (by omega)
  refine lv_aload_n hx hb dL_law_507 rfl (lv_at hl 1 rfl) ?_
  refine lv_aload_n hx hb dL_law_508 rfl (lv_at hl 0 rfl) ?_
  refine lv_iload hx hb dL_law_509 (lv_at hl 4 rfl) ?_
  refine lv_iconst (v := 1) hx hb dL_law_511 (by decide) ?_
  refine lv_iadd hx hb dL_law_512 ?_
  refine va_sld hx hb hX hbl hbA hN.1.2.2 v1 dL_law_513 ?_
  refine lv_aload_n hx hb dL_law_514 rfl (lv_at hl 0 rfl) ?_
  refine lv_iload hx hb dL_law_515 (lv_at hl 4 rfl) ?_
  refine lv_iconst (v := 2) hx hb dL_law_517 (by decide) ?_
  refine lv_iadd hx hb dL_law_518 ?_
  refine va_sld hx hb hX hbl hbA hN.1.2.2 v2 dL_law_519 ?_
  refine lv_aload_n hx hb dL_law_520 rfl (lv_at hl 3 rfl) ?_
  refine lh_call (As := [.ref (ad 0 0), .int (xs (nI i + 1).toNatClampNeg), .int (xs (nI i + 2).toNatClampNeg), .ref o]) (rest := []) ⟨hx, hb, hml, hown, hT⟩ hM1 (vx_cwSW 4 hT gL_law_L_person rfl rfl rfl (by decide +kernel) ⟨Nat.le_of_ble_eq_true rfl, Nat.le_of_ble_eq_true rfl⟩) hB hK hN hA rfl hl.1 rfl (Nat.le_of_ble_eq_true rfl) dL_law_521 hr1 (fun ad1 f1 H locs had hf1 hN => ?_)
  refine lv_istore (lv' := [(5, .int code9), (0, .ref b), (1, .ref (ad 0 0)), (2, .ref (q 0)), (3, .ref o), (4, .int (nI i))]) hx hb dL_law_524 hl (by decide) rfl (fun ls hl => ?_)
  refine lv_aload_n hx hb dL_law_526 rfl (lv_at hl 3 rfl) ?_
  refine lv_aload_n hx hb dL_law_527 rfl (lv_at hl 1 rfl) ?_
  refine lv_iload hx hb dL_law_528 (lv_at hl 5 rfl) ?_
  refine lv_iconst (v := 1) hx hb dL_law_530 (by decide) ?_
  refine lv_iadd hx hb dL_law_531 ?_
  refine va_sld hx hb hX hbl hbA hN.1.2.2 v1 dL_law_532 ?_
  refine lv_aload_n hx hb dL_law_533 rfl (lv_at hl 1 rfl) ?_
  refine lv_iload hx hb dL_law_534 (lv_at hl 5 rfl) ?_
  refine lv_iconst (v := 2) hx hb dL_law_536 (by decide) ?_
  refine lv_iadd hx hb dL_law_537 ?_
  refine va_sld hx hb hX hbl hbA hN.1.2.2 v2 dL_law_538 ?_
  refine lr_call (As := [.int (xs (nI i + 1).toNatClampNeg), .int (xs (nI i + 2).toNatClampNeg)]) (rest := []) ⟨hx, hb, hml, hown, hT⟩ hM2 (cwV 2 hT gL_law_X9_person rfl rfl rfl (by decide +kernel) ⟨Nat.le_of_ble_eq_true rfl, Nat.le_of_ble_eq_true rfl⟩) hK hN rfl hl.1 rfl (Nat.le_of_ble_eq_true rfl) dL_law_539 hr1 (fun H locs hN => ?_)
  refine lv_istore (lv' := [(6, .int rb), (5, .int code9), (0, .ref b), (1, .ref (ad 0 0)), (2, .ref (q 0)), (3, .ref o), (4, .int (nI i))]) hx hb dL_law_542 hl (by decide) rfl (fun ls hl => ?_)
  refine lv_aload_n hx hb dL_law_544 rfl (lv_at hl 4 rfl) ?_
  refine lr_call (As := []) (rest := []) ⟨hx, hb, hml, hown, hT⟩ (cM_thrown l D yI cZ q (u := u1) (rz := u1 0 0) (uz := u1) rfl) (cwV 0 hT gL_law_X9_thrown rfl rfl rfl (by decide +kernel) ⟨Nat.le_of_ble_eq_true rfl, Nat.le_of_ble_eq_true rfl⟩) hK hN rfl hl.1 rfl (Nat.le_of_ble_eq_true rfl) dL_law_545 hr1 (fun H locs hN => ?_)
  refine lv_iload hx hb dL_law_548 (lv_at hl 1 rfl) ?_
  refine lv_icmp_eq (tgt := 555) hx hb dL_law_550 (by decide) (fun c1 => ?_) (fun c1 => absurd hcode c1)
  refine lv_iload hx hb dL_law_555 (lv_at hl 1 rfl) ?_
  refine lv_if_ne (tgt := 572) hx hb dL_law_557 (by decide) (fun c2 => ?_) (fun c2 => ?_)
  · refine lv_goto (tgt := 2544) hx hb dL_law_572 (by decide) ?_
    exact K ad1 f1 H locs ls hN (by rw [had]; exact lv_sub hl [2, 3, 4, 5, 6] rfl)
  · refine lv_aload_n hx hb dL_law_560 rfl (lv_at hl 5 rfl) ?_
    refine lv_iconst (v := 0) hx hb dL_law_561 (by decide) ?_
    refine lr_long hx hb hK hN hf1 dL_law_562 ?_
    refine lv_iload hx hb dL_law_563 (lv_at hl 0 rfl) ?_
    refine lv_i2l (v := rb.toInt64) hx hb dL_law_565 rfl ?_
    refine W.lcmp hx hb dL_law_566 ?_
    refine lv_if_eq (tgt := 572) hx hb dL_law_567 (by decide) (fun c3 => ?_) (fun c3 => absurd ((lg_cmp_eq _ _).mpr (hout c2)) c3)
    refine lv_goto (tgt := 2544) hx hb dL_law_572 (by decide) ?_
    exact K ad1 f1 H locs ls hN (by rw [had]; exact lv_sub hl [2, 3, 4, 5, 6] rfl)
set_option maxRecDepth 20000 in
theorem lc_birth {p : Program} {l : Launch} {e : Env} {s : State} {m : MethodId} {below : List Frame} {meth : Method} {c : Code} {b L : Nat} {xs : Nat → Int32} {D : va_G} {yI yO yL cZ : ClassId} {z0 : Nat} {q : Nat → Nat} {ad : Nat → Nat → Nat} {g : CS} {u : MS} {o : Nat} {f : Nat → Int64} {H : Heap} {locs : List Loc} {cells slots i : Nat} {ls : Array Slot} {g1 : CS} {u1 : MS} {mc ms : Nat} {code9 rb : Int32} {out : Int64} (C0 : lw_At p s m meth c b L xs) (hT : ∀ w ∈ wsL_law, w.before #[Value.ref b] s = true) (hi : i + 7 ≤ L) (hL : L ≤ 3584) (hB : gB z0 (fun a : Nat => s.heap.size ≤ a) s) (hK : gK D yI yO yL cZ s) (hN : gW D yI yO yL cZ z0 q ad g u o f (fun a : Nat => s.heap.size ≤ a) s H locs) (hl : lv_has ls 7 [(0, .ref b), (1, .ref (ad 0 0)), (2, .ref (q 0)), (3, .ref o), (4, .int (nI i))]) (hr1 : cells + mc ≤ 136060 ∧ slots + ms ≤ 8687926) (hM1 : Met l yL_birth wsL_birth ({ frames := 9, cells := mc, slots := ms, locals := 252 }) (va_Pc [.ref (ad 0 0), .int (xs (nI i + 1).toNatClampNeg), .int (xs (nI i + 2).toNatClampNeg), .ref o] (hPre D yI yO yL z0 ad g o f H.size)) (hQ D yI yO yL z0 ad g1 o f code9 out (hAd ad g H.size o)) mc ms (hAd ad g H.size o)) (hM2 : Met l yX9_birth wsX9_birth (mR 6 142) (va_Pc [.ref (q 0), .int (xs (nI i + 1).toNatClampNeg), .int (xs (nI i + 2).toNatClampNeg)] (mPre D yI cZ q u)) (mQ D yI cZ q rb u1) 0 0 (mF q)) (hcode : u1 0 0 = code9) (hout : code9 = 0 → out = rb.toInt64) (K : ∀ (ad1 : Nat → Nat → Nat) (f1 : Nat → Int64) (H1 : Heap) (locs1 : List Loc) (ls1 : Array Slot), gW D yI yO yL cZ z0 q ad1 g1 u1 o f1 (fun a : Nat => s.heap.size ≤ a) s H1 locs1 → lv_has ls1 7 [(0, .ref b), (1, .ref (ad1 0 0)), (2, .ref (q 0)), (3, .ref o), (4, .int (nI i))] → W p l e room_1 s m #[Value.ref b] below meth c H1 locs1 (cells + mc) (slots + ms) (lw_Z below #[Value.ref b] s) (F0 m 2544 ls1 [])) : W p l e room_1 s m #[Value.ref b] below meth c H locs (cells) (slots) (lw_Z below #[Value.ref b] s) (F0 m 575 ls []) := by
  obtain ⟨hx, hb, hr, hml, hown9, -, hX, hbl, hlocks, -⟩ := C0
  have hown : s.vm.findClass RL = some m.cls := hown9
  have hA : ∀ a : Nat, s.heap.size ≤ a → (fun a : Nat => s.heap.size ≤ a) a := fun _ h => h
  have hbA : ¬ (fun a : Nat => s.heap.size ≤ a) b := Nat.not_le.mpr hbl
  have v1 : vp_in (nI i + 1) L := by
    show vp_in (nI i + nI 1) L
    rw [nI_add]
    exact vp_in_nI (by omega) (by omega)
  have v2 : vp_in (nI i + 2) L := by
    show vp_in (nI i + nI 2) L
    rw [nI_add]
    exact vp_in_nI (by omega) (by omega)
  refine lv_aload_n hx hb dL_law_575 rfl (lv_at hl 1 rfl) ?_
  refine lv_aload_n hx hb dL_law_576 rfl (lv_at hl 0 rfl) ?_
  refine lv_iload hx hb dL_law_577 (lv_at hl 4 rfl) ?_
  refine lv_iconst (v := 1) hx hb dL_law_579 (by decide) ?_
  refine lv_iadd hx hb dL_law_580 ?_
  refine va_sld hx hb hX hbl hbA hN.1.2.2 v1 dL_law_581 ?_
  refine lv_aload_n hx hb dL_law_582 rfl (lv_at hl 0 rfl) ?_
  refine lv_iload hx hb dL_law_583 (lv_at hl 4 rfl) ?_
  refine lv_iconst (v := 2) hx hb dL_law_585 (by decide) ?_
  refine lv_iadd hx hb dL_law_586 ?_
  refine va_sld hx hb hX hbl hbA hN.1.2.2 v2 dL_law_587 ?_
  refine lv_aload_n hx hb dL_law_588 rfl (lv_at hl 3 rfl) ?_
  refine lh_call (As := [.ref (ad 0 0), .int (xs (nI i + 1).toNatClampNeg), .int (xs (nI i + 2).toNatClampNeg), .ref o]) (rest := []) ⟨hx, hb, hml, hown, hT⟩ hM1 (vx_cwSW 4 hT gL_law_L_birth rfl rfl rfl (by decide +kernel) ⟨Nat.le_of_ble_eq_true rfl, Nat.le_of_ble_eq_true rfl⟩) hB hK hN hA rfl hl.1 rfl (Nat.le_of_ble_eq_true rfl) dL_law_589 hr1 (fun ad1 f1 H locs had hf1 hN => ?_)
  refine lv_istore (lv' := [(5, .int code9), (0, .ref b), (1, .ref (ad 0 0)), (2, .ref (q 0)), (3, .ref o), (4, .int (nI i))]) hx hb dL_law_592 hl (by decide) rfl (fun ls hl => ?_)
  refine lv_aload_n hx hb dL_law_594 rfl (lv_at hl 3 rfl) ?_
  refine lv_aload_n hx hb dL_law_595 rfl (lv_at hl 1 rfl) ?_
  refine lv_iload hx hb dL_law_596 (lv_at hl 5 rfl) ?_
  refine lv_iconst (v := 1) hx hb dL_law_598 (by decide) ?_
  refine lv_iadd hx hb dL_law_599 ?_
  refine va_sld hx hb hX hbl hbA hN.1.2.2 v1 dL_law_600 ?_
  refine lv_aload_n hx hb dL_law_601 rfl (lv_at hl 1 rfl) ?_
  refine lv_iload hx hb dL_law_602 (lv_at hl 5 rfl) ?_
  refine lv_iconst (v := 2) hx hb dL_law_604 (by decide) ?_
  refine lv_iadd hx hb dL_law_605 ?_
  refine va_sld hx hb hX hbl hbA hN.1.2.2 v2 dL_law_606 ?_
  refine lr_call (As := [.int (xs (nI i + 1).toNatClampNeg), .int (xs (nI i + 2).toNatClampNeg)]) (rest := []) ⟨hx, hb, hml, hown, hT⟩ hM2 (cwV 2 hT gL_law_X9_birth rfl rfl rfl (by decide +kernel) ⟨Nat.le_of_ble_eq_true rfl, Nat.le_of_ble_eq_true rfl⟩) hK hN rfl hl.1 rfl (Nat.le_of_ble_eq_true rfl) dL_law_607 hr1 (fun H locs hN => ?_)
  refine lv_istore (lv' := [(6, .int rb), (5, .int code9), (0, .ref b), (1, .ref (ad 0 0)), (2, .ref (q 0)), (3, .ref o), (4, .int (nI i))]) hx hb dL_law_610 hl (by decide) rfl (fun ls hl => ?_)
  refine lv_aload_n hx hb dL_law_612 rfl (lv_at hl 4 rfl) ?_
  refine lr_call (As := []) (rest := []) ⟨hx, hb, hml, hown, hT⟩ (cM_thrown l D yI cZ q (u := u1) (rz := u1 0 0) (uz := u1) rfl) (cwV 0 hT gL_law_X9_thrown rfl rfl rfl (by decide +kernel) ⟨Nat.le_of_ble_eq_true rfl, Nat.le_of_ble_eq_true rfl⟩) hK hN rfl hl.1 rfl (Nat.le_of_ble_eq_true rfl) dL_law_613 hr1 (fun H locs hN => ?_)
  refine lv_iload hx hb dL_law_616 (lv_at hl 1 rfl) ?_
  refine lv_icmp_eq (tgt := 623) hx hb dL_law_618 (by decide) (fun c1 => ?_) (fun c1 => absurd hcode c1)
  refine lv_iload hx hb dL_law_623 (lv_at hl 1 rfl) ?_
  refine lv_if_ne (tgt := 640) hx hb dL_law_625 (by decide) (fun c2 => ?_) (fun c2 => ?_)
  · refine lv_goto (tgt := 2544) hx hb dL_law_640 (by decide) ?_
    exact K ad1 f1 H locs ls hN (by rw [had]; exact lv_sub hl [2, 3, 4, 5, 6] rfl)
  · refine lv_aload_n hx hb dL_law_628 rfl (lv_at hl 5 rfl) ?_
    refine lv_iconst (v := 0) hx hb dL_law_629 (by decide) ?_
    refine lr_long hx hb hK hN hf1 dL_law_630 ?_
    refine lv_iload hx hb dL_law_631 (lv_at hl 0 rfl) ?_
    refine lv_i2l (v := rb.toInt64) hx hb dL_law_633 rfl ?_
    refine W.lcmp hx hb dL_law_634 ?_
    refine lv_if_eq (tgt := 640) hx hb dL_law_635 (by decide) (fun c3 => ?_) (fun c3 => absurd ((lg_cmp_eq _ _).mpr (hout c2)) c3)
    refine lv_goto (tgt := 2544) hx hb dL_law_640 (by decide) ?_
    exact K ad1 f1 H locs ls hN (by rw [had]; exact lv_sub hl [2, 3, 4, 5, 6] rfl)
set_option maxRecDepth 20000 in
theorem lc_nation {p : Program} {l : Launch} {e : Env} {s : State} {m : MethodId} {below : List Frame} {meth : Method} {c : Code} {b L : Nat} {xs : Nat → Int32} {D : va_G} {yI yO yL cZ : ClassId} {z0 : Nat} {q : Nat → Nat} {ad : Nat → Nat → Nat} {g : CS} {u : MS} {o : Nat} {f : Nat → Int64} {H : Heap} {locs : List Loc} {cells slots i : Nat} {ls : Array Slot} {g1 : CS} {u1 : MS} {mc ms : Nat} {code9 rb : Int32} {out : Int64} (C0 : lw_At p s m meth c b L xs) (hT : ∀ w ∈ wsL_law, w.before #[Value.ref b] s = true) (hi : i + 7 ≤ L) (hL : L ≤ 3584) (hB : gB z0 (fun a : Nat => s.heap.size ≤ a) s) (hK : gK D yI yO yL cZ s) (hN : gW D yI yO yL cZ z0 q ad g u o f (fun a : Nat => s.heap.size ≤ a) s H locs) (hl : lv_has ls 7 [(0, .ref b), (1, .ref (ad 0 0)), (2, .ref (q 0)), (3, .ref o), (4, .int (nI i))]) (hr1 : cells + mc ≤ 136060 ∧ slots + ms ≤ 8687926) (hM1 : Met l yL_nation wsL_nation ({ frames := 8, cells := mc, slots := ms, locals := 136 }) (va_Pc [.ref (ad 0 0), .int (xs (nI i + 1).toNatClampNeg), .int (xs (nI i + 2).toNatClampNeg), .int (zB (!decide (xs (nI i + 3).toNatClampNeg = 0))), .ref o] (hPre D yI yO yL z0 ad g o f H.size)) (hQ D yI yO yL z0 ad g1 o f code9 out (hAd ad g H.size o)) mc ms (hAd ad g H.size o)) (hM2 : Met l yX9_nation wsX9_nation (mR 2 43) (va_Pc [.ref (q 0), .int (xs (nI i + 1).toNatClampNeg), .int (xs (nI i + 2).toNatClampNeg), .int (zB (!decide (xs (nI i + 3).toNatClampNeg = 0)))] (mPre D yI cZ q u)) (mQ D yI cZ q rb u1) 0 0 (mF q)) (hcode : u1 0 0 = code9) (hout : code9 = 0 → out = rb.toInt64) (K : ∀ (ad1 : Nat → Nat → Nat) (f1 : Nat → Int64) (H1 : Heap) (locs1 : List Loc) (ls1 : Array Slot), gW D yI yO yL cZ z0 q ad1 g1 u1 o f1 (fun a : Nat => s.heap.size ≤ a) s H1 locs1 → lv_has ls1 7 [(0, .ref b), (1, .ref (ad1 0 0)), (2, .ref (q 0)), (3, .ref o), (4, .int (nI i))] → W p l e room_1 s m #[Value.ref b] below meth c H1 locs1 (cells + mc) (slots + ms) (lw_Z below #[Value.ref b] s) (F0 m 2544 ls1 [])) : W p l e room_1 s m #[Value.ref b] below meth c H locs (cells) (slots) (lw_Z below #[Value.ref b] s) (F0 m 643 ls []) := by
  obtain ⟨hx, hb, hr, hml, hown9, -, hX, hbl, hlocks, -⟩ := C0
  have hown : s.vm.findClass RL = some m.cls := hown9
  have hA : ∀ a : Nat, s.heap.size ≤ a → (fun a : Nat => s.heap.size ≤ a) a := fun _ h => h
  have hbA : ¬ (fun a : Nat => s.heap.size ≤ a) b := Nat.not_le.mpr hbl
  have v1 : vp_in (nI i + 1) L := by
    show vp_in (nI i + nI 1) L
    rw [nI_add]
    exact vp_in_nI (by omega) (by omega)
  have v2 : vp_in (nI i + 2) L := by
    show vp_in (nI i + nI 2) L
    rw [nI_add]
    exact vp_in_nI (by omega) (by omega)
  have v3 : vp_in (nI i + 3) L := by
    show vp_in (nI i + nI 3) L
    rw [nI_add]
    exact vp_in_nI (by omega) (by omega)
  refine lv_aload_n hx hb dL_law_643 rfl (lv_at hl 1 rfl) ?_
  refine lv_aload_n hx hb dL_law_644 rfl (lv_at hl 0 rfl) ?_
  refine lv_iload hx hb dL_law_645 (lv_at hl 4 rfl) ?_
  refine lv_iconst (v := 1) hx hb dL_law_647 (by decide) ?_
  refine lv_iadd hx hb dL_law_648 ?_
  refine va_sld hx hb hX hbl hbA hN.1.2.2 v1 dL_law_649 ?_
  refine lv_aload_n hx hb dL_law_650 rfl (lv_at hl 0 rfl) ?_
  refine lv_iload hx hb dL_law_651 (lv_at hl 4 rfl) ?_
  refine lv_iconst (v := 2) hx hb dL_law_653 (by decide) ?_
  refine lv_iadd hx hb dL_law_654 ?_
  refine va_sld hx hb hX hbl hbA hN.1.2.2 v2 dL_law_655 ?_
  refine lv_aload_n hx hb dL_law_656 rfl (lv_at hl 0 rfl) ?_
  refine lv_iload hx hb dL_law_657 (lv_at hl 4 rfl) ?_
  refine lv_iconst (v := 3) hx hb dL_law_659 (by decide) ?_
  refine lv_iadd hx hb dL_law_660 ?_
  refine va_sld hx hb hX hbl hbA hN.1.2.2 v3 dL_law_661 ?_
  refine lb_bool hx hb dL_law_662 dL_law_665 dL_law_666 dL_law_669 ?_
  refine lv_aload_n hx hb dL_law_670 rfl (lv_at hl 3 rfl) ?_
  refine lh_call (As := [.ref (ad 0 0), .int (xs (nI i + 1).toNatClampNeg), .int (xs (nI i + 2).toNatClampNeg), .int (zB (!decide (xs (nI i + 3).toNatClampNeg = 0))), .ref o]) (rest := []) ⟨hx, hb, hml, hown, hT⟩ hM1 (vx_cwSW 5 hT gL_law_L_nation rfl rfl rfl (by decide +kernel) ⟨Nat.le_of_ble_eq_true rfl, Nat.le_of_ble_eq_true rfl⟩) hB hK hN hA rfl hl.1 rfl (Nat.le_of_ble_eq_true rfl) dL_law_671 hr1 (fun ad1 f1 H locs had hf1 hN => ?_)
  refine lv_istore (lv' := [(5, .int code9), (0, .ref b), (1, .ref (ad 0 0)), (2, .ref (q 0)), (3, .ref o), (4, .int (nI i))]) hx hb dL_law_674 hl (by decide) rfl (fun ls hl => ?_)
  refine lv_aload_n hx hb dL_law_676 rfl (lv_at hl 3 rfl) ?_
  refine lv_aload_n hx hb dL_law_677 rfl (lv_at hl 1 rfl) ?_
  refine lv_iload hx hb dL_law_678 (lv_at hl 5 rfl) ?_
  refine lv_iconst (v := 1) hx hb dL_law_680 (by decide) ?_
  refine lv_iadd hx hb dL_law_681 ?_
  refine va_sld hx hb hX hbl hbA hN.1.2.2 v1 dL_law_682 ?_
  refine lv_aload_n hx hb dL_law_683 rfl (lv_at hl 1 rfl) ?_
  refine lv_iload hx hb dL_law_684 (lv_at hl 5 rfl) ?_
  refine lv_iconst (v := 2) hx hb dL_law_686 (by decide) ?_
  refine lv_iadd hx hb dL_law_687 ?_
  refine va_sld hx hb hX hbl hbA hN.1.2.2 v2 dL_law_688 ?_
  refine lv_aload_n hx hb dL_law_689 rfl (lv_at hl 1 rfl) ?_
  refine lv_iload hx hb dL_law_690 (lv_at hl 5 rfl) ?_
  refine lv_iconst (v := 3) hx hb dL_law_692 (by decide) ?_
  refine lv_iadd hx hb dL_law_693 ?_
  refine va_sld hx hb hX hbl hbA hN.1.2.2 v3 dL_law_694 ?_
  refine lb_bool hx hb dL_law_695 dL_law_698 dL_law_699 dL_law_702 ?_
  refine lr_call (As := [.int (xs (nI i + 1).toNatClampNeg), .int (xs (nI i + 2).toNatClampNeg), .int (zB (!decide (xs (nI i + 3).toNatClampNeg = 0)))]) (rest := []) ⟨hx, hb, hml, hown, hT⟩ hM2 (cwV 3 hT gL_law_X9_nation rfl rfl rfl (by decide +kernel) ⟨Nat.le_of_ble_eq_true rfl, Nat.le_of_ble_eq_true rfl⟩) hK hN rfl hl.1 rfl (Nat.le_of_ble_eq_true rfl) dL_law_703 hr1 (fun H locs hN => ?_)
  refine lv_istore (lv' := [(6, .int rb), (5, .int code9), (0, .ref b), (1, .ref (ad 0 0)), (2, .ref (q 0)), (3, .ref o), (4, .int (nI i))]) hx hb dL_law_706 hl (by decide) rfl (fun ls hl => ?_)
  refine lv_aload_n hx hb dL_law_708 rfl (lv_at hl 4 rfl) ?_
  refine lr_call (As := []) (rest := []) ⟨hx, hb, hml, hown, hT⟩ (cM_thrown l D yI cZ q (u := u1) (rz := u1 0 0) (uz := u1) rfl) (cwV 0 hT gL_law_X9_thrown rfl rfl rfl (by decide +kernel) ⟨Nat.le_of_ble_eq_true rfl, Nat.le_of_ble_eq_true rfl⟩) hK hN rfl hl.1 rfl (Nat.le_of_ble_eq_true rfl) dL_law_709 hr1 (fun H locs hN => ?_)
  refine lv_iload hx hb dL_law_712 (lv_at hl 1 rfl) ?_
  refine lv_icmp_eq (tgt := 719) hx hb dL_law_714 (by decide) (fun c1 => ?_) (fun c1 => absurd hcode c1)
  refine lv_iload hx hb dL_law_719 (lv_at hl 1 rfl) ?_
  refine lv_if_ne (tgt := 736) hx hb dL_law_721 (by decide) (fun c2 => ?_) (fun c2 => ?_)
  · refine lv_goto (tgt := 2544) hx hb dL_law_736 (by decide) ?_
    exact K ad1 f1 H locs ls hN (by rw [had]; exact lv_sub hl [2, 3, 4, 5, 6] rfl)
  · refine lv_aload_n hx hb dL_law_724 rfl (lv_at hl 5 rfl) ?_
    refine lv_iconst (v := 0) hx hb dL_law_725 (by decide) ?_
    refine lr_long hx hb hK hN hf1 dL_law_726 ?_
    refine lv_iload hx hb dL_law_727 (lv_at hl 0 rfl) ?_
    refine lv_i2l (v := rb.toInt64) hx hb dL_law_729 rfl ?_
    refine W.lcmp hx hb dL_law_730 ?_
    refine lv_if_eq (tgt := 736) hx hb dL_law_731 (by decide) (fun c3 => ?_) (fun c3 => absurd ((lg_cmp_eq _ _).mpr (hout c2)) c3)
    refine lv_goto (tgt := 2544) hx hb dL_law_736 (by decide) ?_
    exact K ad1 f1 H locs ls hN (by rw [had]; exact lv_sub hl [2, 3, 4, 5, 6] rfl)
set_option maxRecDepth 20000 in
theorem lc_visa {p : Program} {l : Launch} {e : Env} {s : State} {m : MethodId} {below : List Frame} {meth : Method} {c : Code} {b L : Nat} {xs : Nat → Int32} {D : va_G} {yI yO yL cZ : ClassId} {z0 : Nat} {q : Nat → Nat} {ad : Nat → Nat → Nat} {g : CS} {u : MS} {o : Nat} {f : Nat → Int64} {H : Heap} {locs : List Loc} {cells slots i : Nat} {ls : Array Slot} {g1 : CS} {u1 : MS} {mc ms : Nat} {code9 rb : Int32} {out : Int64} (C0 : lw_At p s m meth c b L xs) (hT : ∀ w ∈ wsL_law, w.before #[Value.ref b] s = true) (hi : i + 7 ≤ L) (hL : L ≤ 3584) (hB : gB z0 (fun a : Nat => s.heap.size ≤ a) s) (hK : gK D yI yO yL cZ s) (hN : gW D yI yO yL cZ z0 q ad g u o f (fun a : Nat => s.heap.size ≤ a) s H locs) (hl : lv_has ls 7 [(0, .ref b), (1, .ref (ad 0 0)), (2, .ref (q 0)), (3, .ref o), (4, .int (nI i))]) (hr1 : cells + mc ≤ 136060 ∧ slots + ms ≤ 8687926) (hM1 : Met l yL_visa wsL_visa ({ frames := 8, cells := mc, slots := ms, locals := 230 }) (va_Pc [.ref (ad 0 0), .int (xs (nI i + 1).toNatClampNeg), .int (xs (nI i + 2).toNatClampNeg), .int (xs (nI i + 3).toNatClampNeg), .int (xs (nI i + 4).toNatClampNeg), .int (xs (nI i + 5).toNatClampNeg), .int (xs (nI i + 6).toNatClampNeg), .ref o] (hPre D yI yO yL z0 ad g o f H.size)) (hQ D yI yO yL z0 ad g1 o f code9 out (hAd ad g H.size o)) mc ms (hAd ad g H.size o)) (hM2 : Met l yX9_visa wsX9_visa (mR 2 43) (va_Pc [.ref (q 0), .int (xs (nI i + 1).toNatClampNeg), .int (xs (nI i + 2).toNatClampNeg), .int (xs (nI i + 3).toNatClampNeg), .int (xs (nI i + 4).toNatClampNeg), .int (xs (nI i + 5).toNatClampNeg), .int (xs (nI i + 6).toNatClampNeg)] (mPre D yI cZ q u)) (mQ D yI cZ q rb u1) 0 0 (mF q)) (hcode : u1 0 0 = code9) (hout : code9 = 0 → out = rb.toInt64) (K : ∀ (ad1 : Nat → Nat → Nat) (f1 : Nat → Int64) (H1 : Heap) (locs1 : List Loc) (ls1 : Array Slot), gW D yI yO yL cZ z0 q ad1 g1 u1 o f1 (fun a : Nat => s.heap.size ≤ a) s H1 locs1 → lv_has ls1 7 [(0, .ref b), (1, .ref (ad1 0 0)), (2, .ref (q 0)), (3, .ref o), (4, .int (nI i))] → W p l e room_1 s m #[Value.ref b] below meth c H1 locs1 (cells + mc) (slots + ms) (lw_Z below #[Value.ref b] s) (F0 m 2544 ls1 [])) : W p l e room_1 s m #[Value.ref b] below meth c H locs (cells) (slots) (lw_Z below #[Value.ref b] s) (F0 m 739 ls []) := by
  obtain ⟨hx, hb, hr, hml, hown9, -, hX, hbl, hlocks, -⟩ := C0
  have hown : s.vm.findClass RL = some m.cls := hown9
  have hA : ∀ a : Nat, s.heap.size ≤ a → (fun a : Nat => s.heap.size ≤ a) a := fun _ h => h
  have hbA : ¬ (fun a : Nat => s.heap.size ≤ a) b := Nat.not_le.mpr hbl
  have v1 : vp_in (nI i + 1) L := by
    show vp_in (nI i + nI 1) L
    rw [nI_add]
    exact vp_in_nI (by omega) (by omega)
  have v2 : vp_in (nI i + 2) L := by
    show vp_in (nI i + nI 2) L
    rw [nI_add]
    exact vp_in_nI (by omega) (by omega)
  have v3 : vp_in (nI i + 3) L := by
    show vp_in (nI i + nI 3) L
    rw [nI_add]
    exact vp_in_nI (by omega) (by omega)
  have v4 : vp_in (nI i + 4) L := by
    show vp_in (nI i + nI 4) L
    rw [nI_add]
    exact vp_in_nI (by omega) (by omega)
  have v5 : vp_in (nI i + 5) L := by
    show vp_in (nI i + nI 5) L
    rw [nI_add]
    exact vp_in_nI (by omega) (by omega)
  have v6 : vp_in (nI i + 6) L := by
    show vp_in (nI i + nI 6) L
    rw [nI_add]
    exact vp_in_nI (by omega) (by omega)
  refine lv_aload_n hx hb dL_law_739 rfl (lv_at hl 1 rfl) ?_
  refine lv_aload_n hx hb dL_law_740 rfl (lv_at hl 0 rfl) ?_
  refine lv_iload hx hb dL_law_741 (lv_at hl 4 rfl) ?_
  refine lv_iconst (v := 1) hx hb dL_law_743 (by decide) ?_
  refine lv_iadd hx hb dL_law_744 ?_
  refine va_sld hx hb hX hbl hbA hN.1.2.2 v1 dL_law_745 ?_
  refine lv_aload_n hx hb dL_law_746 rfl (lv_at hl 0 rfl) ?_
  refine lv_iload hx hb dL_law_747 (lv_at hl 4 rfl) ?_
  refine lv_iconst (v := 2) hx hb dL_law_749 (by decide) ?_
  refine lv_iadd hx hb dL_law_750 ?_
  refine va_sld hx hb hX hbl hbA hN.1.2.2 v2 dL_law_751 ?_
  refine lv_aload_n hx hb dL_law_752 rfl (lv_at hl 0 rfl) ?_
  refine lv_iload hx hb dL_law_753 (lv_at hl 4 rfl) ?_
  refine lv_iconst (v := 3) hx hb dL_law_755 (by decide) ?_
  refine lv_iadd hx hb dL_law_756 ?_
  refine va_sld hx hb hX hbl hbA hN.1.2.2 v3 dL_law_757 ?_
  refine lv_aload_n hx hb dL_law_758 rfl (lv_at hl 0 rfl) ?_
  refine lv_iload hx hb dL_law_759 (lv_at hl 4 rfl) ?_
  refine lv_iconst (v := 4) hx hb dL_law_761 (by decide) ?_
  refine lv_iadd hx hb dL_law_762 ?_
  refine va_sld hx hb hX hbl hbA hN.1.2.2 v4 dL_law_763 ?_
  refine lv_aload_n hx hb dL_law_764 rfl (lv_at hl 0 rfl) ?_
  refine lv_iload hx hb dL_law_765 (lv_at hl 4 rfl) ?_
  refine lv_iconst (v := 5) hx hb dL_law_767 (by decide) ?_
  refine lv_iadd hx hb dL_law_768 ?_
  refine va_sld hx hb hX hbl hbA hN.1.2.2 v5 dL_law_769 ?_
  refine lv_aload_n hx hb dL_law_770 rfl (lv_at hl 0 rfl) ?_
  refine lv_iload hx hb dL_law_771 (lv_at hl 4 rfl) ?_
  refine lv_bipush (v := 6) hx hb dL_law_773 (by decide) ?_
  refine lv_iadd hx hb dL_law_775 ?_
  refine va_sld hx hb hX hbl hbA hN.1.2.2 v6 dL_law_776 ?_
  refine lv_aload_n hx hb dL_law_777 rfl (lv_at hl 3 rfl) ?_
  refine lh_call (As := [.ref (ad 0 0), .int (xs (nI i + 1).toNatClampNeg), .int (xs (nI i + 2).toNatClampNeg), .int (xs (nI i + 3).toNatClampNeg), .int (xs (nI i + 4).toNatClampNeg), .int (xs (nI i + 5).toNatClampNeg), .int (xs (nI i + 6).toNatClampNeg), .ref o]) (rest := []) ⟨hx, hb, hml, hown, hT⟩ hM1 (vx_cwSW 8 hT gL_law_L_visa rfl rfl rfl (by decide +kernel) ⟨Nat.le_of_ble_eq_true rfl, Nat.le_of_ble_eq_true rfl⟩) hB hK hN hA rfl hl.1 rfl (Nat.le_of_ble_eq_true rfl) dL_law_778 hr1 (fun ad1 f1 H locs had hf1 hN => ?_)
  refine lv_istore (lv' := [(5, .int code9), (0, .ref b), (1, .ref (ad 0 0)), (2, .ref (q 0)), (3, .ref o), (4, .int (nI i))]) hx hb dL_law_781 hl (by decide) rfl (fun ls hl => ?_)
  refine lv_aload_n hx hb dL_law_783 rfl (lv_at hl 3 rfl) ?_
  refine lv_aload_n hx hb dL_law_784 rfl (lv_at hl 1 rfl) ?_
  refine lv_iload hx hb dL_law_785 (lv_at hl 5 rfl) ?_
  refine lv_iconst (v := 1) hx hb dL_law_787 (by decide) ?_
  refine lv_iadd hx hb dL_law_788 ?_
  refine va_sld hx hb hX hbl hbA hN.1.2.2 v1 dL_law_789 ?_
  refine lv_aload_n hx hb dL_law_790 rfl (lv_at hl 1 rfl) ?_
  refine lv_iload hx hb dL_law_791 (lv_at hl 5 rfl) ?_
  refine lv_iconst (v := 2) hx hb dL_law_793 (by decide) ?_
  refine lv_iadd hx hb dL_law_794 ?_
  refine va_sld hx hb hX hbl hbA hN.1.2.2 v2 dL_law_795 ?_
  refine lv_aload_n hx hb dL_law_796 rfl (lv_at hl 1 rfl) ?_
  refine lv_iload hx hb dL_law_797 (lv_at hl 5 rfl) ?_
  refine lv_iconst (v := 3) hx hb dL_law_799 (by decide) ?_
  refine lv_iadd hx hb dL_law_800 ?_
  refine va_sld hx hb hX hbl hbA hN.1.2.2 v3 dL_law_801 ?_
  refine lv_aload_n hx hb dL_law_802 rfl (lv_at hl 1 rfl) ?_
  refine lv_iload hx hb dL_law_803 (lv_at hl 5 rfl) ?_
  refine lv_iconst (v := 4) hx hb dL_law_805 (by decide) ?_
  refine lv_iadd hx hb dL_law_806 ?_
  refine va_sld hx hb hX hbl hbA hN.1.2.2 v4 dL_law_807 ?_
  refine lv_aload_n hx hb dL_law_808 rfl (lv_at hl 1 rfl) ?_
  refine lv_iload hx hb dL_law_809 (lv_at hl 5 rfl) ?_
  refine lv_iconst (v := 5) hx hb dL_law_811 (by decide) ?_
  refine lv_iadd hx hb dL_law_812 ?_
  refine va_sld hx hb hX hbl hbA hN.1.2.2 v5 dL_law_813 ?_
  refine lv_aload_n hx hb dL_law_814 rfl (lv_at hl 1 rfl) ?_
  refine lv_iload hx hb dL_law_815 (lv_at hl 5 rfl) ?_
  refine lv_bipush (v := 6) hx hb dL_law_817 (by decide) ?_
  refine lv_iadd hx hb dL_law_819 ?_
  refine va_sld hx hb hX hbl hbA hN.1.2.2 v6 dL_law_820 ?_
  refine lr_call (As := [.int (xs (nI i + 1).toNatClampNeg), .int (xs (nI i + 2).toNatClampNeg), .int (xs (nI i + 3).toNatClampNeg), .int (xs (nI i + 4).toNatClampNeg), .int (xs (nI i + 5).toNatClampNeg), .int (xs (nI i + 6).toNatClampNeg)]) (rest := []) ⟨hx, hb, hml, hown, hT⟩ hM2 (cwV 6 hT gL_law_X9_visa rfl rfl rfl (by decide +kernel) ⟨Nat.le_of_ble_eq_true rfl, Nat.le_of_ble_eq_true rfl⟩) hK hN rfl hl.1 rfl (Nat.le_of_ble_eq_true rfl) dL_law_821 hr1 (fun H locs hN => ?_)
  refine lv_istore (lv' := [(6, .int rb), (5, .int code9), (0, .ref b), (1, .ref (ad 0 0)), (2, .ref (q 0)), (3, .ref o), (4, .int (nI i))]) hx hb dL_law_824 hl (by decide) rfl (fun ls hl => ?_)
  refine lv_aload_n hx hb dL_law_826 rfl (lv_at hl 4 rfl) ?_
  refine lr_call (As := []) (rest := []) ⟨hx, hb, hml, hown, hT⟩ (cM_thrown l D yI cZ q (u := u1) (rz := u1 0 0) (uz := u1) rfl) (cwV 0 hT gL_law_X9_thrown rfl rfl rfl (by decide +kernel) ⟨Nat.le_of_ble_eq_true rfl, Nat.le_of_ble_eq_true rfl⟩) hK hN rfl hl.1 rfl (Nat.le_of_ble_eq_true rfl) dL_law_827 hr1 (fun H locs hN => ?_)
  refine lv_iload hx hb dL_law_830 (lv_at hl 1 rfl) ?_
  refine lv_icmp_eq (tgt := 837) hx hb dL_law_832 (by decide) (fun c1 => ?_) (fun c1 => absurd hcode c1)
  refine lv_iload hx hb dL_law_837 (lv_at hl 1 rfl) ?_
  refine lv_if_ne (tgt := 854) hx hb dL_law_839 (by decide) (fun c2 => ?_) (fun c2 => ?_)
  · refine lv_goto (tgt := 2544) hx hb dL_law_854 (by decide) ?_
    exact K ad1 f1 H locs ls hN (by rw [had]; exact lv_sub hl [2, 3, 4, 5, 6] rfl)
  · refine lv_aload_n hx hb dL_law_842 rfl (lv_at hl 5 rfl) ?_
    refine lv_iconst (v := 0) hx hb dL_law_843 (by decide) ?_
    refine lr_long hx hb hK hN hf1 dL_law_844 ?_
    refine lv_iload hx hb dL_law_845 (lv_at hl 0 rfl) ?_
    refine lv_i2l (v := rb.toInt64) hx hb dL_law_847 rfl ?_
    refine W.lcmp hx hb dL_law_848 ?_
    refine lv_if_eq (tgt := 854) hx hb dL_law_849 (by decide) (fun c3 => ?_) (fun c3 => absurd ((lg_cmp_eq _ _).mpr (hout c2)) c3)
    refine lv_goto (tgt := 2544) hx hb dL_law_854 (by decide) ?_
    exact K ad1 f1 H locs ls hN (by rw [had]; exact lv_sub hl [2, 3, 4, 5, 6] rfl)
set_option maxRecDepth 20000 in
theorem lc_enter {p : Program} {l : Launch} {e : Env} {s : State} {m : MethodId} {below : List Frame} {meth : Method} {c : Code} {b L : Nat} {xs : Nat → Int32} {D : va_G} {yI yO yL cZ : ClassId} {z0 : Nat} {q : Nat → Nat} {ad : Nat → Nat → Nat} {g : CS} {u : MS} {o : Nat} {f : Nat → Int64} {H : Heap} {locs : List Loc} {cells slots i : Nat} {ls : Array Slot} {g1 : CS} {u1 : MS} {mc ms : Nat} {code9 rb : Int32} {out : Int64} (C0 : lw_At p s m meth c b L xs) (hT : ∀ w ∈ wsL_law, w.before #[Value.ref b] s = true) (hi : i + 7 ≤ L) (hL : L ≤ 3584) (hB : gB z0 (fun a : Nat => s.heap.size ≤ a) s) (hK : gK D yI yO yL cZ s) (hN : gW D yI yO yL cZ z0 q ad g u o f (fun a : Nat => s.heap.size ≤ a) s H locs) (hl : lv_has ls 7 [(0, .ref b), (1, .ref (ad 0 0)), (2, .ref (q 0)), (3, .ref o), (4, .int (nI i))]) (hr1 : cells + mc ≤ 136060 ∧ slots + ms ≤ 8687926) (hM1 : Met l yL_enter wsL_enter ({ frames := 9, cells := mc, slots := ms, locals := 207 }) (va_Pc [.ref (ad 0 0), .int (xs (nI i + 1).toNatClampNeg), .int (xs (nI i + 2).toNatClampNeg), .ref o] (hPre D yI yO yL z0 ad g o f H.size)) (hQ D yI yO yL z0 ad g1 o f code9 out (hAd ad g H.size o)) mc ms (hAd ad g H.size o)) (hM2 : Met l yX9_enter wsX9_enter (mR 6 142) (va_Pc [.ref (q 0), .int (xs (nI i + 1).toNatClampNeg), .int (xs (nI i + 2).toNatClampNeg)] (mPre D yI cZ q u)) (mQ D yI cZ q rb u1) 0 0 (mF q)) (hcode : u1 0 0 = code9) (hout : code9 = 0 → out = rb.toInt64) (K : ∀ (ad1 : Nat → Nat → Nat) (f1 : Nat → Int64) (H1 : Heap) (locs1 : List Loc) (ls1 : Array Slot), gW D yI yO yL cZ z0 q ad1 g1 u1 o f1 (fun a : Nat => s.heap.size ≤ a) s H1 locs1 → lv_has ls1 7 [(0, .ref b), (1, .ref (ad1 0 0)), (2, .ref (q 0)), (3, .ref o), (4, .int (nI i))] → W p l e room_1 s m #[Value.ref b] below meth c H1 locs1 (cells + mc) (slots + ms) (lw_Z below #[Value.ref b] s) (F0 m 2544 ls1 [])) : W p l e room_1 s m #[Value.ref b] below meth c H locs (cells) (slots) (lw_Z below #[Value.ref b] s) (F0 m 857 ls []) := by
  obtain ⟨hx, hb, hr, hml, hown9, -, hX, hbl, hlocks, -⟩ := C0
  have hown : s.vm.findClass RL = some m.cls := hown9
  have hA : ∀ a : Nat, s.heap.size ≤ a → (fun a : Nat => s.heap.size ≤ a) a := fun _ h => h
  have hbA : ¬ (fun a : Nat => s.heap.size ≤ a) b := Nat.not_le.mpr hbl
  have v1 : vp_in (nI i + 1) L := by
    show vp_in (nI i + nI 1) L
    rw [nI_add]
    exact vp_in_nI (by omega) (by omega)
  have v2 : vp_in (nI i + 2) L := by
    show vp_in (nI i + nI 2) L
    rw [nI_add]
    exact vp_in_nI (by omega) (by omega)
  refine lv_aload_n hx hb dL_law_857 rfl (lv_at hl 1 rfl) ?_
  refine lv_aload_n hx hb dL_law_858 rfl (lv_at hl 0 rfl) ?_
  refine lv_iload hx hb dL_law_859 (lv_at hl 4 rfl) ?_
  refine lv_iconst (v := 1) hx hb dL_law_861 (by decide) ?_
  refine lv_iadd hx hb dL_law_862 ?_
  refine va_sld hx hb hX hbl hbA hN.1.2.2 v1 dL_law_863 ?_
  refine lv_aload_n hx hb dL_law_864 rfl (lv_at hl 0 rfl) ?_
  refine lv_iload hx hb dL_law_865 (lv_at hl 4 rfl) ?_
  refine lv_iconst (v := 2) hx hb dL_law_867 (by decide) ?_
  refine lv_iadd hx hb dL_law_868 ?_
  refine va_sld hx hb hX hbl hbA hN.1.2.2 v2 dL_law_869 ?_
  refine lv_aload_n hx hb dL_law_870 rfl (lv_at hl 3 rfl) ?_
  refine lh_call (As := [.ref (ad 0 0), .int (xs (nI i + 1).toNatClampNeg), .int (xs (nI i + 2).toNatClampNeg), .ref o]) (rest := []) ⟨hx, hb, hml, hown, hT⟩ hM1 (vx_cwSW 4 hT gL_law_L_enter rfl rfl rfl (by decide +kernel) ⟨Nat.le_of_ble_eq_true rfl, Nat.le_of_ble_eq_true rfl⟩) hB hK hN hA rfl hl.1 rfl (Nat.le_of_ble_eq_true rfl) dL_law_871 hr1 (fun ad1 f1 H locs had hf1 hN => ?_)
  refine lv_istore (lv' := [(5, .int code9), (0, .ref b), (1, .ref (ad 0 0)), (2, .ref (q 0)), (3, .ref o), (4, .int (nI i))]) hx hb dL_law_874 hl (by decide) rfl (fun ls hl => ?_)
  refine lv_aload_n hx hb dL_law_876 rfl (lv_at hl 3 rfl) ?_
  refine lv_aload_n hx hb dL_law_877 rfl (lv_at hl 1 rfl) ?_
  refine lv_iload hx hb dL_law_878 (lv_at hl 5 rfl) ?_
  refine lv_iconst (v := 1) hx hb dL_law_880 (by decide) ?_
  refine lv_iadd hx hb dL_law_881 ?_
  refine va_sld hx hb hX hbl hbA hN.1.2.2 v1 dL_law_882 ?_
  refine lv_aload_n hx hb dL_law_883 rfl (lv_at hl 1 rfl) ?_
  refine lv_iload hx hb dL_law_884 (lv_at hl 5 rfl) ?_
  refine lv_iconst (v := 2) hx hb dL_law_886 (by decide) ?_
  refine lv_iadd hx hb dL_law_887 ?_
  refine va_sld hx hb hX hbl hbA hN.1.2.2 v2 dL_law_888 ?_
  refine lr_call (As := [.int (xs (nI i + 1).toNatClampNeg), .int (xs (nI i + 2).toNatClampNeg)]) (rest := []) ⟨hx, hb, hml, hown, hT⟩ hM2 (cwV 2 hT gL_law_X9_enter rfl rfl rfl (by decide +kernel) ⟨Nat.le_of_ble_eq_true rfl, Nat.le_of_ble_eq_true rfl⟩) hK hN rfl hl.1 rfl (Nat.le_of_ble_eq_true rfl) dL_law_889 hr1 (fun H locs hN => ?_)
  refine lv_istore (lv' := [(6, .int rb), (5, .int code9), (0, .ref b), (1, .ref (ad 0 0)), (2, .ref (q 0)), (3, .ref o), (4, .int (nI i))]) hx hb dL_law_892 hl (by decide) rfl (fun ls hl => ?_)
  refine lv_aload_n hx hb dL_law_894 rfl (lv_at hl 4 rfl) ?_
  refine lr_call (As := []) (rest := []) ⟨hx, hb, hml, hown, hT⟩ (cM_thrown l D yI cZ q (u := u1) (rz := u1 0 0) (uz := u1) rfl) (cwV 0 hT gL_law_X9_thrown rfl rfl rfl (by decide +kernel) ⟨Nat.le_of_ble_eq_true rfl, Nat.le_of_ble_eq_true rfl⟩) hK hN rfl hl.1 rfl (Nat.le_of_ble_eq_true rfl) dL_law_895 hr1 (fun H locs hN => ?_)
  refine lv_iload hx hb dL_law_898 (lv_at hl 1 rfl) ?_
  refine lv_icmp_eq (tgt := 905) hx hb dL_law_900 (by decide) (fun c1 => ?_) (fun c1 => absurd hcode c1)
  refine lv_iload hx hb dL_law_905 (lv_at hl 1 rfl) ?_
  refine lv_if_ne (tgt := 922) hx hb dL_law_907 (by decide) (fun c2 => ?_) (fun c2 => ?_)
  · refine lv_goto (tgt := 2544) hx hb dL_law_922 (by decide) ?_
    exact K ad1 f1 H locs ls hN (by rw [had]; exact lv_sub hl [2, 3, 4, 5, 6] rfl)
  · refine lv_aload_n hx hb dL_law_910 rfl (lv_at hl 5 rfl) ?_
    refine lv_iconst (v := 0) hx hb dL_law_911 (by decide) ?_
    refine lr_long hx hb hK hN hf1 dL_law_912 ?_
    refine lv_iload hx hb dL_law_913 (lv_at hl 0 rfl) ?_
    refine lv_i2l (v := rb.toInt64) hx hb dL_law_915 rfl ?_
    refine W.lcmp hx hb dL_law_916 ?_
    refine lv_if_eq (tgt := 922) hx hb dL_law_917 (by decide) (fun c3 => ?_) (fun c3 => absurd ((lg_cmp_eq _ _).mpr (hout c2)) c3)
    refine lv_goto (tgt := 2544) hx hb dL_law_922 (by decide) ?_
    exact K ad1 f1 H locs ls hN (by rw [had]; exact lv_sub hl [2, 3, 4, 5, 6] rfl)
