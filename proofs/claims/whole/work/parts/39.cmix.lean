/-! ===== the class's world with new cells beside it ===== -/
def nX (D : va_G) (yI yO : ClassId) (z0 : Nat) (ad : Nat → Nat → Nat) (g : CS) (A : Nat → Prop) (s : State) (H : Heap) (locs : List Loc) (ws : va_W) : Prop := cX D yI yO z0 ad g A s H locs ∧ va_P D vwCl ws H ∧ va_D A ws ∧ ∀ (k : Nat) (q : Nat × va_E), ws[k]? = some q → ¬ cF ad g q.1
section NX
variable {p : Program} {l : Launch} {e : Env} {R : Room} {s : State} {m : MethodId} {args : Array Value} {below : List Frame} {meth : Method} {c : Code} {H : Heap} {locs : List Loc} {cells slots : Nat} {Q : State → Prop}
variable {cc : ByteArray} {pc : Nat} {ls : Array Slot} {rest : List Value} {D : va_G} {yI yO : ClassId} {z0 : Nat} {ad : Nat → Nat → Nat} {g : CS} {A : Nat → Prop} {ws : va_W}
theorem cX_lt (hX : cX D yI yO z0 ad g A s H locs) {q : Nat} (h : cF ad g q) : q < H.size := by
  obtain ⟨k, i, h1, rfl⟩ := h
  exact (hX.1.1 k i h1).lt
theorem cX_of_same {H1 : Heap} {locs1 : List Loc} (hX : cX D yI yO z0 ad g A s H locs) (hk : ∀ q, cF ad g q → H1[q]? = H[q]?) (hS : va_S A s.heap H1 locs1) : cX D yI yO z0 ad g A s H1 locs1 :=
  ⟨⟨fun k i h => (hX.1.1 k i h).kept (hk _ ⟨k, i, h, rfl⟩), hX.1.2⟩, hX.2.1, hS⟩
theorem nX_of (hX : cX D yI yO z0 ad g A s H locs) : nX D yI yO z0 ad g A s H locs [] := ⟨hX, (fun k q hk => by simp at hk), ⟨(fun i j x y hx _ _ => by simp at hx), (fun k q hk => by simp at hk)⟩, (fun k q hk => by simp at hk)⟩
theorem ng_new (hx : p.tables.exec = Jvm.exec) (hb : c.code = cc) {own C : String} {T : u_T} {N ci index : Nat} {Ts : List Cond} (hts : ∀ w ∈ Ts, w.before args s = true) (hin : ∀ w ∈ u_ws C T N, w ∈ Ts) (ty : Nat → FieldType) (hty : ∀ k, k < N → parseFieldDescriptor (T k).2.2.1 = some (ty k)) (hown : s.vm.findClass own = some m.cls) (hcl : (Cond.classLink own index C).before args s = true) (hinst : (Cond.instantiable C N).before args s = true) (hini : (Cond.initialized C).before args s = true)
    (hK : cK D yI yO s) (hN : nX D yI yO z0 ad g A s H locs ws) (hA : ∀ q, s.heap.size ≤ q → A q) (hc : vwCl[ci]? = some (C, T, N)) {fs : List Value} (hfs : ∀ j, j < N → defaultValue (ty j) = vp_V fs j) (hcells : cells + 1 ≤ R.cells) (hslots : slots + N ≤ R.slots) (hdg : decode cc pc = .ok (.new index, 3))
    (kk : ∀ (q : Nat) (H1 : Heap), nX D yI yO z0 ad g A s H1 locs (ws ++ [(q, .inr (ci, fs))]) →
      W p l e R s m args below meth c H1 locs (cells + 1) (slots + N) Q (F0 m (pc + 3) ls (.ref q :: rest))) : W p l e R s m args below meth c H locs cells slots Q (F0 m pc ls rest) := by
  obtain ⟨hX, hP, hD, hn⟩ := hN
  have hKn := hK.1 ci _ hc
  have hS := hX.2.2
  refine W.newcK hx hb hown hcl hinst hini rfl hdg hcells hslots hKn.2.1 rfl fun H1 kC hkC e1 z1 o1 => ?_
  have hk : ∀ (k : Nat) (x : Nat × va_E), ws[k]? = some x → H1[x.1]? = H[x.1]? := fun k x hx => o1 x.1 ((hP k x hx).lt)
  have hS1 : va_S A s.heap H1 locs := ⟨Nat.le_trans hS.1 (by omega), fun x h1 h2 => (o1 x (Nat.lt_of_lt_of_le h1 hS.1)).trans (hS.2.1 x h1 h2), hS.2.2⟩
  refine kk H.size H1 ⟨cX_of_same hX (fun q hq => o1 q (cX_lt hX hq)) hS1, (hP.kept hk).app (fun k x hx => ?_), hD.push hP rfl (hA _ hS.1), fun k x hx hf => ?_⟩
  · have hz : k < 1 := (List.getElem?_eq_some_iff.mp hx).1
    rw [show k = 0 by omega] at hx
    cases hx
    exact ⟨_, hc, (u_born ty hts hin hKn hkC e1 hty).to hfs⟩
  · by_cases hl : k < ws.length
    · rw [List.getElem?_append_left hl] at hx
      exact hn k x hx hf
    · rw [List.getElem?_append_right (by omega)] at hx
      have hz : k - ws.length < 1 := (List.getElem?_eq_some_iff.mp hx).1
      rw [show k - ws.length = 0 by omega] at hx
      cases hx
      exact absurd (cX_lt hX hf) (Nat.lt_irrefl _)
theorem ng_callV {y : MethodName} {bytes : ByteArray} {maxL nL n index : Nat} {own C1 : String} {T : u_T} {NF ci : Nat} {ret : Option FieldType} {wsm : List Cond} {rm : Room} {Ts : List Cond} {As : List Value} {r : Int32} {st0 : List Value}
    (S : CallFix p m c cc nL s args Ts own) (k i : Nat) (hlv : clvb g k i = true) (hc : vwCl[ci]? = some (C1, T, NF)) {fs : List Value} (he : cent yI yO ad g k i = .inr (ci, fs)) (hM : Met l y wsm rm (va_Pc (.ref (ad k i) :: As) (cPre D yI yO z0 ad g)) (cQ D yI yO z0 ad r g (cF ad g)) 0 0 (cF ad g)) (cw0 : CallW R s args own C1 index y bytes maxL ret wsm rm 0 0 n) (hK : cK D yI yO s) (hN : nX D yI yO z0 ad g A s H locs ws)
    (hn : As.length = n) (hsize : ls.size = nL) (hstack : st0 = As.reverse ++ .ref (ad k i) :: rest) (hW : (rest.map fun v => v.category).sum ≤ 8) (hdg : decode cc pc = .ok (.invokevirtual index, 3)) (hf : cells ≤ R.cells ∧ slots ≤ R.slots)
    (kk : ∀ (H1 : Heap) (locs1 : List Loc), nX D yI yO z0 ad g A s H1 locs1 ws → W p l e R s m args below meth c H1 locs1 cells slots Q (F0 m (pc + 3) ls (.int r :: rest))) : W p l e R s m args below meth c H locs cells slots Q (F0 m pc ls st0) := by
  subst hstack
  obtain ⟨hX, hP, hD, hnf⟩ := hN
  exact va_calli (va_runV (As := As) (rest := rest) S hM cw0 ⟨cPre_blind D yI yO z0 ad g _, va_recv hK (cw_lv hX.1 hlv he) (q0 := 0) hc rfl, fun U hU hW => ⟨rfl, by rw [hU]; exact hX.1, va_K.moved hW.alike hK⟩⟩ rfl hn hsize rfl (lv_room (pc := pc) (ls := ls) (rest := []) (m := m) hW) hdg hf) hX.2.2 (fun q _ h => cF_sub hX q h) (cF_sub hX) (fun r' _ t H1 locs1 ht hvm hp hB hz hk hS => by
    subst hp
    exact kk H1 locs1 ⟨cX_kept ht hB (cF_sub hX) hS, hP.kept (fun k q hq => hk q.1 (hP k q hq).lt (hnf k q hq)), hD, hnf⟩)
theorem ng_init {y : MethodName} {bytes : ByteArray} {maxL nL n index mc ms : Nat} {own : String} {wsm : List Cond} {rm : Room} {Ts : List Cond} {As : List Value} {st0 : List Value} {b : Nat} {ws1 : (Nat → Nat) → va_W}
    (S : CallFix p m c cc nL s args Ts own) (hM : Met l y wsm rm (va_Pc (.ref b :: As) (kPre D yI yO ws H.size)) (va_Qv (S := Nat → Nat) (fun _ => True) (fun q t => kPost D yI yO (ws1 q) (va_A ws H.size) t) (va_A ws H.size)) mc ms (va_A ws H.size)) (cw0 : CallB R s args own index y bytes maxL none wsm rm mc ms n ∧ y.name = "<init>" ∧ (Cond.instanceMethod y).before args s = true) (hkn : kN s) (hK : cK D yI yO s) (hN : nX D yI yO z0 ad g A s H locs ws) (hA : ∀ q, s.heap.size ≤ q → A q)
    (hn : As.length = n) (hsize : ls.size = nL) (hstack : st0 = As.reverse ++ .ref b :: rest) (hW : (rest.map fun v => v.category).sum ≤ 8) (hdg : decode cc pc = .ok (.invokespecial index, 3)) (hf : cells + mc ≤ R.cells ∧ slots + ms ≤ R.slots)
    (kk : ∀ (u : Nat → Nat) (H1 : Heap) (locs1 : List Loc), nX D yI yO z0 ad g A s H1 locs1 (ws1 u) → W p l e R s m args below meth c H1 locs1 (cells + mc) (slots + ms) Q (F0 m (pc + 3) ls rest)) : W p l e R s m args below meth c H locs cells slots Q (F0 m pc ls st0) := by
  subst hstack
  obtain ⟨hX, hP, hD, hnf⟩ := hN
  have hFc : ∀ q, va_A ws H.size q → A q := by
    rintro q (⟨k, e9, h⟩ | h)
    · exact hD.2 k (q, e9) h
    · exact hA q (Nat.le_trans hX.2.2.1 h)
  have hNc : ∀ q, va_A ws H.size q → ¬ cF ad g q := by
    rintro q (⟨k, e9, h⟩ | h) h2
    · exact hnf k (q, e9) h h2
    · exact absurd (cX_lt hX h2) (Nat.not_lt.mpr h)
  refine va_callv (va_runI (As := As) (rest := rest) S hM cw0 ⟨kPre_blind D yI yO _ _ _, fun U hU hW => ⟨rfl, by rw [hU], by rw [hU]; exact hP, va_K.moved hW.alike hK, hD.weaken (fun _ _ _ _ => trivial), hkn.moved hW⟩⟩ rfl hn hsize rfl (lv_room (pc := pc) (ls := ls) (rest := []) (m := m) hW) hdg hf) hX.2.2 (fun q _ h => hFc q h) hFc (fun u t H1 locs1 ht hvm _ hB hz hk hS => ?_)
  obtain ⟨hP1, hK1, hD1⟩ := hB
  rw [ht] at hP1
  exact kk u H1 locs1 ⟨cX_of_same hX (fun q hq => hk q (cX_lt hX hq) (fun z => hNc q z hq)) hS, hP1, hD1.weaken (fun k q _ h => hFc q.1 h), fun k q hq => hNc q.1 (hD1.2 k q hq)⟩
theorem ng_put (hx : p.tables.exec = Jvm.exec) (hb : c.code = cc) {own ref C : String} {T : u_T} {N ci index : Nat} {Ts : List Cond} (hts : ∀ w ∈ Ts, w.before args s = true) (hin : ∀ w ∈ u_ws C T N, w ∈ Ts) (ty0 : Nat → FieldType) (hty : ∀ k, k < N → parseFieldDescriptor (T k).2.2.1 = some (ty0 k)) (hnm : ∀ a, a < N → ∀ b, b < N → a ≠ b → (T a).2.1 ≠ (T b).2.1) (hown : s.vm.findClass own = some m.cls) (hK : cK D yI yO s) (hN : nX D yI yO z0 ad g A s H locs ws) (q0 : Nat) {a : Nat} {fs : List Value} (he : ws[q0]? = some (a, .inr (ci, fs))) (hc : vwCl[ci]? = some (C, T, N)) (k : Nat) (hk : k < N) (hlink : (Cond.fieldLink own index ref (T k).2.1 (T k).2.2.1).before args s = true) (hsame : ∀ x, s.fieldFound? (T k).1 (T k).2.1 (T k).2.2.1 = some x → s.fieldFound? ref (T k).2.1 (T k).2.2.1 = some x) (hfin : (T k).2.2.2 = false) {ty : FieldType} {v : Value} (hd : parseFieldDescriptor (T k).2.2.1 = some ty) (hn : narrow ty v = v) (hfit : fits ty v = true) (hl : k < fs.length)
    (hdg : decode cc pc = .ok (.putfield index, 3)) (kk : ∀ (H1 : Heap) (locs1 : List Loc), nX D yI yO z0 ad g A s H1 locs1 (ws.set q0 (a, .inr (ci, fs.set k v))) → W p l e R s m args below meth c H1 locs1 cells slots Q (F0 m (pc + 3) ls rest)) : W p l e R s m args below meth c H locs cells slots Q (F0 m pc ls (v :: .ref a :: rest)) := by
  obtain ⟨hX, hP, hD, hnf⟩ := hN
  have hap := va_apart (own := own) hts hin ty0 hty hnm hK hc
  obtain ⟨r, h1, cell, q1, q2, q3, q4⟩ := hP q0 _ he
  have hr : r = (C, T, N) := Option.some.inj (h1.symm.trans hc)
  subst hr
  obtain ⟨hS, hfc, kC, hkC, hkind⟩ := hK.1 ci _ hc
  obtain ⟨cf, kf, fi, f, hi, hsl⟩ := hS k hk
  have hlay := hts _ (hin _ (u_in_lay hk))
  unfold u_lay at hlay
  rw [if_neg (by rw [hfin]; decide)] at hlay
  have hst := (u_facts hfc hkC (u_lays hts hin hk) hi).1
  have h6 := u_store hfc hkC hkind hlay hi hd hn hfit
  refine W.putK hx hb (f := f) ⟨hown, hlink, ⟨_, _, _, hsame _ hi⟩, hst⟩ (by rw [q2]; exact h6) q1 q3 (by rw [hsl]; exact k2_hasslot (q4 k hk)) rfl rfl hdg fun H' e1 e2 e3 => ?_
  rw [hsl] at e1 ⊢
  have hP2 : va_P D vwCl (ws.set q0 (a, .inr (ci, fs.set k v))) H' := hP.set hD he ⟨_, hc, t_OB.to (V := updV (vp_V fs) k v) ⟨_, e1, q2, q3, t_set q4 hap hk v⟩ (fun j _ => vp_updV_set hl v j)⟩ e3
  refine kk H' _ ⟨cX_of_same hX (fun q hq => e3 q (fun z => hnf q0 _ he (z ▸ hq))) (hX.2.2.put e2 e3 (hD.2 q0 _ he)), hP2, hD.set he, fun k2 q hq hf => ?_⟩
  by_cases h2 : k2 = q0
  · subst h2
    have hl2 := (List.getElem?_eq_some_iff.mp he).1
    rw [List.getElem?_set_self hl2] at hq
    cases hq
    exact hnf k2 _ he hf
  · rw [List.getElem?_set_ne (fun z => h2 z.symm)] at hq
    exact hnf k2 q hq hf
end NX
def lci (j : Nat) : Nat := match j with
  | 0 => 2
  | 1 => 4
  | 2 => 8
  | 3 => 5
  | _ => 7
theorem lcent (yI yO : ClassId) (ad : Nat → Nat → Nat) (g : CS) {j : Nat} (hj : j < 5) (i : Nat) : ∃ fs, cent yI yO ad g (lkd j) i = .inr (lci j, fs) := by
  rcases (show j = 0 ∨ j = 1 ∨ j = 2 ∨ j = 3 ∨ j = 4 by omega) with rfl | rfl | rfl | rfl | rfl <;> exact ⟨_, rfl⟩
theorem lkd_live {g : CS} {j : Nat} (hj : j < 5) {i : Nat} (hi : i < sN g j) : clvb g (lkd j) (lix j i) = true := by
  rcases (show j = 0 ∨ j = 1 ∨ j = 2 ∨ j = 3 ∨ j = 4 by omega) with rfl | rfl | rfl | rfl | rfl <;> simp [clvb, lkd, lix, sN] at * <;> omega
theorem lkd_grp {j : Nat} (hj : j < 5) : grp j (lkd j) = true := by
  rcases (show j = 0 ∨ j = 1 ∨ j = 2 ∨ j = 3 ∨ j = 4 by omega) with rfl | rfl | rfl | rfl | rfl <;> decide
theorem lkd_ne {j : Nat} (hj : j < 5) : lkd j ≠ 1 ∧ lkd j ≠ 2 := by
  rcases (show j = 0 ∨ j = 1 ∨ j = 2 ∨ j = 3 ∨ j = 4 by omega) with rfl | rfl | rfl | rfl | rfl <;> decide
/-- what adding says of the heap behind it -/
def addR (D : va_G) (yO : ClassId) (ad : Nat → Nat → Nat) (g : CS) (A : Nat → Prop) (s : State) (j v : Nat) (e0 : va_E) (H : Heap) (a2 : Nat) (H1 : Heap) (locs1 : List Loc) : Prop :=
  va_at D vwCl (ad 1 j, .inr (0, [.int (sI g 1 j 0 + 1), .ref a2, .int (nI (sN g j + 1))])) H1 ∧ va_at D vwCl (a2, .inl (yO, rfs (lcap (sN g j) (sC g j)) (fun i => if i = sN g j then some v else if i < sN g j then some (ad (lkd j) (lix j i)) else none))) H1 ∧ va_at D vwCl (v, e0) H1 ∧
  (∀ q, q < H.size → q ≠ ad 1 j → q ≠ v → (q = ad 2 j → sC g j = 0) → H1[q]? = H[q]?) ∧ ((a2 = ad 2 j ∧ 0 < sC g j) ∨ H.size ≤ a2) ∧ H.size ≤ H1.size ∧ va_S A s.heap H1 locs1
section NA
variable {p : Program} {l : Launch} {e : Env} {R : Room} {s : State} {m : MethodId} {args : Array Value} {below : List Frame} {meth : Method} {c : Code} {H : Heap} {locs : List Loc} {cells slots : Nat} {Q : State → Prop}
variable {cc : ByteArray} {pc : Nat} {ls : Array Slot} {rest : List Value} {D : va_G} {yI yO : ClassId} {z0 : Nat} {ad : Nat → Nat → Nat} {g : CS} {A : Nat → Prop} {ws : va_W}
theorem ng_addR {bytes : ByteArray} {maxL nL index j v : Nat} {own : String} {ret : Option FieldType} {Ts : List Cond} {vs : List Value} {st0 : List Value} {rr : vw_C}
    (S : CallFix p m c cc nL s args Ts own) (hj : j < 5) (hrr : vwCl[lci j]? = some rr) (hC : Cond.castable rr.1 "java/lang/Object" ∈ lB) {T0 : u_T} {N0 : Nat} (hAL : vwCl[0]? = some ("java/util/ArrayList", T0, N0)) (cw0 : CallW R s args own "java/util/ArrayList" index yJx4a65c_add_9ea2d bytes maxL ret wsJx4a65c_add_9ea2d ({ frames := 6, cells := 1, slots := 400, locals := 180 }) 1 400 1)
    (hls : lS z0 A s s.heap) (hK : cK D yI yO s) (hN : nX D yI yO z0 ad g A s H locs ws) (hA : ∀ q, s.heap.size ≤ q → A q) {i0 : Nat} (hv : ws[i0]? = some (v, .inr (lci j, vs))) (hcap : sN g j ≤ sC g j ∧ sC g j ≤ 200)
    (hsize : ls.size = nL) (hstack : st0 = .ref v :: .ref (ad 1 j) :: rest) (hW : (rest.map fun v => v.category).sum ≤ 8) (hdg : decode cc pc = .ok (.invokevirtual index, 3)) (hf : cells + 1 ≤ R.cells ∧ slots + 400 ≤ R.slots)
    (kk : ∀ (a2 : Nat) (H1 : Heap) (locs1 : List Loc), addR D yO ad g A s j v (.inr (lci j, vs)) H a2 H1 locs1 → W p l e R s m args below meth c H1 locs1 (cells + 1) (slots + 400) Q (F0 m (pc + 3) ls (.int 1 :: rest))) : W p l e R s m args below meth c H locs cells slots Q (F0 m pc ls st0) := by
  subst hstack
  obtain ⟨hX, hP, hD, hnf⟩ := hN
  obtain ⟨hn1, hn2⟩ := hcap
  have hl1 : clvb g 1 j = true := by simp [clvb, hj]
  have hvF := hnf i0 _ hv
  have hvA : A v := hD.2 i0 _ hv
  have hvat := hP i0 _ hv
  have hLat : va_at D vwCl (ad 1 j, .inr (0, [.int (sI g 1 j 0), .ref (ad 2 j), .int (nI (sN g j))])) H := hX.1.1 1 j hl1
  have hvL : v ≠ ad 1 j := fun z => hvF ⟨1, j, hl1, z.symm⟩
  have hls1 : lS z0 A s H := hls.kept hX.2.2.2.1
  by_cases hz : sC g j = 0
  · have hn0 : sN g j = 0 := by omega
    have e2 : ad 2 j = z0 := hX.1.2.2 j hj hz
    rw [e2, hn0] at hLat
    have hFc : ∀ q, va_A [(ad 1 j, .inr (0, [.int (sI g 1 j 0), .ref z0, .int (nI 0)])), (v, .inr (lci j, vs))] H.size q → A q := by
      rintro q (⟨k, e9, h⟩ | h)
      · rcases k with _ | _ | k
        · cases h; exact hX.2.1 1 j hl1
        · cases h; exact hvA
        · simp at h
      · exact hA q (Nat.le_trans hX.2.2.1 h)
    have hP0 : va_P D vwCl [(ad 1 j, .inr (0, [.int (sI g 1 j 0), .ref z0, .int (nI 0)])), (v, .inr (lci j, vs))] H := by
      intro k q h
      rcases k with _ | _ | k
      · cases h; exact hLat
      · cases h; exact hvat
      · simp at h
    have hD0 : va_D (fun _ => True) [(ad 1 j, .inr (0, [.int (sI g 1 j 0), .ref z0, .int (nI 0)])), (v, .inr (lci j, vs))] := by
      refine ⟨fun a b x y ha hb2 hxy => ?_, fun _ _ _ => trivial⟩
      rcases a with _ | _ | a <;> rcases b with _ | _ | b <;> first | rfl | (simp at ha; done) | (simp at hb2; done) | (cases ha; cases hb2; first | exact absurd hxy hvL | exact absurd hxy.symm hvL)
    refine va_calli (va_runV (As := [.ref v]) (rest := rest) S (cL_addE l D yI yO z0 rr (lci j) hrr hC (ad 1 j) v vs H.size (sI g 1 j 0)) cw0 ⟨lPre_blind D yI yO z0 _ _ _ _ _ _, va_recv hK hP0 (q0 := 0) hAL rfl, fun U hU hW => ⟨rfl, by rw [hU], by rw [hU]; exact hP0, va_K.moved hW.alike hK, hD0, by rw [hU]; exact (hls1.narrow hFc).moved hW, fun i hi => absurd hi (Nat.not_lt_zero _)⟩⟩ rfl rfl hsize rfl (lv_room (pc := pc) (ls := ls) (rest := []) (m := m) hW) hdg hf) hX.2.2 (fun q _ h => hFc q h) hFc (fun r q t H1 locs1 ht hvm hr hB hz1 hk1 hS => ?_)
    subst hr
    obtain ⟨hP1, hK1, hD1⟩ := hB
    rw [ht] at hP1
    refine kk q H1 locs1 ⟨?_, ?_, ?_, ?_, ?_, hz1, hS⟩
    · rw [hn0]; exact hP1 0 _ rfl
    · have := hP1 1 _ rfl
      rw [hn0, hz]
      have e5 : (fun i => if i = 0 then some v else if i < 0 then some (ad (lkd j) (lix j i)) else none) = va_up (fun _ => none) 0 (some v) := by
        funext i
        unfold va_up
        split
        · rfl
        · rw [if_neg (Nat.not_lt_zero _)]
      rw [e5]
      exact this
    · exact hP1 2 _ rfl
    · intro q9 hq h1 h2 _
      refine hk1 q9 hq ?_
      rintro (⟨k, e9, h⟩ | h)
      · rcases k with _ | _ | k
        · cases h; exact h1 rfl
        · cases h; exact h2 rfl
        · simp at h
      · omega
    · right
      rcases hD1.2 1 _ rfl with ⟨k, e9, h⟩ | h
      · exfalso
        rcases k with _ | _ | k
        · have e6 := (Prod.mk.inj (Option.some.inj h)).1
          exact absurd (hD1.1 0 1 _ _ rfl rfl e6) (by decide)
        · have e6 := (Prod.mk.inj (Option.some.inj h)).1
          exact absurd (hD1.1 2 1 _ _ rfl rfl e6) (by decide)
        · simp at h
      · exact h
  · have hl2 : clvb g 2 j = true := by simp [clvb, hj, Nat.pos_of_ne_zero hz]
    have hAat : va_at D vwCl (ad 2 j, .inl (yO, rfs (sC g j) (fun i => if i < sN g j then some (ad (lkd j) (lix j i)) else none))) H := hX.1.1 2 j hl2
    have hvA2 : v ≠ ad 2 j := fun z => hvF ⟨2, j, hl2, z.symm⟩
    have h12 : ad 1 j ≠ ad 2 j := fun z => absurd (hX.1.2.1 1 j 2 j hl1 hl2 z).1 (by decide)
    have hFc : ∀ q, va_A [(ad 1 j, .inr (0, [.int (sI g 1 j 0), .ref (ad 2 j), .int (nI (sN g j))])), (ad 2 j, .inl (yO, rfs (sC g j) (fun i => if i < sN g j then some (ad (lkd j) (lix j i)) else none))), (v, .inr (lci j, vs))] H.size q → A q := by
      rintro q (⟨k, e9, h⟩ | h)
      · rcases k with _ | _ | _ | k
        · cases h; exact hX.2.1 1 j hl1
        · cases h; exact hX.2.1 2 j hl2
        · cases h; exact hvA
        · simp at h
      · exact hA q (Nat.le_trans hX.2.2.1 h)
    have hP0 : va_P D vwCl [(ad 1 j, .inr (0, [.int (sI g 1 j 0), .ref (ad 2 j), .int (nI (sN g j))])), (ad 2 j, .inl (yO, rfs (sC g j) (fun i => if i < sN g j then some (ad (lkd j) (lix j i)) else none))), (v, .inr (lci j, vs))] H := by
      intro k q h
      rcases k with _ | _ | _ | k
      · cases h; exact hLat
      · cases h; exact hAat
      · cases h; exact hvat
      · simp at h
    have hD0 : va_D (fun _ => True) [(ad 1 j, .inr (0, [.int (sI g 1 j 0), .ref (ad 2 j), .int (nI (sN g j))])), (ad 2 j, .inl (yO, rfs (sC g j) (fun i => if i < sN g j then some (ad (lkd j) (lix j i)) else none))), (v, .inr (lci j, vs))] := by
      refine ⟨fun a b x y ha hb2 hxy => ?_, fun _ _ _ => trivial⟩
      rcases a with _ | _ | _ | a <;> rcases b with _ | _ | _ | b <;> first | rfl | (simp at ha; done) | (simp at hb2; done) | (cases ha; cases hb2; first | exact absurd hxy hvL | exact absurd hxy.symm hvL | exact absurd hxy hvA2 | exact absurd hxy.symm hvA2 | exact absurd hxy h12 | exact absurd hxy.symm h12)
    have hoth : ∀ (H1 : Heap), (∀ q : Nat, q < H.size → ¬ va_A [(ad 1 j, .inr (0, [.int (sI g 1 j 0), .ref (ad 2 j), .int (nI (sN g j))])), (ad 2 j, .inl (yO, rfs (sC g j) (fun i => if i < sN g j then some (ad (lkd j) (lix j i)) else none))), (v, .inr (lci j, vs))] H.size q → H1[q]? = H[q]?) → ∀ q, q < H.size → q ≠ ad 1 j → q ≠ v → (q = ad 2 j → sC g j = 0) → H1[q]? = H[q]? := by
      intro H1 hk1 q9 hq h1 h2 h3
      refine hk1 q9 hq ?_
      rintro (⟨k, e9, h⟩ | h)
      · rcases k with _ | _ | _ | k
        · cases h; exact h1 rfl
        · cases h; exact hz (h3 rfl)
        · cases h; exact h2 rfl
        · simp at h
      · omega
    by_cases hlt : sN g j < sC g j
    · refine va_calli (va_runV (As := [.ref v]) (rest := rest) S (cL_addR l D yI yO z0 rr (lci j) hrr hC (ad 1 j) v vs (ad 2 j) H.size (sN g j) (sC g j) (sI g 1 j 0) (fun i => if i < sN g j then some (ad (lkd j) (lix j i)) else none) ⟨hlt, by omega⟩) cw0 ⟨lPre_blind D yI yO z0 _ _ _ _ _ _, va_recv hK hP0 (q0 := 0) hAL rfl, fun U hU hW => ⟨rfl, by rw [hU], by rw [hU]; exact hP0, va_K.moved hW.alike hK, hD0, by rw [hU]; exact (hls1.narrow hFc).moved hW, fun i hi => absurd hi (Nat.not_lt_zero _)⟩⟩ rfl rfl hsize rfl (lv_room (pc := pc) (ls := ls) (rest := []) (m := m) hW) hdg hf) hX.2.2 (fun q _ h => hFc q h) hFc (fun r q t H1 locs1 ht hvm hr hB hz1 hk1 hS => ?_)
      subst hr
      obtain ⟨hP1, hK1, hD1⟩ := hB
      rw [ht] at hP1
      refine kk (ad 2 j) H1 locs1 ⟨hP1 0 _ rfl, ?_, hP1 2 _ rfl, hoth H1 hk1, Or.inl ⟨rfl, Nat.pos_of_ne_zero hz⟩, hz1, hS⟩
      have := hP1 1 _ rfl
      unfold lcap
      rw [if_pos hlt]
      exact this
    · have heq : sN g j = sC g j := by omega
      have hlE : ∀ U : State, U.heap = H → s.WarmedH U.vm → lE rr.1 (fun i => if i < sN g j then some (ad (lkd j) (lix j i)) else none) (sN g j) (va_A [(ad 1 j, .inr (0, [.int (sI g 1 j 0), .ref (ad 2 j), .int (nI (sN g j))])), (ad 2 j, .inl (yO, rfs (sN g j) (fun i => if i < sN g j then some (ad (lkd j) (lix j i)) else none))), (v, .inr (lci j, vs))] H.size) U U.heap := by
        intro U hU hW i hi y hy
        rw [hU]
        replace hy : (if i < sN g j then some (ad (lkd j) (lix j i)) else none) = some y := hy
        rw [if_pos hi] at hy
        cases hy
        have hlv := lkd_live hj hi
        refine ⟨?_, ?_⟩
        · rintro (⟨k, e9, h⟩ | h)
          · rcases k with _ | _ | _ | k
            · have e6 := (Prod.mk.inj (Option.some.inj h)).1
              exact (lkd_ne hj).1 (hX.1.2.1 1 j _ _ hl1 hlv e6).1.symm
            · have e6 := (Prod.mk.inj (Option.some.inj h)).1
              exact (lkd_ne hj).2 (hX.1.2.1 2 j _ _ hl2 hlv e6).1.symm
            · have e6 := (Prod.mk.inj (Option.some.inj h)).1
              exact hvF ⟨_, _, hlv, e6.symm⟩
            · simp at h
          · exact absurd (hX.1.1 _ _ hlv).lt (Nat.not_lt.mpr h)
        · obtain ⟨fs9, he9⟩ := lcent yI yO ad g hj (lix j i)
          exact va_recv (va_K.moved hW.alike hK) (cw_lv hX.1 hlv he9) (q0 := 0) hrr rfl
      have hA0 : va_A [(ad 1 j, .inr (0, [.int (sI g 1 j 0), .ref (ad 2 j), .int (nI (sN g j))])), (ad 2 j, .inl (yO, rfs (sC g j) (fun i => if i < sN g j then some (ad (lkd j) (lix j i)) else none))), (v, .inr (lci j, vs))] H.size = va_A [(ad 1 j, .inr (0, [.int (sI g 1 j 0), .ref (ad 2 j), .int (nI (sN g j))])), (ad 2 j, .inl (yO, rfs (sN g j) (fun i => if i < sN g j then some (ad (lkd j) (lix j i)) else none))), (v, .inr (lci j, vs))] H.size := by rw [← heq]
      rw [hA0] at hFc
      have hoth2 := hoth
      rw [hA0] at hoth2
      have hP2 : va_P D vwCl [(ad 1 j, .inr (0, [.int (sI g 1 j 0), .ref (ad 2 j), .int (nI (sN g j))])), (ad 2 j, .inl (yO, rfs (sN g j) (fun i => if i < sN g j then some (ad (lkd j) (lix j i)) else none))), (v, .inr (lci j, vs))] H := by rw [← heq] at hP0; exact hP0
      have hD2 : va_D (fun _ => True) [(ad 1 j, .inr (0, [.int (sI g 1 j 0), .ref (ad 2 j), .int (nI (sN g j))])), (ad 2 j, .inl (yO, rfs (sN g j) (fun i => if i < sN g j then some (ad (lkd j) (lix j i)) else none))), (v, .inr (lci j, vs))] := by rw [← heq] at hD0; exact hD0
      refine va_calli (va_runV (As := [.ref v]) (rest := rest) S (cL_addN l D yI yO z0 rr (lci j) hrr hC (ad 1 j) v vs (ad 2 j) H.size (sN g j) (sI g 1 j 0) (fun i => if i < sN g j then some (ad (lkd j) (lix j i)) else none) ⟨by omega, by omega⟩) cw0 ⟨lPre_blind D yI yO z0 _ _ _ _ _ _, va_recv hK hP2 (q0 := 0) hAL rfl, fun U hU hW => ⟨rfl, by rw [hU], by rw [hU]; exact hP2, va_K.moved hW.alike hK, hD2, by rw [hU]; exact (hls1.narrow hFc).moved hW, hlE U hU hW⟩⟩ rfl rfl hsize rfl (lv_room (pc := pc) (ls := ls) (rest := []) (m := m) hW) hdg hf) hX.2.2 (fun q _ h => hFc q h) hFc (fun r q t H1 locs1 ht hvm hr hB hz1 hk1 hS => ?_)
      subst hr
      obtain ⟨hP1, hK1, hD1⟩ := hB
      rw [ht] at hP1
      refine kk q H1 locs1 ⟨hP1 0 _ rfl, ?_, hP1 2 _ rfl, hoth2 H1 hk1, ?_, hz1, hS⟩
      · have := hP1 1 _ rfl
        unfold lcap
        rw [if_neg hlt, if_neg hz, ← heq]
        have e5 : (fun i => if i = sN g j then some v else if i < sN g j then some (ad (lkd j) (lix j i)) else none) = va_up (va_cpy (fun i => if i < sN g j then some (ad (lkd j) (lix j i)) else none) (fun _ => none) 0 0 (sN g j)) (sN g j) (some v) := by
          funext i
          unfold va_up va_cpy
          split
          · rfl
          · by_cases h9 : i < sN g j
            · rw [if_pos h9, if_pos ⟨Nat.zero_le _, by omega⟩]
              simp only [Nat.zero_add, Nat.sub_zero]
              rw [if_pos h9]
            · rw [if_neg h9, if_neg (by omega)]
        rw [e5]
        exact this
      · rcases hD1.2 1 _ rfl with ⟨k, e9, h⟩ | h
        · rcases k with _ | _ | _ | k
          · have e6 := (Prod.mk.inj (Option.some.inj h)).1
            exact absurd (hD1.1 0 1 _ _ rfl rfl e6) (by decide)
          · have e6 := (Prod.mk.inj (Option.some.inj h)).1
            exact Or.inl ⟨e6.symm, Nat.pos_of_ne_zero hz⟩
          · have e6 := (Prod.mk.inj (Option.some.inj h)).1
            exact absurd (hD1.1 2 1 _ _ rfl rfl e6) (by decide)
          · simp at h
        · exact Or.inr h
end NA
