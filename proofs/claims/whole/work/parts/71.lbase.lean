/-! ===== the law's helpers: the class's world and one long cell ===== -/
def nB : List (String × String) := [("java/lang/IllegalArgumentException", "java/lang/IndexOutOfBoundsException"), ("java/lang/IllegalStateException", "java/lang/IndexOutOfBoundsException"), ("java/lang/IllegalStateException", "java/lang/IllegalArgumentException")]
def nS (U : State) : Prop := ∀ q ∈ nB, va_Nc q.1 q.2 U
theorem nS.moved {u U : State} (hvm : u.vm.Alike U.vm) (h : nS u) : nS U := fun q hq => (h q hq).moved hvm
def lK (D : va_G) (yI yO yL : ClassId) (s : State) : Prop := va_K D vwCl [(yI, .int), (yO, .object "java/lang/Object"), (yL, .long)] s
theorem lK.c {D : va_G} {yI yO yL : ClassId} {s : State} (h : lK D yI yO yL s) : cK D yI yO s := va_K.sub h [0, 1] rfl
def hAd (ad : Nat → Nat → Nat) (g : CS) (sz o : Nat) : Nat → Prop := fun a => cA ad g sz a ∨ a = o
def lw1 (yL : ClassId) (o : Nat) (f : Nat → Int64) : va_W := [(o, .inl (yL, 1, .inr (.inl f)))]
def hPre (D : va_G) (yI yO yL : ClassId) (z0 : Nat) (ad : Nat → Nat → Nat) (g : CS) (o : Nat) (f : Nat → Int64) (sz : Nat) (U : State) : Prop := cw D yI yO z0 ad g U.heap ∧ lK D yI yO yL U ∧ va_P D vwCl (lw1 yL o f) U.heap ∧ ¬ cF ad g o ∧ U.heap.size = sz ∧ xS (hAd ad g sz o) U U.heap ∧ yS z0 (hAd ad g sz o) U U.heap ∧ nS U
def hPost (D : va_G) (yI yO yL : ClassId) (z0 : Nat) (ad0 ad : Nat → Nat → Nat) (g : CS) (o : Nat) (f : Nat → Int64) (A : Nat → Prop) (t : State) : Prop := ad 0 0 = ad0 0 0 ∧ cw D yI yO z0 ad g t.heap ∧ lK D yI yO yL t ∧ va_P D vwCl (lw1 yL o f) t.heap ∧ ¬ cF ad g o ∧ ∀ k i, clvb g k i = true → A (ad k i)
def hQ (D : va_G) (yI yO yL : ClassId) (z0 : Nat) (ad : Nat → Nat → Nat) (g1 : CS) (o : Nat) (f : Nat → Int64) (code : Int32) (out : Int64) (A : Nat → Prop) : Array Value → State → Outcome → State → Prop := va_Qi (S := (Nat → Nat → Nat) × (Nat → Int64)) (fun r w => r = code ∧ w.2 0 = out) (fun w t => hPost D yI yO yL z0 ad w.1 g1 o w.2 A t) A
theorem hPre_blind (D : va_G) (yI yO yL : ClassId) (z0 : Nat) (ad : Nat → Nat → Nat) (g : CS) (o : Nat) (f : Nat → Int64) (sz : Nat) (av : List Value) : FrameBlind (va_Pc av (hPre D yI yO yL z0 ad g o f sz)) := fun a U fr mk z => ⟨z.1, z.2.1, va_K.moved (u := U) (U := U.calling fr mk a) (Vm.Alike.refl U.vm) z.2.2.1, z.2.2.2.1, z.2.2.2.2.1, z.2.2.2.2.2.1,
  ⟨vx_Zq.moved (Vm.Alike.refl U.vm) z.2.2.2.2.2.2.1.1, vx_Zq.moved (Vm.Alike.refl U.vm) z.2.2.2.2.2.2.1.2.1, fun q hq => by
    obtain ⟨sa, h1⟩ := z.2.2.2.2.2.2.1.2.2.1 q hq
    exact ⟨sa, vk_R.same (u := U) (U := U.calling fr mk a) rfl h1⟩, fun w hw => va_Nw.same (u := U) (U := U.calling fr mk a) (xB_on w hw) rfl (z.2.2.2.2.2.2.1.2.2.2 w hw)⟩, ⟨z.2.2.2.2.2.2.2.1.1.same, kN.same (s := U) (U := U.calling fr mk a) rfl z.2.2.2.2.2.2.2.1.2⟩, nS.moved (u := U) (U := U.calling fr mk a) (Vm.Alike.refl U.vm) z.2.2.2.2.2.2.2.2⟩
section LH
variable {p : Program} {l : Launch} {e : Env} {R : Room} {s : State} {m : MethodId} {args : Array Value} {below : List Frame} {meth : Method} {c : Code} {H : Heap} {locs : List Loc} {cells slots : Nat} {Q : State → Prop}
variable {cc : ByteArray} {pc : Nat} {ls : Array Slot} {rest : List Value} {D : va_G} {yI yO yL : ClassId} {z0 : Nat} {ad : Nat → Nat → Nat} {g : CS} {A : Nat → Prop} {ws : va_W}
theorem hg_callV {y : MethodName} {bytes : ByteArray} {maxL nL n index : Nat} {own : String} {ret : Option FieldType} {wsm : List Cond} {rm : Room} {Ts : List Cond} {As : List Value} {r : Int32} {g1 : CS} {st0 : List Value}
    (S : CallFix p m c cc nL s args Ts own) (hM : Met l y wsm rm (va_Pc (.ref (ad 0 0) :: As) (cPre D yI yO z0 ad g)) (cQ D yI yO z0 ad r g1 (cF ad g)) 0 0 (cF ad g)) (cw0 : CallW R s args own RX8 index y bytes maxL ret wsm rm 0 0 n) (hK : cK D yI yO s) (hN : nX D yI yO z0 ad g A s H locs ws)
    (hn : As.length = n) (hsize : ls.size = nL) (hstack : st0 = As.reverse ++ .ref (ad 0 0) :: rest) (hW : (rest.map fun v => v.category).sum ≤ 8) (hdg : decode cc pc = .ok (.invokevirtual index, 3)) (hf : cells ≤ R.cells ∧ slots ≤ R.slots)
    (kk : ∀ (H1 : Heap) (locs1 : List Loc), nX D yI yO z0 ad g1 A s H1 locs1 ws → W p l e R s m args below meth c H1 locs1 cells slots Q (F0 m (pc + 3) ls (.int r :: rest))) : W p l e R s m args below meth c H locs cells slots Q (F0 m pc ls st0) := by
  subst hstack
  obtain ⟨hX, hP, hD, hnf⟩ := hN
  exact va_calli (va_runV (As := As) (rest := rest) S hM cw0 ⟨cPre_blind D yI yO z0 ad g _, va_recv hK (cw_lv hX.1 (k := 0) (i := 0) rfl rfl) (q0 := 0) (ci := 9) rfl rfl, fun U hU hW => ⟨rfl, by rw [hU]; exact hX.1, va_K.moved hW.alike hK⟩⟩ rfl hn hsize rfl (lv_room (pc := pc) (ls := ls) (rest := []) (m := m) hW) hdg hf) hX.2.2 (fun q _ h => cF_sub hX q h) (cF_sub hX) (fun r' _ t H1 locs1 ht hvm hp hB hz hk hS => by
    subst hp
    exact kk H1 locs1 ⟨cX_kept ht hB (cF_sub hX) hS, hP.kept (fun k q hq => hk q.1 (hP k q hq).lt (hnf k q hq)), hD, fun k q hq hc => by
      obtain ⟨k2, i2, h2, h3⟩ := hc
      have := hB.2.2 k2 i2 h2
      rw [h3] at this
      exact hnf k q hq this⟩)
theorem hg_callY {y : MethodName} {bytes : ByteArray} {maxL nL n index mc ms : Nat} {own : String} {ret : Option FieldType} {wsm : List Cond} {rm : Room} {Ts : List Cond} {As : List Value} {r : Int32} {g1 : CS} {st0 : List Value}
    (S : CallFix p m c cc nL s args Ts own) (hM : Met l y wsm rm (va_Pc (.ref (ad 0 0) :: As) (yPre D yI yO z0 ad g H.size)) (cQN D yI yO z0 ad r g g1 (cA ad g H.size)) mc ms (cA ad g H.size)) (cw0 : CallW R s args own RX8 index y bytes maxL ret wsm rm mc ms n) (hys : yS z0 A s s.heap) (hK : cK D yI yO s) (hN : nX D yI yO z0 ad g A s H locs ws) (hA : ∀ q, s.heap.size ≤ q → A q)
    (hn : As.length = n) (hsize : ls.size = nL) (hstack : st0 = As.reverse ++ .ref (ad 0 0) :: rest) (hW : (rest.map fun v => v.category).sum ≤ 8) (hdg : decode cc pc = .ok (.invokevirtual index, 3)) (hf : cells + mc ≤ R.cells ∧ slots + ms ≤ R.slots)
    (kk : ∀ (ad1 : Nat → Nat → Nat) (H1 : Heap) (locs1 : List Loc), ad1 0 0 = ad 0 0 → nX D yI yO z0 ad1 g1 A s H1 locs1 ws → W p l e R s m args below meth c H1 locs1 (cells + mc) (slots + ms) Q (F0 m (pc + 3) ls (.int r :: rest))) : W p l e R s m args below meth c H locs cells slots Q (F0 m pc ls st0) := by
  subst hstack
  obtain ⟨hX, hP, hD, hnf⟩ := hN
  have hFc : ∀ q, cA ad g H.size q → A q := by
    rintro q (h | h)
    · exact cF_sub hX q h
    · exact hA q (Nat.le_trans hX.2.2.1 h)
  have hNc : ∀ (k : Nat) (q : Nat × va_E), ws[k]? = some q → ¬ cA ad g H.size q.1 := by
    rintro k q hq (h | h)
    · exact hnf k q hq h
    · exact absurd (hP k q hq).lt (Nat.not_lt.mpr h)
  refine va_calli (va_runV (As := As) (rest := rest) S hM cw0 ⟨yPre_blind D yI yO z0 ad g _ _, va_recv hK (cw_lv hX.1 (k := 0) (i := 0) rfl rfl) (q0 := 0) (ci := 9) rfl rfl, fun U hU hW => ⟨rfl, ⟨by rw [hU]; exact hX.1, va_K.moved hW.alike hK⟩, by rw [hU], by rw [hU]; exact ((hys.1.kept hX.2.2.2.1).narrow hFc).moved hW, hys.2.moved hW⟩⟩ rfl hn hsize rfl (lv_room (pc := pc) (ls := ls) (rest := []) (m := m) hW) hdg hf) hX.2.2 (fun q _ h => hFc q h) hFc (fun r' ad1 t H1 locs1 ht hvm hp hB hz hk hS => ?_)
  subst hp
  exact kk ad1 H1 locs1 (hB.1 0 0 rfl (by decide)) ⟨cX_kept ht hB.2 hFc hS, hP.kept (fun k q hq => hk q.1 (hP k q hq).lt (hNc k q hq)), hD, fun k q hq hc => by
    obtain ⟨k2, i2, h2, h3⟩ := hc
    have := hB.2.2.2 k2 i2 h2
    rw [h3] at this
    exact hNc k q hq this⟩
theorem hg_callX {y : MethodName} {bytes : ByteArray} {maxL nL n index ez : Nat} {own : String} {ret : Option FieldType} {wsm : List Cond} {rm : Room} {Ts : List Cond} {As : List Value} {st0 : List Value}
    (S : CallFix p m c cc nL s args Ts own) (hM : vx_Met l y wsm rm (va_Pc (.ref (ad 0 0) :: As) (xPre D yI yO z0 ad g H.size)) (xQ (cA ad g H.size)) (xXC D yI yO z0 ad g ez (cA ad g H.size)) 1 6 (cA ad g H.size)) (cw0 : CallW R s args own RX8 index y bytes maxL ret wsm rm 1 6 n) (hK : cK D yI yO s) (hN : nX D yI yO z0 ad g A s H locs ws) (hA : ∀ q, s.heap.size ≤ q → A q) (hxs : xS A s s.heap)
    (hn : As.length = n) (hsize : ls.size = nL) (hstack : st0 = As.reverse ++ .ref (ad 0 0) :: rest) (hW : (rest.map fun v => v.category).sum ≤ 8) (hdg : decode cc pc = .ok (.invokevirtual index, 3)) (hf : cells + 1 ≤ R.cells ∧ slots + 6 ≤ R.slots)
    (kx : ∀ (ce : Cell) (q9 : Addr) (H1 : Heap) (locs1 : List Loc), nX D yI yO z0 ad g A s H1 locs1 ws → H1[q9]? = some ce → ce.vm = .none → s.vm.findClass (xE ez) = some ce.cls → vx_W p l e R s m args below meth c H1 locs1 (cells + 1) (slots + 6) Q (F0 m pc ls rest) q9) : W p l e R s m args below meth c H locs cells slots Q (F0 m pc ls st0) := by
  subst hstack
  obtain ⟨hX, hP, hD, hnf⟩ := hN
  have hsub : ∀ q, cA ad g H.size q → A q := fun q h => h.elim (cF_sub hX q) (fun h => hA q (Nat.le_trans hX.2.2.1 h))
  refine vx_callv (vx_runV (As := As) (rest := rest) S hM cw0 ⟨xPre_blind D yI yO z0 ad g _ _, va_recv hK (cw_lv hX.1 (k := 0) (i := 0) rfl rfl) (q0 := 0) (ci := 9) rfl rfl, fun U hU hW => ⟨rfl, ⟨by rw [hU]; exact hX.1, va_K.moved hW.alike hK⟩, by rw [hU], by rw [hU]; exact ((hxs.kept hX.2.2.2.1).narrow hsub).moved hW⟩⟩ rfl hn hsize rfl (lv_room (pc := pc) (ls := ls) (rest := []) (m := m) hW) hdg hf) hX.2.2 (fun q _ h => hsub q h) hsub (fun q _ h => hsub q h) (fun E ce q9 u t H1 locs1 h1 h2 _ h4 h5 h6 h7 h8 h9 h10 => ?_) (fun u t H1 locs1 _ _ hf _ _ _ _ => hf.elim)
  obtain ⟨rfl, hw, -⟩ := h4
  rw [h1] at hw
  refine kx ce q9 H1 locs1 ⟨⟨hw, hX.2.1, h7⟩, hP.kept (fun k q hq => h6 q.1 (hP k q hq).lt (fun hc => ?_)), hD, hnf⟩ h8 h9 h10
  rcases hc with h | h
  · exact hnf k q hq h
  · exact absurd (hP k q hq).lt (Nat.not_lt.mpr h)
theorem hg_last (hx : p.tables.exec = Jvm.exec) (hb : c.code = cc) (hK : lK D yI yO yL s) {o : Nat} {f : Nat → Int64} (hN : nX D yI yO z0 ad g A s H locs (lw1 yL o f)) {x : Int64} (hdg : decode cc pc = .ok (.lastore, 1))
    (kk : ∀ (f1 : Nat → Int64) (H1 : Heap) (locs1 : List Loc), f1 0 = x → nX D yI yO z0 ad g A s H1 locs1 (lw1 yL o f1) → W p l e R s m args below meth c H1 locs1 cells slots Q (F0 m (pc + 1) ls rest)) : W p l e R s m args below meth c H locs cells slots Q (F0 m pc ls (.long x :: .int 0 :: .ref o :: rest)) := by
  obtain ⟨hX, hP, hD, hnf⟩ := hN
  have hat : H[o]? = some (vp_cell yL (1, .inr (.inl f))) := hP 0 _ rfl
  have ho : ¬ cF ad g o := hnf 0 _ rfl
  refine W.last hx hb hat ((hK.2 2 _ rfl).1 1 (fun j => .long (f j))) (fun q => by cases q) (by show ¬ ((0 : Int32) < 0 ∨ (arrV _ _ _).slots.size ≤ _); rw [arrV_size]; exact (by decide : ¬ ((0 : Int32) < 0 ∨ 1 ≤ (0 : Int32).toNatClampNeg))) rfl rfl hdg fun H1 e1 z oq => ?_
  have hS1 := hX.2.2.put (k := (0 : Int32).toNatClampNeg) z oq (hD.2 0 _ rfl)
  refine kk (vp_updL f (0 : Int32).toNatClampNeg x) H1 _ (by simp [vp_updL]) ⟨cX_of_same hX (fun q hq => oq q (fun e => ho (e ▸ hq))) hS1, fun k q hq => ?_, ⟨fun i j a b h1 h2 _ => ?_, fun k q hq => ?_⟩, fun k q hq => ?_⟩
  · rcases k with _ | k
    · cases hq
      show H1[o]? = some (vp_cell _ _)
      rw [e1, vp_cell_l, vp_cell_l, arrV_store]
      congr 2
      funext b
      generalize (0 : Int32).toNatClampNeg = z9
      by_cases hb : b = z9
      · subst hb; simp [updV, vp_updL]
      · simp [updV, vp_updL, hb]
    · simp [lw1] at hq
  · rcases i with _ | i <;> rcases j with _ | j <;> first | rfl | (simp [lw1] at h1; done) | (simp [lw1] at h2; done)
  · rcases k with _ | k
    · cases hq; exact hD.2 0 (o, .inl (yL, 1, .inr (.inl f))) rfl
    · simp [lw1] at hq
  · rcases k with _ | k
    · cases hq; exact ho
    · simp [lw1] at hq
end LH
