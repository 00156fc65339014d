/-! ===== the law's world ===== -/
def gK (D : va_G) (yI yO yL cZ : ClassId) (s : State) : Prop := va_K D vwCl [(yI, .int), (yO, .object "java/lang/Object"), (yL, .long), (cZ, .boolean)] s
theorem gK.l {D : va_G} {yI yO yL cZ : ClassId} {s : State} (h : gK D yI yO yL cZ s) : lK D yI yO yL s := va_K.sub h [0, 1, 2] rfl
theorem gK.m {D : va_G} {yI yO yL cZ : ClassId} {s : State} (h : gK D yI yO yL cZ s) : mK D yI cZ s := va_K.sub h [0, 3] rfl
def gW (D : va_G) (yI yO yL cZ : ClassId) (z0 : Nat) (q : Nat → Nat) (ad : Nat → Nat → Nat) (g : CS) (u : MS) (o : Nat) (f : Nat → Int64) (A : Nat → Prop) (s : State) (H : Heap) (locs : List Loc) : Prop := cX D yI yO z0 ad g A s H locs ∧ mw D yI cZ q u H ∧ (∀ k, mlv k → A (q k)) ∧ va_P D vwCl (lw1 yL o f) H ∧ A o ∧ (∀ k, mlv k → ¬ cF ad g (q k)) ∧ ¬ cF ad g o ∧ ∀ k, mlv k → q k ≠ o
def gB (z0 : Nat) (A : Nat → Prop) (s : State) : Prop := xS A s s.heap ∧ yS z0 A s s.heap ∧ nS s
section LW
variable {p : Program} {l : Launch} {e : Env} {R : Room} {s : State} {m : MethodId} {args : Array Value} {below : List Frame} {meth : Method} {c : Code} {H : Heap} {locs : List Loc} {cells slots : Nat} {Q : State → Prop}
variable {cc : ByteArray} {pc : Nat} {ls : Array Slot} {rest : List Value} {D : va_G} {yI yO yL cZ : ClassId} {z0 : Nat} {q : Nat → Nat} {ad : Nat → Nat → Nat} {g : CS} {u : MS} {o : Nat} {f : Nat → Int64} {A : Nat → Prop}
theorem lh_call {y : MethodName} {bytes : ByteArray} {maxL nL n index mc ms : Nat} {own : String} {ret : Option FieldType} {hh : List (Nat × Nat × Nat × Nat)} {wsm : List Cond} {rm : Room} {Ts : List Cond} {As : List Value} {r : Int32} {out : Int64} {g1 : CS} {st0 : List Value}
    (S : CallFix p m c cc nL s args Ts own) (hM : Met l y wsm rm (va_Pc As (hPre D yI yO yL z0 ad g o f H.size)) (hQ D yI yO yL z0 ad g1 o f r out (hAd ad g H.size o)) mc ms (hAd ad g H.size o)) (cw0 : vx_CSW R s args own index y bytes maxL ret hh wsm rm mc ms n) (hB : gB z0 A s) (hK : gK D yI yO yL cZ s) (hN : gW D yI yO yL cZ z0 q ad g u o f A s H locs) (hA : ∀ a, s.heap.size ≤ a → A a)
    (hn : As.length = n) (hsize : ls.size = nL) (hstack : st0 = As.reverse ++ rest) (hW : (rest.map fun v => v.category).sum ≤ 8) (hdg : decode cc pc = .ok (.invokestatic index, 3)) (hf : cells + mc ≤ R.cells ∧ slots + ms ≤ R.slots)
    (kk : ∀ (ad1 : Nat → Nat → Nat) (f1 : Nat → Int64) (H1 : Heap) (locs1 : List Loc), ad1 0 0 = ad 0 0 → f1 0 = out → gW D yI yO yL cZ z0 q ad1 g1 u o f1 A s H1 locs1 → W p l e R s m args below meth c H1 locs1 (cells + mc) (slots + ms) Q (F0 m (pc + 3) ls (.int r :: rest))) : W p l e R s m args below meth c H locs cells slots Q (F0 m pc ls st0) := by
  subst hstack
  obtain ⟨hX, hw, hwA, hP, hoA, hqc, hoc, hqo⟩ := hN
  obtain ⟨hxs, hys, hns⟩ := hB
  have hFc : ∀ a, hAd ad g H.size o a → A a := by
    rintro a ((h | h) | rfl)
    · exact cF_sub hX a h
    · exact hA a (Nat.le_trans hX.2.2.1 h)
    · exact hoA
  have hlt : ∀ k, mlv k → q k < H.size := fun k hk => (hw.1 k hk).lt
  have hout : ∀ k, mlv k → ¬ hAd ad g H.size o (q k) := by
    rintro k hk ((h | h) | h)
    · exact hqc k hk h
    · exact absurd (hlt k hk) (Nat.not_lt.mpr h)
    · exact hqo k hk h
  refine va_calli (vx_runSW (As := As) (rest := rest) S hM cw0 ⟨hPre_blind D yI yO yL z0 ad g o f _ _, fun U hU hW => ⟨rfl, by rw [hU]; exact hX.1, va_K.moved hW.alike hK.l, by rw [hU]; exact hP, hoc, by rw [hU], by rw [hU]; exact ((hxs.kept hX.2.2.2.1).narrow hFc).moved hW, ⟨by rw [hU]; exact ((hys.1.kept hX.2.2.2.1).narrow hFc).moved hW, hys.2.moved hW⟩, hns.moved hW.alike⟩⟩ rfl hn hsize rfl (lv_room (pc := pc) (ls := ls) (rest := []) (m := m) hW) hdg hf) hX.2.2 (fun a _ h => hFc a h) hFc (fun r' w t H1 locs1 ht hvm hp hB hz hk hS => ?_)
  obtain ⟨rfl, hp2⟩ := hp
  obtain ⟨h00, hcw, -, hP1, hoc1, hA1⟩ := hB
  rw [ht] at hcw hP1
  refine kk w.1 w.2 H1 locs1 h00 hp2 ⟨⟨hcw, fun k i h => hFc _ (hA1 k i h), hS⟩, ⟨fun k hm => (hw.1 k hm).kept (hk _ (hlt k hm) (hout k hm)), hw.2⟩, hwA, hP1, hoA, fun k hm hc => ?_, hoc1, hqo⟩
  obtain ⟨k2, i2, h2, h3⟩ := hc
  have h4 := hA1 k2 i2 h2
  rw [h3] at h4
  exact hout k hm h4
theorem lr_call {y : MethodName} {bytes : ByteArray} {maxL nL n index : Nat} {own : String} {ret : Option FieldType} {wsm : List Cond} {rm : Room} {Ts : List Cond} {As : List Value} {r : Int32} {u1 : MS} {st0 : List Value}
    (S : CallFix p m c cc nL s args Ts own) (hM : Met l y wsm rm (va_Pc (.ref (q 0) :: As) (mPre D yI cZ q u)) (mQ D yI cZ q r u1) 0 0 (mF q)) (cw0 : CallW R s args own RX9 index y bytes maxL ret wsm rm 0 0 n) (hK : gK D yI yO yL cZ s) (hN : gW D yI yO yL cZ z0 q ad g u o f A s H locs)
    (hn : As.length = n) (hsize : ls.size = nL) (hstack : st0 = As.reverse ++ .ref (q 0) :: rest) (hW : (rest.map fun v => v.category).sum ≤ 8) (hdg : decode cc pc = .ok (.invokevirtual index, 3)) (hf : cells ≤ R.cells ∧ slots ≤ R.slots)
    (kk : ∀ (H1 : Heap) (locs1 : List Loc), gW D yI yO yL cZ z0 q ad g u1 o f A s H1 locs1 → W p l e R s m args below meth c H1 locs1 cells slots Q (F0 m (pc + 3) ls (.int r :: rest))) : W p l e R s m args below meth c H locs cells slots Q (F0 m pc ls st0) := by
  subst hstack
  obtain ⟨hX, hw, hwA, hP, hoA, hqc, hoc, hqo⟩ := hN
  have hFc : ∀ a, mF q a → A a := by
    rintro a ⟨k, hk, rfl⟩
    exact hwA k hk
  refine va_calli (va_runV (As := As) (rest := rest) S hM cw0 ⟨mPre_blind D yI cZ q u _, va_recv hK.m (mw_lv hw (Or.inl rfl)) (ci := 10) (q0 := 0) rfl rfl, fun U hU hW => ⟨rfl, by rw [hU]; exact hw, va_K.moved hW.alike hK.m⟩⟩ rfl hn hsize rfl (lv_room (pc := pc) (ls := ls) (rest := []) (m := m) hW) hdg hf) hX.2.2 (fun a _ h => hFc a h) hFc (fun r' _ t H1 locs1 ht hvm hp hB hz hk hS => ?_)
  subst hp
  have hcl : ∀ a, cF ad g a → a < H.size ∧ ¬ mF q a := by
    rintro a ⟨k, i, h1, h2⟩
    refine ⟨h2 ▸ (hX.1.1 k i h1).lt, fun ⟨k2, hk2, e2⟩ => hqc k2 hk2 ⟨k, i, h1, h2.trans e2.symm⟩⟩
  refine kk H1 locs1 ⟨cX_of_same hX (fun a ha => hk a (hcl a ha).1 (hcl a ha).2) hS, by rw [← ht]; exact hB.1, hwA, hP.kept (fun k x hx => ?_), hoA, hqc, hoc, hqo⟩
  refine hk x.1 (hP k x hx).lt ?_
  rintro ⟨k2, hk2, e2⟩
  rcases k with _ | k
  · cases hx
    exact hqo k2 hk2 e2
  · simp [lw1] at hx
/-- the long in the cell -/
theorem lr_long (hx : p.tables.exec = Jvm.exec) (hb : c.code = cc) (hK : gK D yI yO yL cZ s) (hN : gW D yI yO yL cZ z0 q ad g u o f A s H locs) {out : Int64} (hf : f 0 = out) (hdg : decode cc pc = .ok (.laload, 1))
    (kk : W p l e R s m args below meth c H locs cells slots Q (F0 m (pc + 1) ls (.long out :: rest))) : W p l e R s m args below meth c H locs cells slots Q (F0 m pc ls (.int 0 :: .ref o :: rest)) := by
  refine va_lald hx hb hK hN.2.2.2.1 0 2 rfl rfl (pk_in (x := 0) 0 1 (by decide)) hdg ?_
  rw [show (0 : Int32).toNatClampNeg = 0 from rfl, hf]
  exact kk
/-- an int as a boolean: ifeq, iconst_1, goto, iconst_0 -/
theorem lb_bool (hx : p.tables.exec = Jvm.exec) (hb : c.code = cc) {x : Int32} (hd1 : decode cc pc = .ok (.ifCond .eq 7, 3)) (hd2 : decode cc (pc + 3) = .ok (.iconst 1, 1)) (hd3 : decode cc (pc + 4) = .ok (.goto 4, 3)) (hd4 : decode cc (pc + 7) = .ok (.iconst 0, 1))
    (kk : W p l e R s m args below meth c H locs cells slots Q (F0 m (pc + 8) ls (.int (zB (!decide (x = 0))) :: rest))) : W p l e R s m args below meth c H locs cells slots Q (F0 m pc ls (.int x :: rest)) := by
  refine lv_if_eq (tgt := pc + 7) hx hb hd1 (by omega) (fun h => ?_) (fun h => ?_)
  · refine lv_iconst (v := 0) hx hb hd4 (by decide) ?_
    rw [decide_eq_true h] at kk
    exact kk
  · refine lv_iconst (v := 1) hx hb hd2 (by decide) ?_
    refine lv_goto (tgt := pc + 8) hx hb hd3 (by omega) ?_
    rw [decide_eq_false h] at kk
    exact kk
/-- an int as a long boolean: ifeq, lconst_1, goto, lconst_0 -/
theorem lb_lbool (hx : p.tables.exec = Jvm.exec) (hb : c.code = cc) {x : Int32} (hd1 : decode cc pc = .ok (.ifCond .eq 7, 3)) (hd2 : decode cc (pc + 3) = .ok (.lconst 1, 1)) (hd3 : decode cc (pc + 4) = .ok (.goto 4, 3)) (hd4 : decode cc (pc + 7) = .ok (.lconst 0, 1))
    (kk : W p l e R s m args below meth c H locs cells slots Q (F0 m (pc + 8) ls (.long (if x = 0 then (0 : Int64) else 1) :: rest))) : W p l e R s m args below meth c H locs cells slots Q (F0 m pc ls (.int x :: rest)) := by
  refine lv_if_eq (tgt := pc + 7) hx hb hd1 (by omega) (fun h => ?_) (fun h => ?_)
  · refine lv_lconst (v := 0) hx hb hd4 (by decide) ?_
    rw [if_pos h] at kk
    exact kk
  · refine lv_lconst (v := 1) hx hb hd2 (by decide) ?_
    refine lv_goto (tgt := pc + 8) hx hb hd3 (by omega) ?_
    rw [if_neg h] at kk
    exact kk
end LW
theorem R0.ok {t : Nat} {g : CS} {u : MS} (h : R0 t g u) : yOK g := by
  refine ⟨⟨fun p v hp e => ?_, fun p v hp e => ?_, fun x hx => ?_⟩, h.aC⟩
  · rcases h.aH p hp with ⟨a, -⟩ | ⟨l, a, b, -⟩
    · rw [a] at e; cases e
    · rw [b] at e; cases e; exact a
  · rcases h.aI p hp with ⟨a, -⟩ | ⟨l, a, b, -⟩
    · rw [a] at e; cases e
    · rw [b] at e; cases e; exact a
  · obtain ⟨-, -, ⟨l, a, b, -⟩, -⟩ := h.aV x hx
    have := h.aN.1
    rw [b, nI_clamp (by omega)]
    exact a
