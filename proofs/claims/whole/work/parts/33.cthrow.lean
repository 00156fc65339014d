/-! ===== methods that may throw: sum answers; the world that a throw needs ===== -/
def xE (e : Nat) : String := match e with
  | 0 => "java/lang/IndexOutOfBoundsException"
  | 1 => "java/lang/IllegalArgumentException"
  | _ => "java/lang/IllegalStateException"
def xT : List (Nat × String) := [(43, "late is out of range"), (54, "there are 8 lands"), (73, "a land waives nothing for its own nation"), (85, "day, most or window is out of range"), (90, "there are 10 rules"), (92, "age is out of range"), (108, "mother and father are the same"), (114, "the mother is abroad"), (127, "first or last is out of range"), (129, "entries or days is out of range"), (131, "there are 60 visas"), (169, "one moves from a land of the region to another one"), (174, "one who is abroad can\'t leave"), (208, "days is out of range"), (218, "type or quota is out of range"), (227, "type is out of range"), (236, "there are 40, it is of that nation, or has one that is open"), (268, "this person can\'t follow, or 3 do"), (291, "no valid permit, or there on too few days"), (300, "not there, of that nation already, or no such permit"), (302, "no day is above 3600"), (317, "what is out of range"), (327, "day is out of range"), (344, "there is no such land"), (351, "there is no such person"), (353, "there is no such visa"), (355, "there is no such request"), (357, "there are 16 persons"), (359, "this one is in a land"), (361, "the request is in another state")]
def xB : List Cond := [.castable "java/lang/IndexOutOfBoundsException" "java/lang/IndexOutOfBoundsException", .castable "java/lang/IllegalArgumentException" "java/lang/IllegalArgumentException", .castable "java/lang/IllegalStateException" "java/lang/IllegalStateException", .declares ⟨"java/lang/RuntimeException", "<init>", "(Ljava/lang/String;)V"⟩, .declares ⟨"java/lang/Exception", "<init>", "(Ljava/lang/String;)V"⟩, .declares ⟨"java/lang/Throwable", "<init>", "(Ljava/lang/String;)V"⟩]
def xS (A : Nat → Prop) (U : State) (H : Heap) : Prop := vx_Zq Bundle.tN "UNASSIGNED_STACK" Bundle.steD A U H ∧ vx_Zq Bundle.tN "SUPPRESSED_SENTINEL" Bundle.listD A U H ∧ (∀ q ∈ xT, ∃ sa, vk_R RX8 q.1 q.2 sa U) ∧ ∀ w ∈ xB, va_Nw w U
theorem xB_on : ∀ w ∈ xB, w.onTables = true := by decide +kernel
def cA (ad : Nat → Nat → Nat) (g : CS) (sz : Nat) : Nat → Prop := fun a => cF ad g a ∨ sz ≤ a
def xPre (D : va_G) (yI yO : ClassId) (z0 : Nat) (ad : Nat → Nat → Nat) (g : CS) (sz : Nat) (U : State) : Prop := cPre D yI yO z0 ad g U ∧ U.heap.size = sz ∧ xS (cA ad g sz) U U.heap
def xQ (A : Nat → Prop) : Array Value → State → Outcome → State → Prop := va_Qv (S := Unit) (fun _ => False) (fun _ _ => True) A
def xXC (D : va_G) (yI yO : ClassId) (z0 : Nat) (ad : Nat → Nat → Nat) (g : CS) (ez : Nat) (A : Nat → Prop) : String → State → State → Prop := vx_X (S := Unit) (fun _ => True) (fun E _ t => E = xE ez ∧ cw D yI yO z0 ad g t.heap ∧ cK D yI yO t) A
abbrev xR (f n : Nat) : Room := { frames := f, cells := 1, slots := 6, locals := n }
def xb {α β : Type} (o : Option (Nat ⊕ α)) (f : α → Option (Nat ⊕ β)) : Option (Nat ⊕ β) := match o with
  | none => none
  | some (.inl e) => some (.inl e)
  | some (.inr a) => f a
theorem xb_ret {α β : Type} {o : Option (Nat ⊕ α)} {f : α → Option (Nat ⊕ β)} {r : β} (h : xb o f = some (.inr r)) : ∃ a, o = some (.inr a) ∧ f a = some (.inr r) := by
  match o, h with
  | none, h => cases h
  | some (.inl e), h => cases h
  | some (.inr a), h => exact ⟨a, rfl, h⟩
theorem xb_thr {α β : Type} {o : Option (Nat ⊕ α)} {f : α → Option (Nat ⊕ β)} {e : Nat} (h : xb o f = some (.inl e)) : o = some (.inl e) ∨ ∃ a, o = some (.inr a) ∧ f a = some (.inl e) := by
  match o, h with
  | none, h => cases h
  | some (.inl e1), h => cases h; exact Or.inl rfl
  | some (.inr a), h => exact Or.inr ⟨a, rfl, h⟩
theorem xS.moved {A : Nat → Prop} {u U : State} {H : Heap} (hW : u.WarmedH U.vm) (h : xS A u H) : xS A U H := ⟨vx_Zq.moved hW.alike h.1, vx_Zq.moved hW.alike h.2.1, fun q hq => by
  obtain ⟨sa, h1⟩ := h.2.2.1 q hq
  exact ⟨sa, vk_R.warm hW h1⟩, fun w hw => by
  have h1 := h.2.2.2 w hw
  simp only [xB, List.mem_cons, List.not_mem_nil, or_false] at hw
  rcases hw with rfl | rfl | rfl | rfl | rfl | rfl
  · exact va_Nw.warmC hW h1
  · exact va_Nw.warmC hW h1
  · exact va_Nw.warmC hW h1
  · exact va_Nw.warmD hW h1
  · exact va_Nw.warmD hW h1
  · exact va_Nw.warmD hW h1⟩
theorem xS.kept {A : Nat → Prop} {U : State} {H H1 : Heap} (h : xS A U H) (hq : ∀ a : Nat, a < H.size → ¬ A a → H1[a]? = H[a]?) : xS A U H1 := ⟨h.1.kept hq, h.2.1.kept hq, h.2.2⟩
theorem xS.narrow {A B : Nat → Prop} {U : State} {H : Heap} (h : xS A U H) (hAB : ∀ q, B q → A q) : xS B U H := ⟨h.1.narrow hAB, h.2.1.narrow hAB, h.2.2⟩
theorem xPre_blind (D : va_G) (yI yO : ClassId) (z0 : Nat) (ad : Nat → Nat → Nat) (g : CS) (sz : Nat) (av : List Value) : FrameBlind (va_Pc av (xPre D yI yO z0 ad g sz)) := fun a U fr mk z => ⟨z.1, ⟨(cPre_blind D yI yO z0 ad g av a U fr mk ⟨z.1, z.2.1⟩).2, z.2.2.1, vx_Zq.moved (Vm.Alike.refl U.vm) z.2.2.2.1, vx_Zq.moved (Vm.Alike.refl U.vm) z.2.2.2.2.1, fun q hq => by
  obtain ⟨sa, h1⟩ := z.2.2.2.2.2.1 q hq
  exact ⟨sa, vk_R.same (u := U) (U := U.calling fr mk a) rfl h1⟩, fun w hw => va_Nw.same (u := U) (U := U.calling fr mk a) (xB_on w hw) rfl (z.2.2.2.2.2.2 w hw)⟩⟩
def ntp {α : Type} (o : Option (Nat ⊕ α)) : Prop := ∀ e, o ≠ some (.inl e)
theorem ntp_inr {α : Type} (x : α) : ntp (some (.inr x) : Option (Nat ⊕ α)) := fun _ h => by cases h
theorem ntp_none {α : Type} : ntp (none : Option (Nat ⊕ α)) := fun _ h => by cases h
theorem ntp_bind {α β : Type} {o : Option β} {f : β → Option (Nat ⊕ α)} (h : ∀ a, ntp (f a)) : ntp (o.bind f) := fun e z => by
  obtain ⟨a, -, h1⟩ := mbind z
  exact h a e h1
theorem ntp_cb2 {α β : Type} {o : Option (β × CS)} {f : β → CS → Option (Nat ⊕ α)} (h : ∀ a b, ntp (f a b)) : ntp (cb2 o f) := fun e z => by
  obtain ⟨a, b, -, h1⟩ := cb2_spec z
  exact h a b e h1
theorem ntp_om {α : Type} {o : Option Nat} {a : Option (Nat ⊕ α)} {b : Nat → Option (Nat ⊕ α)} (h1 : ntp a) (h2 : ∀ v, ntp (b v)) : ntp (om o a b) := by
  cases o with
  | none => exact h1
  | some v => exact h2 v
theorem ntp_ite {α : Type} {c : Prop} [Decidable c] {a b : Option (Nat ⊕ α)} (h1 : ntp a) (h2 : ntp b) : ntp (if c then a else b) := by
  split
  · exact h1
  · exact h2
section CX
variable {p : Program} {l : Launch} {e : Env} {R : Room} {s : State} {m : MethodId} {args : Array Value} {below : List Frame} {meth : Method} {c : Code} {H : Heap} {locs : List Loc} {cells slots : Nat} {Q : State → Prop}
variable {cc : ByteArray} {pc : Nat} {ls : Array Slot} {rest : List Value} {D : va_G} {yI yO : ClassId} {z0 : Nat} {ad : Nat → Nat → Nat} {g : CS} {A : Nat → Prop}
theorem cw.kept {H1 : Heap} (h : cw D yI yO z0 ad g H) (hq : ∀ q : Nat, q < H.size → H1[q]? = H[q]?) : cw D yI yO z0 ad g H1 := ⟨fun k i hk => (h.1 k i hk).kept (hq _ (h.1 k i hk).lt), h.2⟩
theorem xX_post {ez : Nat} {cls : String} (hE : cls = xE ez) (hK : cK D yI yO s) (hX : cX D yI yO z0 ad g A s H locs) (t : State) (hvm : s.vm.Alike t.vm) (h1 : H.size ≤ t.heap.size) (h2 : ∀ q : Nat, q < H.size → t.heap[q]? = H[q]?) : xXC D yI yO z0 ad g ez A cls s t :=
  ⟨(), trivial, ⟨hE, hX.1.kept h2, va_K.moved hvm hK⟩, Nat.le_trans hX.2.2.1 h1, fun q h3 h4 => (h2 q (Nat.lt_of_lt_of_le h3 hX.2.2.1)).trans (hX.2.2.2.1 q h3 h4)⟩
/-- a call that throws, and nothing here catches it -/
theorem xg_callV {y : MethodName} {bytes : ByteArray} {maxL nL n index : Nat} {own C1 : String} {T : u_T} {NF ci ez : Nat} {ret : Option FieldType} {ws : List Cond} {rm : Room} {Ts : List Cond} {As : List Value} {st0 : List Value} {Qc : Array Value → State → Outcome → State → Prop}
    (S : CallFix p m c cc nL s args Ts own) (k i : Nat) (hlv : clvb g k i = true) (hc : vwCl[ci]? = some (C1, T, NF)) {fs : List Value} (he : cent yI yO ad g k i = .inr (ci, fs)) (hM : vx_Met l y ws rm (va_Pc (.ref (ad k i) :: As) (xPre D yI yO z0 ad g H.size)) (xQ (cA ad g H.size)) (xXC D yI yO z0 ad g ez (cA ad g H.size)) 1 6 (cA ad g H.size)) (cw0 : CallW R s args own C1 index y bytes maxL ret ws rm 1 6 n) (hK : cK D yI yO s) (hX : cX D yI yO z0 ad g A s H locs) (hA : ∀ q, s.heap.size ≤ q → A q) (hxs : xS A s s.heap) (ht : ∀ x ∈ c.exceptionTable.toList, False) (hlocks : meth.locks = false)
    (hn : As.length = n) (hsize : ls.size = nL) (hstack : st0 = As.reverse ++ .ref (ad k i) :: rest) (hW : (rest.map fun v => v.category).sum ≤ 8) (hdg : decode cc pc = .ok (.invokevirtual index, 3)) (hf : 0 + 1 ≤ R.cells ∧ 0 + 6 ≤ R.slots) : W p l e R s m args below meth c H locs 0 0 (vx_MQ below Qc (xXC D yI yO z0 ad g ez A) args s 1 6 A) (F0 m pc ls st0) := by
  subst hstack
  have hsub : ∀ q, cA ad g H.size q → A q := fun q h => h.elim (cF_sub hX q) (fun h => hA q (Nat.le_trans hX.2.2.1 h))
  refine vx_callv (vx_runV (As := As) (rest := rest) S hM cw0 ⟨xPre_blind D yI yO z0 ad g _ _, va_recv hK (cw_lv hX.1 hlv he) (q0 := 0) hc rfl, fun U hU hW => ⟨rfl, ⟨by rw [hU]; exact hX.1, va_K.moved hW.alike hK⟩, by rw [hU], by rw [hU]; exact ((hxs.kept hX.2.2.2.1).narrow hsub).moved hW⟩⟩ rfl hn hsize rfl (lv_room (pc := pc) (ls := ls) (rest := []) (m := m) hW) hdg hf) hX.2.2 (fun q _ h => hsub q h) hsub (fun q _ h => hsub q h) (fun E ce q9 u t H1 locs1 h1 h2 _ h4 h5 h6 h7 h8 h9 h10 => ?_) (fun u t H1 locs1 _ _ hf _ _ _ _ => hf.elim)
  refine vx_out (fun x hx => (ht x hx).elim) hlocks h8 h9 h10 (fun t' ht' hvm' => ?_) h7.2.2 (Nat.le_refl _) (Nat.le_refl _)
  refine ⟨(), trivial, ⟨h4.1, ?_, va_K.moved hvm' hK⟩, h7.F ht'⟩
  rw [ht', ← h1]; exact h4.2.1
end CX
