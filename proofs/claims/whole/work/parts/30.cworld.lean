/-! ===== the class: its objects by kind and number; a state: counts, ints, nullable references, capacities ===== -/
abbrev CS : Type := (Nat → Nat) × (Nat → Nat → Nat → Int32) × (Nat → Nat → Nat → Option Nat) × (Nat → Nat)
def sN (g : CS) : Nat → Nat := g.1
def sI (g : CS) : Nat → Nat → Nat → Int32 := g.2.1
def sJ (g : CS) : Nat → Nat → Nat → Option Nat := g.2.2.1
def sC (g : CS) : Nat → Nat := g.2.2.2
def uI (g : CS) (k i f : Nat) (x : Int32) : CS := (g.1, (fun a b c => if a = k ∧ b = i ∧ c = f then x else g.2.1 a b c), g.2.2)
def uJ (g : CS) (k i f : Nat) (x : Option Nat) : CS := (g.1, g.2.1, (fun a b c => if a = k ∧ b = i ∧ c = f then x else g.2.2.1 a b c), g.2.2.2)
def lkd : Nat → Nat := fun j => match j with
  | 0 => 4
  | 1 => 5
  | 2 => 6
  | 3 => 7
  | _ => 3
def lix (j i : Nat) : Nat := match j with
  | 0 => i
  | 1 => i
  | 2 => i
  | 3 => i
  | _ => i + 1
def rlen : Nat → Nat := fun k => match k with
  | 8 => 3
  | 9 => 3601
  | 10 => 3601
  | _ => 8
def rem : Nat → Int32 := fun k => match k with
  | 8 => 0
  | 9 => 0
  | 10 => 0
  | _ => -1
def centf (yI yO : ClassId) (ad : Nat → Nat → Nat) (N C : Nat → Nat) (I : Nat → Int32) (J : Nat → Option Nat) (k i : Nat) : va_E := match k with
  | 0 => .inr (9, [.ref (ad 1 0), .ref (ad 1 1), .ref (ad 1 2), .ref (ad 1 3), .ref (ad 3 0), .ref (ad 1 4), .int (I 6)])
  | 1 => .inr (0, [.int (I 0), .ref (ad 2 i), .int (nI (N i))])
  | 2 => .inl (yO, C i, .inr (.inr (.inr (.inr (fun j => if j < N i then some (ad (lkd i) (lix i j)) else none)))))
  | 3 => .inr (7, [.int (I 0), .int (I 1), .int (I 2)])
  | 4 => .inr (2, [.int (I 0), .int (I 1), .int (I 2), .int (I 3), .int (I 4), .ref (ad 8 i), .int (I 6)])
  | 5 => .inr (4, [.int (I 0), .int (I 1), .int (I 2), .int (I 3), .ref (ad 9 i), .ref (ad 10 i), .ref (ad 24 i), .ref (ad 25 i), .int (I 8), va_rf ((J 9).map (ad 4)), va_rf ((J 10).map (ad 6)), .int (I 11), .int (I 12)])
  | 6 => .inr (8, [.int (I 0), .int (I 1), .ref (ad 4 (I 2).toNatClampNeg), .int (I 3), .int (I 4), .int (I 5), .int (I 6), .int (I 7)])
  | 7 => .inr (5, [.int (I 0), .int (I 1), .int (I 2), .int (I 3), .int (I 4), .int (I 5), .int (I 6), .int (I 7)])
  | 8 => .inr (6, [.ref (ad 16 i), .int 0])
  | 9 => .inr (6, [.ref (ad 17 i), .int 0])
  | 10 => .inr (6, [.ref (ad 18 i), .int 0])
  | 11 => .inr (6, [.ref (ad 19 i), .int (-1)])
  | 12 => .inr (6, [.ref (ad 20 i), .int (-1)])
  | 13 => .inr (6, [.ref (ad 21 i), .int (-1)])
  | 14 => .inr (6, [.ref (ad 22 i), .int (-1)])
  | 15 => .inr (6, [.ref (ad 23 i), .int (-1)])
  | 16 => .inl (yI, 3, .inl I)
  | 17 => .inl (yI, 3601, .inl I)
  | 18 => .inl (yI, 3601, .inl I)
  | 19 => .inl (yI, 8, .inl I)
  | 20 => .inl (yI, 8, .inl I)
  | 21 => .inl (yI, 8, .inl I)
  | 22 => .inl (yI, 8, .inl I)
  | 23 => .inl (yI, 8, .inl I)
  | 24 => .inr (1, [.ref (ad 11 i), .ref (ad 12 i), .ref (ad 13 i)])
  | 25 => .inr (3, [.ref (ad 14 i), .ref (ad 15 i)])
  | _ => .inr (0, [])
def cent (yI yO : ClassId) (ad : Nat → Nat → Nat) (g : CS) (k i : Nat) : va_E := centf yI yO ad (sN g) (sC g) (sI g k i) (sJ g k i) k i
def clvb (g : CS) (k i : Nat) : Bool := match k with
  | 0 => decide (i = 0)
  | 1 => decide (i < 5)
  | 2 => decide (i < 5) && decide (0 < sC g i)
  | 3 => decide (i ≤ sN g 4)
  | 4 => decide (i < sN g 0)
  | 5 => decide (i < sN g 1)
  | 6 => decide (i < sN g 2)
  | 7 => decide (i < sN g 3)
  | 8 => decide (i < sN g 0)
  | 9 => decide (i < sN g 1)
  | 10 => decide (i < sN g 1)
  | 11 => decide (i < sN g 1)
  | 12 => decide (i < sN g 1)
  | 13 => decide (i < sN g 1)
  | 14 => decide (i < sN g 1)
  | 15 => decide (i < sN g 1)
  | 16 => decide (i < sN g 0)
  | 17 => decide (i < sN g 1)
  | 18 => decide (i < sN g 1)
  | 19 => decide (i < sN g 1)
  | 20 => decide (i < sN g 1)
  | 21 => decide (i < sN g 1)
  | 22 => decide (i < sN g 1)
  | 23 => decide (i < sN g 1)
  | 24 => decide (i < sN g 1)
  | 25 => decide (i < sN g 1)
  | _ => false
def cF (ad : Nat → Nat → Nat) (g : CS) : Nat → Prop := fun a => ∃ k i, clvb g k i = true ∧ ad k i = a
def cw (D : va_G) (yI yO : ClassId) (z0 : Nat) (ad : Nat → Nat → Nat) (g : CS) (H : Heap) : Prop := (∀ k i, clvb g k i = true → va_at D vwCl (ad k i, cent yI yO ad g k i) H) ∧ (∀ k i k' i', clvb g k i = true → clvb g k' i' = true → ad k i = ad k' i' → k = k' ∧ i = i') ∧ ∀ i, i < 5 → sC g i = 0 → ad 2 i = z0
def cK (D : va_G) (yI yO : ClassId) (s : State) : Prop := va_K D vwCl [(yI, .int), (yO, .object "java/lang/Object")] s
def cX (D : va_G) (yI yO : ClassId) (z0 : Nat) (ad : Nat → Nat → Nat) (g : CS) (A : Nat → Prop) (s : State) (H : Heap) (locs : List Loc) : Prop := cw D yI yO z0 ad g H ∧ (∀ k i, clvb g k i = true → A (ad k i)) ∧ va_S A s.heap H locs
def cPre (D : va_G) (yI yO : ClassId) (z0 : Nat) (ad : Nat → Nat → Nat) (g : CS) (U : State) : Prop := cw D yI yO z0 ad g U.heap ∧ cK D yI yO U
def cPost (D : va_G) (yI yO : ClassId) (z0 : Nat) (ad : Nat → Nat → Nat) (g : CS) (A : Nat → Prop) (t : State) : Prop := cw D yI yO z0 ad g t.heap ∧ cK D yI yO t ∧ ∀ k i, clvb g k i = true → A (ad k i)
def cQ (D : va_G) (yI yO : ClassId) (z0 : Nat) (ad : Nat → Nat → Nat) (r : Int32) (g : CS) (A : Nat → Prop) : Array Value → State → Outcome → State → Prop := va_Qi (S := Unit) (fun r' _ => r' = r) (fun _ t => cPost D yI yO z0 ad g A t) A
def cQv (D : va_G) (yI yO : ClassId) (z0 : Nat) (ad : Nat → Nat → Nat) (g : CS) (A : Nat → Prop) : Array Value → State → Outcome → State → Prop := va_Qv (S := Unit) (fun _ => True) (fun _ t => cPost D yI yO z0 ad g A t) A
def cQq (D : va_G) (yI yO : ClassId) (z0 : Nat) (ad : Nat → Nat → Nat) (k : Nat) (r : Option Nat) (g : CS) (A : Nat → Prop) : Array Value → State → Outcome → State → Prop := va_Qq (S := Unit) (fun r' _ => r' = r.map (ad k)) (fun _ t => cPost D yI yO z0 ad g A t) A
def cC (p : Program) (s : State) (m : MethodId) (args : Array Value) (meth : Method) (c : Code) (cc : ByteArray) (own : String) (ret : Option FieldType) (Ts : List Cond) (nL : Nat) (D : va_G) (yI yO : ClassId) : Prop := p.tables.exec = Jvm.exec ∧ c.code = cc ∧ meth.sig.returnType = ret ∧ (∀ w ∈ Ts, w.before args s = true) ∧ s.vm.findClass own = some m.cls ∧ meth.locks = false ∧ c.maxLocals = nL ∧ cK D yI yO s
/-- is the object there? -/
def ck (g : CS) (k i : Nat) : Option Unit := if clvb g k i = true then some () else none
theorem ck_spec {g : CS} {k i : Nat} {x : Unit} (h : ck g k i = some x) : clvb g k i = true := by
  unfold ck at h
  split at h
  · assumption
  · cases h
def om {β : Type} (o : Option Nat) (A : β) (B : Nat → β) : β := match o with
  | none => A
  | some v => B v
theorem om_n {β : Type} {o : Option Nat} {A r : β} {B : Nat → β} (ho : o = none) (h : om o A B = r) : A = r := by subst ho; exact h
theorem om_s {β : Type} {o : Option Nat} {A r : β} {B : Nat → β} {v : Nat} (ho : o = some v) (h : om o A B = r) : B v = r := by subst ho; exact h
def cb2 {α β : Type} (o : Option (α × CS)) (f : α → CS → Option β) : Option β := match o with
  | none => none
  | some z => f z.1 z.2
theorem cb2_spec {α β : Type} {o : Option (α × CS)} {f : α → CS → Option β} {r : β} (h : cb2 o f = some r) : ∃ a b, o = some (a, b) ∧ f a b = some r := by
  cases o with
  | none => cases h
  | some z => exact ⟨z.1, z.2, rfl, h⟩
def cld (g : CS) (k i : Nat) (j : Int32) : Option Int32 := if j < 0 ∨ rlen (k - 8) ≤ j.toNatClampNeg then none else some (sI g k i j.toNatClampNeg)
def cst (g : CS) (k i : Nat) (j x : Int32) : Option CS := if j < 0 ∨ rlen (k - 8) ≤ j.toNatClampNeg then none else some (uI g k i j.toNatClampNeg x)
theorem cld_spec {g : CS} {k i : Nat} {j x : Int32} (h : cld g k i j = some x) : vp_in j (rlen (k - 8)) ∧ x = sI g k i j.toNatClampNeg := by
  unfold cld at h
  split at h
  · cases h
  · next hn => exact ⟨hn, (Option.some.inj h).symm⟩
theorem cst_spec {g g1 : CS} {k i : Nat} {j x : Int32} (h : cst g k i j x = some g1) : vp_in j (rlen (k - 8)) ∧ g1 = uI g k i j.toNatClampNeg x := by
  unfold cst at h
  split at h
  · cases h
  · next hn => exact ⟨hn, (Option.some.inj h).symm⟩
theorem sI_up (g : CS) (k i f : Nat) (x : Int32) : sI (uI g k i f x) k i = upd (sI g k i) f x := by
  funext c
  simp [sI, uI, upd]
theorem sI_ne (g : CS) {k i a b : Nat} (f : Nat) (x : Int32) (h : ¬ (a = k ∧ b = i)) : sI (uI g k i f x) a b = sI g a b := by
  funext c
  have : ¬ (a = k ∧ b = i ∧ c = f) := fun z => h ⟨z.1, z.2.1⟩
  simp [sI, uI, this]
theorem sJ_ne (g : CS) {k i a b : Nat} (f : Nat) (x : Option Nat) (h : ¬ (a = k ∧ b = i)) : sJ (uJ g k i f x) a b = sJ g a b := by
  funext c
  have : ¬ (a = k ∧ b = i ∧ c = f) := fun z => h ⟨z.1, z.2.1⟩
  simp [sJ, uJ, this]
theorem sJ_up (g : CS) (k i f : Nat) (x : Option Nat) : sJ (uJ g k i f x) k i = va_up (sJ g k i) f x := by
  funext c
  simp [sJ, uJ, va_up]
theorem cent_uI (yI yO : ClassId) (ad : Nat → Nat → Nat) (g : CS) {k i a b : Nat} (f : Nat) (x : Int32) (h : ¬ (a = k ∧ b = i)) : cent yI yO ad (uI g k i f x) a b = cent yI yO ad g a b := by
  unfold cent
  rw [sI_ne g f x h]
  rfl
theorem cent_uJ (yI yO : ClassId) (ad : Nat → Nat → Nat) (g : CS) {k i a b : Nat} (f : Nat) (x : Option Nat) (h : ¬ (a = k ∧ b = i)) : cent yI yO ad (uJ g k i f x) a b = cent yI yO ad g a b := by
  unfold cent
  rw [sJ_ne g f x h]
  rfl
theorem clvb_uI (g : CS) (k i f : Nat) (x : Int32) (a b : Nat) : clvb (uI g k i f x) a b = clvb g a b := rfl
theorem clvb_uJ (g : CS) (k i f : Nat) (x : Option Nat) (a b : Nat) : clvb (uJ g k i f x) a b = clvb g a b := rfl
theorem rowk {P : Nat → Prop} {k : Nat} (h : 8 ≤ k ∧ k < 16) (h8 : P 8) (h9 : P 9) (h10 : P 10) (h11 : P 11) (h12 : P 12) (h13 : P 13) (h14 : P 14) (h15 : P 15) : P k := by
  rcases (show k = 8 ∨ k = 9 ∨ k = 10 ∨ k = 11 ∨ k = 12 ∨ k = 13 ∨ k = 14 ∨ k = 15 by omega) with rfl | rfl | rfl | rfl | rfl | rfl | rfl | rfl <;> assumption
theorem clv_row {g : CS} {k i : Nat} (hk : 8 ≤ k ∧ k < 16) (h : clvb g k i = true) : clvb g (k + 8) i = true := by
  revert h
  exact rowk (P := fun k => clvb g k i = true → clvb g (k + 8) i = true) hk (fun h => h) (fun h => h) (fun h => h) (fun h => h) (fun h => h) (fun h => h) (fun h => h) (fun h => h)
theorem cent_row (yI yO : ClassId) (ad : Nat → Nat → Nat) (g : CS) {k i : Nat} (hk : 8 ≤ k ∧ k < 16) : cent yI yO ad g k i = .inr (6, [.ref (ad (k + 8) i), .int (rem k)]) :=
  rowk (P := fun k => cent yI yO ad g k i = .inr (6, [.ref (ad (k + 8) i), .int (rem k)])) hk rfl rfl rfl rfl rfl rfl rfl rfl
theorem cent_arr (yI yO : ClassId) (ad : Nat → Nat → Nat) (g : CS) {k i : Nat} (hk : 8 ≤ k ∧ k < 16) : cent yI yO ad g (k + 8) i = .inl (yI, rlen k, .inl (sI g (k + 8) i)) :=
  rowk (P := fun k => cent yI yO ad g (k + 8) i = .inl (yI, rlen k, .inl (sI g (k + 8) i))) hk rfl rfl rfl rfl rfl rfl rfl rfl
theorem cPre_blind (D : va_G) (yI yO : ClassId) (z0 : Nat) (ad : Nat → Nat → Nat) (g : CS) (av : List Value) : FrameBlind (va_Pc av (cPre D yI yO z0 ad g)) := fun a U fr mk z => ⟨z.1, z.2.1, va_K.moved (u := U) (U := U.calling fr mk a) (Vm.Alike.refl U.vm) z.2.2⟩
section CW
variable {p : Program} {l : Launch} {e : Env} {R : Room} {s : State} {m : MethodId} {args : Array Value} {below : List Frame} {meth : Method} {c : Code} {H : Heap} {locs : List Loc} {cells slots : Nat} {Q : State → Prop}
variable {cc : ByteArray} {pc : Nat} {ls : Array Slot} {rest : List Value} {D : va_G} {yI yO : ClassId} {z0 : Nat} {ad : Nat → Nat → Nat} {g : CS} {A : Nat → Prop}
theorem cw_lv (h : cw D yI yO z0 ad g H) {k i : Nat} (hk : clvb g k i = true) {e1 : va_E} (he : cent yI yO ad g k i = e1) : va_P D vwCl [(ad k i, e1)] H := by
  intro n z hz
  match n, hz with
  | 0, hz => cases hz; rw [← he]; exact h.1 k i hk
  | n + 1, hz => simp at hz
theorem cg_get (hx : p.tables.exec = Jvm.exec) (hb : c.code = cc) {own ref C1 : String} {T : u_T} {N ci index : Nat} {Ts : List Cond} (hts : ∀ w ∈ Ts, w.before args s = true) (hin : ∀ w ∈ u_ws C1 T N, w ∈ Ts) (hown : s.vm.findClass own = some m.cls) (hK : cK D yI yO s) (hX : cX D yI yO z0 ad g A s H locs) (k i : Nat) (hlv : clvb g k i = true) (hc : vwCl[ci]? = some (C1, T, N)) {fs : List Value} (he : cent yI yO ad g k i = .inr (ci, fs)) (f : Nat) (hf : f < N) (hlink : (Cond.fieldLink own index ref (T f).2.1 (T f).2.2.1).before args s = true) (hsame : ∀ x, s.fieldFound? (T f).1 (T f).2.1 (T f).2.2.1 = some x → s.fieldFound? ref (T f).2.1 (T f).2.2.1 = some x) {v : Value} (hv : fs[f]? = some v) (hdg : decode cc pc = .ok (.getfield index, 3))
    (kk : W p l e R s m args below meth c H locs cells slots Q (F0 m (pc + 3) ls (v :: rest))) : W p l e R s m args below meth c H locs cells slots Q (F0 m pc ls (.ref (ad k i) :: rest)) :=
  va_get (D := D) (cl := vwCl) (ws := [(ad k i, .inr (ci, fs))]) hx hb hts hin hown hK (cw_lv hX.1 hlv he) 0 rfl hc f hf hlink hsame hv hdg kk
theorem cX_put {H1 : Heap} {g1 : CS} (hX : cX D yI yO z0 ad g A s H locs) {k i z : Nat} (hlv : clvb g k i = true) (oq : ∀ a, a ≠ ad k i → H1[a]? = H[a]?) (hz : H1.size = H.size) (hat : va_at D vwCl (ad k i, cent yI yO ad g1 k i) H1) (hlv1 : ∀ a b, clvb g1 a b = clvb g a b) (hC : sC g1 = sC g) (hsame : ∀ a b, ¬ (a = k ∧ b = i) → cent yI yO ad g1 a b = cent yI yO ad g a b) : cX D yI yO z0 ad g1 A s H1 (locs ++ [⟨ad k i, z⟩]) := by
  obtain ⟨⟨h1, h2, h3⟩, h4, h5⟩ := hX
  refine ⟨⟨fun a b hab => ?_, fun a b a' b' x y => h2 a b a' b' (hlv1 a b ▸ x) (hlv1 a' b' ▸ y), by rw [hC]; exact h3⟩, fun a b hab => h4 a b (hlv1 a b ▸ hab), h5.put hz oq (h4 k i hlv)⟩
  rw [hlv1] at hab
  by_cases e1 : a = k ∧ b = i
  · obtain ⟨rfl, rfl⟩ := e1; exact hat
  · rw [hsame a b e1]
    exact (h1 a b hab).kept (oq _ (fun h => e1 (h2 a b k i hab hlv h)))
theorem cg_put (hx : p.tables.exec = Jvm.exec) (hb : c.code = cc) {own ref C1 : String} {T : u_T} {N ci index : Nat} {Ts : List Cond} (hts : ∀ w ∈ Ts, w.before args s = true) (hin : ∀ w ∈ u_ws C1 T N, w ∈ Ts) (ty0 : Nat → FieldType) (hty : ∀ k, k < N → parseFieldDescriptor (T k).2.2.1 = some (ty0 k)) (hnm : ∀ a, a < N → ∀ b, b < N → a ≠ b → (T a).2.1 ≠ (T b).2.1) (hown : s.vm.findClass own = some m.cls) (hK : cK D yI yO s) (hX : cX D yI yO z0 ad g A s H locs) (k i : Nat) (hlv : clvb g k i = true) (hc : vwCl[ci]? = some (C1, T, N)) {fs : List Value} (he : cent yI yO ad g k i = .inr (ci, fs)) (f : Nat) (hf : f < N) (hlink : (Cond.fieldLink own index ref (T f).2.1 (T f).2.2.1).before args s = true) (hsame : ∀ x, s.fieldFound? (T f).1 (T f).2.1 (T f).2.2.1 = some x → s.fieldFound? ref (T f).2.1 (T f).2.2.1 = some x) (hfin : (T f).2.2.2 = false) {ty : FieldType} {v : Value} (hd : parseFieldDescriptor (T f).2.2.1 = some ty) (hn : narrow ty v = v) (hfit : fits ty v = true) {g1 : CS}
    (hl : f < fs.length) (he1 : cent yI yO ad g1 k i = .inr (ci, fs.set f v)) (hlv1 : ∀ a b, clvb g1 a b = clvb g a b) (hC : sC g1 = sC g) (hother : ∀ a b, ¬ (a = k ∧ b = i) → cent yI yO ad g1 a b = cent yI yO ad g a b) (hdg : decode cc pc = .ok (.putfield index, 3))
    (kk : ∀ (H1 : Heap) (locs1 : List Loc), cX D yI yO z0 ad g1 A s H1 locs1 → W p l e R s m args below meth c H1 locs1 cells slots Q (F0 m (pc + 3) ls rest)) : W p l e R s m args below meth c H locs cells slots Q (F0 m pc ls (v :: .ref (ad k i) :: rest)) := by
  have hap := va_apart (own := own) hts hin ty0 hty hnm hK hc
  have h0 := hX.1.1 k i hlv
  rw [he] at h0
  obtain ⟨r, h1, cell, q1, q2, q3, q4⟩ := h0
  have hr : r = (C1, T, N) := Option.some.inj (h1.symm.trans hc)
  subst hr
  obtain ⟨hS, hfc, kC, hkC, hkind⟩ := hK.1 ci _ hc
  obtain ⟨cf, kf, fi, fd, hi, hsl⟩ := hS f hf
  have hlay := hts _ (hin _ (u_in_lay hf))
  unfold u_lay at hlay
  rw [if_neg (by rw [hfin]; decide)] at hlay
  have hst := (u_facts hfc hkC (u_lays hts hin hf) hi).1
  have h6 := u_store hfc hkC hkind hlay hi hd hn hfit
  refine W.putK hx hb (f := fd) ⟨hown, hlink, ⟨_, _, _, hsame _ hi⟩, hst⟩ (by rw [q2]; exact h6) q1 q3 (by rw [hsl]; exact k2_hasslot (q4 f hf)) rfl rfl hdg fun H' e1 e2 e3 => ?_
  rw [hsl] at e1 ⊢
  refine kk H' _ (cX_put hX hlv e3 e2 ?_ hlv1 hC hother)
  rw [he1]
  exact ⟨_, hc, t_OB.to (V := updV (vp_V fs) f v) ⟨_, e1, q2, q3, t_set q4 hap hf v⟩ (fun j _ => vp_updV_set hl v j)⟩
theorem cg_ald (hx : p.tables.exec = Jvm.exec) (hb : c.code = cc) (hK : cK D yI yO s) (hX : cX D yI yO z0 ad g A s H locs) (k i : Nat) (hk : 8 ≤ k ∧ k < 16) (hlv : clvb g k i = true) {j x : Int32} (h : cld g (k + 8) i j = some x) (hdg : decode cc pc = .ok (.iaload, 1))
    (kk : W p l e R s m args below meth c H locs cells slots Q (F0 m (pc + 1) ls (.int x :: rest))) : W p l e R s m args below meth c H locs cells slots Q (F0 m pc ls (.int j :: .ref (ad (k + 8) i) :: rest)) := by
  obtain ⟨h1, rfl⟩ := cld_spec h
  rw [Nat.add_sub_cancel] at h1
  exact va_iald (D := D) (cl := vwCl) (ws := [(ad (k + 8) i, .inl (yI, rlen k, .inl (sI g (k + 8) i)))]) hx hb hK (cw_lv hX.1 (clv_row hk hlv) (cent_arr yI yO ad g hk)) 0 0 rfl rfl h1 hdg kk
theorem cg_alen (hx : p.tables.exec = Jvm.exec) (hb : c.code = cc) (hK : cK D yI yO s) (hX : cX D yI yO z0 ad g A s H locs) (k i : Nat) (hk : 8 ≤ k ∧ k < 16) (hlv : clvb g k i = true) (hdg : decode cc pc = .ok (.arraylength, 1))
    (kk : W p l e R s m args below meth c H locs cells slots Q (F0 m (pc + 1) ls (.int (nI (rlen k)) :: rest))) : W p l e R s m args below meth c H locs cells slots Q (F0 m pc ls (.ref (ad (k + 8) i) :: rest)) :=
  va_alen (D := D) (cl := vwCl) (ws := [(ad (k + 8) i, .inl (yI, rlen k, .inl (sI g (k + 8) i)))]) (ty := .int) hx hb hK (cw_lv hX.1 (clv_row hk hlv) (cent_arr yI yO ad g hk)) 0 0 rfl rfl rfl hdg kk
theorem cg_ast (hx : p.tables.exec = Jvm.exec) (hb : c.code = cc) (hK : cK D yI yO s) (hX : cX D yI yO z0 ad g A s H locs) (k i : Nat) (hk : 8 ≤ k ∧ k < 16) (hlv : clvb g k i = true) {j x : Int32} {g1 : CS} (h : cst g (k + 8) i j x = some g1) (hdg : decode cc pc = .ok (.iastore, 1))
    (kk : ∀ (H1 : Heap) (locs1 : List Loc), cX D yI yO z0 ad g1 A s H1 locs1 → W p l e R s m args below meth c H1 locs1 cells slots Q (F0 m (pc + 1) ls rest)) : W p l e R s m args below meth c H locs cells slots Q (F0 m pc ls (.int x :: .int j :: .ref (ad (k + 8) i) :: rest)) := by
  obtain ⟨h1, rfl⟩ := cst_spec h
  rw [Nat.add_sub_cancel] at h1
  have hl8 := clv_row hk hlv
  have hat : H[ad (k + 8) i]? = some (vp_cell yI (rlen k, .inl (sI g (k + 8) i))) := by have z := hX.1.1 (k + 8) i hl8; rw [cent_arr yI yO ad g hk] at z; exact z
  refine W.iast hx hb hat ((hK.2 0 _ rfl).1 (rlen k) (fun n => .int (sI g (k + 8) i n))) (fun z => by cases z) (by show ¬ (j < 0 ∨ (arrV _ _ _).slots.size ≤ _); rw [arrV_size]; exact h1) rfl rfl hdg fun H1 e1 z oq => ?_
  refine kk H1 _ (cX_put hX hl8 oq z ?_ (fun _ _ => rfl) rfl (fun a b hab => cent_uI yI yO ad g _ x hab))
  rw [cent_arr yI yO ad _ hk, sI_up]
  show H1[ad (k + 8) i]? = some (vp_cell _ _)
  rw [e1, vp_cell_i, vp_cell_i, arrV_store]
  congr 2
  funext b
  by_cases hb : b = j.toNatClampNeg
  · subst hb; simp [updV, upd]
  · simp [updV, upd, hb]
theorem cg_reti (hx : p.tables.exec = Jvm.exec) (hb : c.code = cc) (hr : meth.sig.returnType = some .int) (hlocks : meth.locks = false) (hK : cK D yI yO s) (hX : cX D yI yO z0 ad g A s H locs) (hdg : decode cc pc = .ok (.ireturn, 1)) {v : Int32} : W p l e R s m args below meth c H locs 0 0 (MQ below (cQ D yI yO z0 ad v g A) args s 0 0 A) (F0 m pc ls [.int v]) :=
  W.iret (v := v) hx hb hr (fun t ht hW => ⟨⟨v, (), rfl, rfl, by rw [ht]; exact hX.1, va_K.moved hW.alike hK, hX.2.1⟩, hX.2.2.F ht⟩) hX.2.2.2.2 hdg hlocks
theorem cg_retz (hx : p.tables.exec = Jvm.exec) (hb : c.code = cc) (hr : meth.sig.returnType = some .boolean) (hlocks : meth.locks = false) (hK : cK D yI yO s) (hX : cX D yI yO z0 ad g A s H locs) (hdg : decode cc pc = .ok (.ireturn, 1)) {v v' : Int32} (hv : mbo v = some v') : W p l e R s m args below meth c H locs 0 0 (MQ below (cQ D yI yO z0 ad v' g A) args s 0 0 A) (F0 m pc ls [.int v]) := by
  obtain ⟨h1, rfl⟩ := mbo_spec hv
  have hnar : narrow .boolean (.int v') = .int v' := by rcases h1 with rfl | rfl <;> rfl
  exact W.zret (v := v') hx hb hr hnar (fun t ht hW => ⟨⟨v', (), rfl, rfl, by rw [ht]; exact hX.1, va_K.moved hW.alike hK, hX.2.1⟩, hX.2.2.F ht⟩) hX.2.2.2.2 hdg hlocks
theorem cg_retv (hx : p.tables.exec = Jvm.exec) (hb : c.code = cc) (hr : meth.sig.returnType = none) (hlocks : meth.locks = false) (hK : cK D yI yO s) (hX : cX D yI yO z0 ad g A s H locs) (hdg : decode cc pc = .ok (.return_, 1)) : W p l e R s m args below meth c H locs 0 0 (MQ below (cQv D yI yO z0 ad g A) args s 0 0 A) (F0 m pc ls []) :=
  W.vret hx hb hr (fun t ht hW => ⟨⟨(), rfl, trivial, by rw [ht]; exact hX.1, va_K.moved hW.alike hK, hX.2.1⟩, hX.2.2.F ht⟩) hX.2.2.2.2 hdg hlocks
theorem cg_retq (hx : p.tables.exec = Jvm.exec) (hb : c.code = cc) {nm : String} (hr : meth.sig.returnType = some (.object nm)) (hlocks : meth.locks = false) (hK : cK D yI yO s) (hX : cX D yI yO z0 ad g A s H locs) (hdg : decode cc pc = .ok (.areturn, 1)) {k : Nat} {o : Option Nat} : W p l e R s m args below meth c H locs 0 0 (MQ below (cQq D yI yO z0 ad k o g A) args s 0 0 A) (F0 m pc ls [va_rf (o.map (ad k))]) :=
  W.aret (v := va_rf (o.map (ad k))) hx hb hr (Or.inl ⟨nm, rfl⟩) (by cases o with | none => exact Or.inl rfl | some a => exact Or.inr ⟨_, rfl⟩) (fun t ht hW => ⟨⟨o.map (ad k), (), rfl, rfl, by rw [ht]; exact hX.1, va_K.moved hW.alike hK, hX.2.1⟩, hX.2.2.F ht⟩) hX.2.2.2.2 hdg hlocks
theorem cX_kept {H1 : Heap} {g1 : CS} {t : State} {A1 : Nat → Prop} (ht : t.heap = H1) (hp : cPost D yI yO z0 ad g1 A1 t) (hA : ∀ q, A1 q → A q) (hS : va_S A s.heap H1 locs) : cX D yI yO z0 ad g1 A s H1 locs := ⟨by rw [← ht]; exact hp.1, fun k i h => hA _ (hp.2.2 k i h), hS⟩
theorem cF_sub (hX : cX D yI yO z0 ad g A s H locs) : ∀ q, cF ad g q → A q := fun q ⟨k, i, h1, h2⟩ => h2 ▸ hX.2.1 k i h1
theorem cg_callV {y : MethodName} {bytes : ByteArray} {maxL nL n index : Nat} {own C1 : String} {T : u_T} {NF ci : Nat} {ret : Option FieldType} {ws : List Cond} {rm : Room} {Ts : List Cond} {As : List Value} {r : Int32} {g1 : CS} {st0 : List Value}
    (S : CallFix p m c cc nL s args Ts own) (k i : Nat) (hlv : clvb g k i = true) (hc : vwCl[ci]? = some (C1, T, NF)) {fs : List Value} (he : cent yI yO ad g k i = .inr (ci, fs)) (hM : Met l y ws rm (va_Pc (.ref (ad k i) :: As) (cPre D yI yO z0 ad g)) (cQ D yI yO z0 ad r g1 (cF ad g)) 0 0 (cF ad g)) (cw0 : CallW R s args own C1 index y bytes maxL ret ws rm 0 0 n) (hK : cK D yI yO s) (hX : cX D yI yO z0 ad g A s H locs)
    (hn : As.length = n) (hsize : ls.size = nL) (hstack : st0 = As.reverse ++ .ref (ad k i) :: rest) (hW : (rest.map fun v => v.category).sum ≤ 8) (hdg : decode cc pc = .ok (.invokevirtual index, 3)) (hf : cells ≤ R.cells ∧ slots ≤ R.slots)
    (kk : ∀ (H1 : Heap) (locs1 : List Loc), cX D yI yO z0 ad g1 A s H1 locs1 → W p l e R s m args below meth c H1 locs1 cells slots Q (F0 m (pc + 3) ls (.int r :: rest))) : W p l e R s m args below meth c H locs cells slots Q (F0 m pc ls st0) := by
  subst hstack
  exact va_calli (va_runV (As := As) (rest := rest) S hM cw0 ⟨cPre_blind D yI yO z0 ad g _, va_recv hK (cw_lv hX.1 hlv he) (q0 := 0) hc rfl, fun U hU hW => ⟨rfl, by rw [hU]; exact hX.1, va_K.moved hW.alike hK⟩⟩ rfl hn hsize rfl (lv_room (pc := pc) (ls := ls) (rest := []) (m := m) hW) hdg hf) hX.2.2 (fun q _ h => cF_sub hX q h) (cF_sub hX) (fun r' _ t H1 locs1 ht hvm hp hB _ _ hS => by
    subst hp
    exact kk H1 locs1 (cX_kept ht hB (cF_sub hX) hS))
theorem cg_callVv {y : MethodName} {bytes : ByteArray} {maxL nL n index : Nat} {own C1 : String} {T : u_T} {NF ci : Nat} {ret : Option FieldType} {ws : List Cond} {rm : Room} {Ts : List Cond} {As : List Value} {g1 : CS} {st0 : List Value}
    (S : CallFix p m c cc nL s args Ts own) (k i : Nat) (hlv : clvb g k i = true) (hc : vwCl[ci]? = some (C1, T, NF)) {fs : List Value} (he : cent yI yO ad g k i = .inr (ci, fs)) (hM : Met l y ws rm (va_Pc (.ref (ad k i) :: As) (cPre D yI yO z0 ad g)) (cQv D yI yO z0 ad g1 (cF ad g)) 0 0 (cF ad g)) (cw0 : CallW R s args own C1 index y bytes maxL ret ws rm 0 0 n) (hK : cK D yI yO s) (hX : cX D yI yO z0 ad g A s H locs)
    (hn : As.length = n) (hsize : ls.size = nL) (hstack : st0 = As.reverse ++ .ref (ad k i) :: rest) (hW : (rest.map fun v => v.category).sum ≤ 8) (hdg : decode cc pc = .ok (.invokevirtual index, 3)) (hf : cells ≤ R.cells ∧ slots ≤ R.slots)
    (kk : ∀ (H1 : Heap) (locs1 : List Loc), cX D yI yO z0 ad g1 A s H1 locs1 → W p l e R s m args below meth c H1 locs1 cells slots Q (F0 m (pc + 3) ls rest)) : W p l e R s m args below meth c H locs cells slots Q (F0 m pc ls st0) := by
  subst hstack
  exact va_callv (va_runV (As := As) (rest := rest) S hM cw0 ⟨cPre_blind D yI yO z0 ad g _, va_recv hK (cw_lv hX.1 hlv he) (q0 := 0) hc rfl, fun U hU hW => ⟨rfl, by rw [hU]; exact hX.1, va_K.moved hW.alike hK⟩⟩ rfl hn hsize rfl (lv_room (pc := pc) (ls := ls) (rest := []) (m := m) hW) hdg hf) hX.2.2 (fun q _ h => cF_sub hX q h) (cF_sub hX) (fun _ t H1 locs1 ht hvm hp hB _ _ hS => kk H1 locs1 (cX_kept ht hB (cF_sub hX) hS))
theorem cg_callVq {y : MethodName} {bytes : ByteArray} {maxL nL n index : Nat} {own C1 : String} {T : u_T} {NF ci : Nat} {ret : Option FieldType} {ws : List Cond} {rm : Room} {Ts : List Cond} {As : List Value} {k1 : Nat} {r : Option Nat} {g1 : CS} {st0 : List Value}
    (S : CallFix p m c cc nL s args Ts own) (k i : Nat) (hlv : clvb g k i = true) (hc : vwCl[ci]? = some (C1, T, NF)) {fs : List Value} (he : cent yI yO ad g k i = .inr (ci, fs)) (hM : Met l y ws rm (va_Pc (.ref (ad k i) :: As) (cPre D yI yO z0 ad g)) (cQq D yI yO z0 ad k1 r g1 (cF ad g)) 0 0 (cF ad g)) (cw0 : CallW R s args own C1 index y bytes maxL ret ws rm 0 0 n) (hK : cK D yI yO s) (hX : cX D yI yO z0 ad g A s H locs)
    (hn : As.length = n) (hsize : ls.size = nL) (hstack : st0 = As.reverse ++ .ref (ad k i) :: rest) (hW : (rest.map fun v => v.category).sum ≤ 8) (hdg : decode cc pc = .ok (.invokevirtual index, 3)) (hf : cells ≤ R.cells ∧ slots ≤ R.slots)
    (kk : ∀ (H1 : Heap) (locs1 : List Loc), cX D yI yO z0 ad g1 A s H1 locs1 → W p l e R s m args below meth c H1 locs1 cells slots Q (F0 m (pc + 3) ls (va_rf (r.map (ad k1)) :: rest))) : W p l e R s m args below meth c H locs cells slots Q (F0 m pc ls st0) := by
  subst hstack
  exact va_callq (va_runV (As := As) (rest := rest) S hM cw0 ⟨cPre_blind D yI yO z0 ad g _, va_recv hK (cw_lv hX.1 hlv he) (q0 := 0) hc rfl, fun U hU hW => ⟨rfl, by rw [hU]; exact hX.1, va_K.moved hW.alike hK⟩⟩ rfl hn hsize rfl (lv_room (pc := pc) (ls := ls) (rest := []) (m := m) hW) hdg hf) hX.2.2 (fun q _ h => cF_sub hX q h) (cF_sub hX) (fun r' _ t H1 locs1 ht hvm hp hB _ _ hS => by
    subst hp
    exact kk H1 locs1 (cX_kept ht hB (cF_sub hX) hS))
theorem cg_cast (hx : p.tables.exec = Jvm.exec) (hb : c.code = cc) {own C1 : String} {T : u_T} {N ci index : Nat} (hown : s.vm.findClass own = some m.cls) (hlink : (Cond.classLink own index C1).before args s = true) (hK : cK D yI yO s) (hX : cX D yI yO z0 ad g A s H locs) (k i : Nat) (hlv : clvb g k i = true) (hc : vwCl[ci]? = some (C1, T, N)) {fs : List Value} (he : cent yI yO ad g k i = .inr (ci, fs)) (hdg : decode cc pc = .ok (.checkcast index, 3))
    (kk : W p l e R s m args below meth c H locs cells slots Q (F0 m (pc + 3) ls (.ref (ad k i) :: rest))) : W p l e R s m args below meth c H locs cells slots Q (F0 m pc ls (.ref (ad k i) :: rest)) :=
  va_castS hx hb hown hlink (hK.1 ci _ hc).2 (va_recv hK (cw_lv hX.1 hlv he) (q0 := 0) hc rfl) hdg kk
/-- equal references are equal numbers -/
theorem cX_inj (hX : cX D yI yO z0 ad g A s H locs) {k i j : Nat} (hi : clvb g k i = true) (hj : clvb g k j = true) : (some (ad k i) = some (ad k j)) ↔ i = j := ⟨fun h => (hX.1.2.1 k i k j hi hj (Option.some.inj h)).2, fun h => by rw [h]⟩
end CW
