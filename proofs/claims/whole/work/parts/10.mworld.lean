/-! ===== the reference: one object and its arrays, as a flat memory: mu k j is the place j of the field (or array) k ===== -/
abbrev MS : Type := Nat → Nat → Int32
def mup (u : MS) (k j : Nat) (x : Int32) : MS := fun a b => if a = k ∧ b = j then x else u a b
def mlen : Nat → Nat := fun k => match k with
  | 3 => 8
  | 4 => 8
  | 5 => 8
  | 6 => 8
  | 7 => 64
  | 8 => 24
  | 10 => 10
  | 11 => 10
  | 12 => 10
  | 14 => 16
  | 15 => 16
  | 16 => 16
  | 17 => 16
  | 18 => 16
  | 19 => 16
  | 20 => 16
  | 21 => 16
  | 22 => 57616
  | 23 => 128
  | 24 => 128
  | 25 => 128
  | 26 => 128
  | 27 => 128
  | 29 => 60
  | 30 => 60
  | 31 => 60
  | 32 => 60
  | 33 => 60
  | 34 => 60
  | 35 => 60
  | 37 => 40
  | 38 => 40
  | 39 => 40
  | 40 => 40
  | 41 => 40
  | 42 => 40
  | 43 => 40
  | 44 => 120
  | _ => 0
def mz : Nat → Bool := fun k => match k with
  | 3 => true
  | 4 => true
  | 5 => true
  | 7 => true
  | 19 => true
  | _ => false
def mfs (q : Nat → Nat) (u : MS) : List Value := [.int (u 0 0), .int (u 1 0), .int (u 2 0), .ref (q 3), .ref (q 4), .ref (q 5), .ref (q 6), .ref (q 7), .ref (q 8), .int (u 9 0), .ref (q 10), .ref (q 11), .ref (q 12), .int (u 13 0), .ref (q 14), .ref (q 15), .ref (q 16), .ref (q 17), .ref (q 18), .ref (q 19), .ref (q 20), .ref (q 21), .ref (q 22), .ref (q 23), .ref (q 24), .ref (q 25), .ref (q 26), .ref (q 27), .int (u 28 0), .ref (q 29), .ref (q 30), .ref (q 31), .ref (q 32), .ref (q 33), .ref (q 34), .ref (q 35), .int (u 36 0), .ref (q 37), .ref (q 38), .ref (q 39), .ref (q 40), .ref (q 41), .ref (q 42), .ref (q 43), .ref (q 44)]
def ment (cI cZ : ClassId) (q : Nat → Nat) (u : MS) (k : Nat) : va_E := if k = 0 then .inr (10, mfs q u) else .inl (if mz k then cZ else cI, mlen k, .inl (u k))
def mlv (k : Nat) : Prop := k = 0 ∨ 0 < mlen k
def mF (q : Nat → Nat) : Nat → Prop := fun a => ∃ k, mlv k ∧ q k = a
def mw (D : va_G) (cI cZ : ClassId) (q : Nat → Nat) (u : MS) (H : Heap) : Prop := (∀ k, mlv k → va_at D vwCl (q k, ment cI cZ q u k) H) ∧ ∀ k k', mlv k → mlv k' → q k = q k' → k = k'
def mK (D : va_G) (cI cZ : ClassId) (s : State) : Prop := va_K D vwCl [(cI, .int), (cZ, .boolean)] s
def mI (D : va_G) (cI cZ : ClassId) (q : Nat → Nat) (u : MS) (s : State) (H : Heap) (locs : List Loc) : Prop := mw D cI cZ q u H ∧ va_S (mF q) s.heap H locs
def mPre (D : va_G) (cI cZ : ClassId) (q : Nat → Nat) (u : MS) (U : State) : Prop := mw D cI cZ q u U.heap ∧ mK D cI cZ U
def mQ (D : va_G) (cI cZ : ClassId) (q : Nat → Nat) (r : Int32) (u : MS) : Array Value → State → Outcome → State → Prop := va_Qi (S := Unit) (fun r' _ => r' = r) (fun _ t => mPre D cI cZ q u t) (mF q)
def mQv (D : va_G) (cI cZ : ClassId) (q : Nat → Nat) (u : MS) : Array Value → State → Outcome → State → Prop := va_Qv (S := Unit) (fun _ => True) (fun _ t => mPre D cI cZ q u t) (mF q)
abbrev mR (f n : Nat) : Room := { frames := f, cells := 0, slots := 0, locals := n }
def mld (u : MS) (k : Nat) (i : Int32) : Option Int32 := if i < 0 ∨ mlen k ≤ i.toNatClampNeg then none else some (u k i.toNatClampNeg)
def mst (u : MS) (k : Nat) (i x : Int32) : Option MS := if i < 0 ∨ mlen k ≤ i.toNatClampNeg then none else some (mup u k i.toNatClampNeg x)
def mbo (x : Int32) : Option Int32 := if x = 0 ∨ x = 1 then some x else none
theorem mbind {α β : Type} {o : Option α} {f : α → Option β} {r : β} (h : o.bind f = some r) : ∃ a, o = some a ∧ f a = some r := by
  cases o with
  | none => cases h
  | some a => exact ⟨a, rfl, h⟩
theorem mld_spec {u : MS} {k : Nat} {i x : Int32} (h : mld u k i = some x) : vp_in i (mlen k) ∧ x = u k i.toNatClampNeg := by
  unfold mld at h
  split at h
  · cases h
  · next hn => exact ⟨hn, (Option.some.inj h).symm⟩
theorem mst_spec {u u1 : MS} {k : Nat} {i x : Int32} (h : mst u k i x = some u1) : vp_in i (mlen k) ∧ u1 = mup u k i.toNatClampNeg x := by
  unfold mst at h
  split at h
  · cases h
  · next hn => exact ⟨hn, (Option.some.inj h).symm⟩
theorem mbo_spec {x y : Int32} (h : mbo x = some y) : (x = 0 ∨ x = 1) ∧ y = x := by
  unfold mbo at h
  split at h
  · next hn => exact ⟨hn, (Option.some.inj h).symm⟩
  · cases h
theorem mne_spec {x : Int32} {β : Type} {f : Option β} {r : β} (h : (if x = 0 then none else f) = some r) : ¬ x = 0 ∧ f = some r := by
  split at h
  · cases h
  · next hn => exact ⟨hn, h⟩
theorem mw_lv {D : va_G} {cI cZ : ClassId} {q : Nat → Nat} {u : MS} {H : Heap} (h : mw D cI cZ q u H) {k : Nat} (hk : mlv k) : va_P D vwCl [(q k, ment cI cZ q u k)] H := by
  intro i z hz
  match i, hz with
  | 0, hz => cases hz; exact h.1 k hk
  | n + 1, hz => simp at hz
theorem mup_fs (q : Nat → Nat) (u : MS) (k j : Nat) (x : Int32) (hk : 0 < mlen k) : mfs q (mup u k j x) = mfs q u := by
  have h : ∀ n, mlen n = 0 → mup u k j x n 0 = u n 0 := fun n hn => by
    unfold mup
    rw [if_neg]
    rintro ⟨rfl, -⟩
    omega
  simp only [mfs]
  rw [h 0 rfl, h 1 rfl, h 2 rfl, h 9 rfl, h 13 rfl, h 28 rfl, h 36 rfl]
theorem mupd_k (u : MS) (k j : Nat) (x : Int32) : mup u k j x k = upd (u k) j x := by
  funext b
  simp [mup, upd]
theorem mup_ne (u : MS) {k n : Nat} (j : Nat) (x : Int32) (h : n ≠ k) : mup u k j x n = u n := by
  funext b
  simp [mup, h]
theorem mPre_blind (D : va_G) (cI cZ : ClassId) (q : Nat → Nat) (u : MS) (av : List Value) : FrameBlind (va_Pc av (mPre D cI cZ q u)) := fun a U g mk z => ⟨z.1, z.2.1, va_K.moved (u := U) (U := U.calling g mk a) (Vm.Alike.refl U.vm) z.2.2⟩
theorem mpos {c : Prop} [Decidable c] {α : Type} {a b : α} {r : α} (hc : c) (h : (if c then a else b) = r) : a = r := by rw [if_pos hc] at h; exact h
theorem mneg {c : Prop} [Decidable c] {α : Type} {a b : α} {r : α} (hc : ¬ c) (h : (if c then a else b) = r) : b = r := by rw [if_neg hc] at h; exact h
def mb2 {β : Type} (o : Option (Int32 × MS)) (f : Int32 → MS → Option β) : Option β := match o with
  | none => none
  | some z => f z.1 z.2
theorem mb2_spec {β : Type} {o : Option (Int32 × MS)} {f : Int32 → MS → Option β} {r : β} (h : mb2 o f = some r) : ∃ a b, o = some (a, b) ∧ f a b = some r := by
  cases o with
  | none => cases h
  | some z => exact ⟨z.1, z.2, rfl, h⟩
def mC (p : Program) (s : State) (m : MethodId) (args : Array Value) (meth : Method) (c : Code) (cc : ByteArray) (ret : Option FieldType) (Ts : List Cond) (nL : Nat) (D : va_G) (cI cZ : ClassId) : Prop := p.tables.exec = Jvm.exec ∧ c.code = cc ∧ meth.sig.returnType = ret ∧ (∀ w ∈ Ts, w.before args s = true) ∧ s.vm.findClass RX9 = some m.cls ∧ meth.locks = false ∧ c.maxLocals = nL ∧ mK D cI cZ s
section MW
variable {p : Program} {l : Launch} {e : Env} {R : Room} {s : State} {m : MethodId} {args : Array Value} {below : List Frame} {meth : Method} {c : Code} {H : Heap} {locs : List Loc} {cells slots : Nat} {Q : State → Prop}
variable {cc : ByteArray} {pc : Nat} {ls : Array Slot} {rest : List Value} {D : va_G} {cI cZ : ClassId} {q : Nat → Nat} {u : MS}
theorem tx9_cls (k : Nat) : (TX9 k).1 = RX9 := by unfold TX9; split <;> rfl
theorem mg_get (hx : p.tables.exec = Jvm.exec) (hb : c.code = cc) {index : Nat} {Ts : List Cond} (hts : ∀ w ∈ Ts, w.before args s = true) (hin : ∀ w ∈ wsX90, w ∈ Ts) (hown : s.vm.findClass RX9 = some m.cls) (hK : mK D cI cZ s) (hI : mI D cI cZ q u s H locs) (k : Nat) (hk : k < 45) (hlink : (Cond.fieldLink RX9 index RX9 (TX9 k).2.1 (TX9 k).2.2.1).before args s = true) {v : Value} (hv : (mfs q u)[k]? = some v) (hdg : decode cc pc = .ok (.getfield index, 3))
    (kk : W p l e R s m args below meth c H locs cells slots Q (F0 m (pc + 3) ls (v :: rest))) : W p l e R s m args below meth c H locs cells slots Q (F0 m pc ls (.ref (q 0) :: rest)) :=
  va_get (D := D) (cl := vwCl) (ws := [(q 0, ment cI cZ q u 0)]) (ci := 10) (C := RX9) (T := TX9) (N := 45) hx hb hts hin hown hK (mw_lv hI.1 (Or.inl rfl)) 0 rfl rfl k hk hlink (fun _ h => by rw [tx9_cls] at h; exact h) hv hdg kk
theorem mI_put {H1 : Heap} {k j : Nat} {x : Int32} (hI : mI D cI cZ q u s H locs) {k0 : Nat} (hk0 : mlv k0) (oq : ∀ a, a ≠ q k0 → H1[a]? = H[a]?) (hz : H1.size = H.size) {z : Nat} (hat : va_at D vwCl (q k0, ment cI cZ q (mup u k j x) k0) H1) (hsame : ∀ n, mlv n → n ≠ k0 → ment cI cZ q (mup u k j x) n = ment cI cZ q u n) : mI D cI cZ q (mup u k j x) s H1 (locs ++ [⟨q k0, z⟩]) := by
  refine ⟨⟨fun n hn => ?_, hI.1.2⟩, hI.2.put hz oq ⟨k0, hk0, rfl⟩⟩
  by_cases e : n = k0
  · subst e; exact hat
  · rw [hsame n hn e]
    exact (hI.1.1 n hn).kept (oq _ (fun h => e (hI.1.2 n k0 hn hk0 h)))
theorem mg_ald (hx : p.tables.exec = Jvm.exec) (hb : c.code = cc) (hK : mK D cI cZ s) (hI : mI D cI cZ q u s H locs) (k : Nat) (hz : mz k = false) (h0 : k ≠ 0) {i x : Int32} (h : mld u k i = some x) (hdg : decode cc pc = .ok (.iaload, 1))
    (kk : W p l e R s m args below meth c H locs cells slots Q (F0 m (pc + 1) ls (.int x :: rest))) : W p l e R s m args below meth c H locs cells slots Q (F0 m pc ls (.int i :: .ref (q k) :: rest)) := by
  obtain ⟨h1, rfl⟩ := mld_spec h
  have hl : mlv k := Or.inr (Nat.pos_of_ne_zero fun e => h1 (Or.inr (by omega)))
  have he : ment cI cZ q u k = .inl (cI, mlen k, .inl (u k)) := by simp [ment, h0, hz]
  exact va_iald (D := D) (cl := vwCl) (ws := [(q k, ment cI cZ q u k)]) hx hb hK (mw_lv hI.1 hl) 0 0 (by rw [he]; rfl) rfl h1 hdg kk
theorem mg_zld (hx : p.tables.exec = Jvm.exec) (hb : c.code = cc) (hK : mK D cI cZ s) (hI : mI D cI cZ q u s H locs) (k : Nat) (hz : mz k = true) (h0 : k ≠ 0) {i x : Int32} (h : mld u k i = some x) (hdg : decode cc pc = .ok (.baload, 1))
    (kk : W p l e R s m args below meth c H locs cells slots Q (F0 m (pc + 1) ls (.int x :: rest))) : W p l e R s m args below meth c H locs cells slots Q (F0 m pc ls (.int i :: .ref (q k) :: rest)) := by
  obtain ⟨h1, rfl⟩ := mld_spec h
  have hl : mlv k := Or.inr (Nat.pos_of_ne_zero fun e => h1 (Or.inr (by omega)))
  have he : ment cI cZ q u k = .inl (cZ, mlen k, .inl (u k)) := by simp [ment, h0, hz]
  exact va_zald (D := D) (cl := vwCl) (ws := [(q k, ment cI cZ q u k)]) hx hb hK (mw_lv hI.1 hl) 0 1 (by rw [he]; rfl) rfl h1 hdg kk
theorem ment_arr {k : Nat} {k' j : Nat} {x : Int32} (hk : 0 < mlen k) (n : Nat) (hn : n ≠ k) : ment cI cZ q (mup u k j x) n = ment cI cZ q u n := by
  unfold ment
  rw [mup_fs q u k j x hk, mup_ne u j x hn]
theorem mg_ast (hx : p.tables.exec = Jvm.exec) (hb : c.code = cc) (hK : mK D cI cZ s) (hI : mI D cI cZ q u s H locs) (k : Nat) (hz : mz k = false) (h0 : k ≠ 0) {i x : Int32} {u1 : MS} (h : mst u k i x = some u1) (hdg : decode cc pc = .ok (.iastore, 1))
    (kk : ∀ (H1 : Heap) (locs1 : List Loc), mI D cI cZ q u1 s H1 locs1 → W p l e R s m args below meth c H1 locs1 cells slots Q (F0 m (pc + 1) ls rest)) : W p l e R s m args below meth c H locs cells slots Q (F0 m pc ls (.int x :: .int i :: .ref (q k) :: rest)) := by
  obtain ⟨h1, rfl⟩ := mst_spec h
  have hm : 0 < mlen k := Nat.pos_of_ne_zero fun e => h1 (Or.inr (by omega))
  have hl : mlv k := Or.inr hm
  have he : ∀ w : MS, ment cI cZ q w k = .inl (cI, mlen k, .inl (w k)) := fun w => by simp [ment, h0, hz]
  have hat : H[q k]? = some (vp_cell cI (mlen k, .inl (u k))) := by have := hI.1.1 k hl; rw [he] at this; exact this
  refine W.iast hx hb hat ((hK.2 0 _ rfl).1 (mlen k) (fun j => .int (u k j))) (fun z => by cases z) (by show ¬ (i < 0 ∨ (arrV _ _ _).slots.size ≤ _); rw [arrV_size]; exact h1) rfl rfl hdg fun H1 e1 z oq => ?_
  refine kk H1 _ (mI_put hI hl oq z ?_ (fun n _ hn => ment_arr (k' := k) hm n hn))
  rw [he, mupd_k]
  show H1[q k]? = some (vp_cell _ _)
  rw [e1, vp_cell_i, vp_cell_i, arrV_store]
  congr 2
  funext b
  by_cases hb : b = i.toNatClampNeg
  · subst hb; simp [updV, upd]
  · simp [updV, upd, hb]
theorem mg_zst (hx : p.tables.exec = Jvm.exec) (hb : c.code = cc) (hK : mK D cI cZ s) (hI : mI D cI cZ q u s H locs) (k : Nat) (hz : mz k = true) (h0 : k ≠ 0) {i x y : Int32} {u1 : MS} (hbo : mbo x = some y) (h : mst u k i y = some u1) (hdg : decode cc pc = .ok (.bastore, 1))
    (kk : ∀ (H1 : Heap) (locs1 : List Loc), mI D cI cZ q u1 s H1 locs1 → W p l e R s m args below meth c H1 locs1 cells slots Q (F0 m (pc + 1) ls rest)) : W p l e R s m args below meth c H locs cells slots Q (F0 m pc ls (.int x :: .int i :: .ref (q k) :: rest)) := by
  obtain ⟨hxx, rfl⟩ := mbo_spec hbo
  obtain ⟨h1, rfl⟩ := mst_spec h
  have hm : 0 < mlen k := Nat.pos_of_ne_zero fun e => h1 (Or.inr (by omega))
  have hl : mlv k := Or.inr hm
  have he : ∀ w : MS, ment cI cZ q w k = .inl (cZ, mlen k, .inl (w k)) := fun w => by simp [ment, h0, hz]
  have hat : H[q k]? = some (vp_cell cZ (mlen k, .inl (u k))) := by have := hI.1.1 k hl; rw [he] at this; exact this
  have hnar : narrow .boolean (.int y) = .int y := by rcases hxx with rfl | rfl <;> rfl
  refine W.zast hx hb hat ((hK.2 1 _ rfl).1 (mlen k) (fun j => .int (u k j))) (fun z => by cases z) (by show ¬ (i < 0 ∨ (arrV _ _ _).slots.size ≤ _); rw [arrV_size]; exact h1) rfl rfl hdg fun H1 e1 z oq => ?_
  refine kk H1 _ (mI_put hI hl oq z ?_ (fun n _ hn => ment_arr (k' := k) hm n hn))
  rw [he, mupd_k]
  show H1[q k]? = some (vp_cell _ _)
  rw [e1, hnar, vp_cell_i, vp_cell_i, arrV_store]
  congr 2
  funext b
  by_cases hb : b = i.toNatClampNeg
  · subst hb; simp [updV, upd]
  · simp [updV, upd, hb]
theorem mg_put (hx : p.tables.exec = Jvm.exec) (hb : c.code = cc) {index : Nat} {Ts : List Cond} (hts : ∀ w ∈ Ts, w.before args s = true) (hin : ∀ w ∈ wsX90, w ∈ Ts) (hown : s.vm.findClass RX9 = some m.cls) (hK : mK D cI cZ s) (hI : mI D cI cZ q u s H locs) (k : Nat) (hk : k < 45) (hlink : (Cond.fieldLink RX9 index RX9 (TX9 k).2.1 (TX9 k).2.2.1).before args s = true) (hfin : (TX9 k).2.2.2 = false) {x : Int32} (hd : parseFieldDescriptor (TX9 k).2.2.1 = some .int) (hfs : mfs q (mup u k 0 x) = (mfs q u).set k (.int x)) (hk0 : mlen k = 0) (hdg : decode cc pc = .ok (.putfield index, 3))
    (kk : ∀ (H1 : Heap) (locs1 : List Loc), mI D cI cZ q (mup u k 0 x) s H1 locs1 → W p l e R s m args below meth c H1 locs1 cells slots Q (F0 m (pc + 3) ls rest)) : W p l e R s m args below meth c H locs cells slots Q (F0 m pc ls (.int x :: .ref (q 0) :: rest)) := by
  have hap := va_apart (own := RX9) hts hin tyX9 tyX9_ok nmX9 hK (ci := 10) rfl
  obtain ⟨r, h1, cell, q1, q2, q3, q4⟩ := hI.1.1 0 (Or.inl rfl)
  have hr : r = (RX9, TX9, 45) := Option.some.inj (h1.symm.trans rfl)
  subst hr
  obtain ⟨hS, hfc, kC, hkC, hkind⟩ := hK.1 10 _ rfl
  obtain ⟨cf, kf, fi, f, hi, hsl⟩ := hS k hk
  have hlay := hts _ (hin _ (u_in_lay (C := RX9) (T := TX9) (N := 45) hk))
  unfold u_lay at hlay
  rw [if_neg (by rw [hfin]; decide)] at hlay
  have hst := (u_facts hfc hkC (u_lays hts hin hk) hi).1
  have h6 := u_store hfc hkC hkind hlay hi hd (v := .int x) rfl rfl
  have hi2 : s.fieldFound? RX9 (TX9 k).2.1 (TX9 k).2.2.1 = some (cf, kf, fi, f) := by have z := hi; rw [show ((RX9, TX9, 45).2.1 k).1 = RX9 from tx9_cls k] at z; exact z
  refine W.putK hx hb (f := f) ⟨hown, hlink, ⟨_, _, _, hi2⟩, hst⟩ (by rw [q2]; exact h6) q1 q3 (by rw [hsl]; exact k2_hasslot (q4 k hk)) rfl rfl hdg fun H' e1 e2 e3 => ?_
  rw [hsl] at e1 ⊢
  refine kk H' _ (mI_put hI (Or.inl rfl) e3 e2 ?_ (fun n hn0 hn => ?_))
  · exact ⟨_, rfl, t_OB.to (V := updV (vp_V (mfs q u)) k (.int x)) ⟨_, e1, q2, q3, t_set q4 hap hk (.int x)⟩ (fun j _ => by rw [hfs]; exact vp_updV_set (by show k < 45; exact hk) (.int x) j)⟩
  · have hne : n ≠ k := by
      rintro rfl
      rcases hn0 with h | h
      · exact hn h
      · omega
    simp only [ment, if_neg hn]
    rw [mup_ne u 0 x hne]
theorem mg_reti (hx : p.tables.exec = Jvm.exec) (hb : c.code = cc) (hr : meth.sig.returnType = some .int) (hlocks : meth.locks = false) (hK : mK D cI cZ s) (hI : mI D cI cZ q u s H locs) (hdg : decode cc pc = .ok (.ireturn, 1)) {v : Int32} : W p l e R s m args below meth c H locs 0 0 (MQ below (mQ D cI cZ q v u) args s 0 0 (mF q)) (F0 m pc ls [.int v]) :=
  W.iret (v := v) hx hb hr (fun t ht hW => ⟨⟨v, (), rfl, rfl, by rw [ht]; exact hI.1, va_K.moved hW.alike hK⟩, hI.2.F ht⟩) hI.2.2.2 hdg hlocks
theorem mg_retz (hx : p.tables.exec = Jvm.exec) (hb : c.code = cc) (hr : meth.sig.returnType = some .boolean) (hlocks : meth.locks = false) (hK : mK D cI cZ s) (hI : mI D cI cZ q u s H locs) (hdg : decode cc pc = .ok (.ireturn, 1)) {v v' : Int32} (hv : mbo v = some v') : W p l e R s m args below meth c H locs 0 0 (MQ below (mQ D cI cZ q v' u) args s 0 0 (mF q)) (F0 m pc ls [.int v]) := by
  obtain ⟨h1, rfl⟩ := mbo_spec hv
  have hnar : narrow .boolean (.int v') = .int v' := by rcases h1 with rfl | rfl <;> rfl
  exact W.zret (v := v') hx hb hr hnar (fun t ht hW => ⟨⟨v', (), rfl, rfl, by rw [ht]; exact hI.1, va_K.moved hW.alike hK⟩, hI.2.F ht⟩) hI.2.2.2 hdg hlocks
theorem mg_retv (hx : p.tables.exec = Jvm.exec) (hb : c.code = cc) (hr : meth.sig.returnType = none) (hlocks : meth.locks = false) (hK : mK D cI cZ s) (hI : mI D cI cZ q u s H locs) (hdg : decode cc pc = .ok (.return_, 1)) : W p l e R s m args below meth c H locs 0 0 (MQ below (mQv D cI cZ q u) args s 0 0 (mF q)) (F0 m pc ls []) :=
  W.vret hx hb hr (fun t ht hW => ⟨⟨(), rfl, trivial, by rw [ht]; exact hI.1, va_K.moved hW.alike hK⟩, hI.2.F ht⟩) hI.2.2.2 hdg hlocks
theorem mI_kept {H1 : Heap} {u1 : MS} {t : State} (ht : t.heap = H1) (hp : mPre D cI cZ q u1 t) (hS : va_S (mF q) s.heap H1 locs) : mI D cI cZ q u1 s H1 locs := ⟨by rw [← ht]; exact hp.1, hS⟩
theorem mg_callV {y : MethodName} {bytes : ByteArray} {maxL nL n index : Nat} {ret : Option FieldType} {ws : List Cond} {rm : Room} {Ts : List Cond} {As : List Value} {r : Int32} {u1 : MS} {st0 : List Value}
    (S : CallFix p m c cc nL s args Ts RX9) (hM : Met l y ws rm (va_Pc (.ref (q 0) :: As) (mPre D cI cZ q u)) (mQ D cI cZ q r u1) 0 0 (mF q)) (cw : CallW R s args RX9 RX9 index y bytes maxL ret ws rm 0 0 n) (hK : mK D cI cZ s) (hI : mI D cI cZ q u s H locs)
    (hn : As.length = n) (hsize : ls.size = nL) (hstack : st0 = As.reverse ++ .ref (q 0) :: rest) (hW : (rest.map fun v => v.category).sum ≤ 8) (hdg : decode cc pc = .ok (.invokevirtual index, 3)) (hf : cells ≤ R.cells ∧ slots ≤ R.slots)
    (kk : ∀ (H1 : Heap) (locs1 : List Loc), mI D cI cZ q u1 s H1 locs1 → W p l e R s m args below meth c H1 locs1 cells slots Q (F0 m (pc + 3) ls (.int r :: rest))) : W p l e R s m args below meth c H locs cells slots Q (F0 m pc ls st0) := by
  subst hstack
  exact va_calli (va_runV (As := As) (rest := rest) S hM cw ⟨mPre_blind D cI cZ q u _, va_recv hK (mw_lv hI.1 (Or.inl rfl)) (ci := 10) (q0 := 0) rfl rfl, fun U hU hW => ⟨rfl, by rw [hU]; exact hI.1, va_K.moved hW.alike hK⟩⟩ rfl hn hsize rfl (lv_room (pc := pc) (ls := ls) (rest := []) (m := m) hW) hdg hf) hI.2 (fun _ _ h => h) (fun _ h => h) (fun r' _ t H1 locs1 ht hvm hp hB _ _ hS => by
    subst hp
    exact kk H1 locs1 (mI_kept ht hB hS))
theorem mg_callVv {y : MethodName} {bytes : ByteArray} {maxL nL n index : Nat} {ret : Option FieldType} {ws : List Cond} {rm : Room} {Ts : List Cond} {As : List Value} {u1 : MS} {st0 : List Value}
    (S : CallFix p m c cc nL s args Ts RX9) (hM : Met l y ws rm (va_Pc (.ref (q 0) :: As) (mPre D cI cZ q u)) (mQv D cI cZ q u1) 0 0 (mF q)) (cw : CallW R s args RX9 RX9 index y bytes maxL ret ws rm 0 0 n) (hK : mK D cI cZ s) (hI : mI D cI cZ q u s H locs)
    (hn : As.length = n) (hsize : ls.size = nL) (hstack : st0 = As.reverse ++ .ref (q 0) :: rest) (hW : (rest.map fun v => v.category).sum ≤ 8) (hdg : decode cc pc = .ok (.invokevirtual index, 3)) (hf : cells ≤ R.cells ∧ slots ≤ R.slots)
    (kk : ∀ (H1 : Heap) (locs1 : List Loc), mI D cI cZ q u1 s H1 locs1 → W p l e R s m args below meth c H1 locs1 cells slots Q (F0 m (pc + 3) ls rest)) : W p l e R s m args below meth c H locs cells slots Q (F0 m pc ls st0) := by
  subst hstack
  exact va_callv (va_runV (As := As) (rest := rest) S hM cw ⟨mPre_blind D cI cZ q u _, va_recv hK (mw_lv hI.1 (Or.inl rfl)) (ci := 10) (q0 := 0) rfl rfl, fun U hU hW => ⟨rfl, by rw [hU]; exact hI.1, va_K.moved hW.alike hK⟩⟩ rfl hn hsize rfl (lv_room (pc := pc) (ls := ls) (rest := []) (m := m) hW) hdg hf) hI.2 (fun _ _ h => h) (fun _ h => h) (fun _ t H1 locs1 ht hvm hp hB _ _ hS => kk H1 locs1 (mI_kept ht hB hS))
theorem mg_callS {y : MethodName} {bytes : ByteArray} {maxL nL n index : Nat} {ret : Option FieldType} {ws : List Cond} {rm : Room} {Ts : List Cond} {As : List Value} {r : Int32} {u1 : MS} {st0 : List Value}
    (S : CallFix p m c cc nL s args Ts RX9) (hM : Met l y ws rm (va_Pc As (mPre D cI cZ q u)) (mQ D cI cZ q r u1) 0 0 (mF q)) (cw : CallB R s args RX9 index y bytes maxL ret ws rm 0 0 n ∧ (Cond.static y).before args s = true) (hK : mK D cI cZ s) (hI : mI D cI cZ q u s H locs)
    (hn : As.length = n) (hsize : ls.size = nL) (hstack : st0 = As.reverse ++ rest) (hW : (rest.map fun v => v.category).sum ≤ 8) (hdg : decode cc pc = .ok (.invokestatic index, 3)) (hf : cells ≤ R.cells ∧ slots ≤ R.slots)
    (kk : ∀ (H1 : Heap) (locs1 : List Loc), mI D cI cZ q u1 s H1 locs1 → W p l e R s m args below meth c H1 locs1 cells slots Q (F0 m (pc + 3) ls (.int r :: rest))) : W p l e R s m args below meth c H locs cells slots Q (F0 m pc ls st0) := by
  subst hstack
  exact va_calli (va_runS (As := As) (rest := rest) S hM cw ⟨mPre_blind D cI cZ q u _, fun U hU hW => ⟨rfl, by rw [hU]; exact hI.1, va_K.moved hW.alike hK⟩⟩ rfl hn hsize rfl (lv_room (pc := pc) (ls := ls) (rest := []) (m := m) hW) hdg hf) hI.2 (fun _ _ h => h) (fun _ h => h) (fun r' _ t H1 locs1 ht hvm hp hB _ _ hS => by
    subst hp
    exact kk H1 locs1 (mI_kept ht hB hS))
end MW
