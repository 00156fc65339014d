/-! ===== the reference's constructor ===== -/
def mblank : List Value := [.int 0, .int 0, .int 0, .null, .null, .null, .null, .null, .null, .int 0, .null, .null, .null, .int 0, .null, .null, .null, .null, .null, .null, .null, .null, .null, .null, .null, .null, .null, .null, .int 0, .null, .null, .null, .null, .null, .null, .null, .int 0, .null, .null, .null, .null, .null, .null, .null, .null]
def mfsP (q : Nat → Nat) (u : MS) (n : Nat) : List Value := (mfs q u).take n ++ mblank.drop n
def pL (nA k : Nat) : Prop := k = 0 ∨ (k < nA ∧ 0 < mlen k)
def pX (D : va_G) (cI cZ : ClassId) (h0 : Nat) (q : Nat → Nat) (u : MS) (nA nF : Nat) (A : Nat → Prop) (s : State) (H : Heap) (locs : List Loc) : Prop := q 0 = h0 ∧ va_at D vwCl (h0, .inr (10, mfsP q u nF)) H ∧ (∀ k, k < nA → 0 < mlen k → va_at D vwCl (q k, .inl (if mz k then cZ else cI, mlen k, .inl (u k))) H) ∧ (∀ k k', pL nA k → pL nA k' → q k = q k' → k = k') ∧ (∀ k, pL nA k → A (q k)) ∧ va_S A s.heap H locs
theorem mlen_lt {k : Nat} (h : 0 < mlen k) : k < 45 := by
  unfold mlen at h
  split at h <;> omega
theorem mfs_q {q q' : Nat → Nat} (u : MS) (n : Nat) (h : ∀ i, i < n → q' i = q i) : mfsP q' u n = mfsP q u n := by
  unfold mfsP
  congr 1
  apply List.ext_getElem?
  intro i
  rw [List.getElem?_take, List.getElem?_take]
  split
  · next hi =>
    have e := h i hi
    by_cases h45 : i < 45
    · have : ∀ P : Nat → Prop, P 0 → P 1 → P 2 → P 3 → P 4 → P 5 → P 6 → P 7 → P 8 → P 9 → P 10 → P 11 → P 12 → P 13 → P 14 → P 15 → P 16 → P 17 → P 18 → P 19 → P 20 → P 21 → P 22 → P 23 → P 24 → P 25 → P 26 → P 27 → P 28 → P 29 → P 30 → P 31 → P 32 → P 33 → P 34 → P 35 → P 36 → P 37 → P 38 → P 39 → P 40 → P 41 → P 42 → P 43 → P 44 → P i := by
        intro P p0 p1 p2 p3 p4 p5 p6 p7 p8 p9 p10 p11 p12 p13 p14 p15 p16 p17 p18 p19 p20 p21 p22 p23 p24 p25 p26 p27 p28 p29 p30 p31 p32 p33 p34 p35 p36 p37 p38 p39 p40 p41 p42 p43 p44
        rcases (show i = 0 ∨ i = 1 ∨ i = 2 ∨ i = 3 ∨ i = 4 ∨ i = 5 ∨ i = 6 ∨ i = 7 ∨ i = 8 ∨ i = 9 ∨ i = 10 ∨ i = 11 ∨ i = 12 ∨ i = 13 ∨ i = 14 ∨ i = 15 ∨ i = 16 ∨ i = 17 ∨ i = 18 ∨ i = 19 ∨ i = 20 ∨ i = 21 ∨ i = 22 ∨ i = 23 ∨ i = 24 ∨ i = 25 ∨ i = 26 ∨ i = 27 ∨ i = 28 ∨ i = 29 ∨ i = 30 ∨ i = 31 ∨ i = 32 ∨ i = 33 ∨ i = 34 ∨ i = 35 ∨ i = 36 ∨ i = 37 ∨ i = 38 ∨ i = 39 ∨ i = 40 ∨ i = 41 ∨ i = 42 ∨ i = 43 ∨ i = 44 by omega) with rfl | rfl | rfl | rfl | rfl | rfl | rfl | rfl | rfl | rfl | rfl | rfl | rfl | rfl | rfl | rfl | rfl | rfl | rfl | rfl | rfl | rfl | rfl | rfl | rfl | rfl | rfl | rfl | rfl | rfl | rfl | rfl | rfl | rfl | rfl | rfl | rfl | rfl | rfl | rfl | rfl | rfl | rfl | rfl | rfl <;> assumption
      revert e
      refine this (fun i => q' i = q i → (mfs q' u)[i]? = (mfs q u)[i]?) ?_ ?_ ?_ ?_ ?_ ?_ ?_ ?_ ?_ ?_ ?_ ?_ ?_ ?_ ?_ ?_ ?_ ?_ ?_ ?_ ?_ ?_ ?_ ?_ ?_ ?_ ?_ ?_ ?_ ?_ ?_ ?_ ?_ ?_ ?_ ?_ ?_ ?_ ?_ ?_ ?_ ?_ ?_ ?_ ?_ <;> intro e <;> first | rfl | (show some (Value.ref _) = some (Value.ref _); rw [e])
    · rw [List.getElem?_eq_none (by show 45 ≤ i; omega), List.getElem?_eq_none (by show 45 ≤ i; omega)]
  · rfl
theorem mup_same {u : MS} {k j : Nat} {x : Int32} (h : u k j = x) : mup u k j x = u := by
  funext a b
  unfold mup
  split
  · next hh => rw [hh.1, hh.2, h]
  · rfl
section PX
variable {p : Program} {l : Launch} {e : Env} {R : Room} {s : State} {m : MethodId} {args : Array Value} {below : List Frame} {meth : Method} {c : Code} {H : Heap} {locs : List Loc} {cells slots : Nat} {Q : State → Prop}
variable {cc : ByteArray} {pc : Nat} {ls : Array Slot} {rest : List Value} {D : va_G} {cI cZ : ClassId} {h0 : Nat} {q : Nat → Nat} {u : MS} {A : Nat → Prop} {nA nF : Nat}
theorem pg_new (hx : p.tables.exec = Jvm.exec) (hb : c.code = cc) (k : Nat) {atype : ArrayType} (harr : (Cond.arrayClass (newarray.typeOf atype)).before args s = true) (hty : (atype = .int ∧ mz k = false) ∨ (atype = .boolean ∧ mz k = true)) (hK : mK D cI cZ s) (hX : pX D cI cZ h0 q u nA nF A s H locs) (hA : ∀ a, s.heap.size ≤ a → A a) (hk : nA ≤ k ∧ 0 < mlen k ∧ nF ≤ k) (hgap : ∀ i, nA ≤ i → i < k → mlen i = 0) (hu : u k = fun _ => 0) {n : Int32} (hn : ¬ n < 0) (hN : n.toNatClampNeg = mlen k) (hbytes : mlen k * 8 ≤ 536870912) (hcells : cells + 1 ≤ R.cells) (hslots : slots + mlen k ≤ R.slots) (hdg : decode cc pc = .ok (.newarray atype, 2))
    (kk : ∀ (q' : Nat → Nat) (H1 : Heap), pX D cI cZ h0 q' u (k + 1) nF A s H1 locs → W p l e R s m args below meth c H1 locs (cells + 1) (slots + mlen k) Q (F0 m (pc + 2) ls (.ref (q' k) :: rest))) : W p l e R s m args below meth c H locs cells slots Q (F0 m pc ls (.int n :: rest)) := by
  obtain ⟨x0, x1, x2, x3, x4, x5⟩ := hX
  refine va_newaK hx hb harr rfl hdg rfl hn hN (by rcases hty with ⟨rfl, -⟩ | ⟨rfl, -⟩ <;> (show mlen k * _ ≤ 536870912) <;> first | omega | (refine Nat.le_trans ?_ hbytes; exact Nat.mul_le_mul_left _ (by decide))) hcells hslots rfl fun H1 cA e1 z1 o1 hAr hNm => ?_
  have hcA : cA = if mz k then cZ else cI := by
    rcases hty with ⟨rfl, hz⟩ | ⟨rfl, hz⟩
    · rw [hz]
      have e2 : s.vm.findClass ("[" ++ FieldType.int.toString) = some cI := (hK.2 0 _ rfl).2
      exact Option.some.inj (hNm.symm.trans e2)
    · rw [hz]
      have e2 : s.vm.findClass ("[" ++ FieldType.boolean.toString) = some cZ := (hK.2 1 _ rfl).2
      exact Option.some.inj (hNm.symm.trans e2)
  have hq : ∀ i, i ≠ k → (fun i => if i = k then H.size else q i) i = q i := fun i h => if_neg h
  have hqk : (fun i => if i = k then H.size else q i) k = H.size := if_pos rfl
  have hk0 : k ≠ 0 := fun z => by have := hk.2.1; rw [z] at this; exact absurd this (by decide)
  have hlt : ∀ i, pL nA i → q i < H.size := by
    rintro i (rfl | ⟨h1, h2⟩)
    · rw [x0]; exact x1.lt
    · exact (x2 i h1 h2).lt
  have hcase : ∀ i, pL (k + 1) i → i = k ∨ (i ≠ k ∧ pL nA i) := by
    rintro i (rfl | ⟨h1, h2⟩)
    · exact Or.inr ⟨fun z => hk0 z.symm, Or.inl rfl⟩
    · by_cases h3 : i = k
      · exact Or.inl h3
      · refine Or.inr ⟨h3, Or.inr ⟨?_, h2⟩⟩
        rcases Nat.lt_or_ge i nA with h4 | h4
        · exact h4
        · have := hgap i h4 (by omega)
          omega
  have fin := kk (fun i => if i = k then H.size else q i) H1 ?_
  · have e9 : (fun i => if i = k then H.size else q i) k = H.size := hqk
    simp only [if_true] at fin
    exact fin
  · refine ⟨(hq 0 (fun z => hk0 z.symm)).trans x0, ?_, fun i h1 h2 => ?_, fun i i' h1 h2 he => ?_, fun i h1 => ?_, ⟨Nat.le_trans x5.1 (by omega), fun x h1 h2 => (o1 x (Nat.lt_of_lt_of_le h1 x5.1)).trans (x5.2.1 x h1 h2), x5.2.2⟩⟩
    · rw [mfs_q u nF (fun i hi => hq i (by omega))]
      exact x1.kept (o1 _ x1.lt)
    · by_cases h3 : i = k
      · subst h3
        rw [hqk, hu, ← hcA]
        show H1[H.size]? = some (vp_cell cA (mlen i, .inl (fun _ => 0)))
        rw [e1]
        rcases hty with ⟨rfl, -⟩ | ⟨rfl, -⟩ <;> rfl
      · rw [hq i h3]
        rcases hcase i (Or.inr ⟨h1, h2⟩) with h4 | ⟨-, h4⟩
        · exact absurd h4 h3
        · rcases h4 with rfl | ⟨h5, h6⟩
          · exact absurd h2 (by decide)
          · exact (x2 i h5 h6).kept (o1 _ (x2 i h5 h6).lt)
    · rcases hcase i h1 with rfl | ⟨n1, l1⟩ <;> rcases hcase i' h2 with h9 | ⟨n2, l2⟩
      · exact h9.symm
      · rw [hqk, hq i' n2] at he
        have := hlt i' l2
        omega
      · subst h9
        rw [hqk, hq i n1] at he
        have := hlt i l1
        omega
      · rw [hq i n1, hq i' n2] at he
        exact x3 i i' l1 l2 he
    · rcases hcase i h1 with rfl | ⟨n1, l1⟩
      · rw [hqk]; exact hA _ x5.1
      · rw [hq i n1]; exact x4 i l1
theorem pg_ast (hx : p.tables.exec = Jvm.exec) (hb : c.code = cc) (hK : mK D cI cZ s) (hX : pX D cI cZ h0 q u nA nF A s H locs) (k : Nat) (hz : mz k = false) (hk : k < nA ∧ 0 < mlen k) {i x : Int32} (h1 : vp_in i (mlen k)) (hdg : decode cc pc = .ok (.iastore, 1))
    (kk : ∀ (H1 : Heap) (locs1 : List Loc), pX D cI cZ h0 q (mup u k i.toNatClampNeg x) nA nF A s H1 locs1 → W p l e R s m args below meth c H1 locs1 cells slots Q (F0 m (pc + 1) ls rest)) : W p l e R s m args below meth c H locs cells slots Q (F0 m pc ls (.int x :: .int i :: .ref (q k) :: rest)) := by
  obtain ⟨x0, x1, x2, x3, x4, x5⟩ := hX
  have hk0 : k ≠ 0 := fun z => by have := hk.2; rw [z] at this; exact absurd this (by decide)
  have hat : H[q k]? = some (vp_cell cI (mlen k, .inl (u k))) := by have := x2 k hk.1 hk.2; rw [hz] at this; exact this
  refine W.iast hx hb hat ((hK.2 0 _ rfl).1 (mlen k) (fun j => .int (u k j))) (fun z => by cases z) (by show ¬ (i < 0 ∨ (arrV _ _ _).slots.size ≤ _); rw [arrV_size]; exact h1) rfl rfl hdg fun H1 e1 z oq => ?_
  refine kk H1 _ ⟨x0, ?_, fun i2 h2 h3 => ?_, x3, x4, x5.put z oq (x4 k (Or.inr hk))⟩
  · have e5 : mfsP q (mup u k i.toNatClampNeg x) nF = mfsP q u nF := by unfold mfsP; rw [mup_fs q u k _ x hk.2]
    rw [e5]
    exact x1.kept (oq _ (fun e => hk0 (x3 0 k (Or.inl rfl) (Or.inr hk) (x0.trans e)).symm))
  · by_cases h4 : i2 = k
    · subst h4
      rw [hz, mupd_k]
      show H1[q i2]? = some (vp_cell _ _)
      rw [e1, vp_cell_i, vp_cell_i, arrV_store]
      congr 2
      funext b
      by_cases hb : b = i.toNatClampNeg
      · subst hb; simp [updV, upd]
      · simp [updV, upd, hb]
    · rw [mup_ne u _ x h4]
      exact (x2 i2 h2 h3).kept (oq _ (fun e => h4 (x3 i2 k (Or.inr ⟨h2, h3⟩) (Or.inr hk) e)))
theorem pX_obj {H' : Heap} {u1 : MS} {nF1 k : Nat} {v : Value} {z : Nat} (hX : pX D cI cZ h0 q u nA nF A s H locs) (hset : (mfsP q u nF).set k v = mfsP q u1 nF1) (hu1 : ∀ i, 0 < mlen i → u1 i = u i) (hat : va_at D vwCl (h0, .inr (10, (mfsP q u nF).set k v)) H') (e2 : H'.size = H.size) (e3 : ∀ a, a ≠ h0 → H'[a]? = H[a]?) : pX D cI cZ h0 q u1 nA nF1 A s H' (locs ++ [⟨h0, z⟩]) := by
  obtain ⟨x0, x1, x2, x3, x4, x5⟩ := hX
  refine ⟨x0, by rw [← hset]; exact hat, fun i h2 h3 => ?_, x3, x4, x5.put e2 e3 (by rw [← x0]; exact x4 0 (Or.inl rfl))⟩
  rw [hu1 i h3]
  refine (x2 i h2 h3).kept (e3 _ (fun e => ?_))
  have := x3 i 0 (Or.inr ⟨h2, h3⟩) (Or.inl rfl) (e.trans x0.symm)
  rw [this] at h3
  exact absurd h3 (by decide)
theorem pg_put (hx : p.tables.exec = Jvm.exec) (hb : c.code = cc) {index : Nat} {Ts : List Cond} (hts : ∀ w ∈ Ts, w.before args s = true) (hin : ∀ w ∈ u_ws RX9 TX9 45, w ∈ Ts) (hown : s.vm.findClass RX9 = some m.cls) (hK : mK D cI cZ s) (hX : pX D cI cZ h0 q u nA nF A s H locs) (k : Nat) (hk : k < 45) (hlink : (Cond.fieldLink RX9 index RX9 (TX9 k).2.1 (TX9 k).2.2.1).before args s = true) (hsame : ∀ x, s.fieldFound? (TX9 k).1 (TX9 k).2.1 (TX9 k).2.2.1 = some x → s.fieldFound? RX9 (TX9 k).2.1 (TX9 k).2.2.1 = some x) (hfin : (TX9 k).2.2.2 = false) {ty : FieldType} {v : Value} (hd : parseFieldDescriptor (TX9 k).2.2.1 = some ty) (hn : narrow ty v = v) (hfit : fits ty v = true) {u1 : MS} {nF1 : Nat}
    (hl : k < (mfsP q u nF).length) (hset : (mfsP q u nF).set k v = mfsP q u1 nF1) (hu1 : ∀ i, 0 < mlen i → u1 i = u i) (hdg : decode cc pc = .ok (.putfield index, 3)) (kk : ∀ (H1 : Heap) (locs1 : List Loc), pX D cI cZ h0 q u1 nA nF1 A s H1 locs1 → W p l e R s m args below meth c H1 locs1 cells slots Q (F0 m (pc + 3) ls rest)) : W p l e R s m args below meth c H locs cells slots Q (F0 m pc ls (v :: .ref h0 :: rest)) := by
  have hap := va_apart (own := RX9) hts hin tyX9 tyX9_ok nmX9 hK (ci := 10) rfl
  obtain ⟨r, h1, cell, q1, q2, q3, q4⟩ := hX.2.1
  have hr : r = (RX9, TX9, 45) := Option.some.inj (h1.symm.trans rfl)
  subst hr
  obtain ⟨hS, hfc, kC, hkC, hkind⟩ := hK.1 10 _ rfl
  obtain ⟨cf, kf, fi, f, hi, hsl⟩ := hS k hk
  have hlay := hts _ (hin _ (u_in_lay hk))
  unfold u_lay at hlay
  rw [if_neg (by rw [hfin]; decide)] at hlay
  have hst := (u_facts hfc hkC (u_lays hts hin hk) hi).1
  have h6 := u_store hfc hkC hkind hlay hi hd hn hfit
  refine W.putK hx hb (f := f) ⟨hown, hlink, ⟨_, _, _, hsame _ hi⟩, hst⟩ (by rw [q2]; exact h6) q1 q3 (by rw [hsl]; exact k2_hasslot (q4 k hk)) rfl rfl hdg fun H' e1 e2 e3 => ?_
  rw [hsl] at e1 ⊢
  exact kk H' _ (pX_obj hX hset hu1 ⟨_, rfl, t_OB.to (V := updV (vp_V (mfsP q u nF)) k v) ⟨_, e1, q2, q3, t_set q4 hap hk v⟩ (fun j _ => vp_updV_set hl v j)⟩ e2 e3)
theorem pg_putF (hx : p.tables.exec = Jvm.exec) (hb : c.code = cc) {index : Nat} {Ts : List Cond} (hts : ∀ w ∈ Ts, w.before args s = true) (hin : ∀ w ∈ u_ws RX9 TX9 45, w ∈ Ts) (hown : s.vm.findClass RX9 = some m.cls) (hK : mK D cI cZ s) (hX : pX D cI cZ h0 q u nA nF A s H locs) (k : Nat) (hk : k < 45) (hlink : (Cond.fieldLink RX9 index RX9 (TX9 k).2.1 (TX9 k).2.2.1).before args s = true) (hsame : ∀ x, s.fieldFound? (TX9 k).1 (TX9 k).2.1 (TX9 k).2.2.1 = some x → s.fieldFound? RX9 (TX9 k).2.1 (TX9 k).2.2.1 = some x) (hfin : (TX9 k).2.2.2 = true) (hin2 : meth.name = "<init>") (hdecl : (TX9 k).1 = RX9) {ty : FieldType} {v : Value} (hd : parseFieldDescriptor (TX9 k).2.2.1 = some ty) (hn : narrow ty v = v) (hfit : fits ty v = true) {u1 : MS} {nF1 : Nat}
    (hl : k < (mfsP q u nF).length) (hset : (mfsP q u nF).set k v = mfsP q u1 nF1) (hu1 : ∀ i, 0 < mlen i → u1 i = u i) (hdg : decode cc pc = .ok (.putfield index, 3)) (kk : ∀ (H1 : Heap) (locs1 : List Loc), pX D cI cZ h0 q u1 nA nF1 A s H1 locs1 → W p l e R s m args below meth c H1 locs1 cells slots Q (F0 m (pc + 3) ls rest)) : W p l e R s m args below meth c H locs cells slots Q (F0 m pc ls (v :: .ref h0 :: rest)) := by
  have hap := va_apart (own := RX9) hts hin tyX9 tyX9_ok nmX9 hK (ci := 10) rfl
  obtain ⟨r, h1, cell, q1, q2, q3, q4⟩ := hX.2.1
  have hr : r = (RX9, TX9, 45) := Option.some.inj (h1.symm.trans rfl)
  subst hr
  obtain ⟨hS, hfc, kC, hkC, hkind⟩ := hK.1 10 _ rfl
  obtain ⟨cf, kf, fi, f, hi, hsl⟩ := hS k hk
  have hlay := hts _ (hin _ (u_in_lay hk))
  unfold u_lay at hlay
  rw [if_pos hfin] at hlay
  have hst := (u_facts hfc hkC (u_lays hts hin hk) hi).1
  have hcf : m.cls = cf := by
    obtain ⟨_, _, c', _, _, _, -, -, hf', -, -, -, hown2, -⟩ := Cond.laysFinal_spec hlay
    have e1 : c' = cf := by have := hi.symm.trans hf'; simp at this; exact this.1.symm
    rw [hdecl] at hown2
    rw [← e1]; exact Option.some.inj (hown.symm.trans hown2)
  have h6 := u_fits hfc hkC hkind (Or.inr hlay) hi hd hn hfit
  refine W.putFinK hx hb hown hlink (hsame _ hi) hst hcf hin2 (by rw [q2]; exact h6) q1 q3 (by rw [hsl]; exact k2_hasslot (q4 k hk)) rfl rfl hdg fun H' e1 e2 e3 => ?_
  rw [hsl] at e1 ⊢
  exact kk H' _ (pX_obj hX hset hu1 ⟨_, rfl, t_OB.to (V := updV (vp_V (mfsP q u nF)) k v) ⟨_, e1, q2, q3, t_set q4 hap hk v⟩ (fun j _ => vp_updV_set hl v j)⟩ e2 e3)
end PX
def mV0 : MS := fun _ _ => 0
def mV1 : MS := mup mV0 9 0 1
def mV2 : MS := mup mV1 11 0 90
def mV3 : MS := mup mV2 12 0 180
def mVL (i : Nat) : MS := fun a b => if (a = 23 ∨ a = 25) ∧ b < i then -1 else mV3 a b
def mU0 : MS := mVL 128
theorem mVL_s (i : Nat) : mup (mup (mVL i) 23 i (-1)) 25 i (-1) = mVL (i + 1) := by
  funext a b
  simp only [mup, mVL]
  by_cases h1 : a = 23
  · subst h1
    by_cases h2 : b = i
    · subst h2; simp
    · have : (b < i + 1) = (b < i) := by apply propext; omega
      simp [h2, this]
  · by_cases h3 : a = 25
    · subst h3
      by_cases h2 : b = i
      · subst h2; simp
      · have : (b < i + 1) = (b < i) := by apply propext; omega
        simp [h2, this]
    · simp [h1, h3]
theorem pg_get {p : Program} {l : Launch} {e : Env} {R : Room} {s : State} {m : MethodId} {args : Array Value} {below : List Frame} {meth : Method} {c : Code} {H : Heap} {locs : List Loc} {cells slots : Nat} {Q : State → Prop} {cc : ByteArray} {pc : Nat} {ls : Array Slot} {rest : List Value} {D : va_G} {cI cZ : ClassId} {h0 : Nat} {q : Nat → Nat} {u : MS} {A : Nat → Prop} {nA nF : Nat} (hx : p.tables.exec = Jvm.exec) (hb : c.code = cc) {index : Nat} {Ts : List Cond} (hts : ∀ w ∈ Ts, w.before args s = true) (hin : ∀ w ∈ u_ws RX9 TX9 45, w ∈ Ts) (hown : s.vm.findClass RX9 = some m.cls) (hK : mK D cI cZ s) (hX : pX D cI cZ h0 q u nA nF A s H locs) (k : Nat) (hk : k < 45) (hlink : (Cond.fieldLink RX9 index RX9 (TX9 k).2.1 (TX9 k).2.2.1).before args s = true) (hsame : ∀ x, s.fieldFound? (TX9 k).1 (TX9 k).2.1 (TX9 k).2.2.1 = some x → s.fieldFound? RX9 (TX9 k).2.1 (TX9 k).2.2.1 = some x) {v : Value} (hv : (mfsP q u nF)[k]? = some v) (hdg : decode cc pc = .ok (.getfield index, 3))
    (kk : W p l e R s m args below meth c H locs cells slots Q (F0 m (pc + 3) ls (v :: rest))) : W p l e R s m args below meth c H locs cells slots Q (F0 m pc ls (.ref h0 :: rest)) :=
  va_get (D := D) (cl := vwCl) (ws := [(h0, .inr (10, mfsP q u nF))]) hx hb hts hin hown hK (fun n z hz => by match n, hz with
    | 0, hz => cases hz; exact hX.2.1
    | n + 1, hz => simp at hz) 0 rfl rfl k hk hlink hsame hv hdg kk
set_option maxRecDepth 20000 in
theorem iX9 : ∀ w ∈ u_ws RX9 TX9 45, w ∈ wsX9_init := by decide +kernel
def mNPre (D : va_G) (cI cZ : ClassId) (h0 sz : Nat) (U : State) : Prop := U.heap.size = sz ∧ va_at D vwCl (h0, .inr (10, mblank)) U.heap ∧ mK D cI cZ U
set_option maxRecDepth 20000 in
theorem cM_init (l : Launch) (D : va_G) (cI cZ : ClassId) (h0 sz : Nat) : Met l yX9_init wsX9_init ({ frames := 1, cells := 38, slots := 59354, locals := 12 }) (va_Pc [.ref h0] (mNPre D cI cZ h0 sz)) (va_Qv (S := Nat → Nat) (fun q => q 0 = h0) (fun q t => mw D cI cZ q mU0 t.heap ∧ mK D cI cZ t ∧ ∀ k, mlv k → (va_A [(h0, .inr (10, mblank))] sz) (q k)) (va_A [(h0, .inr (10, mblank))] sz)) 38 59354 (va_A [(h0, .inr (10, mblank))] sz) := by
  refine Met.ofW (cc := cX9_init) (maxL := 2) (ret := none) (by decide) rfl ?_
  intro p e s m args below meth c s₁ B hml hv
  obtain ⟨rfl, hsz, hat, hK⟩ := hv
  have hx := B.exec
  have hb := B.bytes
  have hr := B.returns
  have hts := atoms_spec (ws := wsX9_init) B.pre
  have hown : s.vm.findClass RX9 = some m.cls := findClass_of_methodNamed B.named
  have hlocks := B.notSynchronized
  have hin : meth.name = "<init>" := (name_of_methodNamed B.named B.method).1
  subst hsz
  generalize hAe : va_A [(h0, .inr (10, mblank))] s.heap.size = A at ⊢
  have hA : ∀ a : Nat, s.heap.size ≤ a → A a := fun q h => by rw [← hAe]; exact Or.inr h
  have hAh : A h0 := by rw [← hAe]; exact Or.inl ⟨0, _, rfl⟩
  have hl := lv_entry ([.ref h0]) (n := 2) (Nat.le_of_ble_eq_true rfl)
  rw [lg_entry_eq]
  generalize (lg_sl ([.ref h0]) ++ List.replicate (2 - (lg_sl ([.ref h0])).length) Slot.unset).toArray = ls at hl ⊢
  have hl : lv_has ls 2 [(0, .ref h0)] := hl
  have hX : pX D cI cZ h0 (fun _ => h0) mV0 1 3 A s s.heap [] := ⟨rfl, hat, fun k h1 h2 => absurd h2 (by rw [show k = 0 by omega]; decide), fun k k' h1 h2 _ => by rcases h1 with h1 | ⟨h1, h9⟩ <;> rcases h2 with h2 | ⟨h2, h8⟩ <;> omega, fun k h1 => hAh, va_S.rf⟩
  generalize (fun _ : Nat => h0) = q at hX ⊢
  refine lv_aload_n hx hb dX9_init_0 rfl (lv_at hl 0 rfl) ?_
  refine W.objInit hx hb hown (hts (.methodLink RX9 1 objectInit) (by decide +kernel)) (hts (.instanceMethod objectInit) (by decide +kernel)) (hts (.code objectInit ⟨#[0xb1]⟩ 1 none) (by decide +kernel)) rfl (by rw [hml]; exact hl.1) rfl dX9_init_1 (Nat.le_of_ble_eq_true rfl) (Nat.le_of_ble_eq_true rfl) ?_
  refine W.eq (g2 := F0 m 4 ls []) rfl ?_
  refine lv_aload_n hx hb dX9_init_4 rfl (lv_at hl 0 rfl) ?_
  refine lv_bipush (v := 8) hx hb dX9_init_5 (by decide) ?_
  refine pg_new hx hb 3 (atype := .boolean) (hts (.arrayClass .boolean) (by decide +kernel)) (Or.inr ⟨rfl, rfl⟩) hK hX hA ⟨by decide, by decide, by decide⟩ (fun i h1 h2 => by rcases (show i = 1 ∨ i = 2 by omega) with rfl | rfl <;> rfl) rfl (n := 8) (by decide) (by decide) (by decide) (Nat.le_of_ble_eq_true rfl) (Nat.le_of_ble_eq_true rfl) dX9_init_7 (fun q H hX => ?_)
  refine pg_putF hx hb hts iX9 hown hK hX 3 (by decide) (hts (.fieldLink RX9 7 "PassageCourtModel" "isInRegion" "[Z") (by decide +kernel)) (fun _ h9 => h9) rfl hin rfl (by decide +kernel) rfl rfl (ty := (.array .boolean)) (v := .ref (q 3)) (u1 := mV0) (nF1 := 4) (Nat.le_of_ble_eq_true rfl) rfl (fun i h9 => rfl) dX9_init_9 (fun H locs hX => ?_)
  refine lv_aload_n hx hb dX9_init_12 rfl (lv_at hl 0 rfl) ?_
  refine lv_bipush (v := 8) hx hb dX9_init_13 (by decide) ?_
  refine pg_new hx hb 4 (atype := .boolean) (hts (.arrayClass .boolean) (by decide +kernel)) (Or.inr ⟨rfl, rfl⟩) hK hX hA ⟨by decide, by decide, by decide⟩ (fun i h1 h2 => by omega) rfl (n := 8) (by decide) (by decide) (by decide) (Nat.le_of_ble_eq_true rfl) (Nat.le_of_ble_eq_true rfl) dX9_init_15 (fun q H hX => ?_)
  refine pg_putF hx hb hts iX9 hown hK hX 4 (by decide) (hts (.fieldLink RX9 13 "PassageCourtModel" "bySoil" "[Z") (by decide +kernel)) (fun _ h9 => h9) rfl hin rfl (by decide +kernel) rfl rfl (ty := (.array .boolean)) (v := .ref (q 4)) (u1 := mV0) (nF1 := 5) (Nat.le_of_ble_eq_true rfl) rfl (fun i h9 => rfl) dX9_init_17 (fun H locs hX => ?_)
  refine lv_aload_n hx hb dX9_init_20 rfl (lv_at hl 0 rfl) ?_
  refine lv_bipush (v := 8) hx hb dX9_init_21 (by decide) ?_
  refine pg_new hx hb 5 (atype := .boolean) (hts (.arrayClass .boolean) (by decide +kernel)) (Or.inr ⟨rfl, rfl⟩) hK hX hA ⟨by decide, by decide, by decide⟩ (fun i h1 h2 => by omega) rfl (n := 8) (by decide) (by decide) (by decide) (Nat.le_of_ble_eq_true rfl) (Nat.le_of_ble_eq_true rfl) dX9_init_23 (fun q H hX => ?_)
  refine pg_putF hx hb hts iX9 hown hK hX 5 (by decide) (hts (.fieldLink RX9 16 "PassageCourtModel" "byDescent" "[Z") (by decide +kernel)) (fun _ h9 => h9) rfl hin rfl (by decide +kernel) rfl rfl (ty := (.array .boolean)) (v := .ref (q 5)) (u1 := mV0) (nF1 := 6) (Nat.le_of_ble_eq_true rfl) rfl (fun i h9 => rfl) dX9_init_25 (fun H locs hX => ?_)
  refine lv_aload_n hx hb dX9_init_28 rfl (lv_at hl 0 rfl) ?_
  refine lv_bipush (v := 8) hx hb dX9_init_29 (by decide) ?_
  refine pg_new hx hb 6 (atype := .int) (hts (.arrayClass .int) (by decide +kernel)) (Or.inl ⟨rfl, rfl⟩) hK hX hA ⟨by decide, by decide, by decide⟩ (fun i h1 h2 => by omega) rfl (n := 8) (by decide) (by decide) (by decide) (Nat.le_of_ble_eq_true rfl) (Nat.le_of_ble_eq_true rfl) dX9_init_31 (fun q H hX => ?_)
  refine pg_putF hx hb hts iX9 hown hK hX 6 (by decide) (hts (.fieldLink RX9 19 "PassageCourtModel" "late" "[I") (by decide +kernel)) (fun _ h9 => h9) rfl hin rfl (by decide +kernel) rfl rfl (ty := (.array .int)) (v := .ref (q 6)) (u1 := mV0) (nF1 := 7) (Nat.le_of_ble_eq_true rfl) rfl (fun i h9 => rfl) dX9_init_33 (fun H locs hX => ?_)
  refine lv_aload_n hx hb dX9_init_36 rfl (lv_at hl 0 rfl) ?_
  refine lv_bipush (v := 64) hx hb dX9_init_37 (by decide) ?_
  refine pg_new hx hb 7 (atype := .boolean) (hts (.arrayClass .boolean) (by decide +kernel)) (Or.inr ⟨rfl, rfl⟩) hK hX hA ⟨by decide, by decide, by decide⟩ (fun i h1 h2 => by omega) rfl (n := 64) (by decide) (by decide) (by decide) (Nat.le_of_ble_eq_true rfl) (Nat.le_of_ble_eq_true rfl) dX9_init_39 (fun q H hX => ?_)
  refine pg_putF hx hb hts iX9 hown hK hX 7 (by decide) (hts (.fieldLink RX9 23 "PassageCourtModel" "waives" "[Z") (by decide +kernel)) (fun _ h9 => h9) rfl hin rfl (by decide +kernel) rfl rfl (ty := (.array .boolean)) (v := .ref (q 7)) (u1 := mV0) (nF1 := 8) (Nat.le_of_ble_eq_true rfl) rfl (fun i h9 => rfl) dX9_init_41 (fun H locs hX => ?_)
  refine lv_aload_n hx hb dX9_init_44 rfl (lv_at hl 0 rfl) ?_
  refine lv_bipush (v := 24) hx hb dX9_init_45 (by decide) ?_
  refine pg_new hx hb 8 (atype := .int) (hts (.arrayClass .int) (by decide +kernel)) (Or.inl ⟨rfl, rfl⟩) hK hX hA ⟨by decide, by decide, by decide⟩ (fun i h1 h2 => by omega) rfl (n := 24) (by decide) (by decide) (by decide) (Nat.le_of_ble_eq_true rfl) (Nat.le_of_ble_eq_true rfl) dX9_init_47 (fun q H hX => ?_)
  refine pg_putF hx hb hts iX9 hown hK hX 8 (by decide) (hts (.fieldLink RX9 26 "PassageCourtModel" "quota" "[I") (by decide +kernel)) (fun _ h9 => h9) rfl hin rfl (by decide +kernel) rfl rfl (ty := (.array .int)) (v := .ref (q 8)) (u1 := mV0) (nF1 := 9) (Nat.le_of_ble_eq_true rfl) rfl (fun i h9 => rfl) dX9_init_49 (fun H locs hX => ?_)
  refine lv_aload_n hx hb dX9_init_52 rfl (lv_at hl 0 rfl) ?_
  refine lv_iconst (v := 1) hx hb dX9_init_53 (by decide) ?_
  refine pg_put hx hb hts iX9 hown hK hX 9 (by decide) (hts (.fieldLink RX9 29 "PassageCourtModel" "rules" "I") (by decide +kernel)) (fun _ h9 => h9) rfl (by decide +kernel) rfl rfl (ty := .int) (v := .int 1) (u1 := mV1) (nF1 := 10) (Nat.le_of_ble_eq_true rfl) rfl (fun i h9 => by funext b; exact if_neg (fun z => absurd h9 (by rw [z.1]; decide))) dX9_init_54 (fun H locs hX => ?_)
  refine lv_aload_n hx hb dX9_init_57 rfl (lv_at hl 0 rfl) ?_
  refine lv_bipush (v := 10) hx hb dX9_init_58 (by decide) ?_
  refine pg_new hx hb 10 (atype := .int) (hts (.arrayClass .int) (by decide +kernel)) (Or.inl ⟨rfl, rfl⟩) hK hX hA ⟨by decide, by decide, by decide⟩ (fun i h1 h2 => by rcases (show i = 9 by omega) with rfl <;> rfl) rfl (n := 10) (by decide) (by decide) (by decide) (Nat.le_of_ble_eq_true rfl) (Nat.le_of_ble_eq_true rfl) dX9_init_60 (fun q H hX => ?_)
  refine pg_putF hx hb hts iX9 hown hK hX 10 (by decide) (hts (.fieldLink RX9 33 "PassageCourtModel" "ruleDay" "[I") (by decide +kernel)) (fun _ h9 => h9) rfl hin rfl (by decide +kernel) rfl rfl (ty := (.array .int)) (v := .ref (q 10)) (u1 := mV1) (nF1 := 11) (Nat.le_of_ble_eq_true rfl) rfl (fun i h9 => rfl) dX9_init_62 (fun H locs hX => ?_)
  refine lv_aload_n hx hb dX9_init_65 rfl (lv_at hl 0 rfl) ?_
  refine lv_bipush (v := 10) hx hb dX9_init_66 (by decide) ?_
  refine pg_new hx hb 11 (atype := .int) (hts (.arrayClass .int) (by decide +kernel)) (Or.inl ⟨rfl, rfl⟩) hK hX hA ⟨by decide, by decide, by decide⟩ (fun i h1 h2 => by omega) rfl (n := 10) (by decide) (by decide) (by decide) (Nat.le_of_ble_eq_true rfl) (Nat.le_of_ble_eq_true rfl) dX9_init_68 (fun q H hX => ?_)
  refine lv_dup hx hb dX9_init_70 rfl ?_
  refine lv_iconst (v := 0) hx hb dX9_init_71 (by decide) ?_
  refine lv_bipush (v := 90) hx hb dX9_init_72 (by decide) ?_
  refine pg_ast hx hb hK hX 11 rfl ⟨by decide, by decide⟩ (i := 0) (x := 90) (by unfold vp_in; decide) dX9_init_74 (fun H locs hX => ?_)
  have hX : pX D cI cZ h0 q mV2 12 11 A s H locs := hX
  refine lv_dup hx hb dX9_init_75 rfl ?_
  refine lv_iconst (v := 1) hx hb dX9_init_76 (by decide) ?_
  refine lv_iconst (v := 0) hx hb dX9_init_77 (by decide) ?_
  refine pg_ast hx hb hK hX 11 rfl ⟨by decide, by decide⟩ (i := 1) (x := 0) (by unfold vp_in; decide) dX9_init_78 (fun H locs hX => ?_)
  rw [mup_same (u := mV2) (k := 11) (j := (1 : Int32).toNatClampNeg) (x := 0) (by decide)] at hX
  refine lv_dup hx hb dX9_init_79 rfl ?_
  refine lv_iconst (v := 2) hx hb dX9_init_80 (by decide) ?_
  refine lv_iconst (v := 0) hx hb dX9_init_81 (by decide) ?_
  refine pg_ast hx hb hK hX 11 rfl ⟨by decide, by decide⟩ (i := 2) (x := 0) (by unfold vp_in; decide) dX9_init_82 (fun H locs hX => ?_)
  rw [mup_same (u := mV2) (k := 11) (j := (2 : Int32).toNatClampNeg) (x := 0) (by decide)] at hX
  refine lv_dup hx hb dX9_init_83 rfl ?_
  refine lv_iconst (v := 3) hx hb dX9_init_84 (by decide) ?_
  refine lv_iconst (v := 0) hx hb dX9_init_85 (by decide) ?_
  refine pg_ast hx hb hK hX 11 rfl ⟨by decide, by decide⟩ (i := 3) (x := 0) (by unfold vp_in; decide) dX9_init_86 (fun H locs hX => ?_)
  rw [mup_same (u := mV2) (k := 11) (j := (3 : Int32).toNatClampNeg) (x := 0) (by decide)] at hX
  refine lv_dup hx hb dX9_init_87 rfl ?_
  refine lv_iconst (v := 4) hx hb dX9_init_88 (by decide) ?_
  refine lv_iconst (v := 0) hx hb dX9_init_89 (by decide) ?_
  refine pg_ast hx hb hK hX 11 rfl ⟨by decide, by decide⟩ (i := 4) (x := 0) (by unfold vp_in; decide) dX9_init_90 (fun H locs hX => ?_)
  rw [mup_same (u := mV2) (k := 11) (j := (4 : Int32).toNatClampNeg) (x := 0) (by decide)] at hX
  refine lv_dup hx hb dX9_init_91 rfl ?_
  refine lv_iconst (v := 5) hx hb dX9_init_92 (by decide) ?_
  refine lv_iconst (v := 0) hx hb dX9_init_93 (by decide) ?_
  refine pg_ast hx hb hK hX 11 rfl ⟨by decide, by decide⟩ (i := 5) (x := 0) (by unfold vp_in; decide) dX9_init_94 (fun H locs hX => ?_)
  rw [mup_same (u := mV2) (k := 11) (j := (5 : Int32).toNatClampNeg) (x := 0) (by decide)] at hX
  refine lv_dup hx hb dX9_init_95 rfl ?_
  refine lv_bipush (v := 6) hx hb dX9_init_96 (by decide) ?_
  refine lv_iconst (v := 0) hx hb dX9_init_98 (by decide) ?_
  refine pg_ast hx hb hK hX 11 rfl ⟨by decide, by decide⟩ (i := 6) (x := 0) (by unfold vp_in; decide) dX9_init_99 (fun H locs hX => ?_)
  rw [mup_same (u := mV2) (k := 11) (j := (6 : Int32).toNatClampNeg) (x := 0) (by decide)] at hX
  refine lv_dup hx hb dX9_init_100 rfl ?_
  refine lv_bipush (v := 7) hx hb dX9_init_101 (by decide) ?_
  refine lv_iconst (v := 0) hx hb dX9_init_103 (by decide) ?_
  refine pg_ast hx hb hK hX 11 rfl ⟨by decide, by decide⟩ (i := 7) (x := 0) (by unfold vp_in; decide) dX9_init_104 (fun H locs hX => ?_)
  rw [mup_same (u := mV2) (k := 11) (j := (7 : Int32).toNatClampNeg) (x := 0) (by decide)] at hX
  refine lv_dup hx hb dX9_init_105 rfl ?_
  refine lv_bipush (v := 8) hx hb dX9_init_106 (by decide) ?_
  refine lv_iconst (v := 0) hx hb dX9_init_108 (by decide) ?_
  refine pg_ast hx hb hK hX 11 rfl ⟨by decide, by decide⟩ (i := 8) (x := 0) (by unfold vp_in; decide) dX9_init_109 (fun H locs hX => ?_)
  rw [mup_same (u := mV2) (k := 11) (j := (8 : Int32).toNatClampNeg) (x := 0) (by decide)] at hX
  refine lv_dup hx hb dX9_init_110 rfl ?_
  refine lv_bipush (v := 9) hx hb dX9_init_111 (by decide) ?_
  refine lv_iconst (v := 0) hx hb dX9_init_113 (by decide) ?_
  refine pg_ast hx hb hK hX 11 rfl ⟨by decide, by decide⟩ (i := 9) (x := 0) (by unfold vp_in; decide) dX9_init_114 (fun H locs hX => ?_)
  rw [mup_same (u := mV2) (k := 11) (j := (9 : Int32).toNatClampNeg) (x := 0) (by decide)] at hX
  refine pg_putF hx hb hts iX9 hown hK hX 11 (by decide) (hts (.fieldLink RX9 36 "PassageCourtModel" "ruleMost" "[I") (by decide +kernel)) (fun _ h9 => h9) rfl hin rfl (by decide +kernel) rfl rfl (ty := (.array .int)) (v := .ref (q 11)) (u1 := mV2) (nF1 := 12) (Nat.le_of_ble_eq_true rfl) rfl (fun i h9 => rfl) dX9_init_115 (fun H locs hX => ?_)
  refine lv_aload_n hx hb dX9_init_118 rfl (lv_at hl 0 rfl) ?_
  refine lv_bipush (v := 10) hx hb dX9_init_119 (by decide) ?_
  refine pg_new hx hb 12 (atype := .int) (hts (.arrayClass .int) (by decide +kernel)) (Or.inl ⟨rfl, rfl⟩) hK hX hA ⟨by decide, by decide, by decide⟩ (fun i h1 h2 => by omega) rfl (n := 10) (by decide) (by decide) (by decide) (Nat.le_of_ble_eq_true rfl) (Nat.le_of_ble_eq_true rfl) dX9_init_121 (fun q H hX => ?_)
  refine lv_dup hx hb dX9_init_123 rfl ?_
  refine lv_iconst (v := 0) hx hb dX9_init_124 (by decide) ?_
  refine lv_sipush (v := 180) hx hb dX9_init_125 (by decide) ?_
  refine pg_ast hx hb hK hX 12 rfl ⟨by decide, by decide⟩ (i := 0) (x := 180) (by unfold vp_in; decide) dX9_init_128 (fun H locs hX => ?_)
  have hX : pX D cI cZ h0 q mV3 13 12 A s H locs := hX
  refine lv_dup hx hb dX9_init_129 rfl ?_
  refine lv_iconst (v := 1) hx hb dX9_init_130 (by decide) ?_
  refine lv_iconst (v := 0) hx hb dX9_init_131 (by decide) ?_
  refine pg_ast hx hb hK hX 12 rfl ⟨by decide, by decide⟩ (i := 1) (x := 0) (by unfold vp_in; decide) dX9_init_132 (fun H locs hX => ?_)
  rw [mup_same (u := mV3) (k := 12) (j := (1 : Int32).toNatClampNeg) (x := 0) (by decide)] at hX
  refine lv_dup hx hb dX9_init_133 rfl ?_
  refine lv_iconst (v := 2) hx hb dX9_init_134 (by decide) ?_
  refine lv_iconst (v := 0) hx hb dX9_init_135 (by decide) ?_
  refine pg_ast hx hb hK hX 12 rfl ⟨by decide, by decide⟩ (i := 2) (x := 0) (by unfold vp_in; decide) dX9_init_136 (fun H locs hX => ?_)
  rw [mup_same (u := mV3) (k := 12) (j := (2 : Int32).toNatClampNeg) (x := 0) (by decide)] at hX
  refine lv_dup hx hb dX9_init_137 rfl ?_
  refine lv_iconst (v := 3) hx hb dX9_init_138 (by decide) ?_
  refine lv_iconst (v := 0) hx hb dX9_init_139 (by decide) ?_
  refine pg_ast hx hb hK hX 12 rfl ⟨by decide, by decide⟩ (i := 3) (x := 0) (by unfold vp_in; decide) dX9_init_140 (fun H locs hX => ?_)
  rw [mup_same (u := mV3) (k := 12) (j := (3 : Int32).toNatClampNeg) (x := 0) (by decide)] at hX
  refine lv_dup hx hb dX9_init_141 rfl ?_
  refine lv_iconst (v := 4) hx hb dX9_init_142 (by decide) ?_
  refine lv_iconst (v := 0) hx hb dX9_init_143 (by decide) ?_
  refine pg_ast hx hb hK hX 12 rfl ⟨by decide, by decide⟩ (i := 4) (x := 0) (by unfold vp_in; decide) dX9_init_144 (fun H locs hX => ?_)
  rw [mup_same (u := mV3) (k := 12) (j := (4 : Int32).toNatClampNeg) (x := 0) (by decide)] at hX
  refine lv_dup hx hb dX9_init_145 rfl ?_
  refine lv_iconst (v := 5) hx hb dX9_init_146 (by decide) ?_
  refine lv_iconst (v := 0) hx hb dX9_init_147 (by decide) ?_
  refine pg_ast hx hb hK hX 12 rfl ⟨by decide, by decide⟩ (i := 5) (x := 0) (by unfold vp_in; decide) dX9_init_148 (fun H locs hX => ?_)
  rw [mup_same (u := mV3) (k := 12) (j := (5 : Int32).toNatClampNeg) (x := 0) (by decide)] at hX
  refine lv_dup hx hb dX9_init_149 rfl ?_
  refine lv_bipush (v := 6) hx hb dX9_init_150 (by decide) ?_
  refine lv_iconst (v := 0) hx hb dX9_init_152 (by decide) ?_
  refine pg_ast hx hb hK hX 12 rfl ⟨by decide, by decide⟩ (i := 6) (x := 0) (by unfold vp_in; decide) dX9_init_153 (fun H locs hX => ?_)
  rw [mup_same (u := mV3) (k := 12) (j := (6 : Int32).toNatClampNeg) (x := 0) (by decide)] at hX
  refine lv_dup hx hb dX9_init_154 rfl ?_
  refine lv_bipush (v := 7) hx hb dX9_init_155 (by decide) ?_
  refine lv_iconst (v := 0) hx hb dX9_init_157 (by decide) ?_
  refine pg_ast hx hb hK hX 12 rfl ⟨by decide, by decide⟩ (i := 7) (x := 0) (by unfold vp_in; decide) dX9_init_158 (fun H locs hX => ?_)
  rw [mup_same (u := mV3) (k := 12) (j := (7 : Int32).toNatClampNeg) (x := 0) (by decide)] at hX
  refine lv_dup hx hb dX9_init_159 rfl ?_
  refine lv_bipush (v := 8) hx hb dX9_init_160 (by decide) ?_
  refine lv_iconst (v := 0) hx hb dX9_init_162 (by decide) ?_
  refine pg_ast hx hb hK hX 12 rfl ⟨by decide, by decide⟩ (i := 8) (x := 0) (by unfold vp_in; decide) dX9_init_163 (fun H locs hX => ?_)
  rw [mup_same (u := mV3) (k := 12) (j := (8 : Int32).toNatClampNeg) (x := 0) (by decide)] at hX
  refine lv_dup hx hb dX9_init_164 rfl ?_
  refine lv_bipush (v := 9) hx hb dX9_init_165 (by decide) ?_
  refine lv_iconst (v := 0) hx hb dX9_init_167 (by decide) ?_
  refine pg_ast hx hb hK hX 12 rfl ⟨by decide, by decide⟩ (i := 9) (x := 0) (by unfold vp_in; decide) dX9_init_168 (fun H locs hX => ?_)
  rw [mup_same (u := mV3) (k := 12) (j := (9 : Int32).toNatClampNeg) (x := 0) (by decide)] at hX
  refine pg_putF hx hb hts iX9 hown hK hX 12 (by decide) (hts (.fieldLink RX9 39 "PassageCourtModel" "ruleWindow" "[I") (by decide +kernel)) (fun _ h9 => h9) rfl hin rfl (by decide +kernel) rfl rfl (ty := (.array .int)) (v := .ref (q 12)) (u1 := mV3) (nF1 := 14) (Nat.le_of_ble_eq_true rfl) rfl (fun i h9 => rfl) dX9_init_169 (fun H locs hX => ?_)
  refine lv_aload_n hx hb dX9_init_172 rfl (lv_at hl 0 rfl) ?_
  refine lv_bipush (v := 16) hx hb dX9_init_173 (by decide) ?_
  refine pg_new hx hb 14 (atype := .int) (hts (.arrayClass .int) (by decide +kernel)) (Or.inl ⟨rfl, rfl⟩) hK hX hA ⟨by decide, by decide, by decide⟩ (fun i h1 h2 => by rcases (show i = 13 by omega) with rfl <;> rfl) rfl (n := 16) (by decide) (by decide) (by decide) (Nat.le_of_ble_eq_true rfl) (Nat.le_of_ble_eq_true rfl) dX9_init_175 (fun q H hX => ?_)
  refine pg_putF hx hb hts iX9 hown hK hX 14 (by decide) (hts (.fieldLink RX9 42 "PassageCourtModel" "born" "[I") (by decide +kernel)) (fun _ h9 => h9) rfl hin rfl (by decide +kernel) rfl rfl (ty := (.array .int)) (v := .ref (q 14)) (u1 := mV3) (nF1 := 15) (Nat.le_of_ble_eq_true rfl) rfl (fun i h9 => rfl) dX9_init_177 (fun H locs hX => ?_)
  refine lv_aload_n hx hb dX9_init_180 rfl (lv_at hl 0 rfl) ?_
  refine lv_bipush (v := 16) hx hb dX9_init_181 (by decide) ?_
  refine pg_new hx hb 15 (atype := .int) (hts (.arrayClass .int) (by decide +kernel)) (Or.inl ⟨rfl, rfl⟩) hK hX hA ⟨by decide, by decide, by decide⟩ (fun i h1 h2 => by omega) rfl (n := 16) (by decide) (by decide) (by decide) (Nat.le_of_ble_eq_true rfl) (Nat.le_of_ble_eq_true rfl) dX9_init_183 (fun q H hX => ?_)
  refine pg_putF hx hb hts iX9 hown hK hX 15 (by decide) (hts (.fieldLink RX9 45 "PassageCourtModel" "nations" "[I") (by decide +kernel)) (fun _ h9 => h9) rfl hin rfl (by decide +kernel) rfl rfl (ty := (.array .int)) (v := .ref (q 15)) (u1 := mV3) (nF1 := 16) (Nat.le_of_ble_eq_true rfl) rfl (fun i h9 => rfl) dX9_init_185 (fun H locs hX => ?_)
  refine lv_aload_n hx hb dX9_init_188 rfl (lv_at hl 0 rfl) ?_
  refine lv_bipush (v := 16) hx hb dX9_init_189 (by decide) ?_
  refine pg_new hx hb 16 (atype := .int) (hts (.arrayClass .int) (by decide +kernel)) (Or.inl ⟨rfl, rfl⟩) hK hX hA ⟨by decide, by decide, by decide⟩ (fun i h1 h2 => by omega) rfl (n := 16) (by decide) (by decide) (by decide) (Nat.le_of_ble_eq_true rfl) (Nat.le_of_ble_eq_true rfl) dX9_init_191 (fun q H hX => ?_)
  refine pg_putF hx hb hts iX9 hown hK hX 16 (by decide) (hts (.fieldLink RX9 48 "PassageCourtModel" "mother" "[I") (by decide +kernel)) (fun _ h9 => h9) rfl hin rfl (by decide +kernel) rfl rfl (ty := (.array .int)) (v := .ref (q 16)) (u1 := mV3) (nF1 := 17) (Nat.le_of_ble_eq_true rfl) rfl (fun i h9 => rfl) dX9_init_193 (fun H locs hX => ?_)
  refine lv_aload_n hx hb dX9_init_196 rfl (lv_at hl 0 rfl) ?_
  refine lv_bipush (v := 16) hx hb dX9_init_197 (by decide) ?_
  refine pg_new hx hb 17 (atype := .int) (hts (.arrayClass .int) (by decide +kernel)) (Or.inl ⟨rfl, rfl⟩) hK hX hA ⟨by decide, by decide, by decide⟩ (fun i h1 h2 => by omega) rfl (n := 16) (by decide) (by decide) (by decide) (Nat.le_of_ble_eq_true rfl) (Nat.le_of_ble_eq_true rfl) dX9_init_199 (fun q H hX => ?_)
  refine pg_putF hx hb hts iX9 hown hK hX 17 (by decide) (hts (.fieldLink RX9 51 "PassageCourtModel" "father" "[I") (by decide +kernel)) (fun _ h9 => h9) rfl hin rfl (by decide +kernel) rfl rfl (ty := (.array .int)) (v := .ref (q 17)) (u1 := mV3) (nF1 := 18) (Nat.le_of_ble_eq_true rfl) rfl (fun i h9 => rfl) dX9_init_201 (fun H locs hX => ?_)
  refine lv_aload_n hx hb dX9_init_204 rfl (lv_at hl 0 rfl) ?_
  refine lv_bipush (v := 16) hx hb dX9_init_205 (by decide) ?_
  refine pg_new hx hb 18 (atype := .int) (hts (.arrayClass .int) (by decide +kernel)) (Or.inl ⟨rfl, rfl⟩) hK hX hA ⟨by decide, by decide, by decide⟩ (fun i h1 h2 => by omega) rfl (n := 16) (by decide) (by decide) (by decide) (Nat.le_of_ble_eq_true rfl) (Nat.le_of_ble_eq_true rfl) dX9_init_207 (fun q H hX => ?_)
  refine pg_putF hx hb hts iX9 hown hK hX 18 (by decide) (hts (.fieldLink RX9 54 "PassageCourtModel" "where" "[I") (by decide +kernel)) (fun _ h9 => h9) rfl hin rfl (by decide +kernel) rfl rfl (ty := (.array .int)) (v := .ref (q 18)) (u1 := mV3) (nF1 := 19) (Nat.le_of_ble_eq_true rfl) rfl (fun i h9 => rfl) dX9_init_209 (fun H locs hX => ?_)
  refine lv_aload_n hx hb dX9_init_212 rfl (lv_at hl 0 rfl) ?_
  refine lv_bipush (v := 16) hx hb dX9_init_213 (by decide) ?_
  refine pg_new hx hb 19 (atype := .boolean) (hts (.arrayClass .boolean) (by decide +kernel)) (Or.inr ⟨rfl, rfl⟩) hK hX hA ⟨by decide, by decide, by decide⟩ (fun i h1 h2 => by omega) rfl (n := 16) (by decide) (by decide) (by decide) (Nat.le_of_ble_eq_true rfl) (Nat.le_of_ble_eq_true rfl) dX9_init_215 (fun q H hX => ?_)
  refine pg_putF hx hb hts iX9 hown hK hX 19 (by decide) (hts (.fieldLink RX9 57 "PassageCourtModel" "hasSlipped" "[Z") (by decide +kernel)) (fun _ h9 => h9) rfl hin rfl (by decide +kernel) rfl rfl (ty := (.array .boolean)) (v := .ref (q 19)) (u1 := mV3) (nF1 := 20) (Nat.le_of_ble_eq_true rfl) rfl (fun i h9 => rfl) dX9_init_217 (fun H locs hX => ?_)
  refine lv_aload_n hx hb dX9_init_220 rfl (lv_at hl 0 rfl) ?_
  refine lv_bipush (v := 16) hx hb dX9_init_221 (by decide) ?_
  refine pg_new hx hb 20 (atype := .int) (hts (.arrayClass .int) (by decide +kernel)) (Or.inl ⟨rfl, rfl⟩) hK hX hA ⟨by decide, by decide, by decide⟩ (fun i h1 h2 => by omega) rfl (n := 16) (by decide) (by decide) (by decide) (Nat.le_of_ble_eq_true rfl) (Nat.le_of_ble_eq_true rfl) dX9_init_223 (fun q H hX => ?_)
  refine pg_putF hx hb hts iX9 hown hK hX 20 (by decide) (hts (.fieldLink RX9 60 "PassageCourtModel" "cameBy" "[I") (by decide +kernel)) (fun _ h9 => h9) rfl hin rfl (by decide +kernel) rfl rfl (ty := (.array .int)) (v := .ref (q 20)) (u1 := mV3) (nF1 := 21) (Nat.le_of_ble_eq_true rfl) rfl (fun i h9 => rfl) dX9_init_225 (fun H locs hX => ?_)
  refine lv_aload_n hx hb dX9_init_228 rfl (lv_at hl 0 rfl) ?_
  refine lv_bipush (v := 16) hx hb dX9_init_229 (by decide) ?_
  refine pg_new hx hb 21 (atype := .int) (hts (.arrayClass .int) (by decide +kernel)) (Or.inl ⟨rfl, rfl⟩) hK hX hA ⟨by decide, by decide, by decide⟩ (fun i h1 h2 => by omega) rfl (n := 16) (by decide) (by decide) (by decide) (Nat.le_of_ble_eq_true rfl) (Nat.le_of_ble_eq_true rfl) dX9_init_231 (fun q H hX => ?_)
  refine pg_putF hx hb hts iX9 hown hK hX 21 (by decide) (hts (.fieldLink RX9 63 "PassageCourtModel" "entered" "[I") (by decide +kernel)) (fun _ h9 => h9) rfl hin rfl (by decide +kernel) rfl rfl (ty := (.array .int)) (v := .ref (q 21)) (u1 := mV3) (nF1 := 22) (Nat.le_of_ble_eq_true rfl) rfl (fun i h9 => rfl) dX9_init_233 (fun H locs hX => ?_)
  refine lv_aload_n hx hb dX9_init_236 rfl (lv_at hl 0 rfl) ?_
  refine lv_ldc (v := 57616) hx hb hown (hts (.constant RX9 66 (57616)) (by decide +kernel)) dX9_init_237 ?_
  refine pg_new hx hb 22 (atype := .int) (hts (.arrayClass .int) (by decide +kernel)) (Or.inl ⟨rfl, rfl⟩) hK hX hA ⟨by decide, by decide, by decide⟩ (fun i h1 h2 => by omega) rfl (n := 57616) (by decide) (by decide) (by decide) (Nat.le_of_ble_eq_true rfl) (Nat.le_of_ble_eq_true rfl) dX9_init_239 (fun q H hX => ?_)
  refine pg_putF hx hb hts iX9 hown hK hX 22 (by decide) (hts (.fieldLink RX9 67 "PassageCourtModel" "was" "[I") (by decide +kernel)) (fun _ h9 => h9) rfl hin rfl (by decide +kernel) rfl rfl (ty := (.array .int)) (v := .ref (q 22)) (u1 := mV3) (nF1 := 23) (Nat.le_of_ble_eq_true rfl) rfl (fun i h9 => rfl) dX9_init_241 (fun H locs hX => ?_)
  refine lv_aload_n hx hb dX9_init_244 rfl (lv_at hl 0 rfl) ?_
  refine lv_sipush (v := 128) hx hb dX9_init_245 (by decide) ?_
  refine pg_new hx hb 23 (atype := .int) (hts (.arrayClass .int) (by decide +kernel)) (Or.inl ⟨rfl, rfl⟩) hK hX hA ⟨by decide, by decide, by decide⟩ (fun i h1 h2 => by omega) rfl (n := 128) (by decide) (by decide) (by decide) (Nat.le_of_ble_eq_true rfl) (Nat.le_of_ble_eq_true rfl) dX9_init_248 (fun q H hX => ?_)
  refine pg_putF hx hb hts iX9 hown hK hX 23 (by decide) (hts (.fieldLink RX9 70 "PassageCourtModel" "permitTo" "[I") (by decide +kernel)) (fun _ h9 => h9) rfl hin rfl (by decide +kernel) rfl rfl (ty := (.array .int)) (v := .ref (q 23)) (u1 := mV3) (nF1 := 24) (Nat.le_of_ble_eq_true rfl) rfl (fun i h9 => rfl) dX9_init_250 (fun H locs hX => ?_)
  refine lv_aload_n hx hb dX9_init_253 rfl (lv_at hl 0 rfl) ?_
  refine lv_sipush (v := 128) hx hb dX9_init_254 (by decide) ?_
  refine pg_new hx hb 24 (atype := .int) (hts (.arrayClass .int) (by decide +kernel)) (Or.inl ⟨rfl, rfl⟩) hK hX hA ⟨by decide, by decide, by decide⟩ (fun i h1 h2 => by omega) rfl (n := 128) (by decide) (by decide) (by decide) (Nat.le_of_ble_eq_true rfl) (Nat.le_of_ble_eq_true rfl) dX9_init_257 (fun q H hX => ?_)
  refine pg_putF hx hb hts iX9 hown hK hX 24 (by decide) (hts (.fieldLink RX9 73 "PassageCourtModel" "permitSince" "[I") (by decide +kernel)) (fun _ h9 => h9) rfl hin rfl (by decide +kernel) rfl rfl (ty := (.array .int)) (v := .ref (q 24)) (u1 := mV3) (nF1 := 25) (Nat.le_of_ble_eq_true rfl) rfl (fun i h9 => rfl) dX9_init_259 (fun H locs hX => ?_)
  refine lv_aload_n hx hb dX9_init_262 rfl (lv_at hl 0 rfl) ?_
  refine lv_sipush (v := 128) hx hb dX9_init_263 (by decide) ?_
  refine pg_new hx hb 25 (atype := .int) (hts (.arrayClass .int) (by decide +kernel)) (Or.inl ⟨rfl, rfl⟩) hK hX hA ⟨by decide, by decide, by decide⟩ (fun i h1 h2 => by omega) rfl (n := 128) (by decide) (by decide) (by decide) (Nat.le_of_ble_eq_true rfl) (Nat.le_of_ble_eq_true rfl) dX9_init_266 (fun q H hX => ?_)
  refine pg_putF hx hb hts iX9 hown hK hX 25 (by decide) (hts (.fieldLink RX9 76 "PassageCourtModel" "banTo" "[I") (by decide +kernel)) (fun _ h9 => h9) rfl hin rfl (by decide +kernel) rfl rfl (ty := (.array .int)) (v := .ref (q 25)) (u1 := mV3) (nF1 := 26) (Nat.le_of_ble_eq_true rfl) rfl (fun i h9 => rfl) dX9_init_268 (fun H locs hX => ?_)
  refine lv_aload_n hx hb dX9_init_271 rfl (lv_at hl 0 rfl) ?_
  refine lv_sipush (v := 128) hx hb dX9_init_272 (by decide) ?_
  refine pg_new hx hb 26 (atype := .int) (hts (.arrayClass .int) (by decide +kernel)) (Or.inl ⟨rfl, rfl⟩) hK hX hA ⟨by decide, by decide, by decide⟩ (fun i h1 h2 => by omega) rfl (n := 128) (by decide) (by decide) (by decide) (Nat.le_of_ble_eq_true rfl) (Nat.le_of_ble_eq_true rfl) dX9_init_275 (fun q H hX => ?_)
  refine pg_putF hx hb hts iX9 hown hK hX 26 (by decide) (hts (.fieldLink RX9 79 "PassageCourtModel" "banFrom" "[I") (by decide +kernel)) (fun _ h9 => h9) rfl hin rfl (by decide +kernel) rfl rfl (ty := (.array .int)) (v := .ref (q 26)) (u1 := mV3) (nF1 := 27) (Nat.le_of_ble_eq_true rfl) rfl (fun i h9 => rfl) dX9_init_277 (fun H locs hX => ?_)
  refine lv_aload_n hx hb dX9_init_280 rfl (lv_at hl 0 rfl) ?_
  refine lv_sipush (v := 128) hx hb dX9_init_281 (by decide) ?_
  refine pg_new hx hb 27 (atype := .int) (hts (.arrayClass .int) (by decide +kernel)) (Or.inl ⟨rfl, rfl⟩) hK hX hA ⟨by decide, by decide, by decide⟩ (fun i h1 h2 => by omega) rfl (n := 128) (by decide) (by decide) (by decide) (Nat.le_of_ble_eq_true rfl) (Nat.le_of_ble_eq_true rfl) dX9_init_284 (fun q H hX => ?_)
  refine pg_putF hx hb hts iX9 hown hK hX 27 (by decide) (hts (.fieldLink RX9 82 "PassageCourtModel" "banMade" "[I") (by decide +kernel)) (fun _ h9 => h9) rfl hin rfl (by decide +kernel) rfl rfl (ty := (.array .int)) (v := .ref (q 27)) (u1 := mV3) (nF1 := 29) (Nat.le_of_ble_eq_true rfl) rfl (fun i h9 => rfl) dX9_init_286 (fun H locs hX => ?_)
  refine lv_aload_n hx hb dX9_init_289 rfl (lv_at hl 0 rfl) ?_
  refine lv_bipush (v := 60) hx hb dX9_init_290 (by decide) ?_
  refine pg_new hx hb 29 (atype := .int) (hts (.arrayClass .int) (by decide +kernel)) (Or.inl ⟨rfl, rfl⟩) hK hX hA ⟨by decide, by decide, by decide⟩ (fun i h1 h2 => by rcases (show i = 28 by omega) with rfl <;> rfl) rfl (n := 60) (by decide) (by decide) (by decide) (Nat.le_of_ble_eq_true rfl) (Nat.le_of_ble_eq_true rfl) dX9_init_292 (fun q H hX => ?_)
  refine pg_putF hx hb hts iX9 hown hK hX 29 (by decide) (hts (.fieldLink RX9 85 "PassageCourtModel" "visaOf" "[I") (by decide +kernel)) (fun _ h9 => h9) rfl hin rfl (by decide +kernel) rfl rfl (ty := (.array .int)) (v := .ref (q 29)) (u1 := mV3) (nF1 := 30) (Nat.le_of_ble_eq_true rfl) rfl (fun i h9 => rfl) dX9_init_294 (fun H locs hX => ?_)
  refine lv_aload_n hx hb dX9_init_297 rfl (lv_at hl 0 rfl) ?_
  refine lv_bipush (v := 60) hx hb dX9_init_298 (by decide) ?_
  refine pg_new hx hb 30 (atype := .int) (hts (.arrayClass .int) (by decide +kernel)) (Or.inl ⟨rfl, rfl⟩) hK hX hA ⟨by decide, by decide, by decide⟩ (fun i h1 h2 => by omega) rfl (n := 60) (by decide) (by decide) (by decide) (Nat.le_of_ble_eq_true rfl) (Nat.le_of_ble_eq_true rfl) dX9_init_300 (fun q H hX => ?_)
  refine pg_putF hx hb hts iX9 hown hK hX 30 (by decide) (hts (.fieldLink RX9 88 "PassageCourtModel" "visaLand" "[I") (by decide +kernel)) (fun _ h9 => h9) rfl hin rfl (by decide +kernel) rfl rfl (ty := (.array .int)) (v := .ref (q 30)) (u1 := mV3) (nF1 := 31) (Nat.le_of_ble_eq_true rfl) rfl (fun i h9 => rfl) dX9_init_302 (fun H locs hX => ?_)
  refine lv_aload_n hx hb dX9_init_305 rfl (lv_at hl 0 rfl) ?_
  refine lv_bipush (v := 60) hx hb dX9_init_306 (by decide) ?_
  refine pg_new hx hb 31 (atype := .int) (hts (.arrayClass .int) (by decide +kernel)) (Or.inl ⟨rfl, rfl⟩) hK hX hA ⟨by decide, by decide, by decide⟩ (fun i h1 h2 => by omega) rfl (n := 60) (by decide) (by decide) (by decide) (Nat.le_of_ble_eq_true rfl) (Nat.le_of_ble_eq_true rfl) dX9_init_308 (fun q H hX => ?_)
  refine pg_putF hx hb hts iX9 hown hK hX 31 (by decide) (hts (.fieldLink RX9 91 "PassageCourtModel" "visaFirst" "[I") (by decide +kernel)) (fun _ h9 => h9) rfl hin rfl (by decide +kernel) rfl rfl (ty := (.array .int)) (v := .ref (q 31)) (u1 := mV3) (nF1 := 32) (Nat.le_of_ble_eq_true rfl) rfl (fun i h9 => rfl) dX9_init_310 (fun H locs hX => ?_)
  refine lv_aload_n hx hb dX9_init_313 rfl (lv_at hl 0 rfl) ?_
  refine lv_bipush (v := 60) hx hb dX9_init_314 (by decide) ?_
  refine pg_new hx hb 32 (atype := .int) (hts (.arrayClass .int) (by decide +kernel)) (Or.inl ⟨rfl, rfl⟩) hK hX hA ⟨by decide, by decide, by decide⟩ (fun i h1 h2 => by omega) rfl (n := 60) (by decide) (by decide) (by decide) (Nat.le_of_ble_eq_true rfl) (Nat.le_of_ble_eq_true rfl) dX9_init_316 (fun q H hX => ?_)
  refine pg_putF hx hb hts iX9 hown hK hX 32 (by decide) (hts (.fieldLink RX9 94 "PassageCourtModel" "visaLast" "[I") (by decide +kernel)) (fun _ h9 => h9) rfl hin rfl (by decide +kernel) rfl rfl (ty := (.array .int)) (v := .ref (q 32)) (u1 := mV3) (nF1 := 33) (Nat.le_of_ble_eq_true rfl) rfl (fun i h9 => rfl) dX9_init_318 (fun H locs hX => ?_)
  refine lv_aload_n hx hb dX9_init_321 rfl (lv_at hl 0 rfl) ?_
  refine lv_bipush (v := 60) hx hb dX9_init_322 (by decide) ?_
  refine pg_new hx hb 33 (atype := .int) (hts (.arrayClass .int) (by decide +kernel)) (Or.inl ⟨rfl, rfl⟩) hK hX hA ⟨by decide, by decide, by decide⟩ (fun i h1 h2 => by omega) rfl (n := 60) (by decide) (by decide) (by decide) (Nat.le_of_ble_eq_true rfl) (Nat.le_of_ble_eq_true rfl) dX9_init_324 (fun q H hX => ?_)
  refine pg_putF hx hb hts iX9 hown hK hX 33 (by decide) (hts (.fieldLink RX9 97 "PassageCourtModel" "entries" "[I") (by decide +kernel)) (fun _ h9 => h9) rfl hin rfl (by decide +kernel) rfl rfl (ty := (.array .int)) (v := .ref (q 33)) (u1 := mV3) (nF1 := 34) (Nat.le_of_ble_eq_true rfl) rfl (fun i h9 => rfl) dX9_init_326 (fun H locs hX => ?_)
  refine lv_aload_n hx hb dX9_init_329 rfl (lv_at hl 0 rfl) ?_
  refine lv_bipush (v := 60) hx hb dX9_init_330 (by decide) ?_
  refine pg_new hx hb 34 (atype := .int) (hts (.arrayClass .int) (by decide +kernel)) (Or.inl ⟨rfl, rfl⟩) hK hX hA ⟨by decide, by decide, by decide⟩ (fun i h1 h2 => by omega) rfl (n := 60) (by decide) (by decide) (by decide) (Nat.le_of_ble_eq_true rfl) (Nat.le_of_ble_eq_true rfl) dX9_init_332 (fun q H hX => ?_)
  refine pg_putF hx hb hts iX9 hown hK hX 34 (by decide) (hts (.fieldLink RX9 100 "PassageCourtModel" "daysLeft" "[I") (by decide +kernel)) (fun _ h9 => h9) rfl hin rfl (by decide +kernel) rfl rfl (ty := (.array .int)) (v := .ref (q 34)) (u1 := mV3) (nF1 := 35) (Nat.le_of_ble_eq_true rfl) rfl (fun i h9 => rfl) dX9_init_334 (fun H locs hX => ?_)
  refine lv_aload_n hx hb dX9_init_337 rfl (lv_at hl 0 rfl) ?_
  refine lv_bipush (v := 60) hx hb dX9_init_338 (by decide) ?_
  refine pg_new hx hb 35 (atype := .int) (hts (.arrayClass .int) (by decide +kernel)) (Or.inl ⟨rfl, rfl⟩) hK hX hA ⟨by decide, by decide, by decide⟩ (fun i h1 h2 => by omega) rfl (n := 60) (by decide) (by decide) (by decide) (Nat.le_of_ble_eq_true rfl) (Nat.le_of_ble_eq_true rfl) dX9_init_340 (fun q H hX => ?_)
  refine pg_putF hx hb hts iX9 hown hK hX 35 (by decide) (hts (.fieldLink RX9 103 "PassageCourtModel" "counted" "[I") (by decide +kernel)) (fun _ h9 => h9) rfl hin rfl (by decide +kernel) rfl rfl (ty := (.array .int)) (v := .ref (q 35)) (u1 := mV3) (nF1 := 37) (Nat.le_of_ble_eq_true rfl) rfl (fun i h9 => rfl) dX9_init_342 (fun H locs hX => ?_)
  refine lv_aload_n hx hb dX9_init_345 rfl (lv_at hl 0 rfl) ?_
  refine lv_bipush (v := 40) hx hb dX9_init_346 (by decide) ?_
  refine pg_new hx hb 37 (atype := .int) (hts (.arrayClass .int) (by decide +kernel)) (Or.inl ⟨rfl, rfl⟩) hK hX hA ⟨by decide, by decide, by decide⟩ (fun i h1 h2 => by rcases (show i = 36 by omega) with rfl <;> rfl) rfl (n := 40) (by decide) (by decide) (by decide) (Nat.le_of_ble_eq_true rfl) (Nat.le_of_ble_eq_true rfl) dX9_init_348 (fun q H hX => ?_)
  refine pg_putF hx hb hts iX9 hown hK hX 37 (by decide) (hts (.fieldLink RX9 106 "PassageCourtModel" "askedBy" "[I") (by decide +kernel)) (fun _ h9 => h9) rfl hin rfl (by decide +kernel) rfl rfl (ty := (.array .int)) (v := .ref (q 37)) (u1 := mV3) (nF1 := 38) (Nat.le_of_ble_eq_true rfl) rfl (fun i h9 => rfl) dX9_init_350 (fun H locs hX => ?_)
  refine lv_aload_n hx hb dX9_init_353 rfl (lv_at hl 0 rfl) ?_
  refine lv_bipush (v := 40) hx hb dX9_init_354 (by decide) ?_
  refine pg_new hx hb 38 (atype := .int) (hts (.arrayClass .int) (by decide +kernel)) (Or.inl ⟨rfl, rfl⟩) hK hX hA ⟨by decide, by decide, by decide⟩ (fun i h1 h2 => by omega) rfl (n := 40) (by decide) (by decide) (by decide) (Nat.le_of_ble_eq_true rfl) (Nat.le_of_ble_eq_true rfl) dX9_init_356 (fun q H hX => ?_)
  refine pg_putF hx hb hts iX9 hown hK hX 38 (by decide) (hts (.fieldLink RX9 109 "PassageCourtModel" "askedLand" "[I") (by decide +kernel)) (fun _ h9 => h9) rfl hin rfl (by decide +kernel) rfl rfl (ty := (.array .int)) (v := .ref (q 38)) (u1 := mV3) (nF1 := 39) (Nat.le_of_ble_eq_true rfl) rfl (fun i h9 => rfl) dX9_init_358 (fun H locs hX => ?_)
  refine lv_aload_n hx hb dX9_init_361 rfl (lv_at hl 0 rfl) ?_
  refine lv_bipush (v := 40) hx hb dX9_init_362 (by decide) ?_
  refine pg_new hx hb 39 (atype := .int) (hts (.arrayClass .int) (by decide +kernel)) (Or.inl ⟨rfl, rfl⟩) hK hX hA ⟨by decide, by decide, by decide⟩ (fun i h1 h2 => by omega) rfl (n := 40) (by decide) (by decide) (by decide) (Nat.le_of_ble_eq_true rfl) (Nat.le_of_ble_eq_true rfl) dX9_init_364 (fun q H hX => ?_)
  refine pg_putF hx hb hts iX9 hown hK hX 39 (by decide) (hts (.fieldLink RX9 112 "PassageCourtModel" "askedClass" "[I") (by decide +kernel)) (fun _ h9 => h9) rfl hin rfl (by decide +kernel) rfl rfl (ty := (.array .int)) (v := .ref (q 39)) (u1 := mV3) (nF1 := 40) (Nat.le_of_ble_eq_true rfl) rfl (fun i h9 => rfl) dX9_init_366 (fun H locs hX => ?_)
  refine lv_aload_n hx hb dX9_init_369 rfl (lv_at hl 0 rfl) ?_
  refine lv_bipush (v := 40) hx hb dX9_init_370 (by decide) ?_
  refine pg_new hx hb 40 (atype := .int) (hts (.arrayClass .int) (by decide +kernel)) (Or.inl ⟨rfl, rfl⟩) hK hX hA ⟨by decide, by decide, by decide⟩ (fun i h1 h2 => by omega) rfl (n := 40) (by decide) (by decide) (by decide) (Nat.le_of_ble_eq_true rfl) (Nat.le_of_ble_eq_true rfl) dX9_init_372 (fun q H hX => ?_)
  refine pg_putF hx hb hts iX9 hown hK hX 40 (by decide) (hts (.fieldLink RX9 115 "PassageCourtModel" "date" "[I") (by decide +kernel)) (fun _ h9 => h9) rfl hin rfl (by decide +kernel) rfl rfl (ty := (.array .int)) (v := .ref (q 40)) (u1 := mV3) (nF1 := 41) (Nat.le_of_ble_eq_true rfl) rfl (fun i h9 => rfl) dX9_init_374 (fun H locs hX => ?_)
  refine lv_aload_n hx hb dX9_init_377 rfl (lv_at hl 0 rfl) ?_
  refine lv_bipush (v := 40) hx hb dX9_init_378 (by decide) ?_
  refine pg_new hx hb 41 (atype := .int) (hts (.arrayClass .int) (by decide +kernel)) (Or.inl ⟨rfl, rfl⟩) hK hX hA ⟨by decide, by decide, by decide⟩ (fun i h1 h2 => by omega) rfl (n := 40) (by decide) (by decide) (by decide) (Nat.le_of_ble_eq_true rfl) (Nat.le_of_ble_eq_true rfl) dX9_init_380 (fun q H hX => ?_)
  refine pg_putF hx hb hts iX9 hown hK hX 41 (by decide) (hts (.fieldLink RX9 118 "PassageCourtModel" "state" "[I") (by decide +kernel)) (fun _ h9 => h9) rfl hin rfl (by decide +kernel) rfl rfl (ty := (.array .int)) (v := .ref (q 41)) (u1 := mV3) (nF1 := 42) (Nat.le_of_ble_eq_true rfl) rfl (fun i h9 => rfl) dX9_init_382 (fun H locs hX => ?_)
  refine lv_aload_n hx hb dX9_init_385 rfl (lv_at hl 0 rfl) ?_
  refine lv_bipush (v := 40) hx hb dX9_init_386 (by decide) ?_
  refine pg_new hx hb 42 (atype := .int) (hts (.arrayClass .int) (by decide +kernel)) (Or.inl ⟨rfl, rfl⟩) hK hX hA ⟨by decide, by decide, by decide⟩ (fun i h1 h2 => by omega) rfl (n := 40) (by decide) (by decide) (by decide) (Nat.le_of_ble_eq_true rfl) (Nat.le_of_ble_eq_true rfl) dX9_init_388 (fun q H hX => ?_)
  refine pg_putF hx hb hts iX9 hown hK hX 42 (by decide) (hts (.fieldLink RX9 121 "PassageCourtModel" "until" "[I") (by decide +kernel)) (fun _ h9 => h9) rfl hin rfl (by decide +kernel) rfl rfl (ty := (.array .int)) (v := .ref (q 42)) (u1 := mV3) (nF1 := 43) (Nat.le_of_ble_eq_true rfl) rfl (fun i h9 => rfl) dX9_init_390 (fun H locs hX => ?_)
  refine lv_aload_n hx hb dX9_init_393 rfl (lv_at hl 0 rfl) ?_
  refine lv_bipush (v := 40) hx hb dX9_init_394 (by decide) ?_
  refine pg_new hx hb 43 (atype := .int) (hts (.arrayClass .int) (by decide +kernel)) (Or.inl ⟨rfl, rfl⟩) hK hX hA ⟨by decide, by decide, by decide⟩ (fun i h1 h2 => by omega) rfl (n := 40) (by decide) (by decide) (by decide) (Nat.le_of_ble_eq_true rfl) (Nat.le_of_ble_eq_true rfl) dX9_init_396 (fun q H hX => ?_)
  refine pg_putF hx hb hts iX9 hown hK hX 43 (by decide) (hts (.fieldLink RX9 124 "PassageCourtModel" "many" "[I") (by decide +kernel)) (fun _ h9 => h9) rfl hin rfl (by decide +kernel) rfl rfl (ty := (.array .int)) (v := .ref (q 43)) (u1 := mV3) (nF1 := 44) (Nat.le_of_ble_eq_true rfl) rfl (fun i h9 => rfl) dX9_init_398 (fun H locs hX => ?_)
  refine lv_aload_n hx hb dX9_init_401 rfl (lv_at hl 0 rfl) ?_
  refine lv_bipush (v := 120) hx hb dX9_init_402 (by decide) ?_
  refine pg_new hx hb 44 (atype := .int) (hts (.arrayClass .int) (by decide +kernel)) (Or.inl ⟨rfl, rfl⟩) hK hX hA ⟨by decide, by decide, by decide⟩ (fun i h1 h2 => by omega) rfl (n := 120) (by decide) (by decide) (by decide) (Nat.le_of_ble_eq_true rfl) (Nat.le_of_ble_eq_true rfl) dX9_init_404 (fun q H hX => ?_)
  refine pg_putF hx hb hts iX9 hown hK hX 44 (by decide) (hts (.fieldLink RX9 127 "PassageCourtModel" "follower" "[I") (by decide +kernel)) (fun _ h9 => h9) rfl hin rfl (by decide +kernel) rfl rfl (ty := (.array .int)) (v := .ref (q 44)) (u1 := mV3) (nF1 := 45) (Nat.le_of_ble_eq_true rfl) rfl (fun i h9 => rfl) dX9_init_406 (fun H locs hX => ?_)
  have e0 : mV3 = mVL 0 := by funext a b; simp [mVL]
  rw [e0] at hX
  refine lv_iconst (v := 0) hx hb dX9_init_409 (by decide) ?_
  refine lv_istore_n (lv' := [(1, .int 0), (0, .ref h0)]) hx hb dX9_init_410 rfl hl (by decide) rfl (fun ls hl => ?_)
  have key : ∀ (k i : Nat) (x1 : Int32), i ≤ 128 → 129 ≤ i + k → x1 = nI i → ∀ (H : Heap) (locs : List Loc) (ls : Array Slot), pX D cI cZ h0 q (mVL i) 45 45 A s H locs → lv_has ls 2 [(1, .int x1), (0, .ref h0)] → W p l e ({ frames := 1, cells := 38, slots := 59354, locals := 12 } : Room) s m ([Value.ref h0].toArray) below meth c H locs 38 59354 (MQ below (va_Qv (S := Nat → Nat) (fun q => q 0 = h0) (fun q t => mw D cI cZ q mU0 t.heap ∧ mK D cI cZ t ∧ ∀ k, mlv k → A (q k)) A) ([Value.ref h0].toArray) s 38 59354 A) (F0 m 411 ls []) := by
    intro k
    induction k with
    | zero => intro i x1 h1 h2; omega
    | succ k ih =>
      intro i x1 h1 h2 e2 H locs ls hX hl
      refine lv_iload_n hx hb dX9_init_411 rfl (lv_at hl 0 rfl) ?_
      refine lv_sipush (v := 128) hx hb dX9_init_412 (by decide) ?_
      refine lv_icmp_ge (tgt := 438) hx hb dX9_init_415 (by decide) (fun c1 => ?_) (fun c1 => ?_)
      · rw [e2] at c1
        have hie : i = 128 := by have := (nI_leI (a := 128) (b := i) (by omega) (by omega)).mp c1; omega
        subst hie
        refine W.vret hx hb hr (fun t ht hW => ⟨⟨q, rfl, hX.1, ?_, va_K.moved hW.alike hK, fun k hk => ?_⟩, hX.2.2.2.2.2.F ht⟩) hX.2.2.2.2.2.2.2 dX9_init_438
        · rw [ht]
          refine ⟨fun k hk => ?_, fun k k' hk hk' he => hX.2.2.2.1 k k' (hk.imp id fun z => ⟨mlen_lt z, z⟩) (hk'.imp id fun z => ⟨mlen_lt z, z⟩) he⟩
          by_cases hk0 : k = 0
          · subst hk0
            rw [hX.1]
            exact hX.2.1
          · rcases hk with hk | hk
            · exact absurd hk hk0
            · have := hX.2.2.1 k (mlen_lt hk) hk
              unfold ment
              rw [if_neg hk0]
              exact this
        · exact hX.2.2.2.2.1 k (hk.imp id fun z => ⟨mlen_lt z, z⟩)
      · rw [e2] at c1
        have hlt : i < 128 := by
          rcases Nat.lt_or_ge i 128 with h | h
          · exact h
          · exact absurd ((nI_leI (a := 128) (b := i) (by omega) (by omega)).mpr h) c1
        have hin1 : vp_in x1 128 := by rw [e2]; exact vp_in_nI hlt (by omega)
        have hcl : x1.toNatClampNeg = i := by rw [e2]; exact nI_clamp (by omega)
        refine lv_aload_n hx hb dX9_init_418 rfl (lv_at hl 1 rfl) ?_
        refine pg_get hx hb hts iX9 hown hK hX 23 (by decide) (hts (.fieldLink RX9 70 "PassageCourtModel" "permitTo" "[I") (by decide +kernel)) (fun _ h9 => h9) rfl dX9_init_419 ?_
        refine lv_iload_n hx hb dX9_init_422 rfl (lv_at hl 0 rfl) ?_
        refine lv_iconst (v := -1) hx hb dX9_init_423 (by decide) ?_
        refine pg_ast hx hb hK hX 23 rfl ⟨by decide, by decide⟩ hin1 dX9_init_424 (fun H locs hX => ?_)
        refine lv_aload_n hx hb dX9_init_425 rfl (lv_at hl 1 rfl) ?_
        refine pg_get hx hb hts iX9 hown hK hX 25 (by decide) (hts (.fieldLink RX9 76 "PassageCourtModel" "banTo" "[I") (by decide +kernel)) (fun _ h9 => h9) rfl dX9_init_426 ?_
        refine lv_iload_n hx hb dX9_init_429 rfl (lv_at hl 0 rfl) ?_
        refine lv_iconst (v := -1) hx hb dX9_init_430 (by decide) ?_
        refine pg_ast hx hb hK hX 25 rfl ⟨by decide, by decide⟩ hin1 dX9_init_431 (fun H locs hX => ?_)
        rw [hcl, mVL_s] at hX
        refine lv_iinc (v := x1 + 1) (lv' := [(1, .int (x1 + 1)), (0, .ref h0)]) hx hb dX9_init_432 hl (k := 0) rfl rfl (by decide) rfl (fun ls hl => ?_)
        refine lv_goto (tgt := 411) hx hb dX9_init_435 (by decide) ?_
        exact ih (i + 1) (x1 + 1) hlt (by omega) (by rw [e2]; exact nI_1 i) H locs ls hX hl
  exact key 129 0 0 (Nat.zero_le _) (by omega) nI_0.symm _ _ ls hX hl
