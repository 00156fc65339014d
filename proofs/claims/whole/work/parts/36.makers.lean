/-! ===== constructors: worlds as lists of cells ===== -/
def kfill (n : Nat) (x : Int32) : Nat → Int32 := fun j => if j < n then x else 0
def kB : List Cond := [.methodLinkNest RX3 25 yX0_init RX8, .methodLinkNest RX3 32 yX2_init RX8]
def kN (U : State) : Prop := ∀ w ∈ kB, va_Nw w U
theorem kN.moved {s U : State} (hW : s.WarmedH U.vm) (h : kN s) : kN U := fun w hw => by
  have h1 := h w hw
  simp only [kB, List.mem_cons, List.not_mem_nil, or_false] at hw
  rcases hw with rfl | rfl
  · exact va_Nw.warmM hW h1
  · exact va_Nw.warmM hW h1
theorem kB_on : ∀ w ∈ kB, w.onTables = true := by decide +kernel
theorem kN.same {s U : State} (hv : s.vm = U.vm) (h : kN s) : kN U := fun w hw => va_Nw.same (u := s) (U := U) (kB_on w hw) hv (h w hw)
def kPre (D : va_G) (yI yO : ClassId) (ws : va_W) (sz : Nat) (U : State) : Prop := U.heap.size = sz ∧ va_P D vwCl ws U.heap ∧ cK D yI yO U ∧ va_D (fun _ => True) ws ∧ kN U
def kPost (D : va_G) (yI yO : ClassId) (ws : va_W) (A : Nat → Prop) (t : State) : Prop := va_P D vwCl ws t.heap ∧ cK D yI yO t ∧ va_D A ws
theorem kPre_blind (D : va_G) (yI yO : ClassId) (ws : va_W) (sz : Nat) (av : List Value) : FrameBlind (va_Pc av (kPre D yI yO ws sz)) := fun a U fr mk z => ⟨z.1, z.2.1, z.2.2.1, va_K.moved (u := U) (U := U.calling fr mk a) (Vm.Alike.refl U.vm) z.2.2.2.1, z.2.2.2.2.1, kN.same (s := U) (U := U.calling fr mk a) rfl z.2.2.2.2.2⟩
section KM
variable {p : Program} {l : Launch} {e : Env} {R : Room} {s : State} {m : MethodId} {args : Array Value} {below : List Frame} {meth : Method} {c : Code} {H : Heap} {locs : List Loc} {cells slots : Nat} {Q : State → Prop}
variable {cc : ByteArray} {pc : Nat} {ls : Array Slot} {rest : List Value} {D : va_G} {yI yO : ClassId} {A : Nat → Prop} {ws : va_W} {H0 : Heap}
theorem kg_newi (hx : p.tables.exec = Jvm.exec) (hb : c.code = cc) (harr : (Cond.arrayClass .int).before args s = true) (hK : cK D yI yO s) (hP : va_P D vwCl ws H) (hD : va_D A ws) (hS : va_S A H0 H locs) (hA : ∀ q, H0.size ≤ q → A q) {n : Int32} {N : Nat} (hn : ¬ n < 0) (hN : n.toNatClampNeg = N) (hbytes : N * 4 ≤ 536870912) (hcells : cells + 1 ≤ R.cells) (hslots : slots + N ≤ R.slots) (hdg : decode cc pc = .ok (.newarray .int, 2))
    (kk : ∀ (q : Nat) (H1 : Heap), va_P D vwCl (ws ++ [(q, .inl (yI, N, .inl (fun _ => 0)))]) H1 → va_D A (ws ++ [(q, .inl (yI, N, .inl (fun _ => 0)))]) → va_S A H0 H1 locs → W p l e R s m args below meth c H1 locs (cells + 1) (slots + N) Q (F0 m (pc + 2) ls (.ref q :: rest))) : W p l e R s m args below meth c H locs cells slots Q (F0 m pc ls (.int n :: rest)) := by
  refine va_newa (atype := .int) (ty := .int) (a0 := (N, .inl (fun _ => 0))) (N' := N) hx hb harr rfl hK hP hD hS hA (fun _ => rfl) hn hN hbytes hcells hslots hdg (fun q cA H1 hK1 hP1 hD1 hS1 => ?_)
  have e1 : s.vm.findClass ("[" ++ FieldType.int.toString) = some cA := (hK1.2 2 _ rfl).2
  have e2 : s.vm.findClass ("[" ++ FieldType.int.toString) = some yI := (hK.2 0 _ rfl).2
  have e3 : cA = yI := Option.some.inj (e1.symm.trans e2)
  subst e3
  exact kk q H1 hP1 hD1 hS1
end KM
def kfup (f : Nat → Int32) (i : Nat) (x : Int32) : Nat → Int32 := fun j => if j < i then x else f j
theorem kfup_s (f : Nat → Int32) (i : Nat) (x : Int32) : upd (kfup f i x) i x = kfup f (i + 1) x := by
  funext j
  simp only [upd, kfup]
  by_cases h : j = i
  · subst h; simp
  · by_cases h2 : j < i
    · rw [if_neg h, if_pos h2, if_pos (by omega)]
    · rw [if_neg h, if_neg h2, if_neg (by omega)]
set_option maxRecDepth 20000 in
theorem cK_fill (l : Launch) (D : va_G) (yI yO : ClassId) (a sz n : Nat) (hn : n < 2 ^ 31) (f : Nat → Int32) (x : Int32) : Met l yJ7_fill_53178 wsJ7_fill_53178 ({ frames := 0, cells := 0, slots := 0, locals := 0 }) (va_Pc [.ref a, .int x] (kPre D yI yO [(a, .inl (yI, n, .inl f))] sz)) (va_Qv (S := Nat → Nat) (fun _ => True) (fun _ t => kPost D yI yO [(a, .inl (yI, n, .inl (kfup f n x)))] (va_A [(a, .inl (yI, n, .inl f))] sz) t) (va_A [(a, .inl (yI, n, .inl f))] sz)) 0 0 (va_A [(a, .inl (yI, n, .inl f))] sz) := by
  refine Met.ofW (cc := cJ7_fill_53178) (maxL := 4) (ret := none) (by decide) rfl ?_
  intro p e s m args below meth c s₁ B hml hv
  obtain ⟨rfl, hsz, hP, hK, hD0, hkn⟩ := hv
  have hx := B.exec
  have hb := B.bytes
  have hr := B.returns
  have hlocks := B.notSynchronized
  subst hsz
  have hD := hD0.self (sz := s.heap.size)
  generalize hAe : va_A [(a, .inl (yI, n, .inl f))] s.heap.size = A at hD ⊢
  have hS : va_S A s.heap s.heap [] := va_S.rf
  have hP : va_P D vwCl [(a, .inl (yI, n, .inl (kfup f 0 x)))] s.heap := by
    have e1 : kfup f 0 x = f := by funext j; simp [kfup]
    rw [e1]; exact hP
  have hD : va_D A [(a, .inl (yI, n, .inl (kfup f 0 x)))] := by
    have e1 : kfup f 0 x = f := by funext j; simp [kfup]
    rw [e1]; exact hD
  have hl := lv_entry ([.ref a, .int x]) (n := 4) (Nat.le_of_ble_eq_true rfl)
  rw [lg_entry_eq]
  generalize (lg_sl ([.ref a, .int x]) ++ List.replicate (4 - (lg_sl ([.ref a, .int x])).length) Slot.unset).toArray = ls at hl ⊢
  have hl : lv_has ls 4 [(0, .ref a), (1, .int x)] := hl
  refine lv_iconst (v := 0) hx hb dJ7_fill_53178_0 (by decide) ?_
  refine lv_istore_n (lv' := [(2, .int 0), (0, .ref a), (1, .int x)]) hx hb dJ7_fill_53178_1 rfl hl (by decide) rfl (fun ls hl => ?_)
  refine lv_aload_n hx hb dJ7_fill_53178_2 rfl (lv_at hl 1 rfl) ?_
  refine va_alen (D := D) (cl := vwCl) (v := nI n) (ty := .int) hx hb hK hP 0 0 rfl rfl rfl dJ7_fill_53178_3 ?_
  refine lv_istore_n (lv' := [(3, .int (nI n)), (2, .int 0), (0, .ref a), (1, .int x)]) hx hb dJ7_fill_53178_4 rfl hl (by decide) rfl (fun ls hl => ?_)
  have key : ∀ (k i : Nat) (x2 : Int32), i ≤ n → n + 1 ≤ i + k → x2 = nI i → ∀ (H : Heap) (locs : List Loc) (ls : Array Slot), va_P D vwCl [(a, .inl (yI, n, .inl (kfup f i x)))] H → va_D A [(a, .inl (yI, n, .inl (kfup f i x)))] → va_S A s.heap H locs → lv_has ls 4 [(3, .int (nI n)), (2, .int x2), (0, .ref a), (1, .int x)] → W p l e ({ frames := 0, cells := 0, slots := 0, locals := 0 }) s m ([Value.ref a, .int x].toArray) below meth c H locs 0 0 (MQ below (va_Qv (S := Nat → Nat) (fun _ => True) (fun _ t => kPost D yI yO [(a, .inl (yI, n, .inl (kfup f n x)))] A t) A) ([Value.ref a, .int x].toArray) s 0 0 A) (F0 m 5 ls []) := by
    intro k
    induction k with
    | zero => intro i x2 h1 h2; omega
    | succ k ih =>
      intro i x2 h1 h2 e2 H locs ls hP hD hS hl
      refine lv_iload_n hx hb dJ7_fill_53178_5 rfl (lv_at hl 1 rfl) ?_
      refine lv_iload_n hx hb dJ7_fill_53178_6 rfl (lv_at hl 0 rfl) ?_
      refine lv_icmp_ge (tgt := 20) hx hb dJ7_fill_53178_7 (by decide) (fun c1 => ?_) (fun c1 => ?_)
      · rw [e2] at c1
        have hin : n ≤ i := (nI_leI hn (by omega)).mp c1
        have hie : i = n := by omega
        subst hie
        exact W.vret hx hb hr (fun t ht hW => ⟨⟨fun _ => 0, rfl, trivial, by rw [ht]; exact hP, va_K.moved hW.alike hK, hD⟩, hS.F ht⟩) hS.2.2 dJ7_fill_53178_20
      · rw [e2] at c1
        have hlt : i < n := by
          rcases Nat.lt_or_ge i n with h | h
          · exact h
          · exact absurd ((nI_leI hn (by omega)).mpr h) c1
        refine lv_aload_n hx hb dJ7_fill_53178_10 rfl (lv_at hl 2 rfl) ?_
        refine lv_iload_n hx hb dJ7_fill_53178_11 rfl (lv_at hl 1 rfl) ?_
        refine lv_iload_n hx hb dJ7_fill_53178_12 rfl (lv_at hl 3 rfl) ?_
        refine va_iast (D := D) (cl := vwCl) hx hb hK hP hD hS 0 0 rfl rfl (by rw [e2]; exact vp_in_nI hlt hn) dJ7_fill_53178_13 (fun H locs hP hD hS => ?_)
        have e3 : x2.toNatClampNeg = i := by rw [e2]; exact nI_clamp (by omega)
        rw [e3, kfup_s] at hP hD
        refine lv_iinc (v := x2 + 1) (lv' := [(2, .int (x2 + 1)), (3, .int (nI n)), (0, .ref a), (1, .int x)]) hx hb dJ7_fill_53178_14 hl (k := 1) rfl rfl (by decide) rfl (fun ls hl => ?_)
        refine lv_goto (tgt := 5) hx hb dJ7_fill_53178_17 (by decide) ?_
        exact ih (i + 1) (x2 + 1) hlt (by omega) (by rw [e2]; exact nI_1 i) H locs ls hP hD hS (lv_sub hl [1, 0, 2, 3] rfl)
  exact key (n + 1) 0 0 (Nat.zero_le _) (by omega) nI_0.symm _ _ ls hP hD hS (lv_sub hl [0, 1, 2, 3] rfl)
set_option maxRecDepth 20000 in
theorem cK_Row0 (l : Launch) (D : va_G) (yI yO : ClassId) (h0 sz n : Nat) (hn : n ≤ 4096 := by decide) : Met l yX5_init wsX5_init ({ frames := 1, cells := 1, slots := n, locals := 37 }) (va_Pc [.ref h0, .int (Int32.ofNat n), .int 0] (kPre D yI yO [(h0, .inr (6, [.null, .int 0]))] sz)) (va_Qv (S := Nat → Nat) (fun _ => True) (fun q t => kPost D yI yO [(h0, .inr (6, [.ref (q 0), .int 0])), (q 0, .inl (yI, n, .inl (kfill n 0)))] (va_A [(h0, .inr (6, [.null, .int 0]))] sz) t) (va_A [(h0, .inr (6, [.null, .int 0]))] sz)) 1 n (va_A [(h0, .inr (6, [.null, .int 0]))] sz) := by
  refine Met.ofW (cc := cX5_init) (maxL := 3) (ret := none) (by decide) rfl ?_
  intro p e s m args below meth c s₁ B hml hv
  obtain ⟨rfl, hsz, hP, hK, hD0, hkn⟩ := hv
  have hx := B.exec
  have hb := B.bytes
  have hr := B.returns
  have hts := atoms_spec (ws := wsX5_init) B.pre
  have hown : s.vm.findClass RX5 = some m.cls := findClass_of_methodNamed B.named
  have hlocks := B.notSynchronized
  have hin : meth.name = "<init>" := (name_of_methodNamed B.named B.method).1
  subst hsz
  have hD := hD0.self (sz := s.heap.size)
  generalize hAe : va_A [(h0, .inr (6, [.null, .int 0]))] s.heap.size = A at hD ⊢
  have hA : ∀ q : Nat, s.heap.size ≤ q → A q := fun q h => by rw [← hAe]; exact Or.inr h
  have hS : va_S A s.heap s.heap [] := va_S.rf
  have hl := lv_entry ([.ref h0, .int (Int32.ofNat n), .int 0]) (n := 3) (Nat.le_of_ble_eq_true rfl)
  rw [lg_entry_eq]
  generalize (lg_sl ([.ref h0, .int (Int32.ofNat n), .int 0]) ++ List.replicate (3 - (lg_sl ([.ref h0, .int (Int32.ofNat n), .int 0])).length) Slot.unset).toArray = ls at hl ⊢
  have hl : lv_has ls 3 [(0, .ref h0), (1, .int (Int32.ofNat n)), (2, .int 0)] := hl
  refine lv_aload_n hx hb dX5_init_0 rfl (lv_at hl 0 rfl) ?_
  refine W.objInit hx hb hown (hts (.methodLink RX5 1 objectInit) (by decide +kernel)) (hts (.instanceMethod objectInit) (by decide +kernel)) (hts (.code objectInit ⟨#[0xb1]⟩ 1 none) (by decide +kernel)) rfl (by rw [hml]; exact hl.1) rfl dX5_init_1 (Nat.le_of_ble_eq_true rfl) (Nat.le_of_ble_eq_true rfl) ?_
  refine W.eq (g2 := F0 m 4 ls []) rfl ?_
  refine lv_aload_n hx hb dX5_init_4 rfl (lv_at hl 0 rfl) ?_
  refine lv_iload_n hx hb dX5_init_5 rfl (lv_at hl 1 rfl) ?_
  have hpos : 0 ≤ Int32.ofNat n := nI_pos' (by omega)
  refine lv_if_ge (tgt := 13) hx hb dX5_init_6 (by decide) (fun _ => ?_) (fun c1 => absurd hpos c1)
  refine lv_iload_n hx hb dX5_init_13 rfl (lv_at hl 1 rfl) ?_
  refine kg_newi (N := n) hx hb (hts (.arrayClass .int) (by decide +kernel)) hK hP hD hS hA (nI_pos (by omega)) (nI_clamp (by omega)) (by omega) (Nat.le_refl _) (by show 0 + n ≤ n; omega) dX5_init_14 (fun q5 H hP hD hS => ?_)
  have hP : va_P D vwCl [(h0, .inr (6, [.null, .int 0])), (q5, .inl (yI, n, .inl (fun _ => 0)))] H := hP
  have hD : va_D A [(h0, .inr (6, [.null, .int 0])), (q5, .inl (yI, n, .inl (fun _ => 0)))] := hD
  refine va_putF (D := D) (ci := 6) (v := .ref q5) (ty := .array .int) (C := RX5) (T := TX5) (N := 2) hx hb hts (by decide +kernel) tyX5 tyX5_ok nmX5 hown hK hP hD hS 0 rfl rfl 0 (by decide) (hts (.fieldLink RX5 7 "PassageCourt$Row" "cells" "[I") (by decide +kernel)) (fun _ h9 => h9) rfl hin rfl (by decide +kernel) rfl rfl (Nat.le_of_ble_eq_true rfl) dX5_init_16 (fun H locs hP hD hS => ?_)
  have hP : va_P D vwCl [(h0, .inr (6, [.ref q5, .int 0])), (q5, .inl (yI, n, .inl (fun _ => 0)))] H := hP
  have hD : va_D A [(h0, .inr (6, [.ref q5, .int 0])), (q5, .inl (yI, n, .inl (fun _ => 0)))] := hD
  refine lv_aload_n hx hb dX5_init_19 rfl (lv_at hl 0 rfl) ?_
  refine lv_iload_n hx hb dX5_init_20 rfl (lv_at hl 2 rfl) ?_
  refine va_putF (D := D) (ci := 6) (v := .int 0) (ty := .int) (C := RX5) (T := TX5) (N := 2) hx hb hts (by decide +kernel) tyX5 tyX5_ok nmX5 hown hK hP hD hS 0 rfl rfl 1 (by decide) (hts (.fieldLink RX5 13 "PassageCourt$Row" "empty" "I") (by decide +kernel)) (fun _ h9 => h9) rfl hin rfl (by decide +kernel) rfl rfl (Nat.le_of_ble_eq_true rfl) dX5_init_21 (fun H locs hP hD hS => ?_)
  have hP : va_P D vwCl [(h0, .inr (6, [.ref q5, .int 0])), (q5, .inl (yI, n, .inl (fun _ => 0)))] H := hP
  have hD : va_D A [(h0, .inr (6, [.ref q5, .int 0])), (q5, .inl (yI, n, .inl (fun _ => 0)))] := hD
  refine lv_iload_n hx hb dX5_init_24 rfl (lv_at hl 2 rfl) ?_
  refine lv_if_eq (tgt := 36) hx hb dX5_init_25 (by decide) (fun _ => ?_) (fun c1 => absurd rfl c1)
  have ef : kfill n 0 = fun _ => 0 := by funext j; simp [kfill]
  rw [← ef] at hP hD
  refine W.widen (k := 1) (n := n) (Nat.le_refl _) (by omega) ?_
  exact W.vret hx hb hr (fun t ht hW => ⟨⟨fun _ => q5, rfl, trivial, by rw [ht]; exact hP, va_K.moved hW.alike hK, hD⟩, hS.F ht⟩) hS.2.2 dX5_init_36
set_option maxRecDepth 20000 in
theorem cK_RowF (l : Launch) (D : va_G) (yI yO : ClassId) (h0 sz n : Nat) (hn : n ≤ 4096 := by decide) : Met l yX5_init wsX5_init ({ frames := 1, cells := 1, slots := n, locals := 37 }) (va_Pc [.ref h0, .int (Int32.ofNat n), .int (-1)] (kPre D yI yO [(h0, .inr (6, [.null, .int 0]))] sz)) (va_Qv (S := Nat → Nat) (fun _ => True) (fun q t => kPost D yI yO [(h0, .inr (6, [.ref (q 0), .int ((-1))])), (q 0, .inl (yI, n, .inl (kfill n ((-1)))))] (va_A [(h0, .inr (6, [.null, .int 0]))] sz) t) (va_A [(h0, .inr (6, [.null, .int 0]))] sz)) 1 n (va_A [(h0, .inr (6, [.null, .int 0]))] sz) := by
  refine Met.ofW (cc := cX5_init) (maxL := 3) (ret := none) (by decide) rfl ?_
  intro p e s m args below meth c s₁ B hml hv
  obtain ⟨rfl, hsz, hP, hK, hD0, hkn⟩ := hv
  have hx := B.exec
  have hb := B.bytes
  have hr := B.returns
  have hts := atoms_spec (ws := wsX5_init) B.pre
  have hown : s.vm.findClass RX5 = some m.cls := findClass_of_methodNamed B.named
  have hlocks := B.notSynchronized
  have hin : meth.name = "<init>" := (name_of_methodNamed B.named B.method).1
  subst hsz
  have hD := hD0.self (sz := s.heap.size)
  generalize hAe : va_A [(h0, .inr (6, [.null, .int 0]))] s.heap.size = A at hD ⊢
  have hA : ∀ q : Nat, s.heap.size ≤ q → A q := fun q h => by rw [← hAe]; exact Or.inr h
  have hS : va_S A s.heap s.heap [] := va_S.rf
  have hl := lv_entry ([.ref h0, .int (Int32.ofNat n), .int (-1)]) (n := 3) (Nat.le_of_ble_eq_true rfl)
  rw [lg_entry_eq]
  generalize (lg_sl ([.ref h0, .int (Int32.ofNat n), .int (-1)]) ++ List.replicate (3 - (lg_sl ([.ref h0, .int (Int32.ofNat n), .int (-1)])).length) Slot.unset).toArray = ls at hl ⊢
  have hl : lv_has ls 3 [(0, .ref h0), (1, .int (Int32.ofNat n)), (2, .int (-1))] := hl
  refine lv_aload_n hx hb dX5_init_0 rfl (lv_at hl 0 rfl) ?_
  refine W.objInit hx hb hown (hts (.methodLink RX5 1 objectInit) (by decide +kernel)) (hts (.instanceMethod objectInit) (by decide +kernel)) (hts (.code objectInit ⟨#[0xb1]⟩ 1 none) (by decide +kernel)) rfl (by rw [hml]; exact hl.1) rfl dX5_init_1 (Nat.le_of_ble_eq_true rfl) (Nat.le_of_ble_eq_true rfl) ?_
  refine W.eq (g2 := F0 m 4 ls []) rfl ?_
  refine lv_aload_n hx hb dX5_init_4 rfl (lv_at hl 0 rfl) ?_
  refine lv_iload_n hx hb dX5_init_5 rfl (lv_at hl 1 rfl) ?_
  have hpos : 0 ≤ Int32.ofNat n := nI_pos' (by omega)
  refine lv_if_ge (tgt := 13) hx hb dX5_init_6 (by decide) (fun _ => ?_) (fun c1 => absurd hpos c1)
  refine lv_iload_n hx hb dX5_init_13 rfl (lv_at hl 1 rfl) ?_
  refine kg_newi (N := n) hx hb (hts (.arrayClass .int) (by decide +kernel)) hK hP hD hS hA (nI_pos (by omega)) (nI_clamp (by omega)) (by omega) (Nat.le_refl _) (by show 0 + n ≤ n; omega) dX5_init_14 (fun q5 H hP hD hS => ?_)
  have hP : va_P D vwCl [(h0, .inr (6, [.null, .int 0])), (q5, .inl (yI, n, .inl (fun _ => 0)))] H := hP
  have hD : va_D A [(h0, .inr (6, [.null, .int 0])), (q5, .inl (yI, n, .inl (fun _ => 0)))] := hD
  refine va_putF (D := D) (ci := 6) (v := .ref q5) (ty := .array .int) (C := RX5) (T := TX5) (N := 2) hx hb hts (by decide +kernel) tyX5 tyX5_ok nmX5 hown hK hP hD hS 0 rfl rfl 0 (by decide) (hts (.fieldLink RX5 7 "PassageCourt$Row" "cells" "[I") (by decide +kernel)) (fun _ h9 => h9) rfl hin rfl (by decide +kernel) rfl rfl (Nat.le_of_ble_eq_true rfl) dX5_init_16 (fun H locs hP hD hS => ?_)
  have hP : va_P D vwCl [(h0, .inr (6, [.ref q5, .int 0])), (q5, .inl (yI, n, .inl (fun _ => 0)))] H := hP
  have hD : va_D A [(h0, .inr (6, [.ref q5, .int 0])), (q5, .inl (yI, n, .inl (fun _ => 0)))] := hD
  refine lv_aload_n hx hb dX5_init_19 rfl (lv_at hl 0 rfl) ?_
  refine lv_iload_n hx hb dX5_init_20 rfl (lv_at hl 2 rfl) ?_
  refine va_putF (D := D) (ci := 6) (v := .int (-1)) (ty := .int) (C := RX5) (T := TX5) (N := 2) hx hb hts (by decide +kernel) tyX5 tyX5_ok nmX5 hown hK hP hD hS 0 rfl rfl 1 (by decide) (hts (.fieldLink RX5 13 "PassageCourt$Row" "empty" "I") (by decide +kernel)) (fun _ h9 => h9) rfl hin rfl (by decide +kernel) rfl rfl (Nat.le_of_ble_eq_true rfl) dX5_init_21 (fun H locs hP hD hS => ?_)
  have hP : va_P D vwCl [(h0, .inr (6, [.ref q5, .int (-1)])), (q5, .inl (yI, n, .inl (fun _ => 0)))] H := hP
  have hD : va_D A [(h0, .inr (6, [.ref q5, .int (-1)])), (q5, .inl (yI, n, .inl (fun _ => 0)))] := hD
  refine lv_iload_n hx hb dX5_init_24 rfl (lv_at hl 2 rfl) ?_
  refine lv_if_eq (tgt := 36) hx hb dX5_init_25 (by decide) (fun c1 => absurd c1 (by decide)) (fun _ => ?_)
  refine lv_aload_n hx hb dX5_init_28 rfl (lv_at hl 0 rfl) ?_
  refine va_get (D := D) (cl := vwCl) (ci := 6) (v := .ref q5) (C := RX5) (T := TX5) (N := 2) hx hb hts (by decide +kernel) hown hK hP 0 rfl rfl 0 (by decide) (hts (.fieldLink RX5 7 "PassageCourt$Row" "cells" "[I") (by decide +kernel)) (fun _ h9 => h9) rfl dX5_init_29 ?_
  refine lv_iload_n hx hb dX5_init_32 rfl (lv_at hl 2 rfl) ?_
  have hPc := hP.sub (ws' := [(q5, .inl (yI, n, .inl (fun _ => 0)))]) [1] rfl
  have hDc := hD.sub (ws' := [(q5, .inl (yI, n, .inl (fun _ => 0)))]) [1] (by decide) rfl
  have hFc := va_free (wc := [(q5, .inl (yI, n, .inl (fun _ => 0)))]) hD hS hA [1] rfl
  refine va_callv (va_runS (As := [.ref q5, .int (-1)]) (rest := []) ⟨hx, hb, hml, hown, hts⟩ (cK_fill l D yI yO q5 H.size n (by omega) (fun _ => 0) (-1)) (va_cwS 2 hts gX5_init_J7_fill_53178 rfl rfl rfl (by decide +kernel) ⟨Nat.le_of_ble_eq_true rfl, Nat.le_of_ble_eq_true rfl⟩) ⟨kPre_blind D yI yO _ _ _, fun U hU hW => ⟨rfl, by rw [hU], by rw [hU]; exact hPc, va_K.moved hW.alike hK, hDc.weaken (fun _ _ _ _ => trivial), hkn.moved hW⟩⟩ rfl rfl hl.1 rfl (lv_room (Nat.le_of_ble_eq_true rfl)) dX5_init_33 ⟨Nat.le_refl _, by show 0 + n + 0 ≤ n; omega⟩) hS (fun q _ h => hFc q h) hFc (fun u t H1 locs ht hvm _ hB hz1 hk1 hS => ?_)
  obtain ⟨hP1, hK1, hD1⟩ := hB
  rw [ht] at hP1
  have ef : kfup (fun _ => 0) n (-1) = kfill n (-1) := rfl
  rw [ef] at hP1 hD1
  obtain ⟨hP, hD⟩ := va_join (wr := [(h0, .inr (6, [.ref q5, .int (-1)]))]) (w1 := [(q5, .inl (yI, n, .inl (kfill n (-1))))]) hP hD [1] [0] rfl rfl (by decide) (by decide) hk1 hFc hP1 hD1
  generalize H1 = H at hP hS ⊢
  refine W.widen (k := 1) (n := n) (Nat.le_refl _) (by omega) ?_
  exact W.vret hx hb hr (fun t ht hW => ⟨⟨fun _ => q5, rfl, trivial, by rw [ht]; exact hP, va_K.moved hW.alike hK, hD⟩, hS.F ht⟩) hS.2.2 dX5_init_36
set_option maxRecDepth 20000 in
theorem cK_X6 (l : Launch) (D : va_G) (yI yO : ClassId) (h0 sz : Nat) (x1 : Int32) (x2 : Int32) (x3 : Int32) : Met l yX6_init wsX6_init ({ frames := 1, cells := 0, slots := 0, locals := 12 }) (va_Pc [.ref h0, .int x1, .int x2, .int x3] (kPre D yI yO [(h0, .inr (7, [.int 0, .int 0, .int 0]))] sz)) (va_Qv (S := Nat → Nat) (fun _ => True) (fun q t => kPost D yI yO [(h0, .inr (7, [.int x1, .int x2, .int x3]))] (va_A [(h0, .inr (7, [.int 0, .int 0, .int 0]))] sz) t) (va_A [(h0, .inr (7, [.int 0, .int 0, .int 0]))] sz)) 0 0 (va_A [(h0, .inr (7, [.int 0, .int 0, .int 0]))] sz) := by
  refine Met.ofW (cc := cX6_init) (maxL := 4) (ret := none) (by decide) rfl ?_
  intro p e s m args below meth c s₁ B hml hv
  obtain ⟨rfl, hsz, hP, hK, hD0, hkn⟩ := hv
  have hx := B.exec
  have hb := B.bytes
  have hr := B.returns
  have hts := atoms_spec (ws := wsX6_init) B.pre
  have hown : s.vm.findClass RX6 = some m.cls := findClass_of_methodNamed B.named
  have hlocks := B.notSynchronized
  have hin : meth.name = "<init>" := (name_of_methodNamed B.named B.method).1
  subst hsz
  have hD := hD0.self (sz := s.heap.size)
  generalize hAe : va_A [(h0, .inr (7, [.int 0, .int 0, .int 0]))] s.heap.size = A at hD ⊢
  have hA : ∀ q : Nat, s.heap.size ≤ q → A q := fun q h => by rw [← hAe]; exact Or.inr h
  have hS : va_S A s.heap s.heap [] := va_S.rf
  have hP : va_P D vwCl [(h0, .inr (7, [.int 0, .int 0, .int 0]))] s.heap := hP
  have hl := lv_entry ([.ref h0, .int x1, .int x2, .int x3]) (n := 4) (Nat.le_of_ble_eq_true rfl)
  rw [lg_entry_eq]
  generalize (lg_sl ([.ref h0, .int x1, .int x2, .int x3]) ++ List.replicate (4 - (lg_sl ([.ref h0, .int x1, .int x2, .int x3])).length) Slot.unset).toArray = ls at hl ⊢
  have hl : lv_has ls 4 [(0, .ref h0), (1, .int x1), (2, .int x2), (3, .int x3)] := hl
  refine lv_aload_n hx hb dX6_init_0 rfl (lv_at hl 0 rfl) ?_
  refine W.objInit hx hb hown (hts (.methodLink RX6 1 objectInit) (by decide +kernel)) (hts (.instanceMethod objectInit) (by decide +kernel)) (hts (.code objectInit ⟨#[0xb1]⟩ 1 none) (by decide +kernel)) rfl (by rw [hml]; exact hl.1) rfl dX6_init_1 (Nat.le_of_ble_eq_true rfl) (Nat.le_of_ble_eq_true rfl) ?_
  refine W.eq (g2 := F0 m 4 ls []) rfl ?_
  refine lv_aload_n hx hb dX6_init_4 rfl (lv_at hl 0 rfl) ?_
  refine lv_iload_n hx hb dX6_init_5 rfl (lv_at hl 1 rfl) ?_
  refine va_putF (D := D) (ci := 7) (v := .int x1) (ty := .int) (C := RX6) (T := TX6) (N := 3) hx hb hts (by decide +kernel) tyX6 tyX6_ok nmX6 hown hK hP hD hS 0 rfl rfl 0 (by decide) (hts (.fieldLink RX6 7 "PassageCourt$Rule" "from" "I") (by decide +kernel)) (fun _ h9 => h9) rfl hin rfl (by decide +kernel) rfl rfl (Nat.le_of_ble_eq_true rfl) dX6_init_6 (fun H locs hP hD hS => ?_)
  have hP : va_P D vwCl [(h0, .inr (7, [.int x1, .int 0, .int 0]))] H := hP
  have hD : va_D A [(h0, .inr (7, [.int x1, .int 0, .int 0]))] := hD
  refine lv_aload_n hx hb dX6_init_9 rfl (lv_at hl 0 rfl) ?_
  refine lv_iload_n hx hb dX6_init_10 rfl (lv_at hl 2 rfl) ?_
  refine va_putF (D := D) (ci := 7) (v := .int x2) (ty := .int) (C := RX6) (T := TX6) (N := 3) hx hb hts (by decide +kernel) tyX6 tyX6_ok nmX6 hown hK hP hD hS 0 rfl rfl 1 (by decide) (hts (.fieldLink RX6 13 "PassageCourt$Rule" "most" "I") (by decide +kernel)) (fun _ h9 => h9) rfl hin rfl (by decide +kernel) rfl rfl (Nat.le_of_ble_eq_true rfl) dX6_init_11 (fun H locs hP hD hS => ?_)
  have hP : va_P D vwCl [(h0, .inr (7, [.int x1, .int x2, .int 0]))] H := hP
  have hD : va_D A [(h0, .inr (7, [.int x1, .int x2, .int 0]))] := hD
  refine lv_aload_n hx hb dX6_init_14 rfl (lv_at hl 0 rfl) ?_
  refine lv_iload_n hx hb dX6_init_15 rfl (lv_at hl 3 rfl) ?_
  refine va_putF (D := D) (ci := 7) (v := .int x3) (ty := .int) (C := RX6) (T := TX6) (N := 3) hx hb hts (by decide +kernel) tyX6 tyX6_ok nmX6 hown hK hP hD hS 0 rfl rfl 2 (by decide) (hts (.fieldLink RX6 16 "PassageCourt$Rule" "window" "I") (by decide +kernel)) (fun _ h9 => h9) rfl hin rfl (by decide +kernel) rfl rfl (Nat.le_of_ble_eq_true rfl) dX6_init_16 (fun H locs hP hD hS => ?_)
  have hP : va_P D vwCl [(h0, .inr (7, [.int x1, .int x2, .int x3]))] H := hP
  have hD : va_D A [(h0, .inr (7, [.int x1, .int x2, .int x3]))] := hD
  have hP9 := hP.sub (ws' := [(h0, .inr (7, [.int x1, .int x2, .int x3]))]) [0] rfl
  have hD9 := hD.sub (ws' := [(h0, .inr (7, [.int x1, .int x2, .int x3]))]) [0] (by decide) rfl
  refine W.widen (k := 0) (n := 0) (Nat.le_of_ble_eq_true rfl) (Nat.le_of_ble_eq_true rfl) ?_
  exact W.vret hx hb hr (fun t ht hW => ⟨⟨fun _ => 0, rfl, trivial, by rw [ht]; exact hP9, va_K.moved hW.alike hK, hD9⟩, hS.F ht⟩) hS.2.2 dX6_init_19
set_option maxRecDepth 20000 in
theorem cK_X4 (l : Launch) (D : va_G) (yI yO : ClassId) (h0 sz : Nat) (x1 : Int32) (x2 : Int32) (x3 : Int32) (x4 : Int32) (x5 : Int32) : Met l yX4_init wsX4_init ({ frames := 1, cells := 0, slots := 0, locals := 12 }) (va_Pc [.ref h0, .int x1, .int x2, .int x3, .int x4, .int x5] (kPre D yI yO [(h0, .inr (5, [.int 0, .int 0, .int 0, .int 0, .int 0, .int 0, .int 0, .int 0]))] sz)) (va_Qv (S := Nat → Nat) (fun _ => True) (fun q t => kPost D yI yO [(h0, .inr (5, [.int x1, .int x2, .int x3, .int x4, .int x5, .int 0, .int 0, .int 0]))] (va_A [(h0, .inr (5, [.int 0, .int 0, .int 0, .int 0, .int 0, .int 0, .int 0, .int 0]))] sz) t) (va_A [(h0, .inr (5, [.int 0, .int 0, .int 0, .int 0, .int 0, .int 0, .int 0, .int 0]))] sz)) 0 0 (va_A [(h0, .inr (5, [.int 0, .int 0, .int 0, .int 0, .int 0, .int 0, .int 0, .int 0]))] sz) := by
  refine Met.ofW (cc := cX4_init) (maxL := 6) (ret := none) (by decide) rfl ?_
  intro p e s m args below meth c s₁ B hml hv
  obtain ⟨rfl, hsz, hP, hK, hD0, hkn⟩ := hv
  have hx := B.exec
  have hb := B.bytes
  have hr := B.returns
  have hts := atoms_spec (ws := wsX4_init) B.pre
  have hown : s.vm.findClass RX4 = some m.cls := findClass_of_methodNamed B.named
  have hlocks := B.notSynchronized
  have hin : meth.name = "<init>" := (name_of_methodNamed B.named B.method).1
  subst hsz
  have hD := hD0.self (sz := s.heap.size)
  generalize hAe : va_A [(h0, .inr (5, [.int 0, .int 0, .int 0, .int 0, .int 0, .int 0, .int 0, .int 0]))] s.heap.size = A at hD ⊢
  have hA : ∀ q : Nat, s.heap.size ≤ q → A q := fun q h => by rw [← hAe]; exact Or.inr h
  have hS : va_S A s.heap s.heap [] := va_S.rf
  have hP : va_P D vwCl [(h0, .inr (5, [.int 0, .int 0, .int 0, .int 0, .int 0, .int 0, .int 0, .int 0]))] s.heap := hP
  have hl := lv_entry ([.ref h0, .int x1, .int x2, .int x3, .int x4, .int x5]) (n := 6) (Nat.le_of_ble_eq_true rfl)
  rw [lg_entry_eq]
  generalize (lg_sl ([.ref h0, .int x1, .int x2, .int x3, .int x4, .int x5]) ++ List.replicate (6 - (lg_sl ([.ref h0, .int x1, .int x2, .int x3, .int x4, .int x5])).length) Slot.unset).toArray = ls at hl ⊢
  have hl : lv_has ls 6 [(0, .ref h0), (1, .int x1), (2, .int x2), (3, .int x3), (4, .int x4), (5, .int x5)] := hl
  refine lv_aload_n hx hb dX4_init_0 rfl (lv_at hl 0 rfl) ?_
  refine W.objInit hx hb hown (hts (.methodLink RX4 3 objectInit) (by decide +kernel)) (hts (.instanceMethod objectInit) (by decide +kernel)) (hts (.code objectInit ⟨#[0xb1]⟩ 1 none) (by decide +kernel)) rfl (by rw [hml]; exact hl.1) rfl dX4_init_1 (Nat.le_of_ble_eq_true rfl) (Nat.le_of_ble_eq_true rfl) ?_
  refine W.eq (g2 := F0 m 4 ls []) rfl ?_
  refine lv_aload_n hx hb dX4_init_4 rfl (lv_at hl 0 rfl) ?_
  refine lv_iconst (v := 0) hx hb dX4_init_5 (by decide) ?_
  refine va_put (D := D) (ci := 5) (v := .int 0) (ty := .int) (C := RX4) (T := TX4) (N := 8) hx hb hts (by decide +kernel) tyX4 tyX4_ok nmX4 hown hK hP hD hS 0 rfl rfl 5 (by decide) (hts (.fieldLink RX4 9 "PassageCourt$Request" "state" "I") (by decide +kernel)) (fun _ h9 => h9) rfl (by decide +kernel) rfl rfl (Nat.le_of_ble_eq_true rfl) dX4_init_6 (fun H locs hP hD hS => ?_)
  have hP : va_P D vwCl [(h0, .inr (5, [.int 0, .int 0, .int 0, .int 0, .int 0, .int 0, .int 0, .int 0]))] H := hP
  have hD : va_D A [(h0, .inr (5, [.int 0, .int 0, .int 0, .int 0, .int 0, .int 0, .int 0, .int 0]))] := hD
  refine lv_aload_n hx hb dX4_init_9 rfl (lv_at hl 0 rfl) ?_
  refine lv_iload_n hx hb dX4_init_10 rfl (lv_at hl 1 rfl) ?_
  refine va_putF (D := D) (ci := 5) (v := .int x1) (ty := .int) (C := RX4) (T := TX4) (N := 8) hx hb hts (by decide +kernel) tyX4 tyX4_ok nmX4 hown hK hP hD hS 0 rfl rfl 0 (by decide) (hts (.fieldLink RX4 15 "PassageCourt$Request" "number" "I") (by decide +kernel)) (fun _ h9 => h9) rfl hin rfl (by decide +kernel) rfl rfl (Nat.le_of_ble_eq_true rfl) dX4_init_11 (fun H locs hP hD hS => ?_)
  have hP : va_P D vwCl [(h0, .inr (5, [.int x1, .int 0, .int 0, .int 0, .int 0, .int 0, .int 0, .int 0]))] H := hP
  have hD : va_D A [(h0, .inr (5, [.int x1, .int 0, .int 0, .int 0, .int 0, .int 0, .int 0, .int 0]))] := hD
  refine lv_aload_n hx hb dX4_init_14 rfl (lv_at hl 0 rfl) ?_
  refine lv_iload_n hx hb dX4_init_15 rfl (lv_at hl 2 rfl) ?_
  refine va_putF (D := D) (ci := 5) (v := .int x2) (ty := .int) (C := RX4) (T := TX4) (N := 8) hx hb hts (by decide +kernel) tyX4 tyX4_ok nmX4 hown hK hP hD hS 0 rfl rfl 1 (by decide) (hts (.fieldLink RX4 18 "PassageCourt$Request" "person" "I") (by decide +kernel)) (fun _ h9 => h9) rfl hin rfl (by decide +kernel) rfl rfl (Nat.le_of_ble_eq_true rfl) dX4_init_16 (fun H locs hP hD hS => ?_)
  have hP : va_P D vwCl [(h0, .inr (5, [.int x1, .int x2, .int 0, .int 0, .int 0, .int 0, .int 0, .int 0]))] H := hP
  have hD : va_D A [(h0, .inr (5, [.int x1, .int x2, .int 0, .int 0, .int 0, .int 0, .int 0, .int 0]))] := hD
  refine lv_aload_n hx hb dX4_init_19 rfl (lv_at hl 0 rfl) ?_
  refine lv_iload_n hx hb dX4_init_20 rfl (lv_at hl 3 rfl) ?_
  refine va_putF (D := D) (ci := 5) (v := .int x3) (ty := .int) (C := RX4) (T := TX4) (N := 8) hx hb hts (by decide +kernel) tyX4 tyX4_ok nmX4 hown hK hP hD hS 0 rfl rfl 2 (by decide) (hts (.fieldLink RX4 21 "PassageCourt$Request" "land" "I") (by decide +kernel)) (fun _ h9 => h9) rfl hin rfl (by decide +kernel) rfl rfl (Nat.le_of_ble_eq_true rfl) dX4_init_21 (fun H locs hP hD hS => ?_)
  have hP : va_P D vwCl [(h0, .inr (5, [.int x1, .int x2, .int x3, .int 0, .int 0, .int 0, .int 0, .int 0]))] H := hP
  have hD : va_D A [(h0, .inr (5, [.int x1, .int x2, .int x3, .int 0, .int 0, .int 0, .int 0, .int 0]))] := hD
  refine lv_aload_n hx hb dX4_init_24 rfl (lv_at hl 0 rfl) ?_
  refine lv_iload hx hb dX4_init_25 (lv_at hl 4 rfl) ?_
  refine va_putF (D := D) (ci := 5) (v := .int x4) (ty := .int) (C := RX4) (T := TX4) (N := 8) hx hb hts (by decide +kernel) tyX4 tyX4_ok nmX4 hown hK hP hD hS 0 rfl rfl 3 (by decide) (hts (.fieldLink RX4 24 "PassageCourt$Request" "type" "I") (by decide +kernel)) (fun _ h9 => h9) rfl hin rfl (by decide +kernel) rfl rfl (Nat.le_of_ble_eq_true rfl) dX4_init_27 (fun H locs hP hD hS => ?_)
  have hP : va_P D vwCl [(h0, .inr (5, [.int x1, .int x2, .int x3, .int x4, .int 0, .int 0, .int 0, .int 0]))] H := hP
  have hD : va_D A [(h0, .inr (5, [.int x1, .int x2, .int x3, .int x4, .int 0, .int 0, .int 0, .int 0]))] := hD
  refine lv_aload_n hx hb dX4_init_30 rfl (lv_at hl 0 rfl) ?_
  refine lv_iload hx hb dX4_init_31 (lv_at hl 5 rfl) ?_
  refine va_putF (D := D) (ci := 5) (v := .int x5) (ty := .int) (C := RX4) (T := TX4) (N := 8) hx hb hts (by decide +kernel) tyX4 tyX4_ok nmX4 hown hK hP hD hS 0 rfl rfl 4 (by decide) (hts (.fieldLink RX4 27 "PassageCourt$Request" "date" "I") (by decide +kernel)) (fun _ h9 => h9) rfl hin rfl (by decide +kernel) rfl rfl (Nat.le_of_ble_eq_true rfl) dX4_init_33 (fun H locs hP hD hS => ?_)
  have hP : va_P D vwCl [(h0, .inr (5, [.int x1, .int x2, .int x3, .int x4, .int x5, .int 0, .int 0, .int 0]))] H := hP
  have hD : va_D A [(h0, .inr (5, [.int x1, .int x2, .int x3, .int x4, .int x5, .int 0, .int 0, .int 0]))] := hD
  have hP9 := hP.sub (ws' := [(h0, .inr (5, [.int x1, .int x2, .int x3, .int x4, .int x5, .int 0, .int 0, .int 0]))]) [0] rfl
  have hD9 := hD.sub (ws' := [(h0, .inr (5, [.int x1, .int x2, .int x3, .int x4, .int x5, .int 0, .int 0, .int 0]))]) [0] (by decide) rfl
  refine W.widen (k := 0) (n := 0) (Nat.le_of_ble_eq_true rfl) (Nat.le_of_ble_eq_true rfl) ?_
  exact W.vret hx hb hr (fun t ht hW => ⟨⟨fun _ => 0, rfl, trivial, by rw [ht]; exact hP9, va_K.moved hW.alike hK, hD9⟩, hS.F ht⟩) hS.2.2 dX4_init_36
set_option maxRecDepth 20000 in
theorem cK_X7 (l : Launch) (D : va_G) (yI yO : ClassId) (h0 sz : Nat) (x1 : Int32) (x2 : Int32) (r3 : Nat) (x4 : Int32) (x5 : Int32) : Met l yX7_init wsX7_init ({ frames := 1, cells := 0, slots := 0, locals := 12 }) (va_Pc [.ref h0, .int x1, .int x2, .ref r3, .int x4, .int x5] (kPre D yI yO [(h0, .inr (8, [.int 0, .int 0, .null, .int 0, .int 0, .int 0, .int 0, .int 0]))] sz)) (va_Qv (S := Nat → Nat) (fun _ => True) (fun q t => kPost D yI yO [(h0, .inr (8, [.int x1, .int x2, .ref r3, .int x4, .int x5, .int 0, .int 0, .int (-1)]))] (va_A [(h0, .inr (8, [.int 0, .int 0, .null, .int 0, .int 0, .int 0, .int 0, .int 0]))] sz) t) (va_A [(h0, .inr (8, [.int 0, .int 0, .null, .int 0, .int 0, .int 0, .int 0, .int 0]))] sz)) 0 0 (va_A [(h0, .inr (8, [.int 0, .int 0, .null, .int 0, .int 0, .int 0, .int 0, .int 0]))] sz) := by
  refine Met.ofW (cc := cX7_init) (maxL := 6) (ret := none) (by decide) rfl ?_
  intro p e s m args below meth c s₁ B hml hv
  obtain ⟨rfl, hsz, hP, hK, hD0, hkn⟩ := hv
  have hx := B.exec
  have hb := B.bytes
  have hr := B.returns
  have hts := atoms_spec (ws := wsX7_init) B.pre
  have hown : s.vm.findClass RX7 = some m.cls := findClass_of_methodNamed B.named
  have hlocks := B.notSynchronized
  have hin : meth.name = "<init>" := (name_of_methodNamed B.named B.method).1
  subst hsz
  have hD := hD0.self (sz := s.heap.size)
  generalize hAe : va_A [(h0, .inr (8, [.int 0, .int 0, .null, .int 0, .int 0, .int 0, .int 0, .int 0]))] s.heap.size = A at hD ⊢
  have hA : ∀ q : Nat, s.heap.size ≤ q → A q := fun q h => by rw [← hAe]; exact Or.inr h
  have hS : va_S A s.heap s.heap [] := va_S.rf
  have hP : va_P D vwCl [(h0, .inr (8, [.int 0, .int 0, .null, .int 0, .int 0, .int 0, .int 0, .int 0]))] s.heap := hP
  have hl := lv_entry ([.ref h0, .int x1, .int x2, .ref r3, .int x4, .int x5]) (n := 6) (Nat.le_of_ble_eq_true rfl)
  rw [lg_entry_eq]
  generalize (lg_sl ([.ref h0, .int x1, .int x2, .ref r3, .int x4, .int x5]) ++ List.replicate (6 - (lg_sl ([.ref h0, .int x1, .int x2, .ref r3, .int x4, .int x5])).length) Slot.unset).toArray = ls at hl ⊢
  have hl : lv_has ls 6 [(0, .ref h0), (1, .int x1), (2, .int x2), (3, .ref r3), (4, .int x4), (5, .int x5)] := hl
  refine lv_aload_n hx hb dX7_init_0 rfl (lv_at hl 0 rfl) ?_
  refine W.objInit hx hb hown (hts (.methodLink RX7 3 objectInit) (by decide +kernel)) (hts (.instanceMethod objectInit) (by decide +kernel)) (hts (.code objectInit ⟨#[0xb1]⟩ 1 none) (by decide +kernel)) rfl (by rw [hml]; exact hl.1) rfl dX7_init_1 (Nat.le_of_ble_eq_true rfl) (Nat.le_of_ble_eq_true rfl) ?_
  refine W.eq (g2 := F0 m 4 ls []) rfl ?_
  refine lv_aload_n hx hb dX7_init_4 rfl (lv_at hl 0 rfl) ?_
  refine lv_iconst (v := -1) hx hb dX7_init_5 (by decide) ?_
  refine va_put (D := D) (ci := 8) (v := .int ((-1))) (ty := .int) (C := RX7) (T := TX7) (N := 8) hx hb hts (by decide +kernel) tyX7 tyX7_ok nmX7 hown hK hP hD hS 0 rfl rfl 7 (by decide) (hts (.fieldLink RX7 9 "PassageCourt$Visa" "takenDay" "I") (by decide +kernel)) (fun _ h9 => h9) rfl (by decide +kernel) rfl rfl (Nat.le_of_ble_eq_true rfl) dX7_init_6 (fun H locs hP hD hS => ?_)
  have hP : va_P D vwCl [(h0, .inr (8, [.int 0, .int 0, .null, .int 0, .int 0, .int 0, .int 0, .int ((-1))]))] H := hP
  have hD : va_D A [(h0, .inr (8, [.int 0, .int 0, .null, .int 0, .int 0, .int 0, .int 0, .int ((-1))]))] := hD
  refine lv_aload_n hx hb dX7_init_9 rfl (lv_at hl 0 rfl) ?_
  refine lv_iload_n hx hb dX7_init_10 rfl (lv_at hl 1 rfl) ?_
  refine va_putF (D := D) (ci := 8) (v := .int x1) (ty := .int) (C := RX7) (T := TX7) (N := 8) hx hb hts (by decide +kernel) tyX7 tyX7_ok nmX7 hown hK hP hD hS 0 rfl rfl 0 (by decide) (hts (.fieldLink RX7 15 "PassageCourt$Visa" "number" "I") (by decide +kernel)) (fun _ h9 => h9) rfl hin rfl (by decide +kernel) rfl rfl (Nat.le_of_ble_eq_true rfl) dX7_init_11 (fun H locs hP hD hS => ?_)
  have hP : va_P D vwCl [(h0, .inr (8, [.int x1, .int 0, .null, .int 0, .int 0, .int 0, .int 0, .int ((-1))]))] H := hP
  have hD : va_D A [(h0, .inr (8, [.int x1, .int 0, .null, .int 0, .int 0, .int 0, .int 0, .int ((-1))]))] := hD
  refine lv_aload_n hx hb dX7_init_14 rfl (lv_at hl 0 rfl) ?_
  refine lv_iload_n hx hb dX7_init_15 rfl (lv_at hl 2 rfl) ?_
  refine va_putF (D := D) (ci := 8) (v := .int x2) (ty := .int) (C := RX7) (T := TX7) (N := 8) hx hb hts (by decide +kernel) tyX7 tyX7_ok nmX7 hown hK hP hD hS 0 rfl rfl 1 (by decide) (hts (.fieldLink RX7 18 "PassageCourt$Visa" "person" "I") (by decide +kernel)) (fun _ h9 => h9) rfl hin rfl (by decide +kernel) rfl rfl (Nat.le_of_ble_eq_true rfl) dX7_init_16 (fun H locs hP hD hS => ?_)
  have hP : va_P D vwCl [(h0, .inr (8, [.int x1, .int x2, .null, .int 0, .int 0, .int 0, .int 0, .int ((-1))]))] H := hP
  have hD : va_D A [(h0, .inr (8, [.int x1, .int x2, .null, .int 0, .int 0, .int 0, .int 0, .int ((-1))]))] := hD
  refine lv_aload_n hx hb dX7_init_19 rfl (lv_at hl 0 rfl) ?_
  refine lv_aload_n hx hb dX7_init_20 rfl (lv_at hl 3 rfl) ?_
  refine va_putF (D := D) (ci := 8) (v := .ref r3) (ty := .object "PassageCourt$Land") (C := RX7) (T := TX7) (N := 8) hx hb hts (by decide +kernel) tyX7 tyX7_ok nmX7 hown hK hP hD hS 0 rfl rfl 2 (by decide) (hts (.fieldLink RX7 21 "PassageCourt$Visa" "land" "LPassageCourt$Land;") (by decide +kernel)) (fun _ h9 => h9) rfl hin rfl (by decide +kernel) rfl rfl (Nat.le_of_ble_eq_true rfl) dX7_init_21 (fun H locs hP hD hS => ?_)
  have hP : va_P D vwCl [(h0, .inr (8, [.int x1, .int x2, .ref r3, .int 0, .int 0, .int 0, .int 0, .int ((-1))]))] H := hP
  have hD : va_D A [(h0, .inr (8, [.int x1, .int x2, .ref r3, .int 0, .int 0, .int 0, .int 0, .int ((-1))]))] := hD
  refine lv_aload_n hx hb dX7_init_24 rfl (lv_at hl 0 rfl) ?_
  refine lv_iload hx hb dX7_init_25 (lv_at hl 4 rfl) ?_
  refine va_putF (D := D) (ci := 8) (v := .int x4) (ty := .int) (C := RX7) (T := TX7) (N := 8) hx hb hts (by decide +kernel) tyX7 tyX7_ok nmX7 hown hK hP hD hS 0 rfl rfl 3 (by decide) (hts (.fieldLink RX7 25 "PassageCourt$Visa" "first" "I") (by decide +kernel)) (fun _ h9 => h9) rfl hin rfl (by decide +kernel) rfl rfl (Nat.le_of_ble_eq_true rfl) dX7_init_27 (fun H locs hP hD hS => ?_)
  have hP : va_P D vwCl [(h0, .inr (8, [.int x1, .int x2, .ref r3, .int x4, .int 0, .int 0, .int 0, .int ((-1))]))] H := hP
  have hD : va_D A [(h0, .inr (8, [.int x1, .int x2, .ref r3, .int x4, .int 0, .int 0, .int 0, .int ((-1))]))] := hD
  refine lv_aload_n hx hb dX7_init_30 rfl (lv_at hl 0 rfl) ?_
  refine lv_iload hx hb dX7_init_31 (lv_at hl 5 rfl) ?_
  refine va_putF (D := D) (ci := 8) (v := .int x5) (ty := .int) (C := RX7) (T := TX7) (N := 8) hx hb hts (by decide +kernel) tyX7 tyX7_ok nmX7 hown hK hP hD hS 0 rfl rfl 4 (by decide) (hts (.fieldLink RX7 28 "PassageCourt$Visa" "last" "I") (by decide +kernel)) (fun _ h9 => h9) rfl hin rfl (by decide +kernel) rfl rfl (Nat.le_of_ble_eq_true rfl) dX7_init_33 (fun H locs hP hD hS => ?_)
  have hP : va_P D vwCl [(h0, .inr (8, [.int x1, .int x2, .ref r3, .int x4, .int x5, .int 0, .int 0, .int ((-1))]))] H := hP
  have hD : va_D A [(h0, .inr (8, [.int x1, .int x2, .ref r3, .int x4, .int x5, .int 0, .int 0, .int ((-1))]))] := hD
  have hP9 := hP.sub (ws' := [(h0, .inr (8, [.int x1, .int x2, .ref r3, .int x4, .int x5, .int 0, .int 0, .int (-1)]))]) [0] rfl
  have hD9 := hD.sub (ws' := [(h0, .inr (8, [.int x1, .int x2, .ref r3, .int x4, .int x5, .int 0, .int 0, .int (-1)]))]) [0] (by decide) rfl
  refine W.widen (k := 0) (n := 0) (Nat.le_of_ble_eq_true rfl) (Nat.le_of_ble_eq_true rfl) ?_
  exact W.vret hx hb hr (fun t ht hW => ⟨⟨fun _ => 0, rfl, trivial, by rw [ht]; exact hP9, va_K.moved hW.alike hK, hD9⟩, hS.F ht⟩) hS.2.2 dX7_init_36
set_option maxRecDepth 20000 in
theorem cK_X1 (l : Launch) (D : va_G) (yI yO : ClassId) (h0 sz : Nat) (x1 : Int32) (x2 : Int32) (x3 : Int32) (x4 : Int32) (x5 : Int32) (hb_x2 : x2 = 0 ∨ x2 = 1) (hb_x3 : x3 = 0 ∨ x3 = 1) (hb_x4 : x4 = 0 ∨ x4 = 1) : Met l yX1_init wsX1_init ({ frames := 2, cells := 2, slots := 5, locals := 59 }) (va_Pc [.ref h0, .int x1, .int x2, .int x3, .int x4, .int x5] (kPre D yI yO [(h0, .inr (2, [.int 0, .int 0, .int 0, .int 0, .int 0, .null, .int 0]))] sz)) (va_Qv (S := Nat → Nat) (fun _ => True) (fun q t => kPost D yI yO [(h0, .inr (2, [.int x1, .int x2, .int x3, .int x4, .int x5, .ref (q 0), .int 0])), (q 0, .inr (6, [.ref (q 1), .int 0])), (q 1, .inl (yI, 3, .inl (kfill 3 0)))] (va_A [(h0, .inr (2, [.int 0, .int 0, .int 0, .int 0, .int 0, .null, .int 0]))] sz) t) (va_A [(h0, .inr (2, [.int 0, .int 0, .int 0, .int 0, .int 0, .null, .int 0]))] sz)) 2 5 (va_A [(h0, .inr (2, [.int 0, .int 0, .int 0, .int 0, .int 0, .null, .int 0]))] sz) := by
  refine Met.ofW (cc := cX1_init) (maxL := 6) (ret := none) (by decide) rfl ?_
  intro p e s m args below meth c s₁ B hml hv
  obtain ⟨rfl, hsz, hP, hK, hD0, hkn⟩ := hv
  have hx := B.exec
  have hb := B.bytes
  have hr := B.returns
  have hts := atoms_spec (ws := wsX1_init) B.pre
  have hown : s.vm.findClass RX1 = some m.cls := findClass_of_methodNamed B.named
  have hlocks := B.notSynchronized
  have hin : meth.name = "<init>" := (name_of_methodNamed B.named B.method).1
  subst hsz
  have hD := hD0.self (sz := s.heap.size)
  generalize hAe : va_A [(h0, .inr (2, [.int 0, .int 0, .int 0, .int 0, .int 0, .null, .int 0]))] s.heap.size = A at hD ⊢
  have hA : ∀ q : Nat, s.heap.size ≤ q → A q := fun q h => by rw [← hAe]; exact Or.inr h
  have hS : va_S A s.heap s.heap [] := va_S.rf
  have hP : va_P D vwCl [(h0, .inr (2, [.int 0, .int 0, .int 0, .int 0, .int 0, .null, .int 0]))] s.heap := hP
  have hl := lv_entry ([.ref h0, .int x1, .int x2, .int x3, .int x4, .int x5]) (n := 6) (Nat.le_of_ble_eq_true rfl)
  rw [lg_entry_eq]
  generalize (lg_sl ([.ref h0, .int x1, .int x2, .int x3, .int x4, .int x5]) ++ List.replicate (6 - (lg_sl ([.ref h0, .int x1, .int x2, .int x3, .int x4, .int x5])).length) Slot.unset).toArray = ls at hl ⊢
  have hl : lv_has ls 6 [(0, .ref h0), (1, .int x1), (2, .int x2), (3, .int x3), (4, .int x4), (5, .int x5)] := hl
  refine lv_aload_n hx hb dX1_init_0 rfl (lv_at hl 0 rfl) ?_
  refine W.objInit hx hb hown (hts (.methodLink RX1 3 objectInit) (by decide +kernel)) (hts (.instanceMethod objectInit) (by decide +kernel)) (hts (.code objectInit ⟨#[0xb1]⟩ 1 none) (by decide +kernel)) rfl (by rw [hml]; exact hl.1) rfl dX1_init_1 (Nat.le_of_ble_eq_true rfl) (Nat.le_of_ble_eq_true rfl) ?_
  refine W.eq (g2 := F0 m 4 ls []) rfl ?_
  refine lv_aload_n hx hb dX1_init_4 rfl (lv_at hl 0 rfl) ?_
  refine va_new (ci := 6) (fs := [.null, .int 0]) (C := RX5) (T := TX5) (N := 2) hx hb hts (by decide +kernel) tyX5 tyX5_ok hown (hts (.classLink RX1 9 RX5) (by decide +kernel)) (hts (.instantiable RX5 2) (by decide +kernel)) (hts (.initialized RX5) (by decide +kernel)) hK hP hD hS hA rfl (fun j hj => by rcases (show j = 0 ∨ j = 1 by omega) with rfl | rfl <;> rfl) (Nat.le_of_ble_eq_true rfl) (Nat.le_of_ble_eq_true rfl) dX1_init_5 (fun n1 H hP hD hS => ?_)
  have hP : va_P D vwCl [(h0, .inr (2, [.int 0, .int 0, .int 0, .int 0, .int 0, .null, .int 0])), (n1, .inr (6, [.null, .int 0]))] H := hP
  have hD : va_D A [(h0, .inr (2, [.int 0, .int 0, .int 0, .int 0, .int 0, .null, .int 0])), (n1, .inr (6, [.null, .int 0]))] := hD
  refine lv_dup hx hb dX1_init_8 rfl ?_
  refine lv_iconst (v := 3) hx hb dX1_init_9 (by decide) ?_
  refine lv_iconst (v := 0) hx hb dX1_init_10 (by decide) ?_
  have hPc := hP.sub (ws' := [(n1, .inr (6, [.null, .int 0]))]) [1] rfl
  have hDc := hD.sub (ws' := [(n1, .inr (6, [.null, .int 0]))]) [1] (by decide) rfl
  have hFc := va_free (wc := [(n1, .inr (6, [.null, .int 0]))]) hD hS hA [1] rfl
  refine va_callv (va_runI (As := [.int 3, .int 0]) (rest := [.ref n1, .ref h0]) ⟨hx, hb, hml, hown, hts⟩ (cK_Row0 l D yI yO n1 H.size 3) (cwI 2 hts gX1_init_X5_init rfl rfl rfl (hts (.initialized RX5) (by decide +kernel)) (hts (.methodLink RX1 11 yX5_init) (by decide +kernel)) (hts (.instanceMethod yX5_init) (by decide +kernel)) rfl (by decide +kernel) ⟨Nat.le_of_ble_eq_true rfl, Nat.le_of_ble_eq_true rfl⟩) ⟨kPre_blind D yI yO _ _ _, fun U hU hW => ⟨rfl, by rw [hU], by rw [hU]; exact hPc, va_K.moved hW.alike hK, hDc.weaken (fun _ _ _ _ => trivial), hkn.moved hW⟩⟩ rfl rfl hl.1 rfl (lv_room (Nat.le_of_ble_eq_true rfl)) dX1_init_11 ⟨Nat.le_of_ble_eq_true rfl, Nat.le_of_ble_eq_true rfl⟩) hS (fun q _ h => hFc q h) hFc (fun u2 t H1 locs ht hvm _ hB hz1 hk1 hS => ?_)
  obtain ⟨hP1, hK1, hD1⟩ := hB
  rw [ht] at hP1
  obtain ⟨hP, hD⟩ := va_join (wr := [(h0, .inr (2, [.int 0, .int 0, .int 0, .int 0, .int 0, .null, .int 0]))]) (w1 := [(n1, .inr (6, [.ref (u2 0), .int 0])), (u2 0, .inl (yI, 3, .inl (kfill 3 0)))]) hP hD [1] [0] rfl rfl (by decide) (by decide) hk1 hFc hP1 hD1
  generalize H1 = H at hP hS ⊢
  have hP : va_P D vwCl [(h0, .inr (2, [.int 0, .int 0, .int 0, .int 0, .int 0, .null, .int 0])), (n1, .inr (6, [.ref (u2 0), .int 0])), (u2 0, .inl (yI, 3, .inl (kfill 3 0)))] H := hP
  have hD : va_D A [(h0, .inr (2, [.int 0, .int 0, .int 0, .int 0, .int 0, .null, .int 0])), (n1, .inr (6, [.ref (u2 0), .int 0])), (u2 0, .inl (yI, 3, .inl (kfill 3 0)))] := hD
  refine va_putF (D := D) (ci := 2) (v := .ref n1) (ty := .object "PassageCourt$Row") (C := RX1) (T := TX1) (N := 7) hx hb hts (by decide +kernel) tyX1 tyX1_ok nmX1 hown hK hP hD hS 0 rfl rfl 5 (by decide) (hts (.fieldLink RX1 14 "PassageCourt$Land" "quotas" "LPassageCourt$Row;") (by decide +kernel)) (fun _ h9 => h9) rfl hin rfl (by decide +kernel) rfl rfl (Nat.le_of_ble_eq_true rfl) dX1_init_14 (fun H locs hP hD hS => ?_)
  have hP : va_P D vwCl [(h0, .inr (2, [.int 0, .int 0, .int 0, .int 0, .int 0, .ref n1, .int 0])), (n1, .inr (6, [.ref (u2 0), .int 0])), (u2 0, .inl (yI, 3, .inl (kfill 3 0)))] H := hP
  have hD : va_D A [(h0, .inr (2, [.int 0, .int 0, .int 0, .int 0, .int 0, .ref n1, .int 0])), (n1, .inr (6, [.ref (u2 0), .int 0])), (u2 0, .inl (yI, 3, .inl (kfill 3 0)))] := hD
  refine lv_aload_n hx hb dX1_init_17 rfl (lv_at hl 0 rfl) ?_
  refine lv_iload_n hx hb dX1_init_18 rfl (lv_at hl 1 rfl) ?_
  refine va_putF (D := D) (ci := 2) (v := .int x1) (ty := .int) (C := RX1) (T := TX1) (N := 7) hx hb hts (by decide +kernel) tyX1 tyX1_ok nmX1 hown hK hP hD hS 0 rfl rfl 0 (by decide) (hts (.fieldLink RX1 20 "PassageCourt$Land" "number" "I") (by decide +kernel)) (fun _ h9 => h9) rfl hin rfl (by decide +kernel) rfl rfl (Nat.le_of_ble_eq_true rfl) dX1_init_19 (fun H locs hP hD hS => ?_)
  have hP : va_P D vwCl [(h0, .inr (2, [.int x1, .int 0, .int 0, .int 0, .int 0, .ref n1, .int 0])), (n1, .inr (6, [.ref (u2 0), .int 0])), (u2 0, .inl (yI, 3, .inl (kfill 3 0)))] H := hP
  have hD : va_D A [(h0, .inr (2, [.int x1, .int 0, .int 0, .int 0, .int 0, .ref n1, .int 0])), (n1, .inr (6, [.ref (u2 0), .int 0])), (u2 0, .inl (yI, 3, .inl (kfill 3 0)))] := hD
  refine lv_aload_n hx hb dX1_init_22 rfl (lv_at hl 0 rfl) ?_
  refine lv_iload_n hx hb dX1_init_23 rfl (lv_at hl 2 rfl) ?_
  refine va_putF (D := D) (ci := 2) (v := .int x2) (ty := .boolean) (C := RX1) (T := TX1) (N := 7) hx hb hts (by decide +kernel) tyX1 tyX1_ok nmX1 hown hK hP hD hS 0 rfl rfl 1 (by decide) (hts (.fieldLink RX1 24 "PassageCourt$Land" "isInRegion" "Z") (by decide +kernel)) (fun _ h9 => h9) rfl hin rfl (by decide +kernel) (by rcases hb_x2 with e9 | e9 <;> rw [e9] <;> rfl) (by rcases hb_x2 with e9 | e9 <;> rw [e9] <;> rfl) (Nat.le_of_ble_eq_true rfl) dX1_init_24 (fun H locs hP hD hS => ?_)
  have hP : va_P D vwCl [(h0, .inr (2, [.int x1, .int x2, .int 0, .int 0, .int 0, .ref n1, .int 0])), (n1, .inr (6, [.ref (u2 0), .int 0])), (u2 0, .inl (yI, 3, .inl (kfill 3 0)))] H := hP
  have hD : va_D A [(h0, .inr (2, [.int x1, .int x2, .int 0, .int 0, .int 0, .ref n1, .int 0])), (n1, .inr (6, [.ref (u2 0), .int 0])), (u2 0, .inl (yI, 3, .inl (kfill 3 0)))] := hD
  refine lv_aload_n hx hb dX1_init_27 rfl (lv_at hl 0 rfl) ?_
  refine lv_iload_n hx hb dX1_init_28 rfl (lv_at hl 3 rfl) ?_
  refine va_putF (D := D) (ci := 2) (v := .int x3) (ty := .boolean) (C := RX1) (T := TX1) (N := 7) hx hb hts (by decide +kernel) tyX1 tyX1_ok nmX1 hown hK hP hD hS 0 rfl rfl 2 (by decide) (hts (.fieldLink RX1 28 "PassageCourt$Land" "bySoil" "Z") (by decide +kernel)) (fun _ h9 => h9) rfl hin rfl (by decide +kernel) (by rcases hb_x3 with e9 | e9 <;> rw [e9] <;> rfl) (by rcases hb_x3 with e9 | e9 <;> rw [e9] <;> rfl) (Nat.le_of_ble_eq_true rfl) dX1_init_29 (fun H locs hP hD hS => ?_)
  have hP : va_P D vwCl [(h0, .inr (2, [.int x1, .int x2, .int x3, .int 0, .int 0, .ref n1, .int 0])), (n1, .inr (6, [.ref (u2 0), .int 0])), (u2 0, .inl (yI, 3, .inl (kfill 3 0)))] H := hP
  have hD : va_D A [(h0, .inr (2, [.int x1, .int x2, .int x3, .int 0, .int 0, .ref n1, .int 0])), (n1, .inr (6, [.ref (u2 0), .int 0])), (u2 0, .inl (yI, 3, .inl (kfill 3 0)))] := hD
  refine lv_aload_n hx hb dX1_init_32 rfl (lv_at hl 0 rfl) ?_
  refine lv_iload hx hb dX1_init_33 (lv_at hl 4 rfl) ?_
  refine va_putF (D := D) (ci := 2) (v := .int x4) (ty := .boolean) (C := RX1) (T := TX1) (N := 7) hx hb hts (by decide +kernel) tyX1 tyX1_ok nmX1 hown hK hP hD hS 0 rfl rfl 3 (by decide) (hts (.fieldLink RX1 31 "PassageCourt$Land" "byDescent" "Z") (by decide +kernel)) (fun _ h9 => h9) rfl hin rfl (by decide +kernel) (by rcases hb_x4 with e9 | e9 <;> rw [e9] <;> rfl) (by rcases hb_x4 with e9 | e9 <;> rw [e9] <;> rfl) (Nat.le_of_ble_eq_true rfl) dX1_init_35 (fun H locs hP hD hS => ?_)
  have hP : va_P D vwCl [(h0, .inr (2, [.int x1, .int x2, .int x3, .int x4, .int 0, .ref n1, .int 0])), (n1, .inr (6, [.ref (u2 0), .int 0])), (u2 0, .inl (yI, 3, .inl (kfill 3 0)))] H := hP
  have hD : va_D A [(h0, .inr (2, [.int x1, .int x2, .int x3, .int x4, .int 0, .ref n1, .int 0])), (n1, .inr (6, [.ref (u2 0), .int 0])), (u2 0, .inl (yI, 3, .inl (kfill 3 0)))] := hD
  refine lv_aload_n hx hb dX1_init_38 rfl (lv_at hl 0 rfl) ?_
  refine lv_iload hx hb dX1_init_39 (lv_at hl 5 rfl) ?_
  refine va_putF (D := D) (ci := 2) (v := .int x5) (ty := .int) (C := RX1) (T := TX1) (N := 7) hx hb hts (by decide +kernel) tyX1 tyX1_ok nmX1 hown hK hP hD hS 0 rfl rfl 4 (by decide) (hts (.fieldLink RX1 34 "PassageCourt$Land" "late" "I") (by decide +kernel)) (fun _ h9 => h9) rfl hin rfl (by decide +kernel) rfl rfl (Nat.le_of_ble_eq_true rfl) dX1_init_41 (fun H locs hP hD hS => ?_)
  have hP : va_P D vwCl [(h0, .inr (2, [.int x1, .int x2, .int x3, .int x4, .int x5, .ref n1, .int 0])), (n1, .inr (6, [.ref (u2 0), .int 0])), (u2 0, .inl (yI, 3, .inl (kfill 3 0)))] H := hP
  have hD : va_D A [(h0, .inr (2, [.int x1, .int x2, .int x3, .int x4, .int x5, .ref n1, .int 0])), (n1, .inr (6, [.ref (u2 0), .int 0])), (u2 0, .inl (yI, 3, .inl (kfill 3 0)))] := hD
  have hP9 := hP.sub (ws' := [(h0, .inr (2, [.int x1, .int x2, .int x3, .int x4, .int x5, .ref n1, .int 0])), (n1, .inr (6, [.ref (u2 0), .int 0])), (u2 0, .inl (yI, 3, .inl (kfill 3 0)))]) [0, 1, 2] rfl
  have hD9 := hD.sub (ws' := [(h0, .inr (2, [.int x1, .int x2, .int x3, .int x4, .int x5, .ref n1, .int 0])), (n1, .inr (6, [.ref (u2 0), .int 0])), (u2 0, .inl (yI, 3, .inl (kfill 3 0)))]) [0, 1, 2] (by decide) rfl
  refine W.widen (k := 2) (n := 5) (Nat.le_of_ble_eq_true rfl) (Nat.le_of_ble_eq_true rfl) ?_
  exact W.vret hx hb hr (fun t ht hW => ⟨⟨fun z => match z with | 0 => n1 | 1 => u2 0 | _ => 0, rfl, trivial, by rw [ht]; exact hP9, va_K.moved hW.alike hK, hD9⟩, hS.F ht⟩) hS.2.2 dX1_init_44
set_option maxRecDepth 20000 in
theorem cK_X0 (l : Launch) (D : va_G) (yI yO : ClassId) (h0 sz : Nat)  : Met l yX0_init wsX0_init ({ frames := 2, cells := 6, slots := 30, locals := 59 }) (va_Pc [.ref h0] (kPre D yI yO [(h0, .inr (1, [.null, .null, .null]))] sz)) (va_Qv (S := Nat → Nat) (fun _ => True) (fun q t => kPost D yI yO [(h0, .inr (1, [.ref (q 0), .ref (q 2), .ref (q 4)])), (q 0, .inr (6, [.ref (q 1), .int ((-1))])), (q 1, .inl (yI, 8, .inl (kfill 8 ((-1))))), (q 2, .inr (6, [.ref (q 3), .int ((-1))])), (q 3, .inl (yI, 8, .inl (kfill 8 ((-1))))), (q 4, .inr (6, [.ref (q 5), .int ((-1))])), (q 5, .inl (yI, 8, .inl (kfill 8 ((-1)))))] (va_A [(h0, .inr (1, [.null, .null, .null]))] sz) t) (va_A [(h0, .inr (1, [.null, .null, .null]))] sz)) 6 30 (va_A [(h0, .inr (1, [.null, .null, .null]))] sz) := by
  refine Met.ofW (cc := cX0_init) (maxL := 1) (ret := none) (by decide) rfl ?_
  intro p e s m args below meth c s₁ B hml hv
  obtain ⟨rfl, hsz, hP, hK, hD0, hkn⟩ := hv
  have hx := B.exec
  have hb := B.bytes
  have hr := B.returns
  have hts := atoms_spec (ws := wsX0_init) B.pre
  have hown : s.vm.findClass RX0 = some m.cls := findClass_of_methodNamed B.named
  have hlocks := B.notSynchronized
  have hin : meth.name = "<init>" := (name_of_methodNamed B.named B.method).1
  subst hsz
  have hD := hD0.self (sz := s.heap.size)
  generalize hAe : va_A [(h0, .inr (1, [.null, .null, .null]))] s.heap.size = A at hD ⊢
  have hA : ∀ q : Nat, s.heap.size ≤ q → A q := fun q h => by rw [← hAe]; exact Or.inr h
  have hS : va_S A s.heap s.heap [] := va_S.rf
  have hP : va_P D vwCl [(h0, .inr (1, [.null, .null, .null]))] s.heap := hP
  have hl := lv_entry ([.ref h0]) (n := 1) (Nat.le_of_ble_eq_true rfl)
  rw [lg_entry_eq]
  generalize (lg_sl ([.ref h0]) ++ List.replicate (1 - (lg_sl ([.ref h0])).length) Slot.unset).toArray = ls at hl ⊢
  have hl : lv_has ls 1 [(0, .ref h0)] := hl
  refine lv_aload_n hx hb dX0_init_0 rfl (lv_at hl 0 rfl) ?_
  refine W.objInit hx hb hown (hts (.methodLink RX0 3 objectInit) (by decide +kernel)) (hts (.instanceMethod objectInit) (by decide +kernel)) (hts (.code objectInit ⟨#[0xb1]⟩ 1 none) (by decide +kernel)) rfl (by rw [hml]; exact hl.1) rfl dX0_init_1 (Nat.le_of_ble_eq_true rfl) (Nat.le_of_ble_eq_true rfl) ?_
  refine W.eq (g2 := F0 m 4 ls []) rfl ?_
  refine lv_aload_n hx hb dX0_init_4 rfl (lv_at hl 0 rfl) ?_
  refine va_new (ci := 6) (fs := [.null, .int 0]) (C := RX5) (T := TX5) (N := 2) hx hb hts (by decide +kernel) tyX5 tyX5_ok hown (hts (.classLink RX0 9 RX5) (by decide +kernel)) (hts (.instantiable RX5 2) (by decide +kernel)) (hts (.initialized RX5) (by decide +kernel)) hK hP hD hS hA rfl (fun j hj => by rcases (show j = 0 ∨ j = 1 by omega) with rfl | rfl <;> rfl) (Nat.le_of_ble_eq_true rfl) (Nat.le_of_ble_eq_true rfl) dX0_init_5 (fun n1 H hP hD hS => ?_)
  have hP : va_P D vwCl [(h0, .inr (1, [.null, .null, .null])), (n1, .inr (6, [.null, .int 0]))] H := hP
  have hD : va_D A [(h0, .inr (1, [.null, .null, .null])), (n1, .inr (6, [.null, .int 0]))] := hD
  refine lv_dup hx hb dX0_init_8 rfl ?_
  refine lv_bipush (v := 8) hx hb dX0_init_9 (by decide) ?_
  refine lv_iconst (v := -1) hx hb dX0_init_11 (by decide) ?_
  have hPc := hP.sub (ws' := [(n1, .inr (6, [.null, .int 0]))]) [1] rfl
  have hDc := hD.sub (ws' := [(n1, .inr (6, [.null, .int 0]))]) [1] (by decide) rfl
  have hFc := va_free (wc := [(n1, .inr (6, [.null, .int 0]))]) hD hS hA [1] rfl
  refine va_callv (va_runI (As := [.int 8, .int ((-1))]) (rest := [.ref n1, .ref h0]) ⟨hx, hb, hml, hown, hts⟩ (cK_RowF l D yI yO n1 H.size 8) (cwI 2 hts gX0_init_X5_init rfl rfl rfl (hts (.initialized RX5) (by decide +kernel)) (hts (.methodLink RX0 11 yX5_init) (by decide +kernel)) (hts (.instanceMethod yX5_init) (by decide +kernel)) rfl (by decide +kernel) ⟨Nat.le_of_ble_eq_true rfl, Nat.le_of_ble_eq_true rfl⟩) ⟨kPre_blind D yI yO _ _ _, fun U hU hW => ⟨rfl, by rw [hU], by rw [hU]; exact hPc, va_K.moved hW.alike hK, hDc.weaken (fun _ _ _ _ => trivial), hkn.moved hW⟩⟩ rfl rfl hl.1 rfl (lv_room (Nat.le_of_ble_eq_true rfl)) dX0_init_12 ⟨Nat.le_of_ble_eq_true rfl, Nat.le_of_ble_eq_true rfl⟩) hS (fun q _ h => hFc q h) hFc (fun u2 t H1 locs ht hvm _ hB hz1 hk1 hS => ?_)
  obtain ⟨hP1, hK1, hD1⟩ := hB
  rw [ht] at hP1
  obtain ⟨hP, hD⟩ := va_join (wr := [(h0, .inr (1, [.null, .null, .null]))]) (w1 := [(n1, .inr (6, [.ref (u2 0), .int ((-1))])), (u2 0, .inl (yI, 8, .inl (kfill 8 ((-1)))))]) hP hD [1] [0] rfl rfl (by decide) (by decide) hk1 hFc hP1 hD1
  generalize H1 = H at hP hS ⊢
  have hP : va_P D vwCl [(h0, .inr (1, [.null, .null, .null])), (n1, .inr (6, [.ref (u2 0), .int ((-1))])), (u2 0, .inl (yI, 8, .inl (kfill 8 ((-1)))))] H := hP
  have hD : va_D A [(h0, .inr (1, [.null, .null, .null])), (n1, .inr (6, [.ref (u2 0), .int ((-1))])), (u2 0, .inl (yI, 8, .inl (kfill 8 ((-1)))))] := hD
  refine va_putF (D := D) (ci := 1) (v := .ref n1) (ty := .object "PassageCourt$Row") (C := RX0) (T := TX0) (N := 3) hx hb hts (by decide +kernel) tyX0 tyX0_ok nmX0 hown hK hP hD hS 0 rfl rfl 0 (by decide) (hts (.fieldLink RX0 14 "PassageCourt$Bans" "first" "LPassageCourt$Row;") (by decide +kernel)) (fun _ h9 => h9) rfl hin rfl (by decide +kernel) rfl rfl (Nat.le_of_ble_eq_true rfl) dX0_init_15 (fun H locs hP hD hS => ?_)
  have hP : va_P D vwCl [(h0, .inr (1, [.ref n1, .null, .null])), (n1, .inr (6, [.ref (u2 0), .int ((-1))])), (u2 0, .inl (yI, 8, .inl (kfill 8 ((-1)))))] H := hP
  have hD : va_D A [(h0, .inr (1, [.ref n1, .null, .null])), (n1, .inr (6, [.ref (u2 0), .int ((-1))])), (u2 0, .inl (yI, 8, .inl (kfill 8 ((-1)))))] := hD
  refine lv_aload_n hx hb dX0_init_18 rfl (lv_at hl 0 rfl) ?_
  refine va_new (ci := 6) (fs := [.null, .int 0]) (C := RX5) (T := TX5) (N := 2) hx hb hts (by decide +kernel) tyX5 tyX5_ok hown (hts (.classLink RX0 9 RX5) (by decide +kernel)) (hts (.instantiable RX5 2) (by decide +kernel)) (hts (.initialized RX5) (by decide +kernel)) hK hP hD hS hA rfl (fun j hj => by rcases (show j = 0 ∨ j = 1 by omega) with rfl | rfl <;> rfl) (Nat.le_of_ble_eq_true rfl) (Nat.le_of_ble_eq_true rfl) dX0_init_19 (fun n3 H hP hD hS => ?_)
  have hP : va_P D vwCl [(h0, .inr (1, [.ref n1, .null, .null])), (n1, .inr (6, [.ref (u2 0), .int ((-1))])), (u2 0, .inl (yI, 8, .inl (kfill 8 ((-1))))), (n3, .inr (6, [.null, .int 0]))] H := hP
  have hD : va_D A [(h0, .inr (1, [.ref n1, .null, .null])), (n1, .inr (6, [.ref (u2 0), .int ((-1))])), (u2 0, .inl (yI, 8, .inl (kfill 8 ((-1))))), (n3, .inr (6, [.null, .int 0]))] := hD
  refine lv_dup hx hb dX0_init_22 rfl ?_
  refine lv_bipush (v := 8) hx hb dX0_init_23 (by decide) ?_
  refine lv_iconst (v := -1) hx hb dX0_init_25 (by decide) ?_
  have hPc := hP.sub (ws' := [(n3, .inr (6, [.null, .int 0]))]) [3] rfl
  have hDc := hD.sub (ws' := [(n3, .inr (6, [.null, .int 0]))]) [3] (by decide) rfl
  have hFc := va_free (wc := [(n3, .inr (6, [.null, .int 0]))]) hD hS hA [3] rfl
  refine va_callv (va_runI (As := [.int 8, .int ((-1))]) (rest := [.ref n3, .ref h0]) ⟨hx, hb, hml, hown, hts⟩ (cK_RowF l D yI yO n3 H.size 8) (cwI 2 hts gX0_init_X5_init rfl rfl rfl (hts (.initialized RX5) (by decide +kernel)) (hts (.methodLink RX0 11 yX5_init) (by decide +kernel)) (hts (.instanceMethod yX5_init) (by decide +kernel)) rfl (by decide +kernel) ⟨Nat.le_of_ble_eq_true rfl, Nat.le_of_ble_eq_true rfl⟩) ⟨kPre_blind D yI yO _ _ _, fun U hU hW => ⟨rfl, by rw [hU], by rw [hU]; exact hPc, va_K.moved hW.alike hK, hDc.weaken (fun _ _ _ _ => trivial), hkn.moved hW⟩⟩ rfl rfl hl.1 rfl (lv_room (Nat.le_of_ble_eq_true rfl)) dX0_init_26 ⟨Nat.le_of_ble_eq_true rfl, Nat.le_of_ble_eq_true rfl⟩) hS (fun q _ h => hFc q h) hFc (fun u4 t H1 locs ht hvm _ hB hz1 hk1 hS => ?_)
  obtain ⟨hP1, hK1, hD1⟩ := hB
  rw [ht] at hP1
  obtain ⟨hP, hD⟩ := va_join (wr := [(h0, .inr (1, [.ref n1, .null, .null])), (n1, .inr (6, [.ref (u2 0), .int ((-1))])), (u2 0, .inl (yI, 8, .inl (kfill 8 ((-1)))))]) (w1 := [(n3, .inr (6, [.ref (u4 0), .int ((-1))])), (u4 0, .inl (yI, 8, .inl (kfill 8 ((-1)))))]) hP hD [3] [0, 1, 2] rfl rfl (by decide) (by decide) hk1 hFc hP1 hD1
  generalize H1 = H at hP hS ⊢
  have hP : va_P D vwCl [(h0, .inr (1, [.ref n1, .null, .null])), (n1, .inr (6, [.ref (u2 0), .int ((-1))])), (u2 0, .inl (yI, 8, .inl (kfill 8 ((-1))))), (n3, .inr (6, [.ref (u4 0), .int ((-1))])), (u4 0, .inl (yI, 8, .inl (kfill 8 ((-1)))))] H := hP
  have hD : va_D A [(h0, .inr (1, [.ref n1, .null, .null])), (n1, .inr (6, [.ref (u2 0), .int ((-1))])), (u2 0, .inl (yI, 8, .inl (kfill 8 ((-1))))), (n3, .inr (6, [.ref (u4 0), .int ((-1))])), (u4 0, .inl (yI, 8, .inl (kfill 8 ((-1)))))] := hD
  refine va_putF (D := D) (ci := 1) (v := .ref n3) (ty := .object "PassageCourt$Row") (C := RX0) (T := TX0) (N := 3) hx hb hts (by decide +kernel) tyX0 tyX0_ok nmX0 hown hK hP hD hS 0 rfl rfl 1 (by decide) (hts (.fieldLink RX0 20 "PassageCourt$Bans" "last" "LPassageCourt$Row;") (by decide +kernel)) (fun _ h9 => h9) rfl hin rfl (by decide +kernel) rfl rfl (Nat.le_of_ble_eq_true rfl) dX0_init_29 (fun H locs hP hD hS => ?_)
  have hP : va_P D vwCl [(h0, .inr (1, [.ref n1, .ref n3, .null])), (n1, .inr (6, [.ref (u2 0), .int ((-1))])), (u2 0, .inl (yI, 8, .inl (kfill 8 ((-1))))), (n3, .inr (6, [.ref (u4 0), .int ((-1))])), (u4 0, .inl (yI, 8, .inl (kfill 8 ((-1)))))] H := hP
  have hD : va_D A [(h0, .inr (1, [.ref n1, .ref n3, .null])), (n1, .inr (6, [.ref (u2 0), .int ((-1))])), (u2 0, .inl (yI, 8, .inl (kfill 8 ((-1))))), (n3, .inr (6, [.ref (u4 0), .int ((-1))])), (u4 0, .inl (yI, 8, .inl (kfill 8 ((-1)))))] := hD
  refine lv_aload_n hx hb dX0_init_32 rfl (lv_at hl 0 rfl) ?_
  refine va_new (ci := 6) (fs := [.null, .int 0]) (C := RX5) (T := TX5) (N := 2) hx hb hts (by decide +kernel) tyX5 tyX5_ok hown (hts (.classLink RX0 9 RX5) (by decide +kernel)) (hts (.instantiable RX5 2) (by decide +kernel)) (hts (.initialized RX5) (by decide +kernel)) hK hP hD hS hA rfl (fun j hj => by rcases (show j = 0 ∨ j = 1 by omega) with rfl | rfl <;> rfl) (Nat.le_of_ble_eq_true rfl) (Nat.le_of_ble_eq_true rfl) dX0_init_33 (fun n5 H hP hD hS => ?_)
  have hP : va_P D vwCl [(h0, .inr (1, [.ref n1, .ref n3, .null])), (n1, .inr (6, [.ref (u2 0), .int ((-1))])), (u2 0, .inl (yI, 8, .inl (kfill 8 ((-1))))), (n3, .inr (6, [.ref (u4 0), .int ((-1))])), (u4 0, .inl (yI, 8, .inl (kfill 8 ((-1))))), (n5, .inr (6, [.null, .int 0]))] H := hP
  have hD : va_D A [(h0, .inr (1, [.ref n1, .ref n3, .null])), (n1, .inr (6, [.ref (u2 0), .int ((-1))])), (u2 0, .inl (yI, 8, .inl (kfill 8 ((-1))))), (n3, .inr (6, [.ref (u4 0), .int ((-1))])), (u4 0, .inl (yI, 8, .inl (kfill 8 ((-1))))), (n5, .inr (6, [.null, .int 0]))] := hD
  refine lv_dup hx hb dX0_init_36 rfl ?_
  refine lv_bipush (v := 8) hx hb dX0_init_37 (by decide) ?_
  refine lv_iconst (v := -1) hx hb dX0_init_39 (by decide) ?_
  have hPc := hP.sub (ws' := [(n5, .inr (6, [.null, .int 0]))]) [5] rfl
  have hDc := hD.sub (ws' := [(n5, .inr (6, [.null, .int 0]))]) [5] (by decide) rfl
  have hFc := va_free (wc := [(n5, .inr (6, [.null, .int 0]))]) hD hS hA [5] rfl
  refine va_callv (va_runI (As := [.int 8, .int ((-1))]) (rest := [.ref n5, .ref h0]) ⟨hx, hb, hml, hown, hts⟩ (cK_RowF l D yI yO n5 H.size 8) (cwI 2 hts gX0_init_X5_init rfl rfl rfl (hts (.initialized RX5) (by decide +kernel)) (hts (.methodLink RX0 11 yX5_init) (by decide +kernel)) (hts (.instanceMethod yX5_init) (by decide +kernel)) rfl (by decide +kernel) ⟨Nat.le_of_ble_eq_true rfl, Nat.le_of_ble_eq_true rfl⟩) ⟨kPre_blind D yI yO _ _ _, fun U hU hW => ⟨rfl, by rw [hU], by rw [hU]; exact hPc, va_K.moved hW.alike hK, hDc.weaken (fun _ _ _ _ => trivial), hkn.moved hW⟩⟩ rfl rfl hl.1 rfl (lv_room (Nat.le_of_ble_eq_true rfl)) dX0_init_40 ⟨Nat.le_of_ble_eq_true rfl, Nat.le_of_ble_eq_true rfl⟩) hS (fun q _ h => hFc q h) hFc (fun u6 t H1 locs ht hvm _ hB hz1 hk1 hS => ?_)
  obtain ⟨hP1, hK1, hD1⟩ := hB
  rw [ht] at hP1
  obtain ⟨hP, hD⟩ := va_join (wr := [(h0, .inr (1, [.ref n1, .ref n3, .null])), (n1, .inr (6, [.ref (u2 0), .int ((-1))])), (u2 0, .inl (yI, 8, .inl (kfill 8 ((-1))))), (n3, .inr (6, [.ref (u4 0), .int ((-1))])), (u4 0, .inl (yI, 8, .inl (kfill 8 ((-1)))))]) (w1 := [(n5, .inr (6, [.ref (u6 0), .int ((-1))])), (u6 0, .inl (yI, 8, .inl (kfill 8 ((-1)))))]) hP hD [5] [0, 1, 2, 3, 4] rfl rfl (by decide) (by decide) hk1 hFc hP1 hD1
  generalize H1 = H at hP hS ⊢
  have hP : va_P D vwCl [(h0, .inr (1, [.ref n1, .ref n3, .null])), (n1, .inr (6, [.ref (u2 0), .int ((-1))])), (u2 0, .inl (yI, 8, .inl (kfill 8 ((-1))))), (n3, .inr (6, [.ref (u4 0), .int ((-1))])), (u4 0, .inl (yI, 8, .inl (kfill 8 ((-1))))), (n5, .inr (6, [.ref (u6 0), .int ((-1))])), (u6 0, .inl (yI, 8, .inl (kfill 8 ((-1)))))] H := hP
  have hD : va_D A [(h0, .inr (1, [.ref n1, .ref n3, .null])), (n1, .inr (6, [.ref (u2 0), .int ((-1))])), (u2 0, .inl (yI, 8, .inl (kfill 8 ((-1))))), (n3, .inr (6, [.ref (u4 0), .int ((-1))])), (u4 0, .inl (yI, 8, .inl (kfill 8 ((-1))))), (n5, .inr (6, [.ref (u6 0), .int ((-1))])), (u6 0, .inl (yI, 8, .inl (kfill 8 ((-1)))))] := hD
  refine va_putF (D := D) (ci := 1) (v := .ref n5) (ty := .object "PassageCourt$Row") (C := RX0) (T := TX0) (N := 3) hx hb hts (by decide +kernel) tyX0 tyX0_ok nmX0 hown hK hP hD hS 0 rfl rfl 2 (by decide) (hts (.fieldLink RX0 23 "PassageCourt$Bans" "made" "LPassageCourt$Row;") (by decide +kernel)) (fun _ h9 => h9) rfl hin rfl (by decide +kernel) rfl rfl (Nat.le_of_ble_eq_true rfl) dX0_init_43 (fun H locs hP hD hS => ?_)
  have hP : va_P D vwCl [(h0, .inr (1, [.ref n1, .ref n3, .ref n5])), (n1, .inr (6, [.ref (u2 0), .int ((-1))])), (u2 0, .inl (yI, 8, .inl (kfill 8 ((-1))))), (n3, .inr (6, [.ref (u4 0), .int ((-1))])), (u4 0, .inl (yI, 8, .inl (kfill 8 ((-1))))), (n5, .inr (6, [.ref (u6 0), .int ((-1))])), (u6 0, .inl (yI, 8, .inl (kfill 8 ((-1)))))] H := hP
  have hD : va_D A [(h0, .inr (1, [.ref n1, .ref n3, .ref n5])), (n1, .inr (6, [.ref (u2 0), .int ((-1))])), (u2 0, .inl (yI, 8, .inl (kfill 8 ((-1))))), (n3, .inr (6, [.ref (u4 0), .int ((-1))])), (u4 0, .inl (yI, 8, .inl (kfill 8 ((-1))))), (n5, .inr (6, [.ref (u6 0), .int ((-1))])), (u6 0, .inl (yI, 8, .inl (kfill 8 ((-1)))))] := hD
  have hP9 := hP.sub (ws' := [(h0, .inr (1, [.ref n1, .ref n3, .ref n5])), (n1, .inr (6, [.ref (u2 0), .int ((-1))])), (u2 0, .inl (yI, 8, .inl (kfill 8 ((-1))))), (n3, .inr (6, [.ref (u4 0), .int ((-1))])), (u4 0, .inl (yI, 8, .inl (kfill 8 ((-1))))), (n5, .inr (6, [.ref (u6 0), .int ((-1))])), (u6 0, .inl (yI, 8, .inl (kfill 8 ((-1)))))]) [0, 1, 2, 3, 4, 5, 6] rfl
  have hD9 := hD.sub (ws' := [(h0, .inr (1, [.ref n1, .ref n3, .ref n5])), (n1, .inr (6, [.ref (u2 0), .int ((-1))])), (u2 0, .inl (yI, 8, .inl (kfill 8 ((-1))))), (n3, .inr (6, [.ref (u4 0), .int ((-1))])), (u4 0, .inl (yI, 8, .inl (kfill 8 ((-1))))), (n5, .inr (6, [.ref (u6 0), .int ((-1))])), (u6 0, .inl (yI, 8, .inl (kfill 8 ((-1)))))]) [0, 1, 2, 3, 4, 5, 6] (by decide) rfl
  refine W.widen (k := 6) (n := 30) (Nat.le_of_ble_eq_true rfl) (Nat.le_of_ble_eq_true rfl) ?_
  exact W.vret hx hb hr (fun t ht hW => ⟨⟨fun z => match z with | 0 => n1 | 1 => u2 0 | 2 => n3 | 3 => u4 0 | 4 => n5 | 5 => u6 0 | _ => 0, rfl, trivial, by rw [ht]; exact hP9, va_K.moved hW.alike hK, hD9⟩, hS.F ht⟩) hS.2.2 dX0_init_46
set_option maxRecDepth 20000 in
theorem cK_X2 (l : Launch) (D : va_G) (yI yO : ClassId) (h0 sz : Nat)  : Met l yX2_init wsX2_init ({ frames := 2, cells := 4, slots := 20, locals := 59 }) (va_Pc [.ref h0] (kPre D yI yO [(h0, .inr (3, [.null, .null]))] sz)) (va_Qv (S := Nat → Nat) (fun _ => True) (fun q t => kPost D yI yO [(h0, .inr (3, [.ref (q 0), .ref (q 2)])), (q 0, .inr (6, [.ref (q 1), .int ((-1))])), (q 1, .inl (yI, 8, .inl (kfill 8 ((-1))))), (q 2, .inr (6, [.ref (q 3), .int ((-1))])), (q 3, .inl (yI, 8, .inl (kfill 8 ((-1)))))] (va_A [(h0, .inr (3, [.null, .null]))] sz) t) (va_A [(h0, .inr (3, [.null, .null]))] sz)) 4 20 (va_A [(h0, .inr (3, [.null, .null]))] sz) := by
  refine Met.ofW (cc := cX2_init) (maxL := 1) (ret := none) (by decide) rfl ?_
  intro p e s m args below meth c s₁ B hml hv
  obtain ⟨rfl, hsz, hP, hK, hD0, hkn⟩ := hv
  have hx := B.exec
  have hb := B.bytes
  have hr := B.returns
  have hts := atoms_spec (ws := wsX2_init) B.pre
  have hown : s.vm.findClass RX2 = some m.cls := findClass_of_methodNamed B.named
  have hlocks := B.notSynchronized
  have hin : meth.name = "<init>" := (name_of_methodNamed B.named B.method).1
  subst hsz
  have hD := hD0.self (sz := s.heap.size)
  generalize hAe : va_A [(h0, .inr (3, [.null, .null]))] s.heap.size = A at hD ⊢
  have hA : ∀ q : Nat, s.heap.size ≤ q → A q := fun q h => by rw [← hAe]; exact Or.inr h
  have hS : va_S A s.heap s.heap [] := va_S.rf
  have hP : va_P D vwCl [(h0, .inr (3, [.null, .null]))] s.heap := hP
  have hl := lv_entry ([.ref h0]) (n := 1) (Nat.le_of_ble_eq_true rfl)
  rw [lg_entry_eq]
  generalize (lg_sl ([.ref h0]) ++ List.replicate (1 - (lg_sl ([.ref h0])).length) Slot.unset).toArray = ls at hl ⊢
  have hl : lv_has ls 1 [(0, .ref h0)] := hl
  refine lv_aload_n hx hb dX2_init_0 rfl (lv_at hl 0 rfl) ?_
  refine W.objInit hx hb hown (hts (.methodLink RX2 3 objectInit) (by decide +kernel)) (hts (.instanceMethod objectInit) (by decide +kernel)) (hts (.code objectInit ⟨#[0xb1]⟩ 1 none) (by decide +kernel)) rfl (by rw [hml]; exact hl.1) rfl dX2_init_1 (Nat.le_of_ble_eq_true rfl) (Nat.le_of_ble_eq_true rfl) ?_
  refine W.eq (g2 := F0 m 4 ls []) rfl ?_
  refine lv_aload_n hx hb dX2_init_4 rfl (lv_at hl 0 rfl) ?_
  refine va_new (ci := 6) (fs := [.null, .int 0]) (C := RX5) (T := TX5) (N := 2) hx hb hts (by decide +kernel) tyX5 tyX5_ok hown (hts (.classLink RX2 9 RX5) (by decide +kernel)) (hts (.instantiable RX5 2) (by decide +kernel)) (hts (.initialized RX5) (by decide +kernel)) hK hP hD hS hA rfl (fun j hj => by rcases (show j = 0 ∨ j = 1 by omega) with rfl | rfl <;> rfl) (Nat.le_of_ble_eq_true rfl) (Nat.le_of_ble_eq_true rfl) dX2_init_5 (fun n1 H hP hD hS => ?_)
  have hP : va_P D vwCl [(h0, .inr (3, [.null, .null])), (n1, .inr (6, [.null, .int 0]))] H := hP
  have hD : va_D A [(h0, .inr (3, [.null, .null])), (n1, .inr (6, [.null, .int 0]))] := hD
  refine lv_dup hx hb dX2_init_8 rfl ?_
  refine lv_bipush (v := 8) hx hb dX2_init_9 (by decide) ?_
  refine lv_iconst (v := -1) hx hb dX2_init_11 (by decide) ?_
  have hPc := hP.sub (ws' := [(n1, .inr (6, [.null, .int 0]))]) [1] rfl
  have hDc := hD.sub (ws' := [(n1, .inr (6, [.null, .int 0]))]) [1] (by decide) rfl
  have hFc := va_free (wc := [(n1, .inr (6, [.null, .int 0]))]) hD hS hA [1] rfl
  refine va_callv (va_runI (As := [.int 8, .int ((-1))]) (rest := [.ref n1, .ref h0]) ⟨hx, hb, hml, hown, hts⟩ (cK_RowF l D yI yO n1 H.size 8) (cwI 2 hts gX2_init_X5_init rfl rfl rfl (hts (.initialized RX5) (by decide +kernel)) (hts (.methodLink RX2 11 yX5_init) (by decide +kernel)) (hts (.instanceMethod yX5_init) (by decide +kernel)) rfl (by decide +kernel) ⟨Nat.le_of_ble_eq_true rfl, Nat.le_of_ble_eq_true rfl⟩) ⟨kPre_blind D yI yO _ _ _, fun U hU hW => ⟨rfl, by rw [hU], by rw [hU]; exact hPc, va_K.moved hW.alike hK, hDc.weaken (fun _ _ _ _ => trivial), hkn.moved hW⟩⟩ rfl rfl hl.1 rfl (lv_room (Nat.le_of_ble_eq_true rfl)) dX2_init_12 ⟨Nat.le_of_ble_eq_true rfl, Nat.le_of_ble_eq_true rfl⟩) hS (fun q _ h => hFc q h) hFc (fun u2 t H1 locs ht hvm _ hB hz1 hk1 hS => ?_)
  obtain ⟨hP1, hK1, hD1⟩ := hB
  rw [ht] at hP1
  obtain ⟨hP, hD⟩ := va_join (wr := [(h0, .inr (3, [.null, .null]))]) (w1 := [(n1, .inr (6, [.ref (u2 0), .int ((-1))])), (u2 0, .inl (yI, 8, .inl (kfill 8 ((-1)))))]) hP hD [1] [0] rfl rfl (by decide) (by decide) hk1 hFc hP1 hD1
  generalize H1 = H at hP hS ⊢
  have hP : va_P D vwCl [(h0, .inr (3, [.null, .null])), (n1, .inr (6, [.ref (u2 0), .int ((-1))])), (u2 0, .inl (yI, 8, .inl (kfill 8 ((-1)))))] H := hP
  have hD : va_D A [(h0, .inr (3, [.null, .null])), (n1, .inr (6, [.ref (u2 0), .int ((-1))])), (u2 0, .inl (yI, 8, .inl (kfill 8 ((-1)))))] := hD
  refine va_putF (D := D) (ci := 3) (v := .ref n1) (ty := .object "PassageCourt$Row") (C := RX2) (T := TX2) (N := 2) hx hb hts (by decide +kernel) tyX2 tyX2_ok nmX2 hown hK hP hD hS 0 rfl rfl 0 (by decide) (hts (.fieldLink RX2 14 "PassageCourt$Permits" "since" "LPassageCourt$Row;") (by decide +kernel)) (fun _ h9 => h9) rfl hin rfl (by decide +kernel) rfl rfl (Nat.le_of_ble_eq_true rfl) dX2_init_15 (fun H locs hP hD hS => ?_)
  have hP : va_P D vwCl [(h0, .inr (3, [.ref n1, .null])), (n1, .inr (6, [.ref (u2 0), .int ((-1))])), (u2 0, .inl (yI, 8, .inl (kfill 8 ((-1)))))] H := hP
  have hD : va_D A [(h0, .inr (3, [.ref n1, .null])), (n1, .inr (6, [.ref (u2 0), .int ((-1))])), (u2 0, .inl (yI, 8, .inl (kfill 8 ((-1)))))] := hD
  refine lv_aload_n hx hb dX2_init_18 rfl (lv_at hl 0 rfl) ?_
  refine va_new (ci := 6) (fs := [.null, .int 0]) (C := RX5) (T := TX5) (N := 2) hx hb hts (by decide +kernel) tyX5 tyX5_ok hown (hts (.classLink RX2 9 RX5) (by decide +kernel)) (hts (.instantiable RX5 2) (by decide +kernel)) (hts (.initialized RX5) (by decide +kernel)) hK hP hD hS hA rfl (fun j hj => by rcases (show j = 0 ∨ j = 1 by omega) with rfl | rfl <;> rfl) (Nat.le_of_ble_eq_true rfl) (Nat.le_of_ble_eq_true rfl) dX2_init_19 (fun n3 H hP hD hS => ?_)
  have hP : va_P D vwCl [(h0, .inr (3, [.ref n1, .null])), (n1, .inr (6, [.ref (u2 0), .int ((-1))])), (u2 0, .inl (yI, 8, .inl (kfill 8 ((-1))))), (n3, .inr (6, [.null, .int 0]))] H := hP
  have hD : va_D A [(h0, .inr (3, [.ref n1, .null])), (n1, .inr (6, [.ref (u2 0), .int ((-1))])), (u2 0, .inl (yI, 8, .inl (kfill 8 ((-1))))), (n3, .inr (6, [.null, .int 0]))] := hD
  refine lv_dup hx hb dX2_init_22 rfl ?_
  refine lv_bipush (v := 8) hx hb dX2_init_23 (by decide) ?_
  refine lv_iconst (v := -1) hx hb dX2_init_25 (by decide) ?_
  have hPc := hP.sub (ws' := [(n3, .inr (6, [.null, .int 0]))]) [3] rfl
  have hDc := hD.sub (ws' := [(n3, .inr (6, [.null, .int 0]))]) [3] (by decide) rfl
  have hFc := va_free (wc := [(n3, .inr (6, [.null, .int 0]))]) hD hS hA [3] rfl
  refine va_callv (va_runI (As := [.int 8, .int ((-1))]) (rest := [.ref n3, .ref h0]) ⟨hx, hb, hml, hown, hts⟩ (cK_RowF l D yI yO n3 H.size 8) (cwI 2 hts gX2_init_X5_init rfl rfl rfl (hts (.initialized RX5) (by decide +kernel)) (hts (.methodLink RX2 11 yX5_init) (by decide +kernel)) (hts (.instanceMethod yX5_init) (by decide +kernel)) rfl (by decide +kernel) ⟨Nat.le_of_ble_eq_true rfl, Nat.le_of_ble_eq_true rfl⟩) ⟨kPre_blind D yI yO _ _ _, fun U hU hW => ⟨rfl, by rw [hU], by rw [hU]; exact hPc, va_K.moved hW.alike hK, hDc.weaken (fun _ _ _ _ => trivial), hkn.moved hW⟩⟩ rfl rfl hl.1 rfl (lv_room (Nat.le_of_ble_eq_true rfl)) dX2_init_26 ⟨Nat.le_of_ble_eq_true rfl, Nat.le_of_ble_eq_true rfl⟩) hS (fun q _ h => hFc q h) hFc (fun u4 t H1 locs ht hvm _ hB hz1 hk1 hS => ?_)
  obtain ⟨hP1, hK1, hD1⟩ := hB
  rw [ht] at hP1
  obtain ⟨hP, hD⟩ := va_join (wr := [(h0, .inr (3, [.ref n1, .null])), (n1, .inr (6, [.ref (u2 0), .int ((-1))])), (u2 0, .inl (yI, 8, .inl (kfill 8 ((-1)))))]) (w1 := [(n3, .inr (6, [.ref (u4 0), .int ((-1))])), (u4 0, .inl (yI, 8, .inl (kfill 8 ((-1)))))]) hP hD [3] [0, 1, 2] rfl rfl (by decide) (by decide) hk1 hFc hP1 hD1
  generalize H1 = H at hP hS ⊢
  have hP : va_P D vwCl [(h0, .inr (3, [.ref n1, .null])), (n1, .inr (6, [.ref (u2 0), .int ((-1))])), (u2 0, .inl (yI, 8, .inl (kfill 8 ((-1))))), (n3, .inr (6, [.ref (u4 0), .int ((-1))])), (u4 0, .inl (yI, 8, .inl (kfill 8 ((-1)))))] H := hP
  have hD : va_D A [(h0, .inr (3, [.ref n1, .null])), (n1, .inr (6, [.ref (u2 0), .int ((-1))])), (u2 0, .inl (yI, 8, .inl (kfill 8 ((-1))))), (n3, .inr (6, [.ref (u4 0), .int ((-1))])), (u4 0, .inl (yI, 8, .inl (kfill 8 ((-1)))))] := hD
  refine va_putF (D := D) (ci := 3) (v := .ref n3) (ty := .object "PassageCourt$Row") (C := RX2) (T := TX2) (N := 2) hx hb hts (by decide +kernel) tyX2 tyX2_ok nmX2 hown hK hP hD hS 0 rfl rfl 1 (by decide) (hts (.fieldLink RX2 20 "PassageCourt$Permits" "last" "LPassageCourt$Row;") (by decide +kernel)) (fun _ h9 => h9) rfl hin rfl (by decide +kernel) rfl rfl (Nat.le_of_ble_eq_true rfl) dX2_init_29 (fun H locs hP hD hS => ?_)
  have hP : va_P D vwCl [(h0, .inr (3, [.ref n1, .ref n3])), (n1, .inr (6, [.ref (u2 0), .int ((-1))])), (u2 0, .inl (yI, 8, .inl (kfill 8 ((-1))))), (n3, .inr (6, [.ref (u4 0), .int ((-1))])), (u4 0, .inl (yI, 8, .inl (kfill 8 ((-1)))))] H := hP
  have hD : va_D A [(h0, .inr (3, [.ref n1, .ref n3])), (n1, .inr (6, [.ref (u2 0), .int ((-1))])), (u2 0, .inl (yI, 8, .inl (kfill 8 ((-1))))), (n3, .inr (6, [.ref (u4 0), .int ((-1))])), (u4 0, .inl (yI, 8, .inl (kfill 8 ((-1)))))] := hD
  have hP9 := hP.sub (ws' := [(h0, .inr (3, [.ref n1, .ref n3])), (n1, .inr (6, [.ref (u2 0), .int ((-1))])), (u2 0, .inl (yI, 8, .inl (kfill 8 ((-1))))), (n3, .inr (6, [.ref (u4 0), .int ((-1))])), (u4 0, .inl (yI, 8, .inl (kfill 8 ((-1)))))]) [0, 1, 2, 3, 4] rfl
  have hD9 := hD.sub (ws' := [(h0, .inr (3, [.ref n1, .ref n3])), (n1, .inr (6, [.ref (u2 0), .int ((-1))])), (u2 0, .inl (yI, 8, .inl (kfill 8 ((-1))))), (n3, .inr (6, [.ref (u4 0), .int ((-1))])), (u4 0, .inl (yI, 8, .inl (kfill 8 ((-1)))))]) [0, 1, 2, 3, 4] (by decide) rfl
  refine W.widen (k := 4) (n := 20) (Nat.le_of_ble_eq_true rfl) (Nat.le_of_ble_eq_true rfl) ?_
  exact W.vret hx hb hr (fun t ht hW => ⟨⟨fun z => match z with | 0 => n1 | 1 => u2 0 | 2 => n3 | 3 => u4 0 | _ => 0, rfl, trivial, by rw [ht]; exact hP9, va_K.moved hW.alike hK, hD9⟩, hS.F ht⟩) hS.2.2 dX2_init_32
set_option maxRecDepth 20000 in
theorem cK_X3 (l : Launch) (D : va_G) (yI yO : ClassId) (h0 sz : Nat) (x1 : Int32) (x2 : Int32) (x3 : Int32) (x4 : Int32) : Met l yX3_init wsX3_init ({ frames := 3, cells := 16, slots := 7261, locals := 79 }) (va_Pc [.ref h0, .int x1, .int x2, .int x3, .int x4] (kPre D yI yO [(h0, .inr (4, [.int 0, .int 0, .int 0, .int 0, .null, .null, .null, .null, .int 0, .null, .null, .int 0, .int 0]))] sz)) (va_Qv (S := Nat → Nat) (fun _ => True) (fun q t => kPost D yI yO [(h0, .inr (4, [.int x1, .int x2, .int x3, .int x4, .ref (q 0), .ref (q 2), .ref (q 4), .ref (q 11), .int 0, .null, .null, .int 0, .int 0])), (q 0, .inr (6, [.ref (q 1), .int 0])), (q 1, .inl (yI, 3601, .inl (kfill 3601 0))), (q 2, .inr (6, [.ref (q 3), .int 0])), (q 3, .inl (yI, 3601, .inl (kfill 3601 0))), (q 4, .inr (1, [.ref (q 5), .ref (q 7), .ref (q 9)])), (q 5, .inr (6, [.ref (q 6), .int ((-1))])), (q 6, .inl (yI, 8, .inl (kfill 8 ((-1))))), (q 7, .inr (6, [.ref (q 8), .int ((-1))])), (q 8, .inl (yI, 8, .inl (kfill 8 ((-1))))), (q 9, .inr (6, [.ref (q 10), .int ((-1))])), (q 10, .inl (yI, 8, .inl (kfill 8 ((-1))))), (q 11, .inr (3, [.ref (q 12), .ref (q 14)])), (q 12, .inr (6, [.ref (q 13), .int ((-1))])), (q 13, .inl (yI, 8, .inl (kfill 8 ((-1))))), (q 14, .inr (6, [.ref (q 15), .int ((-1))])), (q 15, .inl (yI, 8, .inl (kfill 8 ((-1)))))] (va_A [(h0, .inr (4, [.int 0, .int 0, .int 0, .int 0, .null, .null, .null, .null, .int 0, .null, .null, .int 0, .int 0]))] sz) t) (va_A [(h0, .inr (4, [.int 0, .int 0, .int 0, .int 0, .null, .null, .null, .null, .int 0, .null, .null, .int 0, .int 0]))] sz)) 16 7261 (va_A [(h0, .inr (4, [.int 0, .int 0, .int 0, .int 0, .null, .null, .null, .null, .int 0, .null, .null, .int 0, .int 0]))] sz) := by
  refine Met.ofW (cc := cX3_init) (maxL := 5) (ret := none) (by decide) rfl ?_
  intro p e s m args below meth c s₁ B hml hv
  obtain ⟨rfl, hsz, hP, hK, hD0, hkn⟩ := hv
  have hx := B.exec
  have hb := B.bytes
  have hr := B.returns
  have hts := atoms_spec (ws := wsX3_init) B.pre
  have hown : s.vm.findClass RX3 = some m.cls := findClass_of_methodNamed B.named
  have hlocks := B.notSynchronized
  have hin : meth.name = "<init>" := (name_of_methodNamed B.named B.method).1
  subst hsz
  have hD := hD0.self (sz := s.heap.size)
  generalize hAe : va_A [(h0, .inr (4, [.int 0, .int 0, .int 0, .int 0, .null, .null, .null, .null, .int 0, .null, .null, .int 0, .int 0]))] s.heap.size = A at hD ⊢
  have hA : ∀ q : Nat, s.heap.size ≤ q → A q := fun q h => by rw [← hAe]; exact Or.inr h
  have hS : va_S A s.heap s.heap [] := va_S.rf
  have hP : va_P D vwCl [(h0, .inr (4, [.int 0, .int 0, .int 0, .int 0, .null, .null, .null, .null, .int 0, .null, .null, .int 0, .int 0]))] s.heap := hP
  have hl := lv_entry ([.ref h0, .int x1, .int x2, .int x3, .int x4]) (n := 5) (Nat.le_of_ble_eq_true rfl)
  rw [lg_entry_eq]
  generalize (lg_sl ([.ref h0, .int x1, .int x2, .int x3, .int x4]) ++ List.replicate (5 - (lg_sl ([.ref h0, .int x1, .int x2, .int x3, .int x4])).length) Slot.unset).toArray = ls at hl ⊢
  have hl : lv_has ls 5 [(0, .ref h0), (1, .int x1), (2, .int x2), (3, .int x3), (4, .int x4)] := hl
  refine lv_aload_n hx hb dX3_init_0 rfl (lv_at hl 0 rfl) ?_
  refine W.objInit hx hb hown (hts (.methodLink RX3 3 objectInit) (by decide +kernel)) (hts (.instanceMethod objectInit) (by decide +kernel)) (hts (.code objectInit ⟨#[0xb1]⟩ 1 none) (by decide +kernel)) rfl (by rw [hml]; exact hl.1) rfl dX3_init_1 (Nat.le_of_ble_eq_true rfl) (Nat.le_of_ble_eq_true rfl) ?_
  refine W.eq (g2 := F0 m 4 ls []) rfl ?_
  refine lv_aload_n hx hb dX3_init_4 rfl (lv_at hl 0 rfl) ?_
  refine va_new (ci := 6) (fs := [.null, .int 0]) (C := RX5) (T := TX5) (N := 2) hx hb hts (by decide +kernel) tyX5 tyX5_ok hown (hts (.classLink RX3 9 RX5) (by decide +kernel)) (hts (.instantiable RX5 2) (by decide +kernel)) (hts (.initialized RX5) (by decide +kernel)) hK hP hD hS hA rfl (fun j hj => by rcases (show j = 0 ∨ j = 1 by omega) with rfl | rfl <;> rfl) (Nat.le_of_ble_eq_true rfl) (Nat.le_of_ble_eq_true rfl) dX3_init_5 (fun n1 H hP hD hS => ?_)
  have hP : va_P D vwCl [(h0, .inr (4, [.int 0, .int 0, .int 0, .int 0, .null, .null, .null, .null, .int 0, .null, .null, .int 0, .int 0])), (n1, .inr (6, [.null, .int 0]))] H := hP
  have hD : va_D A [(h0, .inr (4, [.int 0, .int 0, .int 0, .int 0, .null, .null, .null, .null, .int 0, .null, .null, .int 0, .int 0])), (n1, .inr (6, [.null, .int 0]))] := hD
  refine lv_dup hx hb dX3_init_8 rfl ?_
  refine lv_sipush (v := 3601) hx hb dX3_init_9 (by decide) ?_
  refine lv_iconst (v := 0) hx hb dX3_init_12 (by decide) ?_
  have hPc := hP.sub (ws' := [(n1, .inr (6, [.null, .int 0]))]) [1] rfl
  have hDc := hD.sub (ws' := [(n1, .inr (6, [.null, .int 0]))]) [1] (by decide) rfl
  have hFc := va_free (wc := [(n1, .inr (6, [.null, .int 0]))]) hD hS hA [1] rfl
  refine va_callv (va_runI (As := [.int 3601, .int 0]) (rest := [.ref n1, .ref h0]) ⟨hx, hb, hml, hown, hts⟩ (cK_Row0 l D yI yO n1 H.size 3601) (cwI 2 hts gX3_init_X5_init rfl rfl rfl (hts (.initialized RX5) (by decide +kernel)) (hts (.methodLink RX3 11 yX5_init) (by decide +kernel)) (hts (.instanceMethod yX5_init) (by decide +kernel)) rfl (by decide +kernel) ⟨Nat.le_of_ble_eq_true rfl, Nat.le_of_ble_eq_true rfl⟩) ⟨kPre_blind D yI yO _ _ _, fun U hU hW => ⟨rfl, by rw [hU], by rw [hU]; exact hPc, va_K.moved hW.alike hK, hDc.weaken (fun _ _ _ _ => trivial), hkn.moved hW⟩⟩ rfl rfl hl.1 rfl (lv_room (Nat.le_of_ble_eq_true rfl)) dX3_init_13 ⟨Nat.le_of_ble_eq_true rfl, Nat.le_of_ble_eq_true rfl⟩) hS (fun q _ h => hFc q h) hFc (fun u2 t H1 locs ht hvm _ hB hz1 hk1 hS => ?_)
  obtain ⟨hP1, hK1, hD1⟩ := hB
  rw [ht] at hP1
  obtain ⟨hP, hD⟩ := va_join (wr := [(h0, .inr (4, [.int 0, .int 0, .int 0, .int 0, .null, .null, .null, .null, .int 0, .null, .null, .int 0, .int 0]))]) (w1 := [(n1, .inr (6, [.ref (u2 0), .int 0])), (u2 0, .inl (yI, 3601, .inl (kfill 3601 0)))]) hP hD [1] [0] rfl rfl (by decide) (by decide) hk1 hFc hP1 hD1
  generalize H1 = H at hP hS ⊢
  have hP : va_P D vwCl [(h0, .inr (4, [.int 0, .int 0, .int 0, .int 0, .null, .null, .null, .null, .int 0, .null, .null, .int 0, .int 0])), (n1, .inr (6, [.ref (u2 0), .int 0])), (u2 0, .inl (yI, 3601, .inl (kfill 3601 0)))] H := hP
  have hD : va_D A [(h0, .inr (4, [.int 0, .int 0, .int 0, .int 0, .null, .null, .null, .null, .int 0, .null, .null, .int 0, .int 0])), (n1, .inr (6, [.ref (u2 0), .int 0])), (u2 0, .inl (yI, 3601, .inl (kfill 3601 0)))] := hD
  refine va_putF (D := D) (ci := 4) (v := .ref n1) (ty := .object "PassageCourt$Row") (C := RX3) (T := TX3) (N := 13) hx hb hts (by decide +kernel) tyX3 tyX3_ok nmX3 hown hK hP hD hS 0 rfl rfl 4 (by decide) (hts (.fieldLink RX3 14 "PassageCourt$Person" "days" "LPassageCourt$Row;") (by decide +kernel)) (fun _ h9 => h9) rfl hin rfl (by decide +kernel) rfl rfl (Nat.le_of_ble_eq_true rfl) dX3_init_16 (fun H locs hP hD hS => ?_)
  have hP : va_P D vwCl [(h0, .inr (4, [.int 0, .int 0, .int 0, .int 0, .ref n1, .null, .null, .null, .int 0, .null, .null, .int 0, .int 0])), (n1, .inr (6, [.ref (u2 0), .int 0])), (u2 0, .inl (yI, 3601, .inl (kfill 3601 0)))] H := hP
  have hD : va_D A [(h0, .inr (4, [.int 0, .int 0, .int 0, .int 0, .ref n1, .null, .null, .null, .int 0, .null, .null, .int 0, .int 0])), (n1, .inr (6, [.ref (u2 0), .int 0])), (u2 0, .inl (yI, 3601, .inl (kfill 3601 0)))] := hD
  refine lv_aload_n hx hb dX3_init_19 rfl (lv_at hl 0 rfl) ?_
  refine va_new (ci := 6) (fs := [.null, .int 0]) (C := RX5) (T := TX5) (N := 2) hx hb hts (by decide +kernel) tyX5 tyX5_ok hown (hts (.classLink RX3 9 RX5) (by decide +kernel)) (hts (.instantiable RX5 2) (by decide +kernel)) (hts (.initialized RX5) (by decide +kernel)) hK hP hD hS hA rfl (fun j hj => by rcases (show j = 0 ∨ j = 1 by omega) with rfl | rfl <;> rfl) (Nat.le_of_ble_eq_true rfl) (Nat.le_of_ble_eq_true rfl) dX3_init_20 (fun n3 H hP hD hS => ?_)
  have hP : va_P D vwCl [(h0, .inr (4, [.int 0, .int 0, .int 0, .int 0, .ref n1, .null, .null, .null, .int 0, .null, .null, .int 0, .int 0])), (n1, .inr (6, [.ref (u2 0), .int 0])), (u2 0, .inl (yI, 3601, .inl (kfill 3601 0))), (n3, .inr (6, [.null, .int 0]))] H := hP
  have hD : va_D A [(h0, .inr (4, [.int 0, .int 0, .int 0, .int 0, .ref n1, .null, .null, .null, .int 0, .null, .null, .int 0, .int 0])), (n1, .inr (6, [.ref (u2 0), .int 0])), (u2 0, .inl (yI, 3601, .inl (kfill 3601 0))), (n3, .inr (6, [.null, .int 0]))] := hD
  refine lv_dup hx hb dX3_init_23 rfl ?_
  refine lv_sipush (v := 3601) hx hb dX3_init_24 (by decide) ?_
  refine lv_iconst (v := 0) hx hb dX3_init_27 (by decide) ?_
  have hPc := hP.sub (ws' := [(n3, .inr (6, [.null, .int 0]))]) [3] rfl
  have hDc := hD.sub (ws' := [(n3, .inr (6, [.null, .int 0]))]) [3] (by decide) rfl
  have hFc := va_free (wc := [(n3, .inr (6, [.null, .int 0]))]) hD hS hA [3] rfl
  refine va_callv (va_runI (As := [.int 3601, .int 0]) (rest := [.ref n3, .ref h0]) ⟨hx, hb, hml, hown, hts⟩ (cK_Row0 l D yI yO n3 H.size 3601) (cwI 2 hts gX3_init_X5_init rfl rfl rfl (hts (.initialized RX5) (by decide +kernel)) (hts (.methodLink RX3 11 yX5_init) (by decide +kernel)) (hts (.instanceMethod yX5_init) (by decide +kernel)) rfl (by decide +kernel) ⟨Nat.le_of_ble_eq_true rfl, Nat.le_of_ble_eq_true rfl⟩) ⟨kPre_blind D yI yO _ _ _, fun U hU hW => ⟨rfl, by rw [hU], by rw [hU]; exact hPc, va_K.moved hW.alike hK, hDc.weaken (fun _ _ _ _ => trivial), hkn.moved hW⟩⟩ rfl rfl hl.1 rfl (lv_room (Nat.le_of_ble_eq_true rfl)) dX3_init_28 ⟨Nat.le_of_ble_eq_true rfl, Nat.le_of_ble_eq_true rfl⟩) hS (fun q _ h => hFc q h) hFc (fun u4 t H1 locs ht hvm _ hB hz1 hk1 hS => ?_)
  obtain ⟨hP1, hK1, hD1⟩ := hB
  rw [ht] at hP1
  obtain ⟨hP, hD⟩ := va_join (wr := [(h0, .inr (4, [.int 0, .int 0, .int 0, .int 0, .ref n1, .null, .null, .null, .int 0, .null, .null, .int 0, .int 0])), (n1, .inr (6, [.ref (u2 0), .int 0])), (u2 0, .inl (yI, 3601, .inl (kfill 3601 0)))]) (w1 := [(n3, .inr (6, [.ref (u4 0), .int 0])), (u4 0, .inl (yI, 3601, .inl (kfill 3601 0)))]) hP hD [3] [0, 1, 2] rfl rfl (by decide) (by decide) hk1 hFc hP1 hD1
  generalize H1 = H at hP hS ⊢
  have hP : va_P D vwCl [(h0, .inr (4, [.int 0, .int 0, .int 0, .int 0, .ref n1, .null, .null, .null, .int 0, .null, .null, .int 0, .int 0])), (n1, .inr (6, [.ref (u2 0), .int 0])), (u2 0, .inl (yI, 3601, .inl (kfill 3601 0))), (n3, .inr (6, [.ref (u4 0), .int 0])), (u4 0, .inl (yI, 3601, .inl (kfill 3601 0)))] H := hP
  have hD : va_D A [(h0, .inr (4, [.int 0, .int 0, .int 0, .int 0, .ref n1, .null, .null, .null, .int 0, .null, .null, .int 0, .int 0])), (n1, .inr (6, [.ref (u2 0), .int 0])), (u2 0, .inl (yI, 3601, .inl (kfill 3601 0))), (n3, .inr (6, [.ref (u4 0), .int 0])), (u4 0, .inl (yI, 3601, .inl (kfill 3601 0)))] := hD
  refine va_putF (D := D) (ci := 4) (v := .ref n3) (ty := .object "PassageCourt$Row") (C := RX3) (T := TX3) (N := 13) hx hb hts (by decide +kernel) tyX3 tyX3_ok nmX3 hown hK hP hD hS 0 rfl rfl 5 (by decide) (hts (.fieldLink RX3 20 "PassageCourt$Person" "counted" "LPassageCourt$Row;") (by decide +kernel)) (fun _ h9 => h9) rfl hin rfl (by decide +kernel) rfl rfl (Nat.le_of_ble_eq_true rfl) dX3_init_31 (fun H locs hP hD hS => ?_)
  have hP : va_P D vwCl [(h0, .inr (4, [.int 0, .int 0, .int 0, .int 0, .ref n1, .ref n3, .null, .null, .int 0, .null, .null, .int 0, .int 0])), (n1, .inr (6, [.ref (u2 0), .int 0])), (u2 0, .inl (yI, 3601, .inl (kfill 3601 0))), (n3, .inr (6, [.ref (u4 0), .int 0])), (u4 0, .inl (yI, 3601, .inl (kfill 3601 0)))] H := hP
  have hD : va_D A [(h0, .inr (4, [.int 0, .int 0, .int 0, .int 0, .ref n1, .ref n3, .null, .null, .int 0, .null, .null, .int 0, .int 0])), (n1, .inr (6, [.ref (u2 0), .int 0])), (u2 0, .inl (yI, 3601, .inl (kfill 3601 0))), (n3, .inr (6, [.ref (u4 0), .int 0])), (u4 0, .inl (yI, 3601, .inl (kfill 3601 0)))] := hD
  refine lv_aload_n hx hb dX3_init_34 rfl (lv_at hl 0 rfl) ?_
  refine va_new (ci := 1) (fs := [.null, .null, .null]) (C := RX0) (T := TX0) (N := 3) hx hb hts (by decide +kernel) tyX0 tyX0_ok hown (hts (.classLink RX3 23 RX0) (by decide +kernel)) (hts (.instantiable RX0 3) (by decide +kernel)) (hts (.initialized RX0) (by decide +kernel)) hK hP hD hS hA rfl (fun j hj => by rcases (show j = 0 ∨ j = 1 ∨ j = 2 by omega) with rfl | rfl | rfl <;> rfl) (Nat.le_of_ble_eq_true rfl) (Nat.le_of_ble_eq_true rfl) dX3_init_35 (fun n5 H hP hD hS => ?_)
  have hP : va_P D vwCl [(h0, .inr (4, [.int 0, .int 0, .int 0, .int 0, .ref n1, .ref n3, .null, .null, .int 0, .null, .null, .int 0, .int 0])), (n1, .inr (6, [.ref (u2 0), .int 0])), (u2 0, .inl (yI, 3601, .inl (kfill 3601 0))), (n3, .inr (6, [.ref (u4 0), .int 0])), (u4 0, .inl (yI, 3601, .inl (kfill 3601 0))), (n5, .inr (1, [.null, .null, .null]))] H := hP
  have hD : va_D A [(h0, .inr (4, [.int 0, .int 0, .int 0, .int 0, .ref n1, .ref n3, .null, .null, .int 0, .null, .null, .int 0, .int 0])), (n1, .inr (6, [.ref (u2 0), .int 0])), (u2 0, .inl (yI, 3601, .inl (kfill 3601 0))), (n3, .inr (6, [.ref (u4 0), .int 0])), (u4 0, .inl (yI, 3601, .inl (kfill 3601 0))), (n5, .inr (1, [.null, .null, .null]))] := hD
  refine lv_dup hx hb dX3_init_38 rfl ?_
  have hPc := hP.sub (ws' := [(n5, .inr (1, [.null, .null, .null]))]) [5] rfl
  have hDc := hD.sub (ws' := [(n5, .inr (1, [.null, .null, .null]))]) [5] (by decide) rfl
  have hFc := va_free (wc := [(n5, .inr (1, [.null, .null, .null]))]) hD hS hA [5] rfl
  refine va_callv (va_runIN (As := []) (rest := [.ref n5, .ref h0]) ⟨hx, hb, hml, hown, hts⟩ (cK_X0 l D yI yO n5 H.size) ⟨va_cnB 0 hts gX3_init_X0_init_n25 rfl rfl rfl (hkn (.methodLinkNest RX3 25 yX0_init RX8) (by decide +kernel)) (hts (.initialized RX0) (by decide +kernel)) (by decide +kernel) ⟨Nat.le_of_ble_eq_true rfl, Nat.le_of_ble_eq_true rfl⟩, rfl, hts (.instanceMethod yX0_init) (by decide +kernel)⟩ ⟨kPre_blind D yI yO _ _ _, fun U hU hW => ⟨rfl, by rw [hU], by rw [hU]; exact hPc, va_K.moved hW.alike hK, hDc.weaken (fun _ _ _ _ => trivial), hkn.moved hW⟩⟩ rfl rfl hl.1 rfl (lv_room (Nat.le_of_ble_eq_true rfl)) dX3_init_39 ⟨Nat.le_of_ble_eq_true rfl, Nat.le_of_ble_eq_true rfl⟩) hS (fun q _ h => hFc q h) hFc (fun u6 t H1 locs ht hvm _ hB hz1 hk1 hS => ?_)
  obtain ⟨hP1, hK1, hD1⟩ := hB
  rw [ht] at hP1
  obtain ⟨hP, hD⟩ := va_join (wr := [(h0, .inr (4, [.int 0, .int 0, .int 0, .int 0, .ref n1, .ref n3, .null, .null, .int 0, .null, .null, .int 0, .int 0])), (n1, .inr (6, [.ref (u2 0), .int 0])), (u2 0, .inl (yI, 3601, .inl (kfill 3601 0))), (n3, .inr (6, [.ref (u4 0), .int 0])), (u4 0, .inl (yI, 3601, .inl (kfill 3601 0)))]) (w1 := [(n5, .inr (1, [.ref (u6 0), .ref (u6 2), .ref (u6 4)])), (u6 0, .inr (6, [.ref (u6 1), .int ((-1))])), (u6 1, .inl (yI, 8, .inl (kfill 8 ((-1))))), (u6 2, .inr (6, [.ref (u6 3), .int ((-1))])), (u6 3, .inl (yI, 8, .inl (kfill 8 ((-1))))), (u6 4, .inr (6, [.ref (u6 5), .int ((-1))])), (u6 5, .inl (yI, 8, .inl (kfill 8 ((-1)))))]) hP hD [5] [0, 1, 2, 3, 4] rfl rfl (by decide) (by decide) hk1 hFc hP1 hD1
  generalize H1 = H at hP hS ⊢
  have hP : va_P D vwCl [(h0, .inr (4, [.int 0, .int 0, .int 0, .int 0, .ref n1, .ref n3, .null, .null, .int 0, .null, .null, .int 0, .int 0])), (n1, .inr (6, [.ref (u2 0), .int 0])), (u2 0, .inl (yI, 3601, .inl (kfill 3601 0))), (n3, .inr (6, [.ref (u4 0), .int 0])), (u4 0, .inl (yI, 3601, .inl (kfill 3601 0))), (n5, .inr (1, [.ref (u6 0), .ref (u6 2), .ref (u6 4)])), (u6 0, .inr (6, [.ref (u6 1), .int ((-1))])), (u6 1, .inl (yI, 8, .inl (kfill 8 ((-1))))), (u6 2, .inr (6, [.ref (u6 3), .int ((-1))])), (u6 3, .inl (yI, 8, .inl (kfill 8 ((-1))))), (u6 4, .inr (6, [.ref (u6 5), .int ((-1))])), (u6 5, .inl (yI, 8, .inl (kfill 8 ((-1)))))] H := hP
  have hD : va_D A [(h0, .inr (4, [.int 0, .int 0, .int 0, .int 0, .ref n1, .ref n3, .null, .null, .int 0, .null, .null, .int 0, .int 0])), (n1, .inr (6, [.ref (u2 0), .int 0])), (u2 0, .inl (yI, 3601, .inl (kfill 3601 0))), (n3, .inr (6, [.ref (u4 0), .int 0])), (u4 0, .inl (yI, 3601, .inl (kfill 3601 0))), (n5, .inr (1, [.ref (u6 0), .ref (u6 2), .ref (u6 4)])), (u6 0, .inr (6, [.ref (u6 1), .int ((-1))])), (u6 1, .inl (yI, 8, .inl (kfill 8 ((-1))))), (u6 2, .inr (6, [.ref (u6 3), .int ((-1))])), (u6 3, .inl (yI, 8, .inl (kfill 8 ((-1))))), (u6 4, .inr (6, [.ref (u6 5), .int ((-1))])), (u6 5, .inl (yI, 8, .inl (kfill 8 ((-1)))))] := hD
  refine va_putF (D := D) (ci := 4) (v := .ref n5) (ty := .object "PassageCourt$Bans") (C := RX3) (T := TX3) (N := 13) hx hb hts (by decide +kernel) tyX3 tyX3_ok nmX3 hown hK hP hD hS 0 rfl rfl 6 (by decide) (hts (.fieldLink RX3 26 "PassageCourt$Person" "bans" "LPassageCourt$Bans;") (by decide +kernel)) (fun _ h9 => h9) rfl hin rfl (by decide +kernel) rfl rfl (Nat.le_of_ble_eq_true rfl) dX3_init_42 (fun H locs hP hD hS => ?_)
  have hP : va_P D vwCl [(h0, .inr (4, [.int 0, .int 0, .int 0, .int 0, .ref n1, .ref n3, .ref n5, .null, .int 0, .null, .null, .int 0, .int 0])), (n1, .inr (6, [.ref (u2 0), .int 0])), (u2 0, .inl (yI, 3601, .inl (kfill 3601 0))), (n3, .inr (6, [.ref (u4 0), .int 0])), (u4 0, .inl (yI, 3601, .inl (kfill 3601 0))), (n5, .inr (1, [.ref (u6 0), .ref (u6 2), .ref (u6 4)])), (u6 0, .inr (6, [.ref (u6 1), .int ((-1))])), (u6 1, .inl (yI, 8, .inl (kfill 8 ((-1))))), (u6 2, .inr (6, [.ref (u6 3), .int ((-1))])), (u6 3, .inl (yI, 8, .inl (kfill 8 ((-1))))), (u6 4, .inr (6, [.ref (u6 5), .int ((-1))])), (u6 5, .inl (yI, 8, .inl (kfill 8 ((-1)))))] H := hP
  have hD : va_D A [(h0, .inr (4, [.int 0, .int 0, .int 0, .int 0, .ref n1, .ref n3, .ref n5, .null, .int 0, .null, .null, .int 0, .int 0])), (n1, .inr (6, [.ref (u2 0), .int 0])), (u2 0, .inl (yI, 3601, .inl (kfill 3601 0))), (n3, .inr (6, [.ref (u4 0), .int 0])), (u4 0, .inl (yI, 3601, .inl (kfill 3601 0))), (n5, .inr (1, [.ref (u6 0), .ref (u6 2), .ref (u6 4)])), (u6 0, .inr (6, [.ref (u6 1), .int ((-1))])), (u6 1, .inl (yI, 8, .inl (kfill 8 ((-1))))), (u6 2, .inr (6, [.ref (u6 3), .int ((-1))])), (u6 3, .inl (yI, 8, .inl (kfill 8 ((-1))))), (u6 4, .inr (6, [.ref (u6 5), .int ((-1))])), (u6 5, .inl (yI, 8, .inl (kfill 8 ((-1)))))] := hD
  refine lv_aload_n hx hb dX3_init_45 rfl (lv_at hl 0 rfl) ?_
  refine va_new (ci := 3) (fs := [.null, .null]) (C := RX2) (T := TX2) (N := 2) hx hb hts (by decide +kernel) tyX2 tyX2_ok hown (hts (.classLink RX3 30 RX2) (by decide +kernel)) (hts (.instantiable RX2 2) (by decide +kernel)) (hts (.initialized RX2) (by decide +kernel)) hK hP hD hS hA rfl (fun j hj => by rcases (show j = 0 ∨ j = 1 by omega) with rfl | rfl <;> rfl) (Nat.le_of_ble_eq_true rfl) (Nat.le_of_ble_eq_true rfl) dX3_init_46 (fun n7 H hP hD hS => ?_)
  have hP : va_P D vwCl [(h0, .inr (4, [.int 0, .int 0, .int 0, .int 0, .ref n1, .ref n3, .ref n5, .null, .int 0, .null, .null, .int 0, .int 0])), (n1, .inr (6, [.ref (u2 0), .int 0])), (u2 0, .inl (yI, 3601, .inl (kfill 3601 0))), (n3, .inr (6, [.ref (u4 0), .int 0])), (u4 0, .inl (yI, 3601, .inl (kfill 3601 0))), (n5, .inr (1, [.ref (u6 0), .ref (u6 2), .ref (u6 4)])), (u6 0, .inr (6, [.ref (u6 1), .int ((-1))])), (u6 1, .inl (yI, 8, .inl (kfill 8 ((-1))))), (u6 2, .inr (6, [.ref (u6 3), .int ((-1))])), (u6 3, .inl (yI, 8, .inl (kfill 8 ((-1))))), (u6 4, .inr (6, [.ref (u6 5), .int ((-1))])), (u6 5, .inl (yI, 8, .inl (kfill 8 ((-1))))), (n7, .inr (3, [.null, .null]))] H := hP
  have hD : va_D A [(h0, .inr (4, [.int 0, .int 0, .int 0, .int 0, .ref n1, .ref n3, .ref n5, .null, .int 0, .null, .null, .int 0, .int 0])), (n1, .inr (6, [.ref (u2 0), .int 0])), (u2 0, .inl (yI, 3601, .inl (kfill 3601 0))), (n3, .inr (6, [.ref (u4 0), .int 0])), (u4 0, .inl (yI, 3601, .inl (kfill 3601 0))), (n5, .inr (1, [.ref (u6 0), .ref (u6 2), .ref (u6 4)])), (u6 0, .inr (6, [.ref (u6 1), .int ((-1))])), (u6 1, .inl (yI, 8, .inl (kfill 8 ((-1))))), (u6 2, .inr (6, [.ref (u6 3), .int ((-1))])), (u6 3, .inl (yI, 8, .inl (kfill 8 ((-1))))), (u6 4, .inr (6, [.ref (u6 5), .int ((-1))])), (u6 5, .inl (yI, 8, .inl (kfill 8 ((-1))))), (n7, .inr (3, [.null, .null]))] := hD
  refine lv_dup hx hb dX3_init_49 rfl ?_
  have hPc := hP.sub (ws' := [(n7, .inr (3, [.null, .null]))]) [12] rfl
  have hDc := hD.sub (ws' := [(n7, .inr (3, [.null, .null]))]) [12] (by decide) rfl
  have hFc := va_free (wc := [(n7, .inr (3, [.null, .null]))]) hD hS hA [12] rfl
  refine va_callv (va_runIN (As := []) (rest := [.ref n7, .ref h0]) ⟨hx, hb, hml, hown, hts⟩ (cK_X2 l D yI yO n7 H.size) ⟨va_cnB 0 hts gX3_init_X2_init_n32 rfl rfl rfl (hkn (.methodLinkNest RX3 32 yX2_init RX8) (by decide +kernel)) (hts (.initialized RX2) (by decide +kernel)) (by decide +kernel) ⟨Nat.le_of_ble_eq_true rfl, Nat.le_of_ble_eq_true rfl⟩, rfl, hts (.instanceMethod yX2_init) (by decide +kernel)⟩ ⟨kPre_blind D yI yO _ _ _, fun U hU hW => ⟨rfl, by rw [hU], by rw [hU]; exact hPc, va_K.moved hW.alike hK, hDc.weaken (fun _ _ _ _ => trivial), hkn.moved hW⟩⟩ rfl rfl hl.1 rfl (lv_room (Nat.le_of_ble_eq_true rfl)) dX3_init_50 ⟨Nat.le_of_ble_eq_true rfl, Nat.le_of_ble_eq_true rfl⟩) hS (fun q _ h => hFc q h) hFc (fun u8 t H1 locs ht hvm _ hB hz1 hk1 hS => ?_)
  obtain ⟨hP1, hK1, hD1⟩ := hB
  rw [ht] at hP1
  obtain ⟨hP, hD⟩ := va_join (wr := [(h0, .inr (4, [.int 0, .int 0, .int 0, .int 0, .ref n1, .ref n3, .ref n5, .null, .int 0, .null, .null, .int 0, .int 0])), (n1, .inr (6, [.ref (u2 0), .int 0])), (u2 0, .inl (yI, 3601, .inl (kfill 3601 0))), (n3, .inr (6, [.ref (u4 0), .int 0])), (u4 0, .inl (yI, 3601, .inl (kfill 3601 0))), (n5, .inr (1, [.ref (u6 0), .ref (u6 2), .ref (u6 4)])), (u6 0, .inr (6, [.ref (u6 1), .int ((-1))])), (u6 1, .inl (yI, 8, .inl (kfill 8 ((-1))))), (u6 2, .inr (6, [.ref (u6 3), .int ((-1))])), (u6 3, .inl (yI, 8, .inl (kfill 8 ((-1))))), (u6 4, .inr (6, [.ref (u6 5), .int ((-1))])), (u6 5, .inl (yI, 8, .inl (kfill 8 ((-1)))))]) (w1 := [(n7, .inr (3, [.ref (u8 0), .ref (u8 2)])), (u8 0, .inr (6, [.ref (u8 1), .int ((-1))])), (u8 1, .inl (yI, 8, .inl (kfill 8 ((-1))))), (u8 2, .inr (6, [.ref (u8 3), .int ((-1))])), (u8 3, .inl (yI, 8, .inl (kfill 8 ((-1)))))]) hP hD [12] [0, 1, 2, 3, 4, 5, 6, 7, 8, 9, 10, 11] rfl rfl (by decide) (by decide) hk1 hFc hP1 hD1
  generalize H1 = H at hP hS ⊢
  have hP : va_P D vwCl [(h0, .inr (4, [.int 0, .int 0, .int 0, .int 0, .ref n1, .ref n3, .ref n5, .null, .int 0, .null, .null, .int 0, .int 0])), (n1, .inr (6, [.ref (u2 0), .int 0])), (u2 0, .inl (yI, 3601, .inl (kfill 3601 0))), (n3, .inr (6, [.ref (u4 0), .int 0])), (u4 0, .inl (yI, 3601, .inl (kfill 3601 0))), (n5, .inr (1, [.ref (u6 0), .ref (u6 2), .ref (u6 4)])), (u6 0, .inr (6, [.ref (u6 1), .int ((-1))])), (u6 1, .inl (yI, 8, .inl (kfill 8 ((-1))))), (u6 2, .inr (6, [.ref (u6 3), .int ((-1))])), (u6 3, .inl (yI, 8, .inl (kfill 8 ((-1))))), (u6 4, .inr (6, [.ref (u6 5), .int ((-1))])), (u6 5, .inl (yI, 8, .inl (kfill 8 ((-1))))), (n7, .inr (3, [.ref (u8 0), .ref (u8 2)])), (u8 0, .inr (6, [.ref (u8 1), .int ((-1))])), (u8 1, .inl (yI, 8, .inl (kfill 8 ((-1))))), (u8 2, .inr (6, [.ref (u8 3), .int ((-1))])), (u8 3, .inl (yI, 8, .inl (kfill 8 ((-1)))))] H := hP
  have hD : va_D A [(h0, .inr (4, [.int 0, .int 0, .int 0, .int 0, .ref n1, .ref n3, .ref n5, .null, .int 0, .null, .null, .int 0, .int 0])), (n1, .inr (6, [.ref (u2 0), .int 0])), (u2 0, .inl (yI, 3601, .inl (kfill 3601 0))), (n3, .inr (6, [.ref (u4 0), .int 0])), (u4 0, .inl (yI, 3601, .inl (kfill 3601 0))), (n5, .inr (1, [.ref (u6 0), .ref (u6 2), .ref (u6 4)])), (u6 0, .inr (6, [.ref (u6 1), .int ((-1))])), (u6 1, .inl (yI, 8, .inl (kfill 8 ((-1))))), (u6 2, .inr (6, [.ref (u6 3), .int ((-1))])), (u6 3, .inl (yI, 8, .inl (kfill 8 ((-1))))), (u6 4, .inr (6, [.ref (u6 5), .int ((-1))])), (u6 5, .inl (yI, 8, .inl (kfill 8 ((-1))))), (n7, .inr (3, [.ref (u8 0), .ref (u8 2)])), (u8 0, .inr (6, [.ref (u8 1), .int ((-1))])), (u8 1, .inl (yI, 8, .inl (kfill 8 ((-1))))), (u8 2, .inr (6, [.ref (u8 3), .int ((-1))])), (u8 3, .inl (yI, 8, .inl (kfill 8 ((-1)))))] := hD
  refine va_putF (D := D) (ci := 4) (v := .ref n7) (ty := .object "PassageCourt$Permits") (C := RX3) (T := TX3) (N := 13) hx hb hts (by decide +kernel) tyX3 tyX3_ok nmX3 hown hK hP hD hS 0 rfl rfl 7 (by decide) (hts (.fieldLink RX3 33 "PassageCourt$Person" "permits" "LPassageCourt$Permits;") (by decide +kernel)) (fun _ h9 => h9) rfl hin rfl (by decide +kernel) rfl rfl (Nat.le_of_ble_eq_true rfl) dX3_init_53 (fun H locs hP hD hS => ?_)
  have hP : va_P D vwCl [(h0, .inr (4, [.int 0, .int 0, .int 0, .int 0, .ref n1, .ref n3, .ref n5, .ref n7, .int 0, .null, .null, .int 0, .int 0])), (n1, .inr (6, [.ref (u2 0), .int 0])), (u2 0, .inl (yI, 3601, .inl (kfill 3601 0))), (n3, .inr (6, [.ref (u4 0), .int 0])), (u4 0, .inl (yI, 3601, .inl (kfill 3601 0))), (n5, .inr (1, [.ref (u6 0), .ref (u6 2), .ref (u6 4)])), (u6 0, .inr (6, [.ref (u6 1), .int ((-1))])), (u6 1, .inl (yI, 8, .inl (kfill 8 ((-1))))), (u6 2, .inr (6, [.ref (u6 3), .int ((-1))])), (u6 3, .inl (yI, 8, .inl (kfill 8 ((-1))))), (u6 4, .inr (6, [.ref (u6 5), .int ((-1))])), (u6 5, .inl (yI, 8, .inl (kfill 8 ((-1))))), (n7, .inr (3, [.ref (u8 0), .ref (u8 2)])), (u8 0, .inr (6, [.ref (u8 1), .int ((-1))])), (u8 1, .inl (yI, 8, .inl (kfill 8 ((-1))))), (u8 2, .inr (6, [.ref (u8 3), .int ((-1))])), (u8 3, .inl (yI, 8, .inl (kfill 8 ((-1)))))] H := hP
  have hD : va_D A [(h0, .inr (4, [.int 0, .int 0, .int 0, .int 0, .ref n1, .ref n3, .ref n5, .ref n7, .int 0, .null, .null, .int 0, .int 0])), (n1, .inr (6, [.ref (u2 0), .int 0])), (u2 0, .inl (yI, 3601, .inl (kfill 3601 0))), (n3, .inr (6, [.ref (u4 0), .int 0])), (u4 0, .inl (yI, 3601, .inl (kfill 3601 0))), (n5, .inr (1, [.ref (u6 0), .ref (u6 2), .ref (u6 4)])), (u6 0, .inr (6, [.ref (u6 1), .int ((-1))])), (u6 1, .inl (yI, 8, .inl (kfill 8 ((-1))))), (u6 2, .inr (6, [.ref (u6 3), .int ((-1))])), (u6 3, .inl (yI, 8, .inl (kfill 8 ((-1))))), (u6 4, .inr (6, [.ref (u6 5), .int ((-1))])), (u6 5, .inl (yI, 8, .inl (kfill 8 ((-1))))), (n7, .inr (3, [.ref (u8 0), .ref (u8 2)])), (u8 0, .inr (6, [.ref (u8 1), .int ((-1))])), (u8 1, .inl (yI, 8, .inl (kfill 8 ((-1))))), (u8 2, .inr (6, [.ref (u8 3), .int ((-1))])), (u8 3, .inl (yI, 8, .inl (kfill 8 ((-1)))))] := hD
  refine lv_aload_n hx hb dX3_init_56 rfl (lv_at hl 0 rfl) ?_
  refine lv_iload_n hx hb dX3_init_57 rfl (lv_at hl 1 rfl) ?_
  refine va_putF (D := D) (ci := 4) (v := .int x1) (ty := .int) (C := RX3) (T := TX3) (N := 13) hx hb hts (by decide +kernel) tyX3 tyX3_ok nmX3 hown hK hP hD hS 0 rfl rfl 0 (by decide) (hts (.fieldLink RX3 37 "PassageCourt$Person" "number" "I") (by decide +kernel)) (fun _ h9 => h9) rfl hin rfl (by decide +kernel) rfl rfl (Nat.le_of_ble_eq_true rfl) dX3_init_58 (fun H locs hP hD hS => ?_)
  have hP : va_P D vwCl [(h0, .inr (4, [.int x1, .int 0, .int 0, .int 0, .ref n1, .ref n3, .ref n5, .ref n7, .int 0, .null, .null, .int 0, .int 0])), (n1, .inr (6, [.ref (u2 0), .int 0])), (u2 0, .inl (yI, 3601, .inl (kfill 3601 0))), (n3, .inr (6, [.ref (u4 0), .int 0])), (u4 0, .inl (yI, 3601, .inl (kfill 3601 0))), (n5, .inr (1, [.ref (u6 0), .ref (u6 2), .ref (u6 4)])), (u6 0, .inr (6, [.ref (u6 1), .int ((-1))])), (u6 1, .inl (yI, 8, .inl (kfill 8 ((-1))))), (u6 2, .inr (6, [.ref (u6 3), .int ((-1))])), (u6 3, .inl (yI, 8, .inl (kfill 8 ((-1))))), (u6 4, .inr (6, [.ref (u6 5), .int ((-1))])), (u6 5, .inl (yI, 8, .inl (kfill 8 ((-1))))), (n7, .inr (3, [.ref (u8 0), .ref (u8 2)])), (u8 0, .inr (6, [.ref (u8 1), .int ((-1))])), (u8 1, .inl (yI, 8, .inl (kfill 8 ((-1))))), (u8 2, .inr (6, [.ref (u8 3), .int ((-1))])), (u8 3, .inl (yI, 8, .inl (kfill 8 ((-1)))))] H := hP
  have hD : va_D A [(h0, .inr (4, [.int x1, .int 0, .int 0, .int 0, .ref n1, .ref n3, .ref n5, .ref n7, .int 0, .null, .null, .int 0, .int 0])), (n1, .inr (6, [.ref (u2 0), .int 0])), (u2 0, .inl (yI, 3601, .inl (kfill 3601 0))), (n3, .inr (6, [.ref (u4 0), .int 0])), (u4 0, .inl (yI, 3601, .inl (kfill 3601 0))), (n5, .inr (1, [.ref (u6 0), .ref (u6 2), .ref (u6 4)])), (u6 0, .inr (6, [.ref (u6 1), .int ((-1))])), (u6 1, .inl (yI, 8, .inl (kfill 8 ((-1))))), (u6 2, .inr (6, [.ref (u6 3), .int ((-1))])), (u6 3, .inl (yI, 8, .inl (kfill 8 ((-1))))), (u6 4, .inr (6, [.ref (u6 5), .int ((-1))])), (u6 5, .inl (yI, 8, .inl (kfill 8 ((-1))))), (n7, .inr (3, [.ref (u8 0), .ref (u8 2)])), (u8 0, .inr (6, [.ref (u8 1), .int ((-1))])), (u8 1, .inl (yI, 8, .inl (kfill 8 ((-1))))), (u8 2, .inr (6, [.ref (u8 3), .int ((-1))])), (u8 3, .inl (yI, 8, .inl (kfill 8 ((-1)))))] := hD
  refine lv_aload_n hx hb dX3_init_61 rfl (lv_at hl 0 rfl) ?_
  refine lv_iload_n hx hb dX3_init_62 rfl (lv_at hl 2 rfl) ?_
  refine va_putF (D := D) (ci := 4) (v := .int x2) (ty := .int) (C := RX3) (T := TX3) (N := 13) hx hb hts (by decide +kernel) tyX3 tyX3_ok nmX3 hown hK hP hD hS 0 rfl rfl 1 (by decide) (hts (.fieldLink RX3 41 "PassageCourt$Person" "birthday" "I") (by decide +kernel)) (fun _ h9 => h9) rfl hin rfl (by decide +kernel) rfl rfl (Nat.le_of_ble_eq_true rfl) dX3_init_63 (fun H locs hP hD hS => ?_)
  have hP : va_P D vwCl [(h0, .inr (4, [.int x1, .int x2, .int 0, .int 0, .ref n1, .ref n3, .ref n5, .ref n7, .int 0, .null, .null, .int 0, .int 0])), (n1, .inr (6, [.ref (u2 0), .int 0])), (u2 0, .inl (yI, 3601, .inl (kfill 3601 0))), (n3, .inr (6, [.ref (u4 0), .int 0])), (u4 0, .inl (yI, 3601, .inl (kfill 3601 0))), (n5, .inr (1, [.ref (u6 0), .ref (u6 2), .ref (u6 4)])), (u6 0, .inr (6, [.ref (u6 1), .int ((-1))])), (u6 1, .inl (yI, 8, .inl (kfill 8 ((-1))))), (u6 2, .inr (6, [.ref (u6 3), .int ((-1))])), (u6 3, .inl (yI, 8, .inl (kfill 8 ((-1))))), (u6 4, .inr (6, [.ref (u6 5), .int ((-1))])), (u6 5, .inl (yI, 8, .inl (kfill 8 ((-1))))), (n7, .inr (3, [.ref (u8 0), .ref (u8 2)])), (u8 0, .inr (6, [.ref (u8 1), .int ((-1))])), (u8 1, .inl (yI, 8, .inl (kfill 8 ((-1))))), (u8 2, .inr (6, [.ref (u8 3), .int ((-1))])), (u8 3, .inl (yI, 8, .inl (kfill 8 ((-1)))))] H := hP
  have hD : va_D A [(h0, .inr (4, [.int x1, .int x2, .int 0, .int 0, .ref n1, .ref n3, .ref n5, .ref n7, .int 0, .null, .null, .int 0, .int 0])), (n1, .inr (6, [.ref (u2 0), .int 0])), (u2 0, .inl (yI, 3601, .inl (kfill 3601 0))), (n3, .inr (6, [.ref (u4 0), .int 0])), (u4 0, .inl (yI, 3601, .inl (kfill 3601 0))), (n5, .inr (1, [.ref (u6 0), .ref (u6 2), .ref (u6 4)])), (u6 0, .inr (6, [.ref (u6 1), .int ((-1))])), (u6 1, .inl (yI, 8, .inl (kfill 8 ((-1))))), (u6 2, .inr (6, [.ref (u6 3), .int ((-1))])), (u6 3, .inl (yI, 8, .inl (kfill 8 ((-1))))), (u6 4, .inr (6, [.ref (u6 5), .int ((-1))])), (u6 5, .inl (yI, 8, .inl (kfill 8 ((-1))))), (n7, .inr (3, [.ref (u8 0), .ref (u8 2)])), (u8 0, .inr (6, [.ref (u8 1), .int ((-1))])), (u8 1, .inl (yI, 8, .inl (kfill 8 ((-1))))), (u8 2, .inr (6, [.ref (u8 3), .int ((-1))])), (u8 3, .inl (yI, 8, .inl (kfill 8 ((-1)))))] := hD
  refine lv_aload_n hx hb dX3_init_66 rfl (lv_at hl 0 rfl) ?_
  refine lv_iload_n hx hb dX3_init_67 rfl (lv_at hl 3 rfl) ?_
  refine va_putF (D := D) (ci := 4) (v := .int x3) (ty := .int) (C := RX3) (T := TX3) (N := 13) hx hb hts (by decide +kernel) tyX3 tyX3_ok nmX3 hown hK hP hD hS 0 rfl rfl 2 (by decide) (hts (.fieldLink RX3 44 "PassageCourt$Person" "mother" "I") (by decide +kernel)) (fun _ h9 => h9) rfl hin rfl (by decide +kernel) rfl rfl (Nat.le_of_ble_eq_true rfl) dX3_init_68 (fun H locs hP hD hS => ?_)
  have hP : va_P D vwCl [(h0, .inr (4, [.int x1, .int x2, .int x3, .int 0, .ref n1, .ref n3, .ref n5, .ref n7, .int 0, .null, .null, .int 0, .int 0])), (n1, .inr (6, [.ref (u2 0), .int 0])), (u2 0, .inl (yI, 3601, .inl (kfill 3601 0))), (n3, .inr (6, [.ref (u4 0), .int 0])), (u4 0, .inl (yI, 3601, .inl (kfill 3601 0))), (n5, .inr (1, [.ref (u6 0), .ref (u6 2), .ref (u6 4)])), (u6 0, .inr (6, [.ref (u6 1), .int ((-1))])), (u6 1, .inl (yI, 8, .inl (kfill 8 ((-1))))), (u6 2, .inr (6, [.ref (u6 3), .int ((-1))])), (u6 3, .inl (yI, 8, .inl (kfill 8 ((-1))))), (u6 4, .inr (6, [.ref (u6 5), .int ((-1))])), (u6 5, .inl (yI, 8, .inl (kfill 8 ((-1))))), (n7, .inr (3, [.ref (u8 0), .ref (u8 2)])), (u8 0, .inr (6, [.ref (u8 1), .int ((-1))])), (u8 1, .inl (yI, 8, .inl (kfill 8 ((-1))))), (u8 2, .inr (6, [.ref (u8 3), .int ((-1))])), (u8 3, .inl (yI, 8, .inl (kfill 8 ((-1)))))] H := hP
  have hD : va_D A [(h0, .inr (4, [.int x1, .int x2, .int x3, .int 0, .ref n1, .ref n3, .ref n5, .ref n7, .int 0, .null, .null, .int 0, .int 0])), (n1, .inr (6, [.ref (u2 0), .int 0])), (u2 0, .inl (yI, 3601, .inl (kfill 3601 0))), (n3, .inr (6, [.ref (u4 0), .int 0])), (u4 0, .inl (yI, 3601, .inl (kfill 3601 0))), (n5, .inr (1, [.ref (u6 0), .ref (u6 2), .ref (u6 4)])), (u6 0, .inr (6, [.ref (u6 1), .int ((-1))])), (u6 1, .inl (yI, 8, .inl (kfill 8 ((-1))))), (u6 2, .inr (6, [.ref (u6 3), .int ((-1))])), (u6 3, .inl (yI, 8, .inl (kfill 8 ((-1))))), (u6 4, .inr (6, [.ref (u6 5), .int ((-1))])), (u6 5, .inl (yI, 8, .inl (kfill 8 ((-1))))), (n7, .inr (3, [.ref (u8 0), .ref (u8 2)])), (u8 0, .inr (6, [.ref (u8 1), .int ((-1))])), (u8 1, .inl (yI, 8, .inl (kfill 8 ((-1))))), (u8 2, .inr (6, [.ref (u8 3), .int ((-1))])), (u8 3, .inl (yI, 8, .inl (kfill 8 ((-1)))))] := hD
  refine lv_aload_n hx hb dX3_init_71 rfl (lv_at hl 0 rfl) ?_
  refine lv_iload hx hb dX3_init_72 (lv_at hl 4 rfl) ?_
  refine va_putF (D := D) (ci := 4) (v := .int x4) (ty := .int) (C := RX3) (T := TX3) (N := 13) hx hb hts (by decide +kernel) tyX3 tyX3_ok nmX3 hown hK hP hD hS 0 rfl rfl 3 (by decide) (hts (.fieldLink RX3 47 "PassageCourt$Person" "father" "I") (by decide +kernel)) (fun _ h9 => h9) rfl hin rfl (by decide +kernel) rfl rfl (Nat.le_of_ble_eq_true rfl) dX3_init_74 (fun H locs hP hD hS => ?_)
  have hP : va_P D vwCl [(h0, .inr (4, [.int x1, .int x2, .int x3, .int x4, .ref n1, .ref n3, .ref n5, .ref n7, .int 0, .null, .null, .int 0, .int 0])), (n1, .inr (6, [.ref (u2 0), .int 0])), (u2 0, .inl (yI, 3601, .inl (kfill 3601 0))), (n3, .inr (6, [.ref (u4 0), .int 0])), (u4 0, .inl (yI, 3601, .inl (kfill 3601 0))), (n5, .inr (1, [.ref (u6 0), .ref (u6 2), .ref (u6 4)])), (u6 0, .inr (6, [.ref (u6 1), .int ((-1))])), (u6 1, .inl (yI, 8, .inl (kfill 8 ((-1))))), (u6 2, .inr (6, [.ref (u6 3), .int ((-1))])), (u6 3, .inl (yI, 8, .inl (kfill 8 ((-1))))), (u6 4, .inr (6, [.ref (u6 5), .int ((-1))])), (u6 5, .inl (yI, 8, .inl (kfill 8 ((-1))))), (n7, .inr (3, [.ref (u8 0), .ref (u8 2)])), (u8 0, .inr (6, [.ref (u8 1), .int ((-1))])), (u8 1, .inl (yI, 8, .inl (kfill 8 ((-1))))), (u8 2, .inr (6, [.ref (u8 3), .int ((-1))])), (u8 3, .inl (yI, 8, .inl (kfill 8 ((-1)))))] H := hP
  have hD : va_D A [(h0, .inr (4, [.int x1, .int x2, .int x3, .int x4, .ref n1, .ref n3, .ref n5, .ref n7, .int 0, .null, .null, .int 0, .int 0])), (n1, .inr (6, [.ref (u2 0), .int 0])), (u2 0, .inl (yI, 3601, .inl (kfill 3601 0))), (n3, .inr (6, [.ref (u4 0), .int 0])), (u4 0, .inl (yI, 3601, .inl (kfill 3601 0))), (n5, .inr (1, [.ref (u6 0), .ref (u6 2), .ref (u6 4)])), (u6 0, .inr (6, [.ref (u6 1), .int ((-1))])), (u6 1, .inl (yI, 8, .inl (kfill 8 ((-1))))), (u6 2, .inr (6, [.ref (u6 3), .int ((-1))])), (u6 3, .inl (yI, 8, .inl (kfill 8 ((-1))))), (u6 4, .inr (6, [.ref (u6 5), .int ((-1))])), (u6 5, .inl (yI, 8, .inl (kfill 8 ((-1))))), (n7, .inr (3, [.ref (u8 0), .ref (u8 2)])), (u8 0, .inr (6, [.ref (u8 1), .int ((-1))])), (u8 1, .inl (yI, 8, .inl (kfill 8 ((-1))))), (u8 2, .inr (6, [.ref (u8 3), .int ((-1))])), (u8 3, .inl (yI, 8, .inl (kfill 8 ((-1)))))] := hD
  have hP9 := hP.sub (ws' := [(h0, .inr (4, [.int x1, .int x2, .int x3, .int x4, .ref n1, .ref n3, .ref n5, .ref n7, .int 0, .null, .null, .int 0, .int 0])), (n1, .inr (6, [.ref (u2 0), .int 0])), (u2 0, .inl (yI, 3601, .inl (kfill 3601 0))), (n3, .inr (6, [.ref (u4 0), .int 0])), (u4 0, .inl (yI, 3601, .inl (kfill 3601 0))), (n5, .inr (1, [.ref (u6 0), .ref (u6 2), .ref (u6 4)])), (u6 0, .inr (6, [.ref (u6 1), .int ((-1))])), (u6 1, .inl (yI, 8, .inl (kfill 8 ((-1))))), (u6 2, .inr (6, [.ref (u6 3), .int ((-1))])), (u6 3, .inl (yI, 8, .inl (kfill 8 ((-1))))), (u6 4, .inr (6, [.ref (u6 5), .int ((-1))])), (u6 5, .inl (yI, 8, .inl (kfill 8 ((-1))))), (n7, .inr (3, [.ref (u8 0), .ref (u8 2)])), (u8 0, .inr (6, [.ref (u8 1), .int ((-1))])), (u8 1, .inl (yI, 8, .inl (kfill 8 ((-1))))), (u8 2, .inr (6, [.ref (u8 3), .int ((-1))])), (u8 3, .inl (yI, 8, .inl (kfill 8 ((-1)))))]) [0, 1, 2, 3, 4, 5, 6, 7, 8, 9, 10, 11, 12, 13, 14, 15, 16] rfl
  have hD9 := hD.sub (ws' := [(h0, .inr (4, [.int x1, .int x2, .int x3, .int x4, .ref n1, .ref n3, .ref n5, .ref n7, .int 0, .null, .null, .int 0, .int 0])), (n1, .inr (6, [.ref (u2 0), .int 0])), (u2 0, .inl (yI, 3601, .inl (kfill 3601 0))), (n3, .inr (6, [.ref (u4 0), .int 0])), (u4 0, .inl (yI, 3601, .inl (kfill 3601 0))), (n5, .inr (1, [.ref (u6 0), .ref (u6 2), .ref (u6 4)])), (u6 0, .inr (6, [.ref (u6 1), .int ((-1))])), (u6 1, .inl (yI, 8, .inl (kfill 8 ((-1))))), (u6 2, .inr (6, [.ref (u6 3), .int ((-1))])), (u6 3, .inl (yI, 8, .inl (kfill 8 ((-1))))), (u6 4, .inr (6, [.ref (u6 5), .int ((-1))])), (u6 5, .inl (yI, 8, .inl (kfill 8 ((-1))))), (n7, .inr (3, [.ref (u8 0), .ref (u8 2)])), (u8 0, .inr (6, [.ref (u8 1), .int ((-1))])), (u8 1, .inl (yI, 8, .inl (kfill 8 ((-1))))), (u8 2, .inr (6, [.ref (u8 3), .int ((-1))])), (u8 3, .inl (yI, 8, .inl (kfill 8 ((-1)))))]) [0, 1, 2, 3, 4, 5, 6, 7, 8, 9, 10, 11, 12, 13, 14, 15, 16] (by decide) rfl
  refine W.widen (k := 16) (n := 7261) (Nat.le_of_ble_eq_true rfl) (Nat.le_of_ble_eq_true rfl) ?_
  exact W.vret hx hb hr (fun t ht hW => ⟨⟨fun z => match z with | 0 => n1 | 1 => u2 0 | 2 => n3 | 3 => u4 0 | 4 => n5 | 5 => u6 0 | 6 => u6 1 | 7 => u6 2 | 8 => u6 3 | 9 => u6 4 | 10 => u6 5 | 11 => n7 | 12 => u8 0 | 13 => u8 1 | 14 => u8 2 | 15 => u8 3 | _ => 0, rfl, trivial, by rw [ht]; exact hP9, va_K.moved hW.alike hK, hD9⟩, hS.F ht⟩) hS.2.2 dX3_init_77
