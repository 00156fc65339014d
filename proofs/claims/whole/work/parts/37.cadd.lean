/-! ===== ArrayList.add and ArrayList.<init> ===== -/
def oN : String := "java/lang/Object"
def oD : FieldType := .object "java/lang/Object"
def lB : List Cond := [.castable RX1 "java/lang/Object", .castable RX3 "java/lang/Object", .castable RX4 "java/lang/Object", .castable RX6 "java/lang/Object", .castable RX7 "java/lang/Object"]
/-- what of the JDK's statics and classes add needs -/
def lS (z0 : Nat) (A : Nat → Prop) (U : State) (H : Heap) : Prop := va_Z "java/util/ArrayList" "DEFAULTCAPACITY_EMPTY_ELEMENTDATA" "[Ljava/lang/Object;" (.ref z0) A U H ∧ (∃ cell : Cell, H[z0]? = some cell ∧ U.isArrayOf cell oD ∧ cell.slots.size = 0 ∧ ¬ A z0) ∧ va_AO "java/lang/Object" U ∧ (∃ mi, va_Mi "[Ljava/lang/Object;" mi U) ∧ va_Dc U ∧ ∀ w ∈ lB, va_Nw w U
theorem lB_on : ∀ w ∈ lB, w.onTables = true := by decide +kernel
theorem lS.moved {z0 : Nat} {A : Nat → Prop} {u U : State} {H : Heap} (hW : u.WarmedH U.vm) (h : lS z0 A u H) : lS z0 A U H := by
  obtain ⟨h1, ⟨cell, h2, h3, h4⟩, h5, ⟨mi, h6⟩, h7, h8⟩ := h
  refine ⟨va_Z.moved hW.alike h1, ⟨cell, h2, State.isArrayOf_alike hW.alike h3, h4⟩, va_AO.moved hW.alike h5, ⟨mi, va_Mi.moved hW.alike h6⟩, va_Dc.moved hW.alike h7, fun w hw => ?_⟩
  have h9 := h8 w hw
  simp only [lB, List.mem_cons, List.not_mem_nil, or_false] at hw
  rcases hw with rfl | rfl | rfl | rfl | rfl <;> exact va_Nw.warmC hW h9
theorem lS.same {z0 : Nat} {A : Nat → Prop} {u : State} {H : Heap} {fr : JFrame} {mk : MethodId} {a : Array Value} (h : lS z0 A u H) : lS z0 A (u.calling fr mk a) H := by
  obtain ⟨h1, ⟨cell, h2, h3, h4⟩, h5, ⟨mi, h6⟩, h7, h8⟩ := h
  exact ⟨va_Z.moved (u := u) (Vm.Alike.refl u.vm) h1, ⟨cell, h2, State.isArrayOf_alike (Vm.Alike.refl u.vm) h3, h4⟩, va_AO.moved (u := u) (Vm.Alike.refl u.vm) h5, ⟨mi, va_Mi.moved (u := u) (Vm.Alike.refl u.vm) h6⟩, va_Dc.moved (u := u) (Vm.Alike.refl u.vm) h7, fun w hw => va_Nw.same (u := u) (U := u.calling fr mk a) (lB_on w hw) rfl (h8 w hw)⟩
theorem lS.kept {z0 : Nat} {A : Nat → Prop} {U : State} {H H1 : Heap} (h : lS z0 A U H) (hq : ∀ a : Nat, a < H.size → ¬ A a → H1[a]? = H[a]?) : lS z0 A U H1 := by
  obtain ⟨h1, ⟨cell, h2, h3, h4, h5⟩, h6⟩ := h
  exact ⟨h1.kept hq, ⟨cell, by rw [hq z0 (Array.getElem?_eq_some_iff.mp h2).1 h5]; exact h2, h3, h4, h5⟩, h6⟩
theorem lS.narrow {z0 : Nat} {A B : Nat → Prop} {U : State} {H : Heap} (h : lS z0 A U H) (hAB : ∀ q, B q → A q) : lS z0 B U H := by
  obtain ⟨h1, ⟨cell, h2, h3, h4, h5⟩, h6⟩ := h
  exact ⟨h1.narrow hAB, ⟨cell, h2, h3, h4, fun z => h5 (hAB _ z)⟩, h6⟩
/-- the elements that an array holds are objects of class C, outside A -/
def lE (C : String) (f : Nat → Option Nat) (n : Nat) (A : Nat → Prop) (U : State) (H : Heap) : Prop := ∀ i : Nat, i < n → ∀ y : Nat, f i = some y → ¬ A y ∧ ∃ cellV : Cell, H[y]? = some cellV ∧ cellV.vm.isStatics = false ∧ U.vm.findClass C = some cellV.cls
theorem lE.moved {C : String} {f : Nat → Option Nat} {n : Nat} {A : Nat → Prop} {u U : State} {H : Heap} (hvm : u.vm.Alike U.vm) (h : lE C f n A u H) : lE C f n A U H := fun i hi y hy => by
  obtain ⟨h0, c, h1, h2, h3⟩ := h i hi y hy
  exact ⟨h0, c, h1, h2, by rw [hvm.findClass]; exact h3⟩
theorem lE.kept {C : String} {f : Nat → Option Nat} {n : Nat} {A : Nat → Prop} {U : State} {H H1 : Heap} (h : lE C f n A U H) (hq : ∀ a : Nat, a < H.size → ¬ A a → H1[a]? = H[a]?) : lE C f n A U H1 := fun i hi y hy => by
  obtain ⟨h0, c, h1, h2⟩ := h i hi y hy
  exact ⟨h0, c, by rw [hq y (Array.getElem?_eq_some_iff.mp h1).1 h0]; exact h1, h2⟩
theorem lE.narrow {C : String} {f : Nat → Option Nat} {n : Nat} {A B : Nat → Prop} {U : State} {H : Heap} (h : lE C f n A U H) (hAB : ∀ q, B q → A q) : lE C f n B U H := fun i hi y hy => ⟨fun z => (h i hi y hy).1 (hAB _ z), (h i hi y hy).2⟩
def lPre (D : va_G) (yI yO : ClassId) (z0 : Nat) (C : String) (f : Nat → Option Nat) (n : Nat) (ws : va_W) (sz : Nat) (U : State) : Prop := U.heap.size = sz ∧ va_P D vwCl ws U.heap ∧ cK D yI yO U ∧ va_D (fun _ => True) ws ∧ lS z0 (va_A ws sz) U U.heap ∧ lE C f n (va_A ws sz) U U.heap
theorem lPre_blind (D : va_G) (yI yO : ClassId) (z0 : Nat) (C : String) (f : Nat → Option Nat) (n : Nat) (ws : va_W) (sz : Nat) (av : List Value) : FrameBlind (va_Pc av (lPre D yI yO z0 C f n ws sz)) := fun a U fr mk z => ⟨z.1, z.2.1, z.2.2.1, va_K.moved (u := U) (U := U.calling fr mk a) (Vm.Alike.refl U.vm) z.2.2.2.1, z.2.2.2.2.1, z.2.2.2.2.2.1.same, lE.moved (u := U) (U := U.calling fr mk a) (Vm.Alike.refl U.vm) z.2.2.2.2.2.2⟩
def rfs (n : Nat) (f : Nat → Option Nat) : vp_A := (n, .inr (.inr (.inr (.inr f))))
section LA
variable {p : Program} {l : Launch} {e : Env} {R : Room} {s : State} {m : MethodId} {args : Array Value} {below : List Frame} {meth : Method} {c : Code} {H : Heap} {locs : List Loc} {cells slots : Nat} {Q : State → Prop}
variable {cc : ByteArray} {pc : Nat} {ls : Array Slot} {rest : List Value} {D : va_G} {yI yO : ClassId} {A : Nat → Prop} {ws : va_W} {H0 : Heap}
theorem kg_newq (hx : p.tables.exec = Jvm.exec) (hb : c.code = cc) {own : String} {index : Nat} (hown : s.vm.findClass own = some m.cls) (hcl : (Cond.classLink own index "java/lang/Object").before args s = true) (hover : va_AO "java/lang/Object" s) (hK : cK D yI yO s) (hP : va_P D vwCl ws H) (hD : va_D A ws) (hS : va_S A H0 H locs) (hA : ∀ q, H0.size ≤ q → A q) {n : Int32} {N : Nat} (hn : ¬ n < 0) (hN : n.toNatClampNeg = N) (hbytes : N * 4 ≤ 536870912) (hcells : cells + 1 ≤ R.cells) (hslots : slots + N ≤ R.slots) (hdg : decode cc pc = .ok (.anewarray index, 3))
    (kk : ∀ (q : Nat) (H1 : Heap), va_P D vwCl (ws ++ [(q, .inl (yO, rfs N (fun _ => none)))]) H1 → va_D A (ws ++ [(q, .inl (yO, rfs N (fun _ => none)))]) → va_S A H0 H1 locs → W p l e R s m args below meth c H1 locs (cells + 1) (slots + N) Q (F0 m (pc + 3) ls (.ref q :: rest))) : W p l e R s m args below meth c H locs cells slots Q (F0 m pc ls (.int n :: rest)) := by
  refine va_newq (N' := N) hx hb hown hcl hover hK hP hD hS hA hn hN hbytes hcells hslots hdg (fun q cA H1 hK1 hP1 hD1 hS1 => ?_)
  obtain ⟨kA, comp, -, -, -, e1⟩ := (hK1.2 2 _ rfl).2
  obtain ⟨kB, comp2, -, -, -, e2⟩ := (hK.2 1 _ rfl).2
  have e3 : cA = yO := Option.some.inj (e1.symm.trans e2)
  subst e3
  exact kk q H1 hP1 hD1 hS1
end LA

def lnew (n : Nat) : Nat := n + (if 1 < n / 2 then n / 2 else 1)
set_option maxRecDepth 20000 in
theorem cL_newLength (l : Launch) (D : va_G) (yI yO : ClassId) (n : Nat) (hn : n ≤ 200) : Met l yJ8_newLength_cabcc wsJ8_newLength_cabcc ({ frames := 1, cells := 0, slots := 0, locals := 21 }) (va_Pc [.int (nI n), .int 1, .int (nI (n / 2))] (fun _ => True)) (va_Qi (S := Unit) (fun r _ => r = nI (lnew n)) (fun _ _ => True) (fun _ => False)) 0 0 (fun _ => False) := by
  refine Met.ofW (cc := cJ8_newLength_cabcc) (maxL := 4) (ret := (some .int)) (by decide) rfl ?_
  intro p e s m args below meth c s₁ B hml hv
  obtain ⟨rfl, -⟩ := hv
  have hx := B.exec
  have hb := B.bytes
  have hr := B.returns
  have hts := atoms_spec (ws := wsJ8_newLength_cabcc) B.pre
  have hown : s.vm.findClass RJ8 = some m.cls := findClass_of_methodNamed B.named
  have hlocks := B.notSynchronized
  have hS : va_S (fun _ : Nat => False) s.heap s.heap [] := va_S.rf
  have hl := lv_entry ([.int (nI n), .int 1, .int (nI (n / 2))]) (n := 4) (Nat.le_of_ble_eq_true rfl)
  rw [lg_entry_eq]
  generalize (lg_sl ([.int (nI n), .int 1, .int (nI (n / 2))]) ++ List.replicate (4 - (lg_sl ([.int (nI n), .int 1, .int (nI (n / 2))])).length) Slot.unset).toArray = ls at hl ⊢
  have hl : lv_has ls 4 [(0, .int (nI n)), (1, .int 1), (2, .int (nI (n / 2)))] := hl
  have e1 : nI n + (if (1 : Int32) < nI (n / 2) then nI (n / 2) else 1) = nI (lnew n) := by
    by_cases h : 1 < n / 2
    · rw [if_pos (show (1 : Int32) < nI (n / 2) from (nI_ltI (a := 1) (by omega) (by omega)).mpr h), nI_add]; unfold lnew; rw [if_pos h]
    · rw [if_neg (show ¬ (1 : Int32) < nI (n / 2) from fun z => h ((nI_ltI (a := 1) (by omega) (by omega)).mp z)), show (1 : Int32) = nI 1 from rfl, nI_add]; unfold lnew; rw [if_neg h]
  have hb2 : lnew n ≤ 400 := by unfold lnew; split <;> omega
  refine lv_iload_n hx hb dJ8_newLength_cabcc_0 rfl (lv_at hl 0 rfl) ?_
  refine lv_iload_n hx hb dJ8_newLength_cabcc_1 rfl (lv_at hl 1 rfl) ?_
  refine lv_iload_n hx hb dJ8_newLength_cabcc_2 rfl (lv_at hl 2 rfl) ?_
  refine va_mmax hx hb (hml.trans hl.1.symm) hown (hts (.methodLink RJ8 194 Lib.Math.max.name) (by decide +kernel)) (hts (.static Lib.Math.max.name) (by decide +kernel)) (hts (.initialized "java/lang/Math") (by decide +kernel)) (hts (.code Lib.Math.max.name Lib.Math.max.code 2 (some .int)) (by decide +kernel)) (Nat.le_of_ble_eq_true rfl) (Nat.le_of_ble_eq_true rfl) (Nat.le_of_ble_eq_true rfl) (Nat.le_of_ble_eq_true rfl) dJ8_newLength_cabcc_3 ?_
  refine lv_iadd hx hb dJ8_newLength_cabcc_6 ?_
  rw [e1]
  refine lv_istore_n (lv' := [(3, .int (nI (lnew n))), (0, .int (nI n)), (1, .int 1), (2, .int (nI (n / 2)))]) hx hb dJ8_newLength_cabcc_7 rfl hl (by decide) rfl (fun ls hl => ?_)
  refine lv_iconst (v := 0) hx hb dJ8_newLength_cabcc_8 (by decide) ?_
  refine lv_iload_n hx hb dJ8_newLength_cabcc_9 rfl (lv_at hl 0 rfl) ?_
  refine lv_icmp_ge (tgt := 21) hx hb dJ8_newLength_cabcc_10 (by decide) (fun c1 => ?_) (fun _ => ?_)
  · exact absurd ((nI_leI (b := 0) (by omega) (by omega)).mp c1) (by unfold lnew; split <;> omega)
  refine lv_iload_n hx hb dJ8_newLength_cabcc_13 rfl (lv_at hl 0 rfl) ?_
  refine lv_ldc (v := 2147483639) hx hb hown (hts (.constant RJ8 200 (2147483639)) (by decide +kernel)) dJ8_newLength_cabcc_14 ?_
  refine lv_icmp_gt (tgt := 21) hx hb dJ8_newLength_cabcc_16 (by decide) (fun c1 => ?_) (fun _ => ?_)
  · exact absurd ((nI_ltI (a := 2147483639) (by omega) (by omega)).mp c1) (by omega)
  refine lv_iload_n hx hb dJ8_newLength_cabcc_19 rfl (lv_at hl 0 rfl) ?_
  exact W.iret (v := nI (lnew n)) hx hb hr (fun t ht hW => ⟨⟨_, (), rfl, rfl, trivial⟩, hS.F ht⟩) hS.2.2 dJ8_newLength_cabcc_20
set_option maxRecDepth 20000 in
theorem cL_copyOf3 (l : Launch) (D : va_G) (yI yO : ClassId) (z0 : Nat) (C : String) (hC : Cond.castable C "java/lang/Object" ∈ lB) (a sz n k mi : Nat) (f : Nat → Option Nat) (hk : n ≤ k ∧ k ≤ 400) : Met l yJ7_copyOf_6403c wsJ7_copyOf_6403c ({ frames := 1, cells := 1, slots := 400, locals := 60 }) (va_Pc [.ref a, .int (nI k), .ref mi] (fun U => lPre D yI yO z0 C f n [(a, .inl (yO, rfs n f))] sz U ∧ va_Mi "[Ljava/lang/Object;" mi U)) (va_Qr (S := Unit) (fun _ => True) (fun _ q t => kPost D yI yO [(a, .inl (yO, rfs n f)), (q, .inl (yO, rfs k (va_cpy f (fun _ => none) 0 0 n)))] (va_A [(a, .inl (yO, rfs n f))] sz) t) (va_A [(a, .inl (yO, rfs n f))] sz)) 1 400 (va_A [(a, .inl (yO, rfs n f))] sz) := by
  refine Met.ofW (cc := cJ7_copyOf_6403c) (maxL := 4) (ret := (some (.array (.object "java/lang/Object")))) (by decide) rfl ?_
  intro p e s m args below meth c s₁ B hml hv
  obtain ⟨rfl, ⟨hsz, hP, hK, hD0, hls, hle⟩, hmi⟩ := hv
  have hx := B.exec
  have hb := B.bytes
  have hr := B.returns
  have hts := atoms_spec (ws := wsJ7_copyOf_6403c) B.pre
  have hown : s.vm.findClass RJ7 = some m.cls := findClass_of_methodNamed B.named
  have hlocks := B.notSynchronized
  subst hsz
  have hD := hD0.self (sz := s.heap.size)
  generalize hAe : va_A [(a, .inl (yO, rfs n f))] s.heap.size = A at hD hls hle ⊢
  have hA : ∀ q : Nat, s.heap.size ≤ q → A q := fun q h => by rw [← hAe]; exact Or.inr h
  have hS : va_S A s.heap s.heap [] := va_S.rf
  have hl := lv_entry ([.ref a, .int (nI k), .ref mi]) (n := 4) (Nat.le_of_ble_eq_true rfl)
  rw [lg_entry_eq]
  generalize (lg_sl ([.ref a, .int (nI k), .ref mi]) ++ List.replicate (4 - (lg_sl ([.ref a, .int (nI k), .ref mi])).length) Slot.unset).toArray = ls at hl ⊢
  have hl : lv_has ls 4 [(0, .ref a), (1, .int (nI k)), (2, .ref mi)] := hl
  obtain ⟨hk1, hk2⟩ := hk
  obtain ⟨hz1, hz2, hao, -, -, hcb⟩ := hls
  refine lv_aload_n hx hb dJ7_copyOf_6403c_0 rfl (lv_at hl 2 rfl) ?_
  refine va_ldcM hx hb hown (hts (.classLink RJ7 110 "[Ljava/lang/Object;") (by decide +kernel)) hmi dJ7_copyOf_6403c_1 ?_
  refine lv_acmp_ne (rx := some mi) (ry := some mi) (tgt := 13) hx hb dJ7_copyOf_6403c_3 (by decide) (fun c1 => absurd rfl c1) (fun _ => ?_)
  refine lv_iload_n hx hb dJ7_copyOf_6403c_6 rfl (lv_at hl 1 rfl) ?_
  refine kg_newq (N := k) hx hb hown (hts (.classLink RJ7 2 "java/lang/Object") (by decide +kernel)) hao hK hP hD hS hA (nI_pos (by omega)) (nI_clamp (by omega)) (by omega) (Nat.le_of_ble_eq_true rfl) (by show 0 + k ≤ 400; omega) dJ7_copyOf_6403c_7 (fun q H hP hD hS => ?_)
  have hP : va_P D vwCl [(a, .inl (yO, rfs n f)), (q, .inl (yO, rfs k (fun _ => none)))] H := hP
  have hD : va_D A [(a, .inl (yO, rfs n f)), (q, .inl (yO, rfs k (fun _ => none)))] := hD
  refine lv_goto (tgt := 24) hx hb dJ7_copyOf_6403c_10 (by decide) ?_
  refine lv_astore_n (lv' := [(3, .ref q), (0, .ref a), (1, .int (nI k)), (2, .ref mi)]) hx hb dJ7_copyOf_6403c_24 rfl hl (by decide) rfl (fun ls hl => ?_)
  refine lv_aload_n hx hb dJ7_copyOf_6403c_25 rfl (lv_at hl 1 rfl) ?_
  refine lv_iconst (v := 0) hx hb dJ7_copyOf_6403c_26 (by decide) ?_
  refine lv_aload_n hx hb dJ7_copyOf_6403c_27 rfl (lv_at hl 0 rfl) ?_
  refine lv_iconst (v := 0) hx hb dJ7_copyOf_6403c_28 (by decide) ?_
  refine lv_aload_n hx hb dJ7_copyOf_6403c_29 rfl (lv_at hl 1 rfl) ?_
  refine va_alen (D := D) (cl := vwCl) (v := nI n) (ty := oD) hx hb hK hP 0 1 rfl rfl rfl dJ7_copyOf_6403c_30 ?_
  refine lv_iload_n hx hb dJ7_copyOf_6403c_31 rfl (lv_at hl 2 rfl) ?_
  refine va_mmin hx hb (hml.trans hl.1.symm) hown (hts (.methodLink RJ7 304 Lib.Math.min.name) (by decide +kernel)) (hts (.static Lib.Math.min.name) (by decide +kernel)) (hts (.initialized "java/lang/Math") (by decide +kernel)) (hts (.code Lib.Math.min.name Lib.Math.min.code 2 (some .int)) (by decide +kernel)) (Nat.le_of_ble_eq_true rfl) (Nat.le_of_ble_eq_true rfl) (Nat.le_of_ble_eq_true rfl) (by show 0 + k ≤ 400; omega) dJ7_copyOf_6403c_32 ?_
  have e1 : (if nI k < nI n then nI k else nI n) = nI n := if_neg (fun z => absurd ((nI_ltI (by omega) (by omega)).mp z) (by omega))
  rw [e1]
  refine va_copyq (D := D) (cl := vwCl) (C := C) (E0 := "java/lang/Object") (E1 := "java/lang/Object") hx hb (hml.trans hl.1.symm) hown (hts (.methodLink RJ7 150 arraycopyName) (by decide +kernel)) (hts (.native arraycopyName) (by decide +kernel)) (hts (.static arraycopyName) (by decide +kernel)) (hts (.initialized "java/lang/System") (by decide +kernel)) hK hP hD hS 0 1 1 1 rfl rfl rfl rfl (by decide) (by decide) (nI_pos (by omega)) (by rw [nI_clamp (by omega)]; show 0 + n ≤ n; omega) (by rw [nI_clamp (by omega)]; show 0 + n ≤ k; omega) ?_ ?_ (Nat.le_of_ble_eq_true rfl) (by decide +kernel) dJ7_copyOf_6403c_35 (fun H1 locs1 hP1 hD1 hS1 => ?_)
  · intro i hi y hy
    rw [nI_clamp (by omega)] at hi
    have e9 : (0 : Int32).toNatClampNeg + i = i := by rw [show (0 : Int32).toNatClampNeg = 0 from by decide]; omega
    rw [e9] at hy
    obtain ⟨h8, cv, h9, h10⟩ := hle i hi y hy
    exact ⟨cv, by rw [hS.2.1 y (Array.getElem?_eq_some_iff.mp h9).1 h8]; exact h9, h10⟩
  · intro comp c0 h8 h9
    exact vb_asgC (hcb _ hC) comp c0 h8 h9
  rw [nI_clamp (by omega), show (0 : Int32).toNatClampNeg = 0 from by decide] at hP1 hD1
  have hP1 : va_P D vwCl [(a, .inl (yO, rfs n f)), (q, .inl (yO, rfs k (va_cpy f (fun _ => none) 0 0 n)))] H1 := hP1
  have hD1 : va_D A [(a, .inl (yO, rfs n f)), (q, .inl (yO, rfs k (va_cpy f (fun _ => none) 0 0 n)))] := hD1
  refine lv_aload_n hx hb dJ7_copyOf_6403c_38 rfl (lv_at hl 0 rfl) ?_
  refine W.widen (k := 1) (n := 400) (Nat.le_refl _) (by show 0 + k ≤ 400; omega) ?_
  exact W.aret (v := .ref q) hx hb hr (Or.inr ⟨_, rfl⟩) (Or.inr ⟨_, rfl⟩) (fun t ht hW => ⟨⟨(), q, rfl, trivial, by rw [ht]; exact hP1, va_K.moved hW.alike hK, hD1⟩, hS1.F ht⟩) hS1.2.2 dJ7_copyOf_6403c_39
theorem lMi_blind (D : va_G) (yI yO : ClassId) (z0 : Nat) (C : String) (f : Nat → Option Nat) (n : Nat) (ws : va_W) (sz mi : Nat) (av : List Value) : FrameBlind (va_Pc av (fun U => lPre D yI yO z0 C f n ws sz U ∧ va_Mi "[Ljava/lang/Object;" mi U)) := fun a U fr mk z => ⟨z.1, (lPre_blind D yI yO z0 C f n ws sz av a U fr mk ⟨z.1, z.2.1⟩).2, va_Mi.moved (u := U) (U := U.calling fr mk a) (Vm.Alike.refl U.vm) z.2.2⟩
def gC : MethodName := ⟨"java/lang/Object", "getClass", "()Ljava/lang/Class;"⟩
set_option maxRecDepth 20000 in
theorem cL_copyOf2 (l : Launch) (D : va_G) (yI yO : ClassId) (z0 : Nat) (C : String) (hC : Cond.castable C "java/lang/Object" ∈ lB) (a sz n k : Nat) (f : Nat → Option Nat) (hk : n ≤ k ∧ k ≤ 400) : Met l yJ7_copyOf_1904c wsJ7_copyOf_1904c ({ frames := 2, cells := 1, slots := 400, locals := 83 }) (va_Pc [.ref a, .int (nI k)] (lPre D yI yO z0 C f n [(a, .inl (yO, rfs n f))] sz)) (va_Qr (S := Unit) (fun _ => True) (fun _ q t => kPost D yI yO [(a, .inl (yO, rfs n f)), (q, .inl (yO, rfs k (va_cpy f (fun _ => none) 0 0 n)))] (va_A [(a, .inl (yO, rfs n f))] sz) t) (va_A [(a, .inl (yO, rfs n f))] sz)) 1 400 (va_A [(a, .inl (yO, rfs n f))] sz) := by
  refine Met.ofW (cc := cJ7_copyOf_1904c) (maxL := 2) (ret := (some (.array (.object "java/lang/Object")))) (by decide) rfl ?_
  intro p e s m args below meth c s₁ B hml hv
  obtain ⟨rfl, hsz, hP, hK, hD0, hls, hle⟩ := hv
  have hx := B.exec
  have hb := B.bytes
  have hr := B.returns
  have hts := atoms_spec (ws := wsJ7_copyOf_1904c) B.pre
  have hown : s.vm.findClass RJ7 = some m.cls := findClass_of_methodNamed B.named
  have hlocks := B.notSynchronized
  subst hsz
  have hD := hD0.self (sz := s.heap.size)
  generalize hAe : va_A [(a, .inl (yO, rfs n f))] s.heap.size = A at hD hls hle ⊢
  have hA : ∀ q : Nat, s.heap.size ≤ q → A q := fun q h => by rw [← hAe]; exact Or.inr h
  have hS : va_S A s.heap s.heap [] := va_S.rf
  have hl := lv_entry ([.ref a, .int (nI k)]) (n := 2) (Nat.le_of_ble_eq_true rfl)
  rw [lg_entry_eq]
  generalize (lg_sl ([.ref a, .int (nI k)]) ++ List.replicate (2 - (lg_sl ([.ref a, .int (nI k)])).length) Slot.unset).toArray = ls at hl ⊢
  have hl : lv_has ls 2 [(0, .ref a), (1, .int (nI k))] := hl
  have hls0 := hls
  obtain ⟨-, -, -, ⟨mi, hmi⟩, hdc, -⟩ := hls0
  refine lv_aload_n hx hb dJ7_copyOf_1904c_0 rfl (lv_at hl 0 rfl) ?_
  refine lv_iload_n hx hb dJ7_copyOf_1904c_1 rfl (lv_at hl 1 rfl) ?_
  refine lv_aload_n hx hb dJ7_copyOf_1904c_2 rfl (lv_at hl 0 rfl) ?_
  refine va_getC hx hb (hml.trans hl.1.symm) hown (hts (.methodLink RJ7 86 gC) (by decide +kernel)) (va_Dc.use hdc) (hts (.selects "[Ljava/lang/Object;" gC gC) (by decide +kernel)) (hts (.instanceMethod gC) (by decide +kernel)) (hts (.native gC) (by decide +kernel)) hmi ⟨_, hP 0 _ rfl, rfl, va_nmO (hK.2 1 _ rfl).2 (by decide +kernel)⟩ (Nat.le_of_ble_eq_true rfl) (Nat.le_of_ble_eq_true rfl) dJ7_copyOf_1904c_3 ?_
  have hFc := va_free (wc := [(a, .inl (yO, rfs n f))]) hD hS hA [0] rfl
  refine va_callr (va_runS (As := [.ref a, .int (nI k), .ref mi]) (rest := []) ⟨hx, hb, hml, hown, hts⟩ (cL_copyOf3 l D yI yO z0 C hC a s.heap.size n k mi f hk) (va_cwS 3 hts gJ7_copyOf_1904c_J7_copyOf_6403c rfl rfl rfl (by decide +kernel) ⟨Nat.le_of_ble_eq_true rfl, Nat.le_of_ble_eq_true rfl⟩) ⟨lMi_blind D yI yO z0 C f n _ _ mi _, fun U hU hW => ⟨rfl, ⟨by rw [hU], by rw [hU]; exact hP, va_K.moved hW.alike hK, hD.weaken (fun _ _ _ _ => trivial), by rw [hU]; exact ((hls.kept hS.2.1).narrow hFc).moved hW, by rw [hU]; exact ((hle.kept hS.2.1).narrow hFc).moved hW.alike⟩, va_Mi.moved hW.alike hmi⟩⟩ rfl rfl hl.1 rfl (lv_room (Nat.le_of_ble_eq_true rfl)) dJ7_copyOf_1904c_6 ⟨Nat.le_of_ble_eq_true rfl, Nat.le_of_ble_eq_true rfl⟩) hS (fun q _ h => hFc q h) hFc (fun _ q t H1 locs ht hvm _ hB hz1 hk1 hS => ?_)
  obtain ⟨hP1, hK1, hD1⟩ := hB
  rw [ht] at hP1
  exact W.aret (v := .ref q) hx hb hr (Or.inr ⟨_, rfl⟩) (Or.inr ⟨_, rfl⟩) (fun t ht hW => ⟨⟨(), q, rfl, trivial, by rw [ht]; exact hP1, va_K.moved hW.alike hK, hD1.weaken (fun _ _ _ h => hFc _ h)⟩, hS.F ht⟩) hS.2.2 dJ7_copyOf_1904c_9
set_option maxRecDepth 20000 in
theorem cL_growN (l : Launch) (D : va_G) (yI yO : ClassId) (z0 : Nat) (C : String) (hC : Cond.castable C "java/lang/Object" ∈ lB) (h0 a sz n : Nat) (mc : Int32) (f : Nat → Option Nat) (hn : 0 < n ∧ n ≤ 200) : Met l yJx4a65c_grow_92f84 wsJx4a65c_grow_92f84 ({ frames := 3, cells := 1, slots := 400, locals := 110 }) (va_Pc [.ref h0, .int (nI (n + 1))] (lPre D yI yO z0 C f n [(h0, .inr (0, [.int mc, .ref a, .int (nI n)])), (a, .inl (yO, rfs n f))] sz)) (va_Qr (S := Unit) (fun _ => True) (fun _ q t => kPost D yI yO [(h0, .inr (0, [.int mc, .ref q, .int (nI n)])), (q, .inl (yO, rfs (lnew n) (va_cpy f (fun _ => none) 0 0 n)))] (va_A [(h0, .inr (0, [.int mc, .ref a, .int (nI n)])), (a, .inl (yO, rfs n f))] sz) t) (va_A [(h0, .inr (0, [.int mc, .ref a, .int (nI n)])), (a, .inl (yO, rfs n f))] sz)) 1 400 (va_A [(h0, .inr (0, [.int mc, .ref a, .int (nI n)])), (a, .inl (yO, rfs n f))] sz) := by
  refine Met.ofW (cc := cJx4a65c_grow_92f84) (maxL := 4) (ret := (some (.array (.object "java/lang/Object")))) (by decide) rfl ?_
  intro p e s m args below meth c s₁ B hml hv
  obtain ⟨rfl, hsz, hP, hK, hD0, hls, hle⟩ := hv
  have hx := B.exec
  have hb := B.bytes
  have hr := B.returns
  have hts := atoms_spec (ws := wsJx4a65c_grow_92f84) B.pre
  have hown : s.vm.findClass RJx4a65c = some m.cls := findClass_of_methodNamed B.named
  have hlocks := B.notSynchronized
  subst hsz
  have hD := hD0.self (sz := s.heap.size)
  generalize hAe : va_A [(h0, .inr (0, [.int mc, .ref a, .int (nI n)])), (a, .inl (yO, rfs n f))] s.heap.size = A at hD hls hle ⊢
  have hA : ∀ q : Nat, s.heap.size ≤ q → A q := fun q h => by rw [← hAe]; exact Or.inr h
  have hS : va_S A s.heap s.heap [] := va_S.rf
  have hl := lv_entry ([.ref h0, .int (nI (n + 1))]) (n := 4) (Nat.le_of_ble_eq_true rfl)
  rw [lg_entry_eq]
  generalize (lg_sl ([.ref h0, .int (nI (n + 1))]) ++ List.replicate (4 - (lg_sl ([.ref h0, .int (nI (n + 1))])).length) Slot.unset).toArray = ls at hl ⊢
  have hl : lv_has ls 4 [(0, .ref h0), (1, .int (nI (n + 1)))] := hl
  have e2 : lnew n ≤ 400 ∧ n ≤ lnew n := by unfold lnew; split <;> omega
  refine lv_aload_n hx hb dJx4a65c_grow_92f84_0 rfl (lv_at hl 0 rfl) ?_
  refine va_get (D := D) (cl := vwCl) (ci := 0) (v := .ref a) (C := RJx4a65c) (T := TJx4a65c) (N := 3) hx hb hts (by decide +kernel) hown hK hP 0 rfl rfl 1 (by decide) (hts (.fieldLink RJx4a65c 9 "java/util/ArrayList" "elementData" "[Ljava/lang/Object;") (by decide +kernel)) (fun _ h9 => h9) rfl dJx4a65c_grow_92f84_1 ?_
  refine va_alen (D := D) (cl := vwCl) (v := nI n) (ty := oD) hx hb hK hP 1 1 rfl rfl rfl dJx4a65c_grow_92f84_4 ?_
  refine lv_istore_n (lv' := [(2, .int (nI n)), (0, .ref h0), (1, .int (nI (n + 1)))]) hx hb dJx4a65c_grow_92f84_5 rfl hl (by decide) rfl (fun ls hl => ?_)
  refine lv_iload_n hx hb dJx4a65c_grow_92f84_6 rfl (lv_at hl 0 rfl) ?_
  refine lv_if_gt (tgt := 20) hx hb dJx4a65c_grow_92f84_7 (by decide) (fun _ => ?_) (fun c1 => absurd ((nI_ltI (a := 0) (by omega) (by omega)).mpr hn.1) c1)
  refine lv_iload_n hx hb dJx4a65c_grow_92f84_20 rfl (lv_at hl 0 rfl) ?_
  refine lv_iload_n hx hb dJx4a65c_grow_92f84_21 rfl (lv_at hl 2 rfl) ?_
  refine lv_iload_n hx hb dJx4a65c_grow_92f84_22 rfl (lv_at hl 0 rfl) ?_
  refine lv_isub hx hb dJx4a65c_grow_92f84_23 ?_
  refine lv_iload_n hx hb dJx4a65c_grow_92f84_24 rfl (lv_at hl 0 rfl) ?_
  refine lv_iconst (v := 1) hx hb dJx4a65c_grow_92f84_25 (by decide) ?_
  refine lv_ishr hx hb dJx4a65c_grow_92f84_26 ?_
  have e3 : nI (n + 1) - nI n = 1 := by rw [pk_sub (by omega)]; rw [show n + 1 - n = 1 by omega]; rfl
  have e4 : nI n >>> ((1 : Int32) &&& 31) = nI (n / 2) := by have z := pk_shrN (n := n) (by omega) ((1 : Int32) &&& 31) 1 (by decide); rw [Nat.pow_one] at z; exact z
  rw [e3, e4]
  refine va_calli (va_runS (As := [.int (nI n), .int 1, .int (nI (n / 2))]) (rest := []) ⟨hx, hb, hml, hown, hts⟩ (cL_newLength l D yI yO n hn.2) (va_cwS 3 hts gJx4a65c_grow_92f84_J8_newLength_cabcc rfl rfl rfl (by decide +kernel) ⟨Nat.le_of_ble_eq_true rfl, Nat.le_of_ble_eq_true rfl⟩) ⟨fun _ _ _ _ z => z, fun U hU hW => ⟨rfl, trivial⟩⟩ rfl rfl hl.1 rfl (lv_room (Nat.le_of_ble_eq_true rfl)) dJx4a65c_grow_92f84_27 ⟨Nat.le_of_ble_eq_true rfl, Nat.le_of_ble_eq_true rfl⟩) hS (fun q _ h => h.elim) (fun q h => h.elim) (fun r _ t H1 locs ht hvm hr1 _ hz1 hk1 hS => ?_)
  have hP := hP.kept (H1 := H1) (fun k q hk => hk1 q.1 (hP k q hk).lt (fun z => z))
  generalize H1 = H at hP hS ⊢
  rw [hr1]
  refine lv_istore_n (lv' := [(3, .int (nI (lnew n))), (2, .int (nI n)), (0, .ref h0), (1, .int (nI (n + 1)))]) hx hb dJx4a65c_grow_92f84_30 rfl hl (by decide) rfl (fun ls hl => ?_)
  refine lv_aload_n hx hb dJx4a65c_grow_92f84_31 rfl (lv_at hl 2 rfl) ?_
  refine lv_aload_n hx hb dJx4a65c_grow_92f84_32 rfl (lv_at hl 2 rfl) ?_
  refine va_get (D := D) (cl := vwCl) (ci := 0) (v := .ref a) (C := RJx4a65c) (T := TJx4a65c) (N := 3) hx hb hts (by decide +kernel) hown hK hP 0 rfl rfl 1 (by decide) (hts (.fieldLink RJx4a65c 9 "java/util/ArrayList" "elementData" "[Ljava/lang/Object;") (by decide +kernel)) (fun _ h9 => h9) rfl dJx4a65c_grow_92f84_33 ?_
  refine lv_iload_n hx hb dJx4a65c_grow_92f84_36 rfl (lv_at hl 0 rfl) ?_
  have hPc := hP.sub (ws' := [(a, .inl (yO, rfs n f))]) [1] rfl
  have hDc := hD.sub (ws' := [(a, .inl (yO, rfs n f))]) [1] (by decide) rfl
  have hFc := va_free (wc := [(a, .inl (yO, rfs n f))]) hD hS hA [1] rfl
  refine va_callr (va_runS (As := [.ref a, .int (nI (lnew n))]) (rest := [.ref h0]) ⟨hx, hb, hml, hown, hts⟩ (cL_copyOf2 l D yI yO z0 C hC a H.size n (lnew n) f ⟨e2.2, e2.1⟩) (va_cwS 2 hts gJx4a65c_grow_92f84_J7_copyOf_1904c rfl rfl rfl (by decide +kernel) ⟨Nat.le_of_ble_eq_true rfl, Nat.le_of_ble_eq_true rfl⟩) ⟨lPre_blind D yI yO z0 C f n _ _ _, fun U hU hW => ⟨rfl, by rw [hU], by rw [hU]; exact hPc, va_K.moved hW.alike hK, hDc.weaken (fun _ _ _ _ => trivial), by rw [hU]; exact ((hls.kept hS.2.1).narrow hFc).moved hW, by rw [hU]; exact ((hle.kept hS.2.1).narrow hFc).moved hW.alike⟩⟩ rfl rfl hl.1 rfl (lv_room (Nat.le_of_ble_eq_true rfl)) dJx4a65c_grow_92f84_37 ⟨Nat.le_of_ble_eq_true rfl, Nat.le_of_ble_eq_true rfl⟩) hS (fun q _ h => hFc q h) hFc (fun _ q t H1 locs ht hvm _ hB hz1 hk1 hS => ?_)
  obtain ⟨hP1, hK1, hD1⟩ := hB
  rw [ht] at hP1
  obtain ⟨hP, hD⟩ := va_join (wr := [(h0, .inr (0, [.int mc, .ref a, .int (nI n)]))]) (w1 := [(a, .inl (yO, rfs n f)), (q, .inl (yO, rfs (lnew n) (va_cpy f (fun _ => none) 0 0 n)))]) hP hD [1] [0] rfl rfl (by decide) (by decide) hk1 hFc hP1 hD1
  generalize H1 = H at hP hS ⊢
  have hP : va_P D vwCl [(h0, .inr (0, [.int mc, .ref a, .int (nI n)])), (a, .inl (yO, rfs n f)), (q, .inl (yO, rfs (lnew n) (va_cpy f (fun _ => none) 0 0 n)))] H := hP
  have hD : va_D A [(h0, .inr (0, [.int mc, .ref a, .int (nI n)])), (a, .inl (yO, rfs n f)), (q, .inl (yO, rfs (lnew n) (va_cpy f (fun _ => none) 0 0 n)))] := hD
  refine lv_dup_x1 hx hb dJx4a65c_grow_92f84_40 rfl rfl ?_
  refine va_put (D := D) (ci := 0) (v := .ref q) (ty := .array oD) (C := RJx4a65c) (T := TJx4a65c) (N := 3) hx hb hts (by decide +kernel) tyJx4a65c tyJx4a65c_ok nmJx4a65c hown hK hP hD hS 0 rfl rfl 1 (by decide) (hts (.fieldLink RJx4a65c 9 "java/util/ArrayList" "elementData" "[Ljava/lang/Object;") (by decide +kernel)) (fun _ h9 => h9) rfl (by decide +kernel) rfl rfl (Nat.le_of_ble_eq_true rfl) dJx4a65c_grow_92f84_41 (fun H locs hP hD hS => ?_)
  have hP9 := hP.sub (ws' := [(h0, .inr (0, [.int mc, .ref q, .int (nI n)])), (q, .inl (yO, rfs (lnew n) (va_cpy f (fun _ => none) 0 0 n)))]) [0, 2] rfl
  have hD9 := hD.sub (ws' := [(h0, .inr (0, [.int mc, .ref q, .int (nI n)])), (q, .inl (yO, rfs (lnew n) (va_cpy f (fun _ => none) 0 0 n)))]) [0, 2] (by decide) rfl
  exact W.aret (v := .ref q) hx hb hr (Or.inr ⟨_, rfl⟩) (Or.inr ⟨_, rfl⟩) (fun t ht hW => ⟨⟨(), q, rfl, trivial, by rw [ht]; exact hP9, va_K.moved hW.alike hK, hD9⟩, hS.F ht⟩) hS.2.2 dJx4a65c_grow_92f84_44
set_option maxRecDepth 20000 in
theorem cL_growE (l : Launch) (D : va_G) (yI yO : ClassId) (z0 : Nat) (C : String) (h0 sz : Nat) (mc : Int32) : Met l yJx4a65c_grow_92f84 wsJx4a65c_grow_92f84 ({ frames := 3, cells := 1, slots := 400, locals := 110 }) (va_Pc [.ref h0, .int 1] (lPre D yI yO z0 C (fun _ => none) 0 [(h0, .inr (0, [.int mc, .ref z0, .int (nI 0)]))] sz)) (va_Qr (S := Unit) (fun _ => True) (fun _ q t => kPost D yI yO [(h0, .inr (0, [.int mc, .ref q, .int (nI 0)])), (q, .inl (yO, rfs 10 (fun _ => none)))] (va_A [(h0, .inr (0, [.int mc, .ref z0, .int (nI 0)]))] sz) t) (va_A [(h0, .inr (0, [.int mc, .ref z0, .int (nI 0)]))] sz)) 1 400 (va_A [(h0, .inr (0, [.int mc, .ref z0, .int (nI 0)]))] sz) := by
  refine Met.ofW (cc := cJx4a65c_grow_92f84) (maxL := 4) (ret := (some (.array (.object "java/lang/Object")))) (by decide) rfl ?_
  intro p e s m args below meth c s₁ B hml hv
  obtain ⟨rfl, hsz, hP, hK, hD0, hls, hle⟩ := hv
  have hx := B.exec
  have hb := B.bytes
  have hr := B.returns
  have hts := atoms_spec (ws := wsJx4a65c_grow_92f84) B.pre
  have hown : s.vm.findClass RJx4a65c = some m.cls := findClass_of_methodNamed B.named
  have hlocks := B.notSynchronized
  subst hsz
  have hD := hD0.self (sz := s.heap.size)
  generalize hAe : va_A [(h0, .inr (0, [.int mc, .ref z0, .int (nI 0)]))] s.heap.size = A at hD hls hle ⊢
  have hA : ∀ q : Nat, s.heap.size ≤ q → A q := fun q h => by rw [← hAe]; exact Or.inr h
  have hS : va_S A s.heap s.heap [] := va_S.rf
  have hl := lv_entry ([.ref h0, .int 1]) (n := 4) (Nat.le_of_ble_eq_true rfl)
  rw [lg_entry_eq]
  generalize (lg_sl ([.ref h0, .int 1]) ++ List.replicate (4 - (lg_sl ([.ref h0, .int 1])).length) Slot.unset).toArray = ls at hl ⊢
  have hl : lv_has ls 4 [(0, .ref h0), (1, .int 1)] := hl
  obtain ⟨hzz, ⟨zc, hz1, hz2, hz3, hz4⟩, hao, -⟩ := hls
  refine lv_aload_n hx hb dJx4a65c_grow_92f84_0 rfl (lv_at hl 0 rfl) ?_
  refine va_get (D := D) (cl := vwCl) (ci := 0) (v := .ref z0) (C := RJx4a65c) (T := TJx4a65c) (N := 3) hx hb hts (by decide +kernel) hown hK hP 0 rfl rfl 1 (by decide) (hts (.fieldLink RJx4a65c 9 "java/util/ArrayList" "elementData" "[Ljava/lang/Object;") (by decide +kernel)) (fun _ h9 => h9) rfl dJx4a65c_grow_92f84_1 ?_
  refine W.alen (n := 0) hx hb hz1 hz2 (by rw [hz3]; rfl) rfl rfl dJx4a65c_grow_92f84_4 ?_
  refine W.eq (g2 := F0 m 5 ls [.int 0]) rfl ?_
  refine lv_istore_n (lv' := [(2, .int 0), (0, .ref h0), (1, .int 1)]) hx hb dJx4a65c_grow_92f84_5 rfl hl (by decide) rfl (fun ls hl => ?_)
  refine lv_iload_n hx hb dJx4a65c_grow_92f84_6 rfl (lv_at hl 0 rfl) ?_
  refine lv_if_gt (tgt := 20) hx hb dJx4a65c_grow_92f84_7 (by decide) (fun c1 => absurd c1 (by decide)) (fun _ => ?_)
  refine lv_aload_n hx hb dJx4a65c_grow_92f84_10 rfl (lv_at hl 1 rfl) ?_
  refine va_get (D := D) (cl := vwCl) (ci := 0) (v := .ref z0) (C := RJx4a65c) (T := TJx4a65c) (N := 3) hx hb hts (by decide +kernel) hown hK hP 0 rfl rfl 1 (by decide) (hts (.fieldLink RJx4a65c 9 "java/util/ArrayList" "elementData" "[Ljava/lang/Object;") (by decide +kernel)) (fun _ h9 => h9) rfl dJx4a65c_grow_92f84_11 ?_
  refine va_gets hx hb hzz hS hown (hts (.fieldLink RJx4a65c 39 "java/util/ArrayList" "DEFAULTCAPACITY_EMPTY_ELEMENTDATA" "[Ljava/lang/Object;") (by decide +kernel)) (fun _ h => h) dJx4a65c_grow_92f84_14 ?_
  refine lv_acmp_eq (rx := some z0) (ry := some z0) (tgt := 45) hx hb dJx4a65c_grow_92f84_17 (by decide) (fun _ => ?_) (fun c1 => absurd rfl c1)
  refine lv_aload_n hx hb dJx4a65c_grow_92f84_45 rfl (lv_at hl 1 rfl) ?_
  refine lv_bipush (v := 10) hx hb dJx4a65c_grow_92f84_46 (by decide) ?_
  refine lv_iload_n hx hb dJx4a65c_grow_92f84_48 rfl (lv_at hl 2 rfl) ?_
  refine va_mmax hx hb (hml.trans hl.1.symm) hown (hts (.methodLink RJx4a65c 79 Lib.Math.max.name) (by decide +kernel)) (hts (.static Lib.Math.max.name) (by decide +kernel)) (hts (.initialized "java/lang/Math") (by decide +kernel)) (hts (.code Lib.Math.max.name Lib.Math.max.code 2 (some .int)) (by decide +kernel)) (Nat.le_of_ble_eq_true rfl) (Nat.le_of_ble_eq_true rfl) (Nat.le_of_ble_eq_true rfl) (Nat.le_of_ble_eq_true rfl) dJx4a65c_grow_92f84_49 ?_
  rw [if_neg (show ¬ (10 : Int32) < 1 by decide)]
  refine kg_newq (N := 10) hx hb hown (hts (.classLink RJx4a65c 7 "java/lang/Object") (by decide +kernel)) hao hK hP hD hS hA (by decide) (by decide) (by decide) (Nat.le_of_ble_eq_true rfl) (Nat.le_of_ble_eq_true rfl) dJx4a65c_grow_92f84_52 (fun q H hP hD hS => ?_)
  have hP : va_P D vwCl [(h0, .inr (0, [.int mc, .ref z0, .int (nI 0)])), (q, .inl (yO, rfs 10 (fun _ => none)))] H := hP
  have hD : va_D A [(h0, .inr (0, [.int mc, .ref z0, .int (nI 0)])), (q, .inl (yO, rfs 10 (fun _ => none)))] := hD
  refine lv_dup_x1 hx hb dJx4a65c_grow_92f84_55 rfl rfl ?_
  refine va_put (D := D) (ci := 0) (v := .ref q) (ty := .array oD) (C := RJx4a65c) (T := TJx4a65c) (N := 3) hx hb hts (by decide +kernel) tyJx4a65c tyJx4a65c_ok nmJx4a65c hown hK hP hD hS 0 rfl rfl 1 (by decide) (hts (.fieldLink RJx4a65c 9 "java/util/ArrayList" "elementData" "[Ljava/lang/Object;") (by decide +kernel)) (fun _ h9 => h9) rfl (by decide +kernel) rfl rfl (Nat.le_of_ble_eq_true rfl) dJx4a65c_grow_92f84_56 (fun H locs hP hD hS => ?_)
  have hP : va_P D vwCl [(h0, .inr (0, [.int mc, .ref q, .int (nI 0)])), (q, .inl (yO, rfs 10 (fun _ => none)))] H := hP
  have hD : va_D A [(h0, .inr (0, [.int mc, .ref q, .int (nI 0)])), (q, .inl (yO, rfs 10 (fun _ => none)))] := hD
  refine W.widen (k := 1) (n := 400) (Nat.le_of_ble_eq_true rfl) (Nat.le_of_ble_eq_true rfl) ?_
  exact W.aret (v := .ref q) hx hb hr (Or.inr ⟨_, rfl⟩) (Or.inr ⟨_, rfl⟩) (fun t ht hW => ⟨⟨(), q, rfl, trivial, by rw [ht]; exact hP, va_K.moved hW.alike hK, hD⟩, hS.F ht⟩) hS.2.2 dJx4a65c_grow_92f84_59
set_option maxRecDepth 20000 in
theorem cL_grow0N (l : Launch) (D : va_G) (yI yO : ClassId) (z0 : Nat) (C : String) (hC : Cond.castable C "java/lang/Object" ∈ lB) (h0 a sz n : Nat) (mc : Int32) (f : Nat → Option Nat) (hn : 0 < n ∧ n ≤ 200) : Met l yJx4a65c_grow_d5877 wsJx4a65c_grow_d5877 ({ frames := 4, cells := 1, slots := 400, locals := 133 }) (va_Pc [.ref h0] (lPre D yI yO z0 C f n [(h0, .inr (0, [.int mc, .ref a, .int (nI n)])), (a, .inl (yO, rfs n f))] sz)) (va_Qr (S := Unit) (fun _ => True) (fun _ q t => kPost D yI yO [(h0, .inr (0, [.int mc, .ref q, .int (nI n)])), (q, .inl (yO, rfs (lnew n) (va_cpy f (fun _ => none) 0 0 n)))] (va_A [(h0, .inr (0, [.int mc, .ref a, .int (nI n)])), (a, .inl (yO, rfs n f))] sz) t) (va_A [(h0, .inr (0, [.int mc, .ref a, .int (nI n)])), (a, .inl (yO, rfs n f))] sz)) 1 400 (va_A [(h0, .inr (0, [.int mc, .ref a, .int (nI n)])), (a, .inl (yO, rfs n f))] sz) := by
  refine Met.ofW (cc := cJx4a65c_grow_d5877) (maxL := 1) (ret := (some (.array (.object "java/lang/Object")))) (by decide) rfl ?_
  intro p e s m args below meth c s₁ B hml hv
  obtain ⟨rfl, hsz, hP, hK, hD0, hls, hle⟩ := hv
  have hx := B.exec
  have hb := B.bytes
  have hr := B.returns
  have hts := atoms_spec (ws := wsJx4a65c_grow_d5877) B.pre
  have hown : s.vm.findClass RJx4a65c = some m.cls := findClass_of_methodNamed B.named
  have hlocks := B.notSynchronized
  subst hsz
  have hD := hD0.self (sz := s.heap.size)
  generalize hAe : va_A [(h0, .inr (0, [.int mc, .ref a, .int (nI n)])), (a, .inl (yO, rfs n f))] s.heap.size = A at hD hls hle ⊢
  have hA : ∀ q : Nat, s.heap.size ≤ q → A q := fun q h => by rw [← hAe]; exact Or.inr h
  have hS : va_S A s.heap s.heap [] := va_S.rf
  have hl := lv_entry ([.ref h0]) (n := 1) (Nat.le_of_ble_eq_true rfl)
  rw [lg_entry_eq]
  generalize (lg_sl ([.ref h0]) ++ List.replicate (1 - (lg_sl ([.ref h0])).length) Slot.unset).toArray = ls at hl ⊢
  have hl : lv_has ls 1 [(0, .ref h0)] := hl
  refine lv_aload_n hx hb dJx4a65c_grow_d5877_0 rfl (lv_at hl 0 rfl) ?_
  refine lv_aload_n hx hb dJx4a65c_grow_d5877_1 rfl (lv_at hl 0 rfl) ?_
  refine va_get (D := D) (cl := vwCl) (ci := 0) (v := .int (nI n)) (C := RJx4a65c) (T := TJx4a65c) (N := 3) hx hb hts (by decide +kernel) hown hK hP 0 rfl rfl 2 (by decide) (hts (.fieldLink RJx4a65c 48 "java/util/ArrayList" "size" "I") (by decide +kernel)) (fun _ h9 => h9) rfl dJx4a65c_grow_d5877_2 ?_
  refine lv_iconst (v := 1) hx hb dJx4a65c_grow_d5877_5 (by decide) ?_
  refine lv_iadd hx hb dJx4a65c_grow_d5877_6 ?_
  refine W.eq (g2 := F0 m 7 ls [.int (nI (n + 1)), .ref h0]) (by rw [nI_1]) ?_
  obtain ⟨H, hH⟩ : ∃ H, H = s.heap := ⟨_, rfl⟩
  rw [← hH]
  have hP : va_P D vwCl [(h0, .inr (0, [.int mc, .ref a, .int (nI n)])), (a, .inl (yO, rfs n f))] H := by rw [hH]; exact hP
  have hS : va_S A s.heap H [] := by rw [hH]; exact hS
  have hFc := va_free (wc := [(h0, .inr (0, [.int mc, .ref a, .int (nI n)])), (a, .inl (yO, rfs n f))]) hD hS hA [0, 1] rfl
  refine va_callr (va_runV (As := [.int (nI (n + 1))]) (rest := []) ⟨hx, hb, hml, hown, hts⟩ (cL_growN l D yI yO z0 C hC h0 a H.size n mc f hn) (cwV 1 hts gJx4a65c_grow_d5877_Jx4a65c_grow_92f84 rfl rfl rfl (by decide +kernel) ⟨Nat.le_of_ble_eq_true rfl, Nat.le_of_ble_eq_true rfl⟩) ⟨lPre_blind D yI yO z0 C f n _ _ _, va_recv hK hP (ci := 0) (q0 := 0) rfl rfl, fun U hU hW => ⟨rfl, by rw [hU], by rw [hU]; exact hP, va_K.moved hW.alike hK, hD.weaken (fun _ _ _ _ => trivial), by rw [hU]; exact ((hls.kept hS.2.1).narrow hFc).moved hW, by rw [hU]; exact ((hle.kept hS.2.1).narrow hFc).moved hW.alike⟩⟩ rfl rfl hl.1 rfl (lv_room (Nat.le_of_ble_eq_true rfl)) dJx4a65c_grow_d5877_7 ⟨Nat.le_of_ble_eq_true rfl, Nat.le_of_ble_eq_true rfl⟩) hS (fun q _ h => hFc q h) hFc (fun _ q t H1 locs ht hvm _ hB hz1 hk1 hS => ?_)
  obtain ⟨hP1, hK1, hD1⟩ := hB
  rw [ht] at hP1
  exact W.aret (v := .ref q) hx hb hr (Or.inr ⟨_, rfl⟩) (Or.inr ⟨_, rfl⟩) (fun t ht hW => ⟨⟨(), q, rfl, trivial, by rw [ht]; exact hP1, va_K.moved hW.alike hK, hD1.weaken (fun _ _ _ h => hFc _ h)⟩, hS.F ht⟩) hS.2.2 dJx4a65c_grow_d5877_10
set_option maxRecDepth 20000 in
theorem cL_grow0E (l : Launch) (D : va_G) (yI yO : ClassId) (z0 : Nat) (C : String) (h0 sz : Nat) (mc : Int32) : Met l yJx4a65c_grow_d5877 wsJx4a65c_grow_d5877 ({ frames := 4, cells := 1, slots := 400, locals := 133 }) (va_Pc [.ref h0] (lPre D yI yO z0 C (fun _ => none) 0 [(h0, .inr (0, [.int mc, .ref z0, .int (nI 0)]))] sz)) (va_Qr (S := Unit) (fun _ => True) (fun _ q t => kPost D yI yO [(h0, .inr (0, [.int mc, .ref q, .int (nI 0)])), (q, .inl (yO, rfs 10 (fun _ => none)))] (va_A [(h0, .inr (0, [.int mc, .ref z0, .int (nI 0)]))] sz) t) (va_A [(h0, .inr (0, [.int mc, .ref z0, .int (nI 0)]))] sz)) 1 400 (va_A [(h0, .inr (0, [.int mc, .ref z0, .int (nI 0)]))] sz) := by
  refine Met.ofW (cc := cJx4a65c_grow_d5877) (maxL := 1) (ret := (some (.array (.object "java/lang/Object")))) (by decide) rfl ?_
  intro p e s m args below meth c s₁ B hml hv
  obtain ⟨rfl, hsz, hP, hK, hD0, hls, hle⟩ := hv
  have hx := B.exec
  have hb := B.bytes
  have hr := B.returns
  have hts := atoms_spec (ws := wsJx4a65c_grow_d5877) B.pre
  have hown : s.vm.findClass RJx4a65c = some m.cls := findClass_of_methodNamed B.named
  have hlocks := B.notSynchronized
  subst hsz
  have hD := hD0.self (sz := s.heap.size)
  generalize hAe : va_A [(h0, .inr (0, [.int mc, .ref z0, .int (nI 0)]))] s.heap.size = A at hD hls hle ⊢
  have hA : ∀ q : Nat, s.heap.size ≤ q → A q := fun q h => by rw [← hAe]; exact Or.inr h
  have hS : va_S A s.heap s.heap [] := va_S.rf
  have hl := lv_entry ([.ref h0]) (n := 1) (Nat.le_of_ble_eq_true rfl)
  rw [lg_entry_eq]
  generalize (lg_sl ([.ref h0]) ++ List.replicate (1 - (lg_sl ([.ref h0])).length) Slot.unset).toArray = ls at hl ⊢
  have hl : lv_has ls 1 [(0, .ref h0)] := hl
  refine lv_aload_n hx hb dJx4a65c_grow_d5877_0 rfl (lv_at hl 0 rfl) ?_
  refine lv_aload_n hx hb dJx4a65c_grow_d5877_1 rfl (lv_at hl 0 rfl) ?_
  refine va_get (D := D) (cl := vwCl) (ci := 0) (v := .int (nI 0)) (C := RJx4a65c) (T := TJx4a65c) (N := 3) hx hb hts (by decide +kernel) hown hK hP 0 rfl rfl 2 (by decide) (hts (.fieldLink RJx4a65c 48 "java/util/ArrayList" "size" "I") (by decide +kernel)) (fun _ h9 => h9) rfl dJx4a65c_grow_d5877_2 ?_
  refine lv_iconst (v := 1) hx hb dJx4a65c_grow_d5877_5 (by decide) ?_
  refine lv_iadd hx hb dJx4a65c_grow_d5877_6 ?_
  refine W.eq (g2 := F0 m 7 ls [.int 1, .ref h0]) (by rfl) ?_
  obtain ⟨H, hH⟩ : ∃ H, H = s.heap := ⟨_, rfl⟩
  rw [← hH]
  have hP : va_P D vwCl [(h0, .inr (0, [.int mc, .ref z0, .int (nI 0)]))] H := by rw [hH]; exact hP
  have hS : va_S A s.heap H [] := by rw [hH]; exact hS
  have hFc := va_free (wc := [(h0, .inr (0, [.int mc, .ref z0, .int (nI 0)]))]) hD hS hA [0] rfl
  refine va_callr (va_runV (As := [.int 1]) (rest := []) ⟨hx, hb, hml, hown, hts⟩ (cL_growE l D yI yO z0 C h0 H.size mc) (cwV 1 hts gJx4a65c_grow_d5877_Jx4a65c_grow_92f84 rfl rfl rfl (by decide +kernel) ⟨Nat.le_of_ble_eq_true rfl, Nat.le_of_ble_eq_true rfl⟩) ⟨lPre_blind D yI yO z0 C (fun _ => none) 0 _ _ _, va_recv hK hP (ci := 0) (q0 := 0) rfl rfl, fun U hU hW => ⟨rfl, by rw [hU], by rw [hU]; exact hP, va_K.moved hW.alike hK, hD.weaken (fun _ _ _ _ => trivial), by rw [hU]; exact ((hls.kept hS.2.1).narrow hFc).moved hW, by rw [hU]; exact ((hle.kept hS.2.1).narrow hFc).moved hW.alike⟩⟩ rfl rfl hl.1 rfl (lv_room (Nat.le_of_ble_eq_true rfl)) dJx4a65c_grow_d5877_7 ⟨Nat.le_of_ble_eq_true rfl, Nat.le_of_ble_eq_true rfl⟩) hS (fun q _ h => hFc q h) hFc (fun _ q t H1 locs ht hvm _ hB hz1 hk1 hS => ?_)
  obtain ⟨hP1, hK1, hD1⟩ := hB
  rw [ht] at hP1
  exact W.aret (v := .ref q) hx hb hr (Or.inr ⟨_, rfl⟩) (Or.inr ⟨_, rfl⟩) (fun t ht hW => ⟨⟨(), q, rfl, trivial, by rw [ht]; exact hP1, va_K.moved hW.alike hK, hD1.weaken (fun _ _ _ h => hFc _ h)⟩, hS.F ht⟩) hS.2.2 dJx4a65c_grow_d5877_10
set_option maxRecDepth 20000 in
theorem cL_add3R (l : Launch) (D : va_G) (yI yO : ClassId) (z0 : Nat) (rr : vw_C) (ci : Nat) (hrr : vwCl[ci]? = some rr) (hC : Cond.castable rr.1 "java/lang/Object" ∈ lB) (h0 v : Nat) (vs : List Value) (a sz n cap : Nat) (mc : Int32) (f : Nat → Option Nat) (hn : n < cap ∧ cap ≤ 400) : Met l yJx4a65c_add_72be8 wsJx4a65c_add_72be8 ({ frames := 5, cells := 1, slots := 400, locals := 155 }) (va_Pc [.ref h0, .ref v, .ref a, .int (nI n)] (lPre D yI yO z0 rr.1 (fun _ => none) 0 [(h0, .inr (0, [.int mc, .ref a, .int (nI n)])), (a, .inl (yO, rfs cap f)), (v, .inr (ci, vs))] sz)) (va_Qv (S := Nat) (fun _ => True) (fun q t => kPost D yI yO [(h0, .inr (0, [.int mc, .ref a, .int (nI (n + 1))])), (a, .inl (yO, rfs cap (va_up f n (some v)))), (v, .inr (ci, vs))] (va_A [(h0, .inr (0, [.int mc, .ref a, .int (nI n)])), (a, .inl (yO, rfs cap f)), (v, .inr (ci, vs))] sz) t) (va_A [(h0, .inr (0, [.int mc, .ref a, .int (nI n)])), (a, .inl (yO, rfs cap f)), (v, .inr (ci, vs))] sz)) 1 400 (va_A [(h0, .inr (0, [.int mc, .ref a, .int (nI n)])), (a, .inl (yO, rfs cap f)), (v, .inr (ci, vs))] sz) := by
  refine Met.ofW (cc := cJx4a65c_add_72be8) (maxL := 4) (ret := none) (by decide) rfl ?_
  intro p e s m args below meth c s₁ B hml hv
  obtain ⟨rfl, hsz, hP, hK, hD0, hls, hle⟩ := hv
  have hx := B.exec
  have hb := B.bytes
  have hr := B.returns
  have hts := atoms_spec (ws := wsJx4a65c_add_72be8) B.pre
  have hown : s.vm.findClass RJx4a65c = some m.cls := findClass_of_methodNamed B.named
  have hlocks := B.notSynchronized
  subst hsz
  have hD := hD0.self (sz := s.heap.size)
  generalize hAe : va_A [(h0, .inr (0, [.int mc, .ref a, .int (nI n)])), (a, .inl (yO, rfs cap f)), (v, .inr (ci, vs))] s.heap.size = A at hD hls hle ⊢
  have hA : ∀ q : Nat, s.heap.size ≤ q → A q := fun q h => by rw [← hAe]; exact Or.inr h
  have hS : va_S A s.heap s.heap [] := va_S.rf
  have hl := lv_entry ([.ref h0, .ref v, .ref a, .int (nI n)]) (n := 4) (Nat.le_of_ble_eq_true rfl)
  rw [lg_entry_eq]
  generalize (lg_sl ([.ref h0, .ref v, .ref a, .int (nI n)]) ++ List.replicate (4 - (lg_sl ([.ref h0, .ref v, .ref a, .int (nI n)])).length) Slot.unset).toArray = ls at hl ⊢
  have hl : lv_has ls 4 [(0, .ref h0), (1, .ref v), (2, .ref a), (3, .int (nI n))] := hl
  have hls0 := hls
  obtain ⟨hzz, ⟨zc, hz1, hz2, hz3, hz4⟩, hao, -, -, hcb⟩ := hls0
  refine lv_iload_n hx hb dJx4a65c_add_72be8_0 rfl (lv_at hl 3 rfl) ?_
  refine lv_aload_n hx hb dJx4a65c_add_72be8_1 rfl (lv_at hl 2 rfl) ?_
  refine va_alen (D := D) (cl := vwCl) (v := nI cap) (ty := oD) hx hb hK hP 1 1 rfl rfl rfl dJx4a65c_add_72be8_2 ?_
  refine lv_icmp_ne (tgt := 11) hx hb dJx4a65c_add_72be8_3 (by decide) (fun _ => ?_) (fun c1 => absurd ((nI_eq (by omega) (by omega)).mp c1) (by omega))
  skip
  refine lv_aload_n hx hb dJx4a65c_add_72be8_11 rfl (lv_at hl 2 rfl) ?_
  refine lv_iload_n hx hb dJx4a65c_add_72be8_12 rfl (lv_at hl 3 rfl) ?_
  refine lv_aload_n hx hb dJx4a65c_add_72be8_13 rfl (lv_at hl 1 rfl) ?_
  refine va_astqO (D := D) (cl := vwCl) (tys := [(yI, .int), (yO, .object "java/lang/Object")]) (E := "java/lang/Object") (r := rr) (f := f) hx hb hK hP hD hS 1 1 2 ci rfl rfl (hcb _ hC) rfl hrr (i := nI n) (by exact vp_in_nI hn.1 (by omega)) dJx4a65c_add_72be8_14 (fun H locs hP hD hS => ?_)
  rw [nI_clamp (by omega)] at hP hD
  have hP : va_P D vwCl [(h0, .inr (0, [.int mc, .ref a, .int (nI n)])), (a, .inl (yO, rfs cap (va_up f n (some v)))), (v, .inr (ci, vs))] H := hP
  have hD : va_D A [(h0, .inr (0, [.int mc, .ref a, .int (nI n)])), (a, .inl (yO, rfs cap (va_up f n (some v)))), (v, .inr (ci, vs))] := hD
  refine lv_aload_n hx hb dJx4a65c_add_72be8_15 rfl (lv_at hl 0 rfl) ?_
  refine lv_iload_n hx hb dJx4a65c_add_72be8_16 rfl (lv_at hl 3 rfl) ?_
  refine lv_iconst (v := 1) hx hb dJx4a65c_add_72be8_17 (by decide) ?_
  refine lv_iadd hx hb dJx4a65c_add_72be8_18 ?_
  refine W.eq (g2 := F0 m 19 ls [.int (nI (n + 1)), .ref h0]) (by rw [← nI_1]) ?_
  refine va_put (D := D) (ci := 0) (v := .int (nI (n + 1))) (ty := .int) (C := RJx4a65c) (T := TJx4a65c) (N := 3) hx hb hts (by decide +kernel) tyJx4a65c tyJx4a65c_ok nmJx4a65c hown hK hP hD hS 0 rfl rfl 2 (by decide) (hts (.fieldLink RJx4a65c 48 "java/util/ArrayList" "size" "I") (by decide +kernel)) (fun _ h9 => h9) rfl (by decide +kernel) rfl rfl (Nat.le_of_ble_eq_true rfl) dJx4a65c_add_72be8_19 (fun H locs hP hD hS => ?_)
  have hP : va_P D vwCl [(h0, .inr (0, [.int mc, .ref a, .int (nI (n + 1))])), (a, .inl (yO, rfs cap (va_up f n (some v)))), (v, .inr (ci, vs))] H := hP
  have hD : va_D A [(h0, .inr (0, [.int mc, .ref a, .int (nI (n + 1))])), (a, .inl (yO, rfs cap (va_up f n (some v)))), (v, .inr (ci, vs))] := hD
  refine W.widen (k := 1) (n := 400) (Nat.le_of_ble_eq_true rfl) (Nat.le_of_ble_eq_true rfl) ?_
  exact W.vret hx hb hr (fun t ht hW => ⟨⟨a, rfl, trivial, by rw [ht]; exact hP, va_K.moved hW.alike hK, hD⟩, hS.F ht⟩) hS.2.2 dJx4a65c_add_72be8_22
set_option maxRecDepth 20000 in
theorem cL_add3N (l : Launch) (D : va_G) (yI yO : ClassId) (z0 : Nat) (rr : vw_C) (ci : Nat) (hrr : vwCl[ci]? = some rr) (hC : Cond.castable rr.1 "java/lang/Object" ∈ lB) (h0 v : Nat) (vs : List Value) (a sz n : Nat) (mc : Int32) (f : Nat → Option Nat) (hn : 0 < n ∧ n ≤ 200) : Met l yJx4a65c_add_72be8 wsJx4a65c_add_72be8 ({ frames := 5, cells := 1, slots := 400, locals := 155 }) (va_Pc [.ref h0, .ref v, .ref a, .int (nI n)] (lPre D yI yO z0 rr.1 f n [(h0, .inr (0, [.int mc, .ref a, .int (nI n)])), (a, .inl (yO, rfs n f)), (v, .inr (ci, vs))] sz)) (va_Qv (S := Nat) (fun _ => True) (fun q t => kPost D yI yO [(h0, .inr (0, [.int mc, .ref q, .int (nI (n + 1))])), (q, .inl (yO, rfs (lnew n) (va_up (va_cpy f (fun _ => none) 0 0 n) n (some v)))), (v, .inr (ci, vs))] (va_A [(h0, .inr (0, [.int mc, .ref a, .int (nI n)])), (a, .inl (yO, rfs n f)), (v, .inr (ci, vs))] sz) t) (va_A [(h0, .inr (0, [.int mc, .ref a, .int (nI n)])), (a, .inl (yO, rfs n f)), (v, .inr (ci, vs))] sz)) 1 400 (va_A [(h0, .inr (0, [.int mc, .ref a, .int (nI n)])), (a, .inl (yO, rfs n f)), (v, .inr (ci, vs))] sz) := by
  refine Met.ofW (cc := cJx4a65c_add_72be8) (maxL := 4) (ret := none) (by decide) rfl ?_
  intro p e s m args below meth c s₁ B hml hv
  obtain ⟨rfl, hsz, hP, hK, hD0, hls, hle⟩ := hv
  have hx := B.exec
  have hb := B.bytes
  have hr := B.returns
  have hts := atoms_spec (ws := wsJx4a65c_add_72be8) B.pre
  have hown : s.vm.findClass RJx4a65c = some m.cls := findClass_of_methodNamed B.named
  have hlocks := B.notSynchronized
  subst hsz
  have hD := hD0.self (sz := s.heap.size)
  generalize hAe : va_A [(h0, .inr (0, [.int mc, .ref a, .int (nI n)])), (a, .inl (yO, rfs n f)), (v, .inr (ci, vs))] s.heap.size = A at hD hls hle ⊢
  have hA : ∀ q : Nat, s.heap.size ≤ q → A q := fun q h => by rw [← hAe]; exact Or.inr h
  have hS : va_S A s.heap s.heap [] := va_S.rf
  have hl := lv_entry ([.ref h0, .ref v, .ref a, .int (nI n)]) (n := 4) (Nat.le_of_ble_eq_true rfl)
  rw [lg_entry_eq]
  generalize (lg_sl ([.ref h0, .ref v, .ref a, .int (nI n)]) ++ List.replicate (4 - (lg_sl ([.ref h0, .ref v, .ref a, .int (nI n)])).length) Slot.unset).toArray = ls at hl ⊢
  have hl : lv_has ls 4 [(0, .ref h0), (1, .ref v), (2, .ref a), (3, .int (nI n))] := hl
  have hls0 := hls
  obtain ⟨hzz, ⟨zc, hz1, hz2, hz3, hz4⟩, hao, -, -, hcb⟩ := hls0
  refine lv_iload_n hx hb dJx4a65c_add_72be8_0 rfl (lv_at hl 3 rfl) ?_
  refine lv_aload_n hx hb dJx4a65c_add_72be8_1 rfl (lv_at hl 2 rfl) ?_
  refine va_alen (D := D) (cl := vwCl) (v := nI n) (ty := oD) hx hb hK hP 1 1 rfl rfl rfl dJx4a65c_add_72be8_2 ?_
  refine lv_icmp_ne (tgt := 11) hx hb dJx4a65c_add_72be8_3 (by decide) (fun c1 => absurd rfl c1) (fun _ => ?_)
  refine lv_aload_n hx hb dJx4a65c_add_72be8_6 rfl (lv_at hl 0 rfl) ?_
  obtain ⟨H, hH⟩ : ∃ H, H = s.heap := ⟨_, rfl⟩
  rw [← hH]
  have hP : va_P D vwCl [(h0, .inr (0, [.int mc, .ref a, .int (nI n)])), (a, .inl (yO, rfs n f)), (v, .inr (ci, vs))] H := by rw [hH]; exact hP
  have hS : va_S A s.heap H [] := by rw [hH]; exact hS
  have hPc := hP.sub (ws' := [(h0, .inr (0, [.int mc, .ref a, .int (nI n)])), (a, .inl (yO, rfs n f))]) [0, 1] rfl
  have hDc := hD.sub (ws' := [(h0, .inr (0, [.int mc, .ref a, .int (nI n)])), (a, .inl (yO, rfs n f))]) [0, 1] (by decide) rfl
  have hFc := va_free (wc := [(h0, .inr (0, [.int mc, .ref a, .int (nI n)])), (a, .inl (yO, rfs n f))]) hD hS hA [0, 1] rfl
  refine va_callr (va_runV (As := []) (rest := []) ⟨hx, hb, hml, hown, hts⟩ (cL_grow0N l D yI yO z0 rr.1 hC h0 a H.size n mc f hn) (cwV 0 hts gJx4a65c_add_72be8_Jx4a65c_grow_d5877 rfl rfl rfl (by decide +kernel) ⟨Nat.le_of_ble_eq_true rfl, Nat.le_of_ble_eq_true rfl⟩) ⟨lPre_blind D yI yO z0 rr.1 f n _ _ _, va_recv hK hP (ci := 0) (q0 := 0) rfl rfl, fun U hU hW => ⟨rfl, by rw [hU], by rw [hU]; exact hPc, va_K.moved hW.alike hK, hDc.weaken (fun _ _ _ _ => trivial), by rw [hU]; exact ((hls.kept hS.2.1).narrow hFc).moved hW, by rw [hU]; exact ((hle.kept hS.2.1).narrow hFc).moved hW.alike⟩⟩ rfl rfl hl.1 rfl (lv_room (Nat.le_of_ble_eq_true rfl)) dJx4a65c_add_72be8_7 ⟨Nat.le_of_ble_eq_true rfl, Nat.le_of_ble_eq_true rfl⟩) hS (fun q _ h => hFc q h) hFc (fun _ q t H1 locs ht hvm _ hB hz1 hk1 hS => ?_)
  obtain ⟨hP1, hK1, hD1⟩ := hB
  rw [ht] at hP1
  obtain ⟨hP, hD⟩ := va_join (wr := [(v, .inr (ci, vs))]) (w1 := [(h0, .inr (0, [.int mc, .ref q, .int (nI n)])), (q, .inl (yO, rfs (lnew n) (va_cpy f (fun _ => none) 0 0 n)))]) hP hD [0, 1] [2] rfl rfl (by decide) (by decide) hk1 hFc hP1 hD1
  generalize H1 = H at hP hS ⊢
  have hP := hP.sub (ws' := [(h0, .inr (0, [.int mc, .ref q, .int (nI n)])), (q, .inl (yO, rfs (lnew n) (va_cpy f (fun _ => none) 0 0 n)))] ++ [(v, .inr (ci, vs))]) [1, 2, 0] rfl
  have hD := hD.sub (ws' := [(h0, .inr (0, [.int mc, .ref q, .int (nI n)])), (q, .inl (yO, rfs (lnew n) (va_cpy f (fun _ => none) 0 0 n)))] ++ [(v, .inr (ci, vs))]) [1, 2, 0] (by decide) rfl
  refine lv_astore_n (lv' := [(2, .ref q), (0, .ref h0), (1, .ref v), (3, .int (nI n))]) hx hb dJx4a65c_add_72be8_10 rfl hl (by decide) rfl (fun ls hl => ?_)
  have hl := lv_sub hl [1, 2, 0, 3] (l' := [(0, .ref h0), (1, .ref v), (2, .ref q), (3, .int (nI n))]) rfl
  have hP : va_P D vwCl [(h0, .inr (0, [.int mc, .ref q, .int (nI n)])), (q, .inl (yO, rfs (lnew n) (va_cpy f (fun _ => none) 0 0 n))), (v, .inr (ci, vs))] H := hP
  refine lv_aload_n hx hb dJx4a65c_add_72be8_11 rfl (lv_at hl 2 rfl) ?_
  refine lv_iload_n hx hb dJx4a65c_add_72be8_12 rfl (lv_at hl 3 rfl) ?_
  refine lv_aload_n hx hb dJx4a65c_add_72be8_13 rfl (lv_at hl 1 rfl) ?_
  refine va_astqO (D := D) (cl := vwCl) (tys := [(yI, .int), (yO, .object "java/lang/Object")]) (E := "java/lang/Object") (r := rr) (f := (va_cpy f (fun _ => none) 0 0 n)) hx hb hK hP hD hS 1 1 2 ci rfl rfl (hcb _ hC) rfl hrr (i := nI n) (by refine vp_in_nI (N := lnew n) ?_ ?_ <;> (unfold lnew; split <;> omega)) dJx4a65c_add_72be8_14 (fun H locs hP hD hS => ?_)
  rw [nI_clamp (by omega)] at hP hD
  have hP : va_P D vwCl [(h0, .inr (0, [.int mc, .ref q, .int (nI n)])), (q, .inl (yO, rfs (lnew n) (va_up (va_cpy f (fun _ => none) 0 0 n) n (some v)))), (v, .inr (ci, vs))] H := hP
  have hD : va_D A [(h0, .inr (0, [.int mc, .ref q, .int (nI n)])), (q, .inl (yO, rfs (lnew n) (va_up (va_cpy f (fun _ => none) 0 0 n) n (some v)))), (v, .inr (ci, vs))] := hD
  refine lv_aload_n hx hb dJx4a65c_add_72be8_15 rfl (lv_at hl 0 rfl) ?_
  refine lv_iload_n hx hb dJx4a65c_add_72be8_16 rfl (lv_at hl 3 rfl) ?_
  refine lv_iconst (v := 1) hx hb dJx4a65c_add_72be8_17 (by decide) ?_
  refine lv_iadd hx hb dJx4a65c_add_72be8_18 ?_
  refine W.eq (g2 := F0 m 19 ls [.int (nI (n + 1)), .ref h0]) (by rw [← nI_1]) ?_
  refine va_put (D := D) (ci := 0) (v := .int (nI (n + 1))) (ty := .int) (C := RJx4a65c) (T := TJx4a65c) (N := 3) hx hb hts (by decide +kernel) tyJx4a65c tyJx4a65c_ok nmJx4a65c hown hK hP hD hS 0 rfl rfl 2 (by decide) (hts (.fieldLink RJx4a65c 48 "java/util/ArrayList" "size" "I") (by decide +kernel)) (fun _ h9 => h9) rfl (by decide +kernel) rfl rfl (Nat.le_of_ble_eq_true rfl) dJx4a65c_add_72be8_19 (fun H locs hP hD hS => ?_)
  have hP : va_P D vwCl [(h0, .inr (0, [.int mc, .ref q, .int (nI (n + 1))])), (q, .inl (yO, rfs (lnew n) (va_up (va_cpy f (fun _ => none) 0 0 n) n (some v)))), (v, .inr (ci, vs))] H := hP
  have hD : va_D A [(h0, .inr (0, [.int mc, .ref q, .int (nI (n + 1))])), (q, .inl (yO, rfs (lnew n) (va_up (va_cpy f (fun _ => none) 0 0 n) n (some v)))), (v, .inr (ci, vs))] := hD
  refine W.widen (k := 1) (n := 400) (Nat.le_of_ble_eq_true rfl) (Nat.le_of_ble_eq_true rfl) ?_
  exact W.vret hx hb hr (fun t ht hW => ⟨⟨q, rfl, trivial, by rw [ht]; exact hP, va_K.moved hW.alike hK, hD⟩, hS.F ht⟩) hS.2.2 dJx4a65c_add_72be8_22
set_option maxRecDepth 20000 in
theorem cL_add3E (l : Launch) (D : va_G) (yI yO : ClassId) (z0 : Nat) (rr : vw_C) (ci : Nat) (hrr : vwCl[ci]? = some rr) (hC : Cond.castable rr.1 "java/lang/Object" ∈ lB) (h0 v : Nat) (vs : List Value) (sz : Nat) (mc : Int32) : Met l yJx4a65c_add_72be8 wsJx4a65c_add_72be8 ({ frames := 5, cells := 1, slots := 400, locals := 155 }) (va_Pc [.ref h0, .ref v, .ref z0, .int (nI 0)] (lPre D yI yO z0 rr.1 (fun _ => none) 0 [(h0, .inr (0, [.int mc, .ref z0, .int (nI 0)])), (v, .inr (ci, vs))] sz)) (va_Qv (S := Nat) (fun _ => True) (fun q t => kPost D yI yO [(h0, .inr (0, [.int mc, .ref q, .int (nI (0 + 1))])), (q, .inl (yO, rfs 10 (va_up (fun _ => none) 0 (some v)))), (v, .inr (ci, vs))] (va_A [(h0, .inr (0, [.int mc, .ref z0, .int (nI 0)])), (v, .inr (ci, vs))] sz) t) (va_A [(h0, .inr (0, [.int mc, .ref z0, .int (nI 0)])), (v, .inr (ci, vs))] sz)) 1 400 (va_A [(h0, .inr (0, [.int mc, .ref z0, .int (nI 0)])), (v, .inr (ci, vs))] sz) := by
  refine Met.ofW (cc := cJx4a65c_add_72be8) (maxL := 4) (ret := none) (by decide) rfl ?_
  intro p e s m args below meth c s₁ B hml hv
  obtain ⟨rfl, hsz, hP, hK, hD0, hls, hle⟩ := hv
  have hx := B.exec
  have hb := B.bytes
  have hr := B.returns
  have hts := atoms_spec (ws := wsJx4a65c_add_72be8) B.pre
  have hown : s.vm.findClass RJx4a65c = some m.cls := findClass_of_methodNamed B.named
  have hlocks := B.notSynchronized
  subst hsz
  have hD := hD0.self (sz := s.heap.size)
  generalize hAe : va_A [(h0, .inr (0, [.int mc, .ref z0, .int (nI 0)])), (v, .inr (ci, vs))] s.heap.size = A at hD hls hle ⊢
  have hA : ∀ q : Nat, s.heap.size ≤ q → A q := fun q h => by rw [← hAe]; exact Or.inr h
  have hS : va_S A s.heap s.heap [] := va_S.rf
  have hl := lv_entry ([.ref h0, .ref v, .ref z0, .int (nI 0)]) (n := 4) (Nat.le_of_ble_eq_true rfl)
  rw [lg_entry_eq]
  generalize (lg_sl ([.ref h0, .ref v, .ref z0, .int (nI 0)]) ++ List.replicate (4 - (lg_sl ([.ref h0, .ref v, .ref z0, .int (nI 0)])).length) Slot.unset).toArray = ls at hl ⊢
  have hl : lv_has ls 4 [(0, .ref h0), (1, .ref v), (2, .ref z0), (3, .int (nI 0))] := hl
  have hls0 := hls
  obtain ⟨hzz, ⟨zc, hz1, hz2, hz3, hz4⟩, hao, -, -, hcb⟩ := hls0
  refine lv_iload_n hx hb dJx4a65c_add_72be8_0 rfl (lv_at hl 3 rfl) ?_
  refine lv_aload_n hx hb dJx4a65c_add_72be8_1 rfl (lv_at hl 2 rfl) ?_
  refine W.alen (n := 0) hx hb hz1 hz2 (by rw [hz3]; rfl) rfl rfl dJx4a65c_add_72be8_2 ?_
  refine W.eq (g2 := F0 m 3 ls [.int 0, .int 0]) rfl ?_
  refine lv_icmp_ne (tgt := 11) hx hb dJx4a65c_add_72be8_3 (by decide) (fun c1 => absurd rfl c1) (fun _ => ?_)
  refine lv_aload_n hx hb dJx4a65c_add_72be8_6 rfl (lv_at hl 0 rfl) ?_
  obtain ⟨H, hH⟩ : ∃ H, H = s.heap := ⟨_, rfl⟩
  rw [← hH]
  have hP : va_P D vwCl [(h0, .inr (0, [.int mc, .ref z0, .int (nI 0)])), (v, .inr (ci, vs))] H := by rw [hH]; exact hP
  have hS : va_S A s.heap H [] := by rw [hH]; exact hS
  have hPc := hP.sub (ws' := [(h0, .inr (0, [.int mc, .ref z0, .int (nI 0)]))]) [0] rfl
  have hDc := hD.sub (ws' := [(h0, .inr (0, [.int mc, .ref z0, .int (nI 0)]))]) [0] (by decide) rfl
  have hFc := va_free (wc := [(h0, .inr (0, [.int mc, .ref z0, .int (nI 0)]))]) hD hS hA [0] rfl
  refine va_callr (va_runV (As := []) (rest := []) ⟨hx, hb, hml, hown, hts⟩ (cL_grow0E l D yI yO z0 rr.1 h0 H.size mc) (cwV 0 hts gJx4a65c_add_72be8_Jx4a65c_grow_d5877 rfl rfl rfl (by decide +kernel) ⟨Nat.le_of_ble_eq_true rfl, Nat.le_of_ble_eq_true rfl⟩) ⟨lPre_blind D yI yO z0 rr.1 (fun _ => none) 0 _ _ _, va_recv hK hP (ci := 0) (q0 := 0) rfl rfl, fun U hU hW => ⟨rfl, by rw [hU], by rw [hU]; exact hPc, va_K.moved hW.alike hK, hDc.weaken (fun _ _ _ _ => trivial), by rw [hU]; exact ((hls.kept hS.2.1).narrow hFc).moved hW, by rw [hU]; exact ((hle.kept hS.2.1).narrow hFc).moved hW.alike⟩⟩ rfl rfl hl.1 rfl (lv_room (Nat.le_of_ble_eq_true rfl)) dJx4a65c_add_72be8_7 ⟨Nat.le_of_ble_eq_true rfl, Nat.le_of_ble_eq_true rfl⟩) hS (fun q _ h => hFc q h) hFc (fun _ q t H1 locs ht hvm _ hB hz1 hk1 hS => ?_)
  obtain ⟨hP1, hK1, hD1⟩ := hB
  rw [ht] at hP1
  obtain ⟨hP, hD⟩ := va_join (wr := [(v, .inr (ci, vs))]) (w1 := [(h0, .inr (0, [.int mc, .ref q, .int (nI 0)])), (q, .inl (yO, rfs 10 (fun _ => none)))]) hP hD [0] [1] rfl rfl (by decide) (by decide) hk1 hFc hP1 hD1
  generalize H1 = H at hP hS ⊢
  have hP := hP.sub (ws' := [(h0, .inr (0, [.int mc, .ref q, .int (nI 0)])), (q, .inl (yO, rfs 10 (fun _ => none)))] ++ [(v, .inr (ci, vs))]) [1, 2, 0] rfl
  have hD := hD.sub (ws' := [(h0, .inr (0, [.int mc, .ref q, .int (nI 0)])), (q, .inl (yO, rfs 10 (fun _ => none)))] ++ [(v, .inr (ci, vs))]) [1, 2, 0] (by decide) rfl
  refine lv_astore_n (lv' := [(2, .ref q), (0, .ref h0), (1, .ref v), (3, .int (nI 0))]) hx hb dJx4a65c_add_72be8_10 rfl hl (by decide) rfl (fun ls hl => ?_)
  have hl := lv_sub hl [1, 2, 0, 3] (l' := [(0, .ref h0), (1, .ref v), (2, .ref q), (3, .int (nI 0))]) rfl
  have hP : va_P D vwCl [(h0, .inr (0, [.int mc, .ref q, .int (nI 0)])), (q, .inl (yO, rfs 10 (fun _ => none))), (v, .inr (ci, vs))] H := hP
  refine lv_aload_n hx hb dJx4a65c_add_72be8_11 rfl (lv_at hl 2 rfl) ?_
  refine lv_iload_n hx hb dJx4a65c_add_72be8_12 rfl (lv_at hl 3 rfl) ?_
  refine lv_aload_n hx hb dJx4a65c_add_72be8_13 rfl (lv_at hl 1 rfl) ?_
  refine va_astqO (D := D) (cl := vwCl) (tys := [(yI, .int), (yO, .object "java/lang/Object")]) (E := "java/lang/Object") (r := rr) (f := (fun _ => none)) hx hb hK hP hD hS 1 1 2 ci rfl rfl (hcb _ hC) rfl hrr (i := nI 0) (by exact vp_in_nI (N := 10) (by omega) (by omega)) dJx4a65c_add_72be8_14 (fun H locs hP hD hS => ?_)
  rw [nI_clamp (by omega)] at hP hD
  have hP : va_P D vwCl [(h0, .inr (0, [.int mc, .ref q, .int (nI 0)])), (q, .inl (yO, rfs 10 (va_up (fun _ => none) 0 (some v)))), (v, .inr (ci, vs))] H := hP
  have hD : va_D A [(h0, .inr (0, [.int mc, .ref q, .int (nI 0)])), (q, .inl (yO, rfs 10 (va_up (fun _ => none) 0 (some v)))), (v, .inr (ci, vs))] := hD
  refine lv_aload_n hx hb dJx4a65c_add_72be8_15 rfl (lv_at hl 0 rfl) ?_
  refine lv_iload_n hx hb dJx4a65c_add_72be8_16 rfl (lv_at hl 3 rfl) ?_
  refine lv_iconst (v := 1) hx hb dJx4a65c_add_72be8_17 (by decide) ?_
  refine lv_iadd hx hb dJx4a65c_add_72be8_18 ?_
  refine W.eq (g2 := F0 m 19 ls [.int (nI (0 + 1)), .ref h0]) rfl ?_
  refine va_put (D := D) (ci := 0) (v := .int (nI (0 + 1))) (ty := .int) (C := RJx4a65c) (T := TJx4a65c) (N := 3) hx hb hts (by decide +kernel) tyJx4a65c tyJx4a65c_ok nmJx4a65c hown hK hP hD hS 0 rfl rfl 2 (by decide) (hts (.fieldLink RJx4a65c 48 "java/util/ArrayList" "size" "I") (by decide +kernel)) (fun _ h9 => h9) rfl (by decide +kernel) rfl rfl (Nat.le_of_ble_eq_true rfl) dJx4a65c_add_72be8_19 (fun H locs hP hD hS => ?_)
  have hP : va_P D vwCl [(h0, .inr (0, [.int mc, .ref q, .int (nI (0 + 1))])), (q, .inl (yO, rfs 10 (va_up (fun _ => none) 0 (some v)))), (v, .inr (ci, vs))] H := hP
  have hD : va_D A [(h0, .inr (0, [.int mc, .ref q, .int (nI (0 + 1))])), (q, .inl (yO, rfs 10 (va_up (fun _ => none) 0 (some v)))), (v, .inr (ci, vs))] := hD
  refine W.widen (k := 1) (n := 400) (Nat.le_of_ble_eq_true rfl) (Nat.le_of_ble_eq_true rfl) ?_
  exact W.vret hx hb hr (fun t ht hW => ⟨⟨q, rfl, trivial, by rw [ht]; exact hP, va_K.moved hW.alike hK, hD⟩, hS.F ht⟩) hS.2.2 dJx4a65c_add_72be8_22
set_option maxRecDepth 20000 in
theorem cL_addR (l : Launch) (D : va_G) (yI yO : ClassId) (z0 : Nat) (rr : vw_C) (ci : Nat) (hrr : vwCl[ci]? = some rr) (hC : Cond.castable rr.1 "java/lang/Object" ∈ lB) (h0 v : Nat) (vs : List Value) (a sz n cap : Nat) (mc : Int32) (f : Nat → Option Nat) (hn : n < cap ∧ cap ≤ 400) : Met l yJx4a65c_add_9ea2d wsJx4a65c_add_9ea2d ({ frames := 6, cells := 1, slots := 400, locals := 180 }) (va_Pc [.ref h0, .ref v] (lPre D yI yO z0 rr.1 (fun _ => none) 0 [(h0, .inr (0, [.int mc, .ref a, .int (nI n)])), (a, .inl (yO, rfs cap f)), (v, .inr (ci, vs))] sz)) (va_Qi (S := Nat) (fun r _ => r = 1) (fun q t => kPost D yI yO [(h0, .inr (0, [.int (mc + 1), .ref a, .int (nI (n + 1))])), (a, .inl (yO, rfs cap (va_up f n (some v)))), (v, .inr (ci, vs))] (va_A [(h0, .inr (0, [.int mc, .ref a, .int (nI n)])), (a, .inl (yO, rfs cap f)), (v, .inr (ci, vs))] sz) t) (va_A [(h0, .inr (0, [.int mc, .ref a, .int (nI n)])), (a, .inl (yO, rfs cap f)), (v, .inr (ci, vs))] sz)) 1 400 (va_A [(h0, .inr (0, [.int mc, .ref a, .int (nI n)])), (a, .inl (yO, rfs cap f)), (v, .inr (ci, vs))] sz) := by
  refine Met.ofW (cc := cJx4a65c_add_9ea2d) (maxL := 2) (ret := (some .boolean)) (by decide) rfl ?_
  intro p e s m args below meth c s₁ B hml hv
  obtain ⟨rfl, hsz, hP, hK, hD0, hls, hle⟩ := hv
  have hx := B.exec
  have hb := B.bytes
  have hr := B.returns
  have hts := atoms_spec (ws := wsJx4a65c_add_9ea2d) B.pre
  have hown : s.vm.findClass RJx4a65c = some m.cls := findClass_of_methodNamed B.named
  have hlocks := B.notSynchronized
  subst hsz
  have hD := hD0.self (sz := s.heap.size)
  generalize hAe : va_A [(h0, .inr (0, [.int mc, .ref a, .int (nI n)])), (a, .inl (yO, rfs cap f)), (v, .inr (ci, vs))] s.heap.size = A at hD hls hle ⊢
  have hA : ∀ q : Nat, s.heap.size ≤ q → A q := fun q h => by rw [← hAe]; exact Or.inr h
  have hS : va_S A s.heap s.heap [] := va_S.rf
  have hl := lv_entry ([.ref h0, .ref v]) (n := 2) (Nat.le_of_ble_eq_true rfl)
  rw [lg_entry_eq]
  generalize (lg_sl ([.ref h0, .ref v]) ++ List.replicate (2 - (lg_sl ([.ref h0, .ref v])).length) Slot.unset).toArray = ls at hl ⊢
  have hl : lv_has ls 2 [(0, .ref h0), (1, .ref v)] := hl
  refine lv_aload_n hx hb dJx4a65c_add_9ea2d_0 rfl (lv_at hl 0 rfl) ?_
  refine lv_dup hx hb dJx4a65c_add_9ea2d_1 rfl ?_
  refine va_get (D := D) (cl := vwCl) (ci := 0) (v := .int mc) (C := RJx4a65c) (T := TJx4a65c) (N := 3) hx hb hts (by decide +kernel) hown hK hP 0 rfl rfl 0 (by decide) (hts (.fieldLink RJx4a65c 63 "java/util/ArrayList" "modCount" "I") (by decide +kernel)) (fun x h9 => u_same (hts (.sameField "java/util/ArrayList" "java/util/AbstractList" "modCount" "I") (by decide +kernel)) x h9) rfl dJx4a65c_add_9ea2d_2 ?_
  refine lv_iconst (v := 1) hx hb dJx4a65c_add_9ea2d_5 (by decide) ?_
  refine lv_iadd hx hb dJx4a65c_add_9ea2d_6 ?_
  refine va_put (D := D) (ci := 0) (v := .int (mc + 1)) (ty := .int) (C := RJx4a65c) (T := TJx4a65c) (N := 3) hx hb hts (by decide +kernel) tyJx4a65c tyJx4a65c_ok nmJx4a65c hown hK hP hD hS 0 rfl rfl 0 (by decide) (hts (.fieldLink RJx4a65c 63 "java/util/ArrayList" "modCount" "I") (by decide +kernel)) (fun x h9 => u_same (hts (.sameField "java/util/ArrayList" "java/util/AbstractList" "modCount" "I") (by decide +kernel)) x h9) rfl (by decide +kernel) rfl rfl (Nat.le_of_ble_eq_true rfl) dJx4a65c_add_9ea2d_7 (fun H locs hP hD hS => ?_)
  have hP : va_P D vwCl [(h0, .inr (0, [.int (mc + 1), .ref a, .int (nI n)])), (a, .inl (yO, rfs cap f)), (v, .inr (ci, vs))] H := hP
  have hD : va_D A [(h0, .inr (0, [.int (mc + 1), .ref a, .int (nI n)])), (a, .inl (yO, rfs cap f)), (v, .inr (ci, vs))] := hD
  refine lv_aload_n hx hb dJx4a65c_add_9ea2d_10 rfl (lv_at hl 0 rfl) ?_
  refine lv_aload_n hx hb dJx4a65c_add_9ea2d_11 rfl (lv_at hl 1 rfl) ?_
  refine lv_aload_n hx hb dJx4a65c_add_9ea2d_12 rfl (lv_at hl 0 rfl) ?_
  refine va_get (D := D) (cl := vwCl) (ci := 0) (v := .ref a) (C := RJx4a65c) (T := TJx4a65c) (N := 3) hx hb hts (by decide +kernel) hown hK hP 0 rfl rfl 1 (by decide) (hts (.fieldLink RJx4a65c 9 "java/util/ArrayList" "elementData" "[Ljava/lang/Object;") (by decide +kernel)) (fun _ h9 => h9) rfl dJx4a65c_add_9ea2d_13 ?_
  refine lv_aload_n hx hb dJx4a65c_add_9ea2d_16 rfl (lv_at hl 0 rfl) ?_
  refine va_get (D := D) (cl := vwCl) (ci := 0) (v := .int (nI n)) (C := RJx4a65c) (T := TJx4a65c) (N := 3) hx hb hts (by decide +kernel) hown hK hP 0 rfl rfl 2 (by decide) (hts (.fieldLink RJx4a65c 48 "java/util/ArrayList" "size" "I") (by decide +kernel)) (fun _ h9 => h9) rfl dJx4a65c_add_9ea2d_17 ?_
  have hFc := va_free (wc := [(h0, .inr (0, [.int (mc + 1), .ref a, .int (nI n)])), (a, .inl (yO, rfs cap f)), (v, .inr (ci, vs))]) hD hS hA [0, 1, 2] rfl
  refine va_callv (va_runV (As := [.ref v, .ref a, .int (nI n)]) (rest := []) ⟨hx, hb, hml, hown, hts⟩ (cL_add3R l D yI yO z0 rr ci hrr hC h0 v vs a H.size n cap (mc + 1) f hn) (cwV 3 hts gJx4a65c_add_9ea2d_Jx4a65c_add_72be8 rfl rfl rfl (by decide +kernel) ⟨Nat.le_of_ble_eq_true rfl, Nat.le_of_ble_eq_true rfl⟩) ⟨lPre_blind D yI yO z0 rr.1 (fun _ => none) 0 _ _ _, va_recv hK hP (ci := 0) (q0 := 0) rfl rfl, fun U hU hW => ⟨rfl, by rw [hU], by rw [hU]; exact hP, va_K.moved hW.alike hK, hD.weaken (fun _ _ _ _ => trivial), by rw [hU]; exact ((hls.kept hS.2.1).narrow hFc).moved hW, by rw [hU]; exact ((hle.kept hS.2.1).narrow hFc).moved hW.alike⟩⟩ rfl rfl hl.1 rfl (lv_room (Nat.le_of_ble_eq_true rfl)) dJx4a65c_add_9ea2d_20 ⟨Nat.le_of_ble_eq_true rfl, Nat.le_of_ble_eq_true rfl⟩) hS (fun q _ h => hFc q h) hFc (fun q t H1 locs ht hvm _ hB hz1 hk1 hS => ?_)
  obtain ⟨hP1, hK1, hD1⟩ := hB
  rw [ht] at hP1
  refine lv_iconst (v := 1) hx hb dJx4a65c_add_9ea2d_23 (by decide) ?_
  exact W.zret (v := 1) hx hb hr rfl (fun t ht hW => ⟨⟨1, q, rfl, rfl, by rw [ht]; exact hP1, va_K.moved hW.alike hK, hD1.weaken (fun _ _ _ h => hFc _ h)⟩, hS.F ht⟩) hS.2.2 dJx4a65c_add_9ea2d_24
set_option maxRecDepth 20000 in
theorem cL_addN (l : Launch) (D : va_G) (yI yO : ClassId) (z0 : Nat) (rr : vw_C) (ci : Nat) (hrr : vwCl[ci]? = some rr) (hC : Cond.castable rr.1 "java/lang/Object" ∈ lB) (h0 v : Nat) (vs : List Value) (a sz n : Nat) (mc : Int32) (f : Nat → Option Nat) (hn : 0 < n ∧ n ≤ 200) : Met l yJx4a65c_add_9ea2d wsJx4a65c_add_9ea2d ({ frames := 6, cells := 1, slots := 400, locals := 180 }) (va_Pc [.ref h0, .ref v] (lPre D yI yO z0 rr.1 f n [(h0, .inr (0, [.int mc, .ref a, .int (nI n)])), (a, .inl (yO, rfs n f)), (v, .inr (ci, vs))] sz)) (va_Qi (S := Nat) (fun r _ => r = 1) (fun q t => kPost D yI yO [(h0, .inr (0, [.int (mc + 1), .ref q, .int (nI (n + 1))])), (q, .inl (yO, rfs (lnew n) (va_up (va_cpy f (fun _ => none) 0 0 n) n (some v)))), (v, .inr (ci, vs))] (va_A [(h0, .inr (0, [.int mc, .ref a, .int (nI n)])), (a, .inl (yO, rfs n f)), (v, .inr (ci, vs))] sz) t) (va_A [(h0, .inr (0, [.int mc, .ref a, .int (nI n)])), (a, .inl (yO, rfs n f)), (v, .inr (ci, vs))] sz)) 1 400 (va_A [(h0, .inr (0, [.int mc, .ref a, .int (nI n)])), (a, .inl (yO, rfs n f)), (v, .inr (ci, vs))] sz) := by
  refine Met.ofW (cc := cJx4a65c_add_9ea2d) (maxL := 2) (ret := (some .boolean)) (by decide) rfl ?_
  intro p e s m args below meth c s₁ B hml hv
  obtain ⟨rfl, hsz, hP, hK, hD0, hls, hle⟩ := hv
  have hx := B.exec
  have hb := B.bytes
  have hr := B.returns
  have hts := atoms_spec (ws := wsJx4a65c_add_9ea2d) B.pre
  have hown : s.vm.findClass RJx4a65c = some m.cls := findClass_of_methodNamed B.named
  have hlocks := B.notSynchronized
  subst hsz
  have hD := hD0.self (sz := s.heap.size)
  generalize hAe : va_A [(h0, .inr (0, [.int mc, .ref a, .int (nI n)])), (a, .inl (yO, rfs n f)), (v, .inr (ci, vs))] s.heap.size = A at hD hls hle ⊢
  have hA : ∀ q : Nat, s.heap.size ≤ q → A q := fun q h => by rw [← hAe]; exact Or.inr h
  have hS : va_S A s.heap s.heap [] := va_S.rf
  have hl := lv_entry ([.ref h0, .ref v]) (n := 2) (Nat.le_of_ble_eq_true rfl)
  rw [lg_entry_eq]
  generalize (lg_sl ([.ref h0, .ref v]) ++ List.replicate (2 - (lg_sl ([.ref h0, .ref v])).length) Slot.unset).toArray = ls at hl ⊢
  have hl : lv_has ls 2 [(0, .ref h0), (1, .ref v)] := hl
  refine lv_aload_n hx hb dJx4a65c_add_9ea2d_0 rfl (lv_at hl 0 rfl) ?_
  refine lv_dup hx hb dJx4a65c_add_9ea2d_1 rfl ?_
  refine va_get (D := D) (cl := vwCl) (ci := 0) (v := .int mc) (C := RJx4a65c) (T := TJx4a65c) (N := 3) hx hb hts (by decide +kernel) hown hK hP 0 rfl rfl 0 (by decide) (hts (.fieldLink RJx4a65c 63 "java/util/ArrayList" "modCount" "I") (by decide +kernel)) (fun x h9 => u_same (hts (.sameField "java/util/ArrayList" "java/util/AbstractList" "modCount" "I") (by decide +kernel)) x h9) rfl dJx4a65c_add_9ea2d_2 ?_
  refine lv_iconst (v := 1) hx hb dJx4a65c_add_9ea2d_5 (by decide) ?_
  refine lv_iadd hx hb dJx4a65c_add_9ea2d_6 ?_
  refine va_put (D := D) (ci := 0) (v := .int (mc + 1)) (ty := .int) (C := RJx4a65c) (T := TJx4a65c) (N := 3) hx hb hts (by decide +kernel) tyJx4a65c tyJx4a65c_ok nmJx4a65c hown hK hP hD hS 0 rfl rfl 0 (by decide) (hts (.fieldLink RJx4a65c 63 "java/util/ArrayList" "modCount" "I") (by decide +kernel)) (fun x h9 => u_same (hts (.sameField "java/util/ArrayList" "java/util/AbstractList" "modCount" "I") (by decide +kernel)) x h9) rfl (by decide +kernel) rfl rfl (Nat.le_of_ble_eq_true rfl) dJx4a65c_add_9ea2d_7 (fun H locs hP hD hS => ?_)
  have hP : va_P D vwCl [(h0, .inr (0, [.int (mc + 1), .ref a, .int (nI n)])), (a, .inl (yO, rfs n f)), (v, .inr (ci, vs))] H := hP
  have hD : va_D A [(h0, .inr (0, [.int (mc + 1), .ref a, .int (nI n)])), (a, .inl (yO, rfs n f)), (v, .inr (ci, vs))] := hD
  refine lv_aload_n hx hb dJx4a65c_add_9ea2d_10 rfl (lv_at hl 0 rfl) ?_
  refine lv_aload_n hx hb dJx4a65c_add_9ea2d_11 rfl (lv_at hl 1 rfl) ?_
  refine lv_aload_n hx hb dJx4a65c_add_9ea2d_12 rfl (lv_at hl 0 rfl) ?_
  refine va_get (D := D) (cl := vwCl) (ci := 0) (v := .ref a) (C := RJx4a65c) (T := TJx4a65c) (N := 3) hx hb hts (by decide +kernel) hown hK hP 0 rfl rfl 1 (by decide) (hts (.fieldLink RJx4a65c 9 "java/util/ArrayList" "elementData" "[Ljava/lang/Object;") (by decide +kernel)) (fun _ h9 => h9) rfl dJx4a65c_add_9ea2d_13 ?_
  refine lv_aload_n hx hb dJx4a65c_add_9ea2d_16 rfl (lv_at hl 0 rfl) ?_
  refine va_get (D := D) (cl := vwCl) (ci := 0) (v := .int (nI n)) (C := RJx4a65c) (T := TJx4a65c) (N := 3) hx hb hts (by decide +kernel) hown hK hP 0 rfl rfl 2 (by decide) (hts (.fieldLink RJx4a65c 48 "java/util/ArrayList" "size" "I") (by decide +kernel)) (fun _ h9 => h9) rfl dJx4a65c_add_9ea2d_17 ?_
  have hFc := va_free (wc := [(h0, .inr (0, [.int (mc + 1), .ref a, .int (nI n)])), (a, .inl (yO, rfs n f)), (v, .inr (ci, vs))]) hD hS hA [0, 1, 2] rfl
  refine va_callv (va_runV (As := [.ref v, .ref a, .int (nI n)]) (rest := []) ⟨hx, hb, hml, hown, hts⟩ (cL_add3N l D yI yO z0 rr ci hrr hC h0 v vs a H.size n (mc + 1) f hn) (cwV 3 hts gJx4a65c_add_9ea2d_Jx4a65c_add_72be8 rfl rfl rfl (by decide +kernel) ⟨Nat.le_of_ble_eq_true rfl, Nat.le_of_ble_eq_true rfl⟩) ⟨lPre_blind D yI yO z0 rr.1 f n _ _ _, va_recv hK hP (ci := 0) (q0 := 0) rfl rfl, fun U hU hW => ⟨rfl, by rw [hU], by rw [hU]; exact hP, va_K.moved hW.alike hK, hD.weaken (fun _ _ _ _ => trivial), by rw [hU]; exact ((hls.kept hS.2.1).narrow hFc).moved hW, by rw [hU]; exact ((hle.kept hS.2.1).narrow hFc).moved hW.alike⟩⟩ rfl rfl hl.1 rfl (lv_room (Nat.le_of_ble_eq_true rfl)) dJx4a65c_add_9ea2d_20 ⟨Nat.le_of_ble_eq_true rfl, Nat.le_of_ble_eq_true rfl⟩) hS (fun q _ h => hFc q h) hFc (fun q t H1 locs ht hvm _ hB hz1 hk1 hS => ?_)
  obtain ⟨hP1, hK1, hD1⟩ := hB
  rw [ht] at hP1
  refine lv_iconst (v := 1) hx hb dJx4a65c_add_9ea2d_23 (by decide) ?_
  exact W.zret (v := 1) hx hb hr rfl (fun t ht hW => ⟨⟨1, q, rfl, rfl, by rw [ht]; exact hP1, va_K.moved hW.alike hK, hD1.weaken (fun _ _ _ h => hFc _ h)⟩, hS.F ht⟩) hS.2.2 dJx4a65c_add_9ea2d_24
set_option maxRecDepth 20000 in
theorem cL_addE (l : Launch) (D : va_G) (yI yO : ClassId) (z0 : Nat) (rr : vw_C) (ci : Nat) (hrr : vwCl[ci]? = some rr) (hC : Cond.castable rr.1 "java/lang/Object" ∈ lB) (h0 v : Nat) (vs : List Value) (sz : Nat) (mc : Int32) : Met l yJx4a65c_add_9ea2d wsJx4a65c_add_9ea2d ({ frames := 6, cells := 1, slots := 400, locals := 180 }) (va_Pc [.ref h0, .ref v] (lPre D yI yO z0 rr.1 (fun _ => none) 0 [(h0, .inr (0, [.int mc, .ref z0, .int (nI 0)])), (v, .inr (ci, vs))] sz)) (va_Qi (S := Nat) (fun r _ => r = 1) (fun q t => kPost D yI yO [(h0, .inr (0, [.int (mc + 1), .ref q, .int (nI (0 + 1))])), (q, .inl (yO, rfs 10 (va_up (fun _ => none) 0 (some v)))), (v, .inr (ci, vs))] (va_A [(h0, .inr (0, [.int mc, .ref z0, .int (nI 0)])), (v, .inr (ci, vs))] sz) t) (va_A [(h0, .inr (0, [.int mc, .ref z0, .int (nI 0)])), (v, .inr (ci, vs))] sz)) 1 400 (va_A [(h0, .inr (0, [.int mc, .ref z0, .int (nI 0)])), (v, .inr (ci, vs))] sz) := by
  refine Met.ofW (cc := cJx4a65c_add_9ea2d) (maxL := 2) (ret := (some .boolean)) (by decide) rfl ?_
  intro p e s m args below meth c s₁ B hml hv
  obtain ⟨rfl, hsz, hP, hK, hD0, hls, hle⟩ := hv
  have hx := B.exec
  have hb := B.bytes
  have hr := B.returns
  have hts := atoms_spec (ws := wsJx4a65c_add_9ea2d) B.pre
  have hown : s.vm.findClass RJx4a65c = some m.cls := findClass_of_methodNamed B.named
  have hlocks := B.notSynchronized
  subst hsz
  have hD := hD0.self (sz := s.heap.size)
  generalize hAe : va_A [(h0, .inr (0, [.int mc, .ref z0, .int (nI 0)])), (v, .inr (ci, vs))] s.heap.size = A at hD hls hle ⊢
  have hA : ∀ q : Nat, s.heap.size ≤ q → A q := fun q h => by rw [← hAe]; exact Or.inr h
  have hS : va_S A s.heap s.heap [] := va_S.rf
  have hl := lv_entry ([.ref h0, .ref v]) (n := 2) (Nat.le_of_ble_eq_true rfl)
  rw [lg_entry_eq]
  generalize (lg_sl ([.ref h0, .ref v]) ++ List.replicate (2 - (lg_sl ([.ref h0, .ref v])).length) Slot.unset).toArray = ls at hl ⊢
  have hl : lv_has ls 2 [(0, .ref h0), (1, .ref v)] := hl
  refine lv_aload_n hx hb dJx4a65c_add_9ea2d_0 rfl (lv_at hl 0 rfl) ?_
  refine lv_dup hx hb dJx4a65c_add_9ea2d_1 rfl ?_
  refine va_get (D := D) (cl := vwCl) (ci := 0) (v := .int mc) (C := RJx4a65c) (T := TJx4a65c) (N := 3) hx hb hts (by decide +kernel) hown hK hP 0 rfl rfl 0 (by decide) (hts (.fieldLink RJx4a65c 63 "java/util/ArrayList" "modCount" "I") (by decide +kernel)) (fun x h9 => u_same (hts (.sameField "java/util/ArrayList" "java/util/AbstractList" "modCount" "I") (by decide +kernel)) x h9) rfl dJx4a65c_add_9ea2d_2 ?_
  refine lv_iconst (v := 1) hx hb dJx4a65c_add_9ea2d_5 (by decide) ?_
  refine lv_iadd hx hb dJx4a65c_add_9ea2d_6 ?_
  refine va_put (D := D) (ci := 0) (v := .int (mc + 1)) (ty := .int) (C := RJx4a65c) (T := TJx4a65c) (N := 3) hx hb hts (by decide +kernel) tyJx4a65c tyJx4a65c_ok nmJx4a65c hown hK hP hD hS 0 rfl rfl 0 (by decide) (hts (.fieldLink RJx4a65c 63 "java/util/ArrayList" "modCount" "I") (by decide +kernel)) (fun x h9 => u_same (hts (.sameField "java/util/ArrayList" "java/util/AbstractList" "modCount" "I") (by decide +kernel)) x h9) rfl (by decide +kernel) rfl rfl (Nat.le_of_ble_eq_true rfl) dJx4a65c_add_9ea2d_7 (fun H locs hP hD hS => ?_)
  have hP : va_P D vwCl [(h0, .inr (0, [.int (mc + 1), .ref z0, .int (nI 0)])), (v, .inr (ci, vs))] H := hP
  have hD : va_D A [(h0, .inr (0, [.int (mc + 1), .ref z0, .int (nI 0)])), (v, .inr (ci, vs))] := hD
  refine lv_aload_n hx hb dJx4a65c_add_9ea2d_10 rfl (lv_at hl 0 rfl) ?_
  refine lv_aload_n hx hb dJx4a65c_add_9ea2d_11 rfl (lv_at hl 1 rfl) ?_
  refine lv_aload_n hx hb dJx4a65c_add_9ea2d_12 rfl (lv_at hl 0 rfl) ?_
  refine va_get (D := D) (cl := vwCl) (ci := 0) (v := .ref z0) (C := RJx4a65c) (T := TJx4a65c) (N := 3) hx hb hts (by decide +kernel) hown hK hP 0 rfl rfl 1 (by decide) (hts (.fieldLink RJx4a65c 9 "java/util/ArrayList" "elementData" "[Ljava/lang/Object;") (by decide +kernel)) (fun _ h9 => h9) rfl dJx4a65c_add_9ea2d_13 ?_
  refine lv_aload_n hx hb dJx4a65c_add_9ea2d_16 rfl (lv_at hl 0 rfl) ?_
  refine va_get (D := D) (cl := vwCl) (ci := 0) (v := .int (nI 0)) (C := RJx4a65c) (T := TJx4a65c) (N := 3) hx hb hts (by decide +kernel) hown hK hP 0 rfl rfl 2 (by decide) (hts (.fieldLink RJx4a65c 48 "java/util/ArrayList" "size" "I") (by decide +kernel)) (fun _ h9 => h9) rfl dJx4a65c_add_9ea2d_17 ?_
  have hFc := va_free (wc := [(h0, .inr (0, [.int (mc + 1), .ref z0, .int (nI 0)])), (v, .inr (ci, vs))]) hD hS hA [0, 1] rfl
  refine va_callv (va_runV (As := [.ref v, .ref z0, .int (nI 0)]) (rest := []) ⟨hx, hb, hml, hown, hts⟩ (cL_add3E l D yI yO z0 rr ci hrr hC h0 v vs H.size (mc + 1)) (cwV 3 hts gJx4a65c_add_9ea2d_Jx4a65c_add_72be8 rfl rfl rfl (by decide +kernel) ⟨Nat.le_of_ble_eq_true rfl, Nat.le_of_ble_eq_true rfl⟩) ⟨lPre_blind D yI yO z0 rr.1 (fun _ => none) 0 _ _ _, va_recv hK hP (ci := 0) (q0 := 0) rfl rfl, fun U hU hW => ⟨rfl, by rw [hU], by rw [hU]; exact hP, va_K.moved hW.alike hK, hD.weaken (fun _ _ _ _ => trivial), by rw [hU]; exact ((hls.kept hS.2.1).narrow hFc).moved hW, by rw [hU]; exact ((hle.kept hS.2.1).narrow hFc).moved hW.alike⟩⟩ rfl rfl hl.1 rfl (lv_room (Nat.le_of_ble_eq_true rfl)) dJx4a65c_add_9ea2d_20 ⟨Nat.le_of_ble_eq_true rfl, Nat.le_of_ble_eq_true rfl⟩) hS (fun q _ h => hFc q h) hFc (fun q t H1 locs ht hvm _ hB hz1 hk1 hS => ?_)
  obtain ⟨hP1, hK1, hD1⟩ := hB
  rw [ht] at hP1
  refine lv_iconst (v := 1) hx hb dJx4a65c_add_9ea2d_23 (by decide) ?_
  exact W.zret (v := 1) hx hb hr rfl (fun t ht hW => ⟨⟨1, q, rfl, rfl, by rw [ht]; exact hP1, va_K.moved hW.alike hK, hD1.weaken (fun _ _ _ h => hFc _ h)⟩, hS.F ht⟩) hS.2.2 dJx4a65c_add_9ea2d_24
