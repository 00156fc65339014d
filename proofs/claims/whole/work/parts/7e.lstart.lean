/-! ===== the law at its start: the classes, the words of the platform ===== -/
set_option maxRecDepth 20000 in
theorem ws_D {s : State} {b : Nat} (hts : ∀ w ∈ lw_tbl, w.before #[Value.ref b] s = true) : ∃ D : va_G, ∀ (k : Nat) (q : vw_C), vwCl[k]? = some q → u_Kn s q.1 q.2.1 q.2.2 (D.1 k) (D.2 k) := by
  have H : ∀ k : Nat, ∃ c : ClassId × (Nat → Nat), ∀ q : vw_C, vwCl[k]? = some q → u_Kn s q.1 q.2.1 q.2.2 c.1 c.2 := by
    obtain ⟨c0, i0, w0⟩ := u_known (C := RJx4a65c) (T := TJx4a65c) (N := 3) (n := 3) hts (by decide +kernel) (hts (.instantiable RJx4a65c 3) (by decide +kernel))
    obtain ⟨c1, i1, w1⟩ := u_known (C := RX0) (T := TX0) (N := 3) (n := 3) hts (by decide +kernel) (hts (.instantiable RX0 3) (by decide +kernel))
    obtain ⟨c2, i2, w2⟩ := u_known (C := RX1) (T := TX1) (N := 7) (n := 7) hts (by decide +kernel) (hts (.instantiable RX1 7) (by decide +kernel))
    obtain ⟨c3, i3, w3⟩ := u_known (C := RX2) (T := TX2) (N := 2) (n := 2) hts (by decide +kernel) (hts (.instantiable RX2 2) (by decide +kernel))
    obtain ⟨c4, i4, w4⟩ := u_known (C := RX3) (T := TX3) (N := 13) (n := 13) hts (by decide +kernel) (hts (.instantiable RX3 13) (by decide +kernel))
    obtain ⟨c5, i5, w5⟩ := u_known (C := RX4) (T := TX4) (N := 8) (n := 8) hts (by decide +kernel) (hts (.instantiable RX4 8) (by decide +kernel))
    obtain ⟨c6, i6, w6⟩ := u_known (C := RX5) (T := TX5) (N := 2) (n := 2) hts (by decide +kernel) (hts (.instantiable RX5 2) (by decide +kernel))
    obtain ⟨c7, i7, w7⟩ := u_known (C := RX6) (T := TX6) (N := 3) (n := 3) hts (by decide +kernel) (hts (.instantiable RX6 3) (by decide +kernel))
    obtain ⟨c8, i8, w8⟩ := u_known (C := RX7) (T := TX7) (N := 8) (n := 8) hts (by decide +kernel) (hts (.instantiable RX7 8) (by decide +kernel))
    obtain ⟨c9, i9, w9⟩ := u_known (C := RX8) (T := TX8) (N := 7) (n := 7) hts (by decide +kernel) (hts (.instantiable RX8 7) (by decide +kernel))
    obtain ⟨c10, i10, w10⟩ := u_known (C := RX9) (T := TX9) (N := 45) (n := 45) hts (by decide +kernel) (hts (.instantiable RX9 45) (by decide +kernel))
    intro k
    rcases k with _ | _ | _ | _ | _ | _ | _ | _ | _ | _ | _ | k
    · exact ⟨(c0, i0), fun q hq => by cases hq; exact w0⟩
    · exact ⟨(c1, i1), fun q hq => by cases hq; exact w1⟩
    · exact ⟨(c2, i2), fun q hq => by cases hq; exact w2⟩
    · exact ⟨(c3, i3), fun q hq => by cases hq; exact w3⟩
    · exact ⟨(c4, i4), fun q hq => by cases hq; exact w4⟩
    · exact ⟨(c5, i5), fun q hq => by cases hq; exact w5⟩
    · exact ⟨(c6, i6), fun q hq => by cases hq; exact w6⟩
    · exact ⟨(c7, i7), fun q hq => by cases hq; exact w7⟩
    · exact ⟨(c8, i8), fun q hq => by cases hq; exact w8⟩
    · exact ⟨(c9, i9), fun q hq => by cases hq; exact w9⟩
    · exact ⟨(c10, i10), fun q hq => by cases hq; exact w10⟩
    · exact ⟨(c0, i0), fun q hq => absurd (List.getElem?_eq_some_iff.mp hq).1 (by show ¬ k + 11 < 11; omega)⟩
  exact ⟨(fun k => (Classical.choose (H k)).1, fun k => (Classical.choose (H k)).2), fun k q hq => Classical.choose_spec (H k) q hq⟩
theorem ws_int {s : State} {args : Array Value} (h : (Cond.arrayClass .int).before args s = true) : ∃ c : ClassId, ArrOfT s c .int ∧ va_RA s c .int := by
  obtain ⟨c, k, comp, h1, h2, h3⟩ := Cond.arrayClass_spec h
  exact ⟨c, fun n z => ⟨fun k h => (by cases h), k, h2, comp, h3⟩, h1⟩
theorem ws_long {s : State} {args : Array Value} (h : (Cond.arrayClass .long).before args s = true) : ∃ c : ClassId, ArrOfT s c .long ∧ va_RA s c .long := by
  obtain ⟨c, k, comp, h1, h2, h3⟩ := Cond.arrayClass_spec h
  exact ⟨c, fun n z => ⟨fun k h => (by cases h), k, h2, comp, h3⟩, h1⟩
theorem ws_bool {s : State} {args : Array Value} (h : (Cond.arrayClass .boolean).before args s = true) : ∃ c : ClassId, ArrOfT s c .boolean ∧ va_RA s c .boolean := by
  obtain ⟨c, k, comp, h1, h2, h3⟩ := Cond.arrayClass_spec h
  exact ⟨c, fun n z => ⟨fun k h => (by cases h), k, h2, comp, h3⟩, h1⟩
theorem ws_obj {s : State} {args : Array Value} {C : String} (h : (Cond.arrayOver (.object C)).before args s = true) : ∃ c : ClassId, ArrOfT s c (.object C) ∧ va_RA s c (.object C) := by
  obtain ⟨comp, c, k, h1, -, h3, h4, h5⟩ := Cond.arrayOver_spec h
  exact ⟨c, fun n z => ⟨fun k h => (by cases h), k, h3, comp, h4⟩, k, comp, h3, h4, h1, h5⟩
theorem ws_str {s : State} {args : Array Value} {own tx C : String} {k : Nat} (h1 : (Cond.stringRef own k tx).before args s = true) (h2 : (Cond.exactly (.string own k) C).before args s = true) : ∃ sa, vk_R own k tx sa s := by
  obtain ⟨a, c, cell, kk, ha, -⟩ := Cond.exactly_spec h2
  exact ⟨a, vk_R.of (A := args) h1 ha⟩
theorem ws_len {s : State} {args : Array Value} {t : Term} {a : Nat} {cell : Cell} {ty : FieldType} (h : (Cond.eq (.length t) (.int 0)).before args s = true) (ht : t.eval args s none [] s = some (.ref a)) (hc : s.heap[a]? = some cell) (harr : s.isArrayOf cell ty) (hvm : cell.vm ≠ .unknown) : cell.slots.size = 0 := by
  obtain ⟨k, hk, comp, hkind⟩ := harr.2
  have hns : cell.vm.isStatics = false := by
    cases hv : cell.vm with
    | statics k => exact absurd hv (harr.1 k)
    | _ => rfl
  have hat : s.arrayAt? a = some cell := by simp [State.arrayAt?, hc, hk, hkind, hvm, hns]
  by_cases hn : cell.slots.size < 2147483648
  · have hv : (Term.length t).eval args s none [] s = some (.int cell.slots.size.toInt32) := by simp [Term.eval, ht, hat, hn]
    have h9 := Cond.eq_ints hv (show (Term.int 0).eval args s none [] s = some (.int 0) from rfl)
    have h8 : cell.slots.size.toInt32 = 0 := by simpa [Cond.before, Cond.holds, h9] using h
    have h7 : nI cell.slots.size = nI 0 := h8
    exact (nI_eq (by omega) (by omega)).mp h7
  · have hv : (Term.length t).eval args s none [] s = none := by simp [Term.eval, ht, hat, hn]
    have h9 : (Cond.eq (.length t) (.int 0)).holds args s none s [] = true := h
    simp [Cond.holds, Cond.value, hv] at h9
def wsC : Cond := Jvm.Cond.and given_1 narrow_1
set_option maxRecDepth 20000 in
theorem ws_m1 : ∀ q ∈ xT, Cond.stringRef RX8 q.1 q.2 ∈ lw_tbl := by decide +kernel
set_option maxRecDepth 20000 in
theorem ws_m2 : ∀ q ∈ xT, Cond.exactly (.string RX8 q.1) "java/lang/String" ∈ flatC wsC := by decide +kernel
set_option maxRecDepth 20000 in
theorem ws_m3 : ∀ w ∈ xB, w ∈ lw_tbl := by decide +kernel
set_option maxRecDepth 20000 in
theorem ws_m4 : ∀ q ∈ nB, Cond.not (.castable q.1 q.2) ∈ flatC wsC := by decide +kernel
set_option maxRecDepth 20000 in
theorem ws_m5 : ∀ w ∈ kB, w ∈ lw_tbl := by decide +kernel
set_option maxRecDepth 20000 in
theorem ws_m6 : ∀ w ∈ lB, w ∈ lw_tbl := by decide +kernel
def wsF : Term := .static "java/util/ArrayList" "DEFAULTCAPACITY_EMPTY_ELEMENTDATA" "[Ljava/lang/Object;"
def wsI : List Cond := [.exactly wsF "[Ljava/lang/Object;", .arrayOf wsF (.object "java/lang/Object"), .eq (.length wsF) (.int 0), .isRef (.mirror "[Ljava/lang/Object;"), .isRef (.static Bundle.tN "UNASSIGNED_STACK" Bundle.steD), .isRef (.static Bundle.tN "SUPPRESSED_SENTINEL" Bundle.listD)]
def wsJ : List Cond := [.arrayClass .int, .arrayClass .long, .arrayClass .boolean, .arrayOver (.object "java/lang/Object"), .declares ⟨"java/lang/Object", "getClass", "()Ljava/lang/Class;"⟩, .laysStatic "java/util/ArrayList" "DEFAULTCAPACITY_EMPTY_ELEMENTDATA" "[Ljava/lang/Object;", .initialized "java/util/ArrayList", .laysStatic Bundle.tN "UNASSIGNED_STACK" Bundle.steD, .laysStatic Bundle.tN "SUPPRESSED_SENTINEL" Bundle.listD, .initialized Bundle.tN]
set_option maxRecDepth 20000 in
theorem ws_m7 : ∀ w ∈ wsI, w ∈ flatC wsC := by decide +kernel
set_option maxRecDepth 20000 in
theorem ws_m8 : ∀ w ∈ wsJ, w ∈ lw_tbl := by decide +kernel
/-- what the law's start has -/
theorem ws_all {p : Program} {s : State} {m : MethodId} {meth : Method} {c : Code} {b L : Nat} {xs : Nat → Int32} (C0 : lw_At p s m meth c b L xs) : ∃ (D : va_G) (yI yO yL cZ : ClassId) (z0 : Nat), gK D yI yO yL cZ s ∧ gB z0 (fun a : Nat => s.heap.size ≤ a) s := by
  obtain ⟨-, -, -, -, -, hts, -, -, -, hgv⟩ := C0
  have hgv : wsC.before #[Value.ref b] s = true := hgv
  have hI : ∀ w ∈ wsI, w.before #[Value.ref b] s = true := fun w hw => flat_of_before _ hgv w (ws_m7 w hw)
  have hJ : ∀ w ∈ wsJ, w.before #[Value.ref b] s = true := fun w hw => hts w (ws_m8 w hw)
  have hI0 : ∀ (k : Nat) (w : Cond), wsI[k]? = some w → w.before #[Value.ref b] s = true := fun k w h => hI w (List.mem_of_getElem? h)
  have hJ0 : ∀ (k : Nat) (w : Cond), wsJ[k]? = some w → w.before #[Value.ref b] s = true := fun k w h => hJ w (List.mem_of_getElem? h)
  have hA : ∀ a : Nat, a < s.heap.size → ¬ (fun a : Nat => s.heap.size ≤ a) a := fun a h => Nat.not_le.mpr h
  obtain ⟨D, hD⟩ := ws_D hts
  obtain ⟨yI, a1, a2⟩ := ws_int (hJ0 0 _ rfl)
  obtain ⟨yL, b1, b2⟩ := ws_long (hJ0 1 _ rfl)
  obtain ⟨cZ, c1, c2⟩ := ws_bool (hJ0 2 _ rfl)
  obtain ⟨yO, d1, d2⟩ := ws_obj (hJ0 3 _ rfl)
  obtain ⟨z0, cz, cell, kz, ht, -, hcell, -⟩ := Cond.exactly_spec (hI0 0 _ rfl)
  have hAr := Cond.arrayOf_spec (hI0 1 _ rfl) ht hcell
  have hLe := ws_len (hI0 2 _ rfl) ht hcell hAr.1 hAr.2
  refine ⟨D, yI, yO, yL, cZ, z0, ⟨hD, fun k q hq => ?_⟩, ⟨vx_Zqof (hJ0 7 _ rfl) (hJ0 9 _ rfl) (hI0 4 _ rfl) hA, vx_Zqof (hJ0 8 _ rfl) (hJ0 9 _ rfl) (hI0 5 _ rfl) hA, fun q hq => ws_str (hts _ (ws_m1 q hq)) (flat_of_before _ hgv _ (ws_m2 q hq)), fun w hw => va_Nw.of (xB_on w hw) (hts w (ws_m3 w hw))⟩, ⟨⟨va_Zof (hJ0 5 _ rfl) (hJ0 6 _ rfl) ht hA, ⟨cell, hcell, hAr.1, hLe, hA z0 (Array.getElem?_eq_some_iff.mp hcell).1⟩, va_AO.of (hJ0 3 _ rfl), va_Mi.of (hI0 3 _ rfl), va_Dc.of (hJ0 4 _ rfl), fun w hw => va_Nw.of (lB_on w hw) (hts w (ws_m6 w hw))⟩, fun w hw => va_Nw.of (kB_on w hw) (hts w (ws_m5 w hw))⟩, fun q hq => va_Nc.of (flat_of_before _ hgv _ (ws_m4 q hq))⟩
  rcases k with _ | _ | _ | _ | k
  · cases hq; exact ⟨a1, a2⟩
  · cases hq; exact ⟨d1, d2⟩
  · cases hq; exact ⟨b1, b2⟩
  · cases hq; exact ⟨c1, c2⟩
  · exact absurd (List.getElem?_eq_some_iff.mp hq).1 (by show ¬ k + 4 < 4; omega)
