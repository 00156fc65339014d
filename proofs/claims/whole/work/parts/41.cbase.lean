/-! ===== methods that make objects ===== -/
def yS (z0 : Nat) (A : Nat → Prop) (U : State) (H : Heap) : Prop := lS z0 A U H ∧ kN U
def yOK (g : CS) : Prop := refsOK g ∧ ∀ j, j < 5 → sN g j ≤ sC g j ∧ sC g j ≤ 200
def yPre (D : va_G) (yI yO : ClassId) (z0 : Nat) (ad : Nat → Nat → Nat) (g : CS) (sz : Nat) (U : State) : Prop := cPre D yI yO z0 ad g U ∧ U.heap.size = sz ∧ yS z0 (cA ad g sz) U U.heap
theorem yPre_blind (D : va_G) (yI yO : ClassId) (z0 : Nat) (ad : Nat → Nat → Nat) (g : CS) (sz : Nat) (av : List Value) : FrameBlind (va_Pc av (yPre D yI yO z0 ad g sz)) := fun a U fr mk z => ⟨z.1, (cPre_blind D yI yO z0 ad g av a U fr mk ⟨z.1, z.2.1⟩).2, z.2.2.1, z.2.2.2.1.same, kN.same (s := U) (U := U.calling fr mk a) rfl z.2.2.2.2⟩
def aext (ad ad1 : Nat → Nat → Nat) (g : CS) : Prop := ∀ k i, clvb g k i = true → k ≠ 2 → ad1 k i = ad k i
theorem aext_new (ad : Nat → Nat → Nat) (g : CS) {j : Nat} (a2 : Nat) (na : Nat → Nat) (hj : j < 5) : aext ad (anew ad g j a2 na) g := fun k i h h2 => anew_old ad na hj h (fun z => h2 z.1)
def cQN (D : va_G) (yI yO : ClassId) (z0 : Nat) (ad : Nat → Nat → Nat) (r : Int32) (g g1 : CS) (A : Nat → Prop) : Array Value → State → Outcome → State → Prop := va_Qi (S := Nat → Nat → Nat) (fun r' _ => r' = r) (fun ad1 t => aext ad ad1 g ∧ cPost D yI yO z0 ad1 g1 A t) A
def cQNq (D : va_G) (yI yO : ClassId) (z0 : Nat) (ad : Nat → Nat → Nat) (i : Nat) (g g1 : CS) (A : Nat → Prop) : Array Value → State → Outcome → State → Prop := va_Qq (S := Nat → Nat → Nat) (fun r' ad1 => r' = some (ad1 5 i)) (fun ad1 t => aext ad ad1 g ∧ cPost D yI yO z0 ad1 g1 A t) A
abbrev nR (f n : Nat) : Room := { frames := f, cells := 20, slots := 7700, locals := n }
def LLand (x1 : Int32) (x2 : Int32) (x3 : Int32) (x4 : Int32) (x5 : Int32) : Nat → Nat → Int32 := fun k => match k with
  | 4 => fun c => match c with
    | 0 => x1
    | 1 => x2
    | 2 => x3
    | 3 => x4
    | 4 => x5
    | _ => 0
  | 16 => kfill 3 0
  | _ => fun _ => 0
def naLand (v : Nat) (u : Nat → Nat) : Nat → Nat := fun k => match k with
  | 4 => v
  | 8 => u 0
  | 16 => u 1
  | _ => 0
def ixLand : Nat → Nat := fun k => match k with
  | 4 => 0
  | 8 => 1
  | 16 => 2
  | _ => 99
def ivLand : Nat → Nat := fun k => match k with
  | 0 => 4
  | 1 => 8
  | 2 => 16
  | _ => 99
theorem ivLand_ix {k : Nat} (hk : grp 0 k = true) : ivLand (ixLand k) = k := by
  simp only [grp, decide_eq_true_eq] at hk
  rcases (show k = 4 ∨ k = 8 ∨ k = 16 by omega) with rfl | rfl | rfl <;> rfl
theorem ixLand_inj (k k' : Nat) (hk : grp 0 k = true) (hk' : grp 0 k' = true) (h : ixLand k = ixLand k') : k = k' := by rw [← ivLand_ix hk, h, ivLand_ix hk']
set_option maxRecDepth 20000 in
theorem nwLand (yI yO : ClassId) (ad : Nat → Nat → Nat) (g : CS) (v : Nat) (u : Nat → Nat) (x1 : Int32) (x2 : Int32) (x3 : Int32) (x4 : Int32) (x5 : Int32) (a2 k : Nat) (hk : grp 0 k = true) : ([(v, .inr (2, [.int x1, .int x2, .int x3, .int x4, .int x5, .ref (u 0), .int 0])), (u 0, .inr (6, [.ref (u 1), .int 0])), (u 1, .inl (yI, 3, .inl (kfill 3 0)))] : va_W)[ixLand k]? = some (naLand v u k, cent yI yO (anew ad g 0 a2 (naLand v u)) (gnew g 0 (LLand x1 x2 x3 x4 x5)) k (lix 0 (sN g 0))) := by
  unfold cent
  rw [gnew_nI g _ hk, gnew_nJ g _ hk]
  simp only [grp, decide_eq_true_eq] at hk
  rcases (show k = 4 ∨ k = 8 ∨ k = 16 by omega) with rfl | rfl | rfl
  · simp only [centf]
    rw [anew_new ad a2 (naLand v u) (by decide) (k := 8) (by decide)]
    rfl
  · simp only [centf]
    rw [anew_new ad a2 (naLand v u) (by decide) (k := 16) (by decide)]
    rfl
  · rfl
def LRule (x1 : Int32) (x2 : Int32) (x3 : Int32) : Nat → Nat → Int32 := fun k => match k with
  | 3 => fun c => match c with
    | 0 => x1
    | 1 => x2
    | 2 => x3
    | _ => 0
  | _ => fun _ => 0
def naRule (v : Nat) (u : Nat → Nat) : Nat → Nat := fun k => match k with
  | 3 => v
  | _ => 0
def ixRule : Nat → Nat := fun k => match k with
  | 3 => 0
  | _ => 99
def ivRule : Nat → Nat := fun k => match k with
  | 0 => 3
  | _ => 99
theorem ivRule_ix {k : Nat} (hk : grp 4 k = true) : ivRule (ixRule k) = k := by
  simp only [grp, decide_eq_true_eq] at hk
  rcases (show k = 3 by omega) with rfl <;> rfl
theorem ixRule_inj (k k' : Nat) (hk : grp 4 k = true) (hk' : grp 4 k' = true) (h : ixRule k = ixRule k') : k = k' := by rw [← ivRule_ix hk, h, ivRule_ix hk']
set_option maxRecDepth 20000 in
theorem nwRule (yI yO : ClassId) (ad : Nat → Nat → Nat) (g : CS) (v : Nat) (u : Nat → Nat) (x1 : Int32) (x2 : Int32) (x3 : Int32) (a2 k : Nat) (hk : grp 4 k = true) : ([(v, .inr (7, [.int x1, .int x2, .int x3]))] : va_W)[ixRule k]? = some (naRule v u k, cent yI yO (anew ad g 4 a2 (naRule v u)) (gnew g 4 (LRule x1 x2 x3)) k (lix 4 (sN g 4))) := by
  unfold cent
  rw [gnew_nI g _ hk, gnew_nJ g _ hk]
  simp only [grp, decide_eq_true_eq] at hk
  rcases (show k = 3 by omega) with rfl
  · rfl
def LVisa (x1 : Int32) (x2 : Int32) (r3 : Nat) (x4 : Int32) (x5 : Int32) (y5 : Int32) (y6 : Int32) : Nat → Nat → Int32 := fun k => match k with
  | 6 => fun c => match c with
    | 0 => x1
    | 1 => x2
    | 2 => nI r3
    | 3 => x4
    | 4 => x5
    | 5 => y5
    | 6 => y6
    | 7 => (-1)
    | _ => 0
  | _ => fun _ => 0
def naVisa (v : Nat) (u : Nat → Nat) : Nat → Nat := fun k => match k with
  | 6 => v
  | _ => 0
def ixVisa : Nat → Nat := fun k => match k with
  | 6 => 0
  | _ => 99
def ivVisa : Nat → Nat := fun k => match k with
  | 0 => 6
  | _ => 99
theorem ivVisa_ix {k : Nat} (hk : grp 2 k = true) : ivVisa (ixVisa k) = k := by
  simp only [grp, decide_eq_true_eq] at hk
  rcases (show k = 6 by omega) with rfl <;> rfl
theorem ixVisa_inj (k k' : Nat) (hk : grp 2 k = true) (hk' : grp 2 k' = true) (h : ixVisa k = ixVisa k') : k = k' := by rw [← ivVisa_ix hk, h, ivVisa_ix hk']
set_option maxRecDepth 20000 in
theorem nwVisa (yI yO : ClassId) (ad : Nat → Nat → Nat) (g : CS) (v : Nat) (u : Nat → Nat) (x1 : Int32) (x2 : Int32) (r3 : Nat) (x4 : Int32) (x5 : Int32) (y5 : Int32) (y6 : Int32) (hg : r3 < sN g 0 ∧ sN g 0 ≤ 200) (a2 k : Nat) (hk : grp 2 k = true) : ([(v, .inr (8, [.int x1, .int x2, .ref (ad 4 r3), .int x4, .int x5, .int y5, .int y6, .int (-1)]))] : va_W)[ixVisa k]? = some (naVisa v u k, cent yI yO (anew ad g 2 a2 (naVisa v u)) (gnew g 2 (LVisa x1 x2 r3 x4 x5 y5 y6)) k (lix 2 (sN g 2))) := by
  unfold cent
  rw [gnew_nI g _ hk, gnew_nJ g _ hk]
  simp only [grp, decide_eq_true_eq] at hk
  rcases (show k = 6 by omega) with rfl
  · simp only [centf]
    rw [show (LVisa x1 x2 r3 x4 x5 y5 y6 6 2).toNatClampNeg = r3 from nI_clamp (by omega), anew_old ad (naVisa v u) (by decide) (k := 4) (i := r3) (a2 := a2) (by simp [clvb, hg.1]) (by omega)]
    rfl
def LReq (x1 : Int32) (x2 : Int32) (x3 : Int32) (x4 : Int32) (x5 : Int32) : Nat → Nat → Int32 := fun k => match k with
  | 7 => fun c => match c with
    | 0 => x1
    | 1 => x2
    | 2 => x3
    | 3 => x4
    | 4 => x5
    | _ => 0
  | _ => fun _ => 0
def naReq (v : Nat) (u : Nat → Nat) : Nat → Nat := fun k => match k with
  | 7 => v
  | _ => 0
def ixReq : Nat → Nat := fun k => match k with
  | 7 => 0
  | _ => 99
def ivReq : Nat → Nat := fun k => match k with
  | 0 => 7
  | _ => 99
theorem ivReq_ix {k : Nat} (hk : grp 3 k = true) : ivReq (ixReq k) = k := by
  simp only [grp, decide_eq_true_eq] at hk
  rcases (show k = 7 by omega) with rfl <;> rfl
theorem ixReq_inj (k k' : Nat) (hk : grp 3 k = true) (hk' : grp 3 k' = true) (h : ixReq k = ixReq k') : k = k' := by rw [← ivReq_ix hk, h, ivReq_ix hk']
set_option maxRecDepth 20000 in
theorem nwReq (yI yO : ClassId) (ad : Nat → Nat → Nat) (g : CS) (v : Nat) (u : Nat → Nat) (x1 : Int32) (x2 : Int32) (x3 : Int32) (x4 : Int32) (x5 : Int32) (a2 k : Nat) (hk : grp 3 k = true) : ([(v, .inr (5, [.int x1, .int x2, .int x3, .int x4, .int x5, .int 0, .int 0, .int 0]))] : va_W)[ixReq k]? = some (naReq v u k, cent yI yO (anew ad g 3 a2 (naReq v u)) (gnew g 3 (LReq x1 x2 x3 x4 x5)) k (lix 3 (sN g 3))) := by
  unfold cent
  rw [gnew_nI g _ hk, gnew_nJ g _ hk]
  simp only [grp, decide_eq_true_eq] at hk
  rcases (show k = 7 by omega) with rfl
  · rfl
def LPer (x1 : Int32) (x2 : Int32) (x3 : Int32) (x4 : Int32) (y8 : Int32) : Nat → Nat → Int32 := fun k => match k with
  | 5 => fun c => match c with
    | 0 => x1
    | 1 => x2
    | 2 => x3
    | 3 => x4
    | 8 => y8
    | _ => 0
  | 17 => kfill 3601 0
  | 18 => kfill 3601 0
  | 19 => kfill 8 (-1)
  | 20 => kfill 8 (-1)
  | 21 => kfill 8 (-1)
  | 22 => kfill 8 (-1)
  | 23 => kfill 8 (-1)
  | _ => fun _ => 0
def naPer (v : Nat) (u : Nat → Nat) : Nat → Nat := fun k => match k with
  | 5 => v
  | 9 => u 0
  | 17 => u 1
  | 10 => u 2
  | 18 => u 3
  | 24 => u 4
  | 11 => u 5
  | 19 => u 6
  | 12 => u 7
  | 20 => u 8
  | 13 => u 9
  | 21 => u 10
  | 25 => u 11
  | 14 => u 12
  | 22 => u 13
  | 15 => u 14
  | 23 => u 15
  | _ => 0
def ixPer : Nat → Nat := fun k => match k with
  | 5 => 0
  | 9 => 1
  | 17 => 2
  | 10 => 3
  | 18 => 4
  | 24 => 5
  | 11 => 6
  | 19 => 7
  | 12 => 8
  | 20 => 9
  | 13 => 10
  | 21 => 11
  | 25 => 12
  | 14 => 13
  | 22 => 14
  | 15 => 15
  | 23 => 16
  | _ => 99
def ivPer : Nat → Nat := fun k => match k with
  | 0 => 5
  | 1 => 9
  | 2 => 17
  | 3 => 10
  | 4 => 18
  | 5 => 24
  | 6 => 11
  | 7 => 19
  | 8 => 12
  | 9 => 20
  | 10 => 13
  | 11 => 21
  | 12 => 25
  | 13 => 14
  | 14 => 22
  | 15 => 15
  | 16 => 23
  | _ => 99
theorem ivPer_ix {k : Nat} (hk : grp 1 k = true) : ivPer (ixPer k) = k := by
  simp only [grp, decide_eq_true_eq] at hk
  rcases (show k = 5 ∨ k = 9 ∨ k = 17 ∨ k = 10 ∨ k = 18 ∨ k = 24 ∨ k = 11 ∨ k = 19 ∨ k = 12 ∨ k = 20 ∨ k = 13 ∨ k = 21 ∨ k = 25 ∨ k = 14 ∨ k = 22 ∨ k = 15 ∨ k = 23 by omega) with rfl | rfl | rfl | rfl | rfl | rfl | rfl | rfl | rfl | rfl | rfl | rfl | rfl | rfl | rfl | rfl | rfl <;> rfl
theorem ixPer_inj (k k' : Nat) (hk : grp 1 k = true) (hk' : grp 1 k' = true) (h : ixPer k = ixPer k') : k = k' := by rw [← ivPer_ix hk, h, ivPer_ix hk']
set_option maxRecDepth 20000 in
theorem nwPer (yI yO : ClassId) (ad : Nat → Nat → Nat) (g : CS) (v : Nat) (u : Nat → Nat) (x1 : Int32) (x2 : Int32) (x3 : Int32) (x4 : Int32) (y8 : Int32) (a2 k : Nat) (hk : grp 1 k = true) : ([(v, .inr (4, [.int x1, .int x2, .int x3, .int x4, .ref (u 0), .ref (u 2), .ref (u 4), .ref (u 11), .int y8, .null, .null, .int 0, .int 0])), (u 0, .inr (6, [.ref (u 1), .int 0])), (u 1, .inl (yI, 3601, .inl (kfill 3601 0))), (u 2, .inr (6, [.ref (u 3), .int 0])), (u 3, .inl (yI, 3601, .inl (kfill 3601 0))), (u 4, .inr (1, [.ref (u 5), .ref (u 7), .ref (u 9)])), (u 5, .inr (6, [.ref (u 6), .int ((-1))])), (u 6, .inl (yI, 8, .inl (kfill 8 ((-1))))), (u 7, .inr (6, [.ref (u 8), .int ((-1))])), (u 8, .inl (yI, 8, .inl (kfill 8 ((-1))))), (u 9, .inr (6, [.ref (u 10), .int ((-1))])), (u 10, .inl (yI, 8, .inl (kfill 8 ((-1))))), (u 11, .inr (3, [.ref (u 12), .ref (u 14)])), (u 12, .inr (6, [.ref (u 13), .int ((-1))])), (u 13, .inl (yI, 8, .inl (kfill 8 ((-1))))), (u 14, .inr (6, [.ref (u 15), .int ((-1))])), (u 15, .inl (yI, 8, .inl (kfill 8 ((-1)))))] : va_W)[ixPer k]? = some (naPer v u k, cent yI yO (anew ad g 1 a2 (naPer v u)) (gnew g 1 (LPer x1 x2 x3 x4 y8)) k (lix 1 (sN g 1))) := by
  unfold cent
  rw [gnew_nI g _ hk, gnew_nJ g _ hk]
  simp only [grp, decide_eq_true_eq] at hk
  rcases (show k = 5 ∨ k = 9 ∨ k = 17 ∨ k = 10 ∨ k = 18 ∨ k = 24 ∨ k = 11 ∨ k = 19 ∨ k = 12 ∨ k = 20 ∨ k = 13 ∨ k = 21 ∨ k = 25 ∨ k = 14 ∨ k = 22 ∨ k = 15 ∨ k = 23 by omega) with rfl | rfl | rfl | rfl | rfl | rfl | rfl | rfl | rfl | rfl | rfl | rfl | rfl | rfl | rfl | rfl | rfl
  · simp only [centf]
    rw [anew_new ad a2 (naPer v u) (by decide) (k := 9) (by decide), anew_new ad a2 (naPer v u) (by decide) (k := 10) (by decide), anew_new ad a2 (naPer v u) (by decide) (k := 24) (by decide), anew_new ad a2 (naPer v u) (by decide) (k := 25) (by decide)]
    rfl
  · simp only [centf]
    rw [anew_new ad a2 (naPer v u) (by decide) (k := 17) (by decide)]
    rfl
  · rfl
  · simp only [centf]
    rw [anew_new ad a2 (naPer v u) (by decide) (k := 18) (by decide)]
    rfl
  · rfl
  · simp only [centf]
    rw [anew_new ad a2 (naPer v u) (by decide) (k := 11) (by decide), anew_new ad a2 (naPer v u) (by decide) (k := 12) (by decide), anew_new ad a2 (naPer v u) (by decide) (k := 13) (by decide)]
    rfl
  · simp only [centf]
    rw [anew_new ad a2 (naPer v u) (by decide) (k := 19) (by decide)]
    rfl
  · rfl
  · simp only [centf]
    rw [anew_new ad a2 (naPer v u) (by decide) (k := 20) (by decide)]
    rfl
  · rfl
  · simp only [centf]
    rw [anew_new ad a2 (naPer v u) (by decide) (k := 21) (by decide)]
    rfl
  · rfl
  · simp only [centf]
    rw [anew_new ad a2 (naPer v u) (by decide) (k := 14) (by decide), anew_new ad a2 (naPer v u) (by decide) (k := 15) (by decide)]
    rfl
  · simp only [centf]
    rw [anew_new ad a2 (naPer v u) (by decide) (k := 22) (by decide)]
    rfl
  · rfl
  · simp only [centf]
    rw [anew_new ad a2 (naPer v u) (by decide) (k := 23) (by decide)]
    rfl
  · rfl
