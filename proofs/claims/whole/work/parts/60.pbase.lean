/-! ===== the pure part: basics (bits: after the kit's BITS text) ===== -/
def zB (b : Bool) : Int32 := match b with
  | true => 1
  | false => 0
theorem zB_0 (b : Bool) : zB b = 0 ↔ b = false := by cases b <;> decide
theorem zB_1 (b : Bool) : zB b = 1 ↔ b = true := by cases b <;> decide
theorem zB_m (b : Bool) : mbo (zB b) = some (zB b) := by cases b <;> rfl
theorem zB_t : zB true = 1 := rfl
theorem zB_f : zB false = 0 := rfl
theorem zB_of {x : Int32} (h : x = 0 ∨ x = 1) : ∃ b, x = zB b := by
  rcases h with h | h
  · exact ⟨false, h⟩
  · exact ⟨true, h⟩
theorem mbo0 : mbo 0 = some 0 := rfl
theorem mbo1 : mbo 1 = some 1 := rfl
def hb (x : Int32) (n : Nat) : Bool := x.toBitVec.getLsbD n
theorem zs_l : ∀ n, n < 32 → ((nI n &&& 31).toBitVec.smod 32).toNat = n := by decide +kernel
theorem zf_sh : ∀ l, l < 32 → ((1 : Int32) <<< (nI l &&& 31)).toBitVec = BitVec.twoPow 32 l := by decide +kernel
theorem zf_tp : ∀ l, l < 32 → BitVec.twoPow 32 l ≠ 0#32 := by decide +kernel
theorem hb_ext {x y : Int32} (h : ∀ i, i < 32 → hb x i = hb y i) : x = y := Int32.toBitVec_inj.mp (BitVec.eq_of_getLsbD_eq (fun i hi => h i hi))
theorem hb_or (x y : Int32) (i : Nat) : hb (x ||| y) i = (hb x i || hb y i) := by unfold hb; rw [Int32.toBitVec_or, BitVec.getLsbD_or]
theorem hb_and (x y : Int32) (i : Nat) : hb (x &&& y) i = (hb x i && hb y i) := by unfold hb; rw [Int32.toBitVec_and, BitVec.getLsbD_and]
theorem hb_xor (x y : Int32) (i : Nat) : hb (x ^^^ y) i = (hb x i ^^ hb y i) := by unfold hb; rw [Int32.toBitVec_xor, BitVec.getLsbD_xor]
theorem hb_big {x : Int32} {i : Nat} (h : 32 ≤ i) : hb x i = false := BitVec.getLsbD_of_ge _ _ h
theorem hb_m1 : ∀ i, i < 32 → hb (-1) i = true := by decide +kernel
theorem hb_z (i : Nat) : hb 0 i = false := BitVec.getLsbD_zero
theorem hb_bit {l : Nat} (hl : l < 32) (i : Nat) : hb ((1 : Int32) <<< (nI l &&& 31)) i = decide (l = i) := by
  unfold hb
  rw [zf_sh l hl, BitVec.getLsbD_twoPow]
  simp [hl]
theorem hb_zero (x : Int32) {l : Nat} (hl : l < 32) : (x &&& ((1 : Int32) <<< (nI l &&& 31))) = 0 ↔ hb x l = false := by
  rw [← Int32.toBitVec_inj, Int32.toBitVec_and, zf_sh l hl, BitVec.and_twoPow]
  show _ = 0#32 ↔ x.toBitVec.getLsbD l = false
  cases hb : x.toBitVec.getLsbD l
  · exact ⟨fun _ => rfl, fun _ => by simp⟩
  · exact ⟨fun z => absurd ((if_pos rfl).symm.trans z) (zf_tp l hl), fun z => absurd z (by decide)⟩
theorem hb_s (x : Int32) {l : Nat} (hl : l < 32) : hb (x >>> (nI l &&& 31)) 0 = hb x l := by
  unfold hb
  rw [Int32.toBitVec_shiftRight]
  show (x.toBitVec.sshiftRight ((nI l &&& 31).toBitVec.smod 32).toNat).getLsbD 0 = _
  rw [zs_l l hl, BitVec.getLsbD_sshiftRight]
  simp [hl]
theorem hb_one (y : Int32) : (y &&& 1) = 1 ↔ hb y 0 = true := by
  have e : (1 : Int32) = (1 : Int32) <<< (nI 0 &&& 31) := by decide +kernel
  constructor
  · intro h
    have := congrArg (fun z => hb z 0) h
    simp only [hb_and] at this
    rw [show hb 1 0 = true from by decide +kernel, Bool.and_true] at this
    exact this
  · intro h
    refine hb_ext fun i hi => ?_
    rw [hb_and, e, hb_bit (by decide)]
    by_cases h0 : 0 = i
    · subst h0; simp [h]
    · simp [h0]
theorem hb_has (x : Int32) {l : Nat} (hl : l < 32) : ((x >>> (nI l &&& 31)) &&& 1) = 1 ↔ hb x l = true := by rw [hb_one, hb_s x hl]
/-! small numbers -/
theorem zT1 {a b : Nat} (ha : a < 2147483648) (hb : b < 2147483648) : nI a = nI b ↔ a = b := nI_eq ha hb
theorem z8 (a b : Nat) : (8 : Int32) * nI a + nI b = nI (8 * a + b) := by show nI 8 * nI a + nI b = _; rw [pk_mul, nI_add]
theorem z3 (a b : Nat) : (3 : Int32) * nI a + nI b = nI (3 * a + b) := by show nI 3 * nI a + nI b = _; rw [pk_mul, nI_add]
theorem zd (a b : Nat) : (3601 : Int32) * nI a + nI b = nI (3601 * a + b) := by show nI 3601 * nI a + nI b = _; rw [pk_mul, nI_add]
theorem z10 (a b : Nat) : (10 : Int32) * nI a + nI b = nI (10 * a + b) := by show nI 10 * nI a + nI b = _; rw [pk_mul, nI_add]
theorem zp1 (a : Nat) : nI a + 1 = nI (a + 1) := nI_1 a
theorem zm1 (a : Nat) : nI (a + 1) - 1 = nI a := nI_pred a
theorem zq10 {a : Nat} (h : a < 2147483648) : nI a / 10 = nI (a / 10) := pk_div (d := 10) h (by decide) (by decide)
theorem zr10 {a : Nat} (h : a < 2147483648) : nI a - nI a / 10 * 10 = nI (a % 10) := pk_rem (d := 10) h (by decide) (by decide)
theorem zr360 {a : Nat} (h : a < 2147483648) : nI a - nI a / 360 * 360 = nI (a % 360) := pk_rem (d := 360) h (by decide) (by decide)
theorem zlt0 {a : Nat} (h : a < 2147483648) : ¬ nI a < 0 := nI_pos h
theorem zne1 {a : Nat} (h : a < 2147483648) : ¬ nI a = -1 := by
  intro e
  have := nI_pos' h
  rw [e] at this
  exact absurd this (by decide)
theorem zltI {a b : Nat} (ha : a < 2147483648) (hb : b < 2147483648) : nI a < nI b ↔ a < b := nI_ltI ha hb
theorem zleI {a b : Nat} (ha : a < 2147483648) (hb : b < 2147483648) : nI a ≤ nI b ↔ a ≤ b := nI_leI ha hb
/-! reading and writing the two memories -/
theorem ck_ok {g : CS} {k i : Nat} (h : clvb g k i = true) : ck g k i = some () := by unfold ck; rw [if_pos h]
theorem ck3 {g : CS} {i : Nat} (h : i ≤ sN g 4) : ck g 3 i = some () := ck_ok (decide_eq_true h)
theorem ck4 {g : CS} {i : Nat} (h : i < sN g 0) : ck g 4 i = some () := ck_ok (decide_eq_true h)
theorem ck5 {g : CS} {i : Nat} (h : i < sN g 1) : ck g 5 i = some () := ck_ok (decide_eq_true h)
theorem ck6 {g : CS} {i : Nat} (h : i < sN g 2) : ck g 6 i = some () := ck_ok (decide_eq_true h)
theorem ck7 {g : CS} {i : Nat} (h : i < sN g 3) : ck g 7 i = some () := ck_ok (decide_eq_true h)
theorem cget_ok {g : CS} {j i : Nat} (h : i < sN g j) (hc : sN g j ≤ sC g j) (hb : sN g j < 2147483648) : cget g j (nI i) = some (lix j i) := by
  unfold cget
  rw [nI_clamp (by omega), if_neg]
  rintro (z | z | z | z)
  · exact nI_pos (by omega) z
  · omega
  · omega
  · omega
theorem at_in {g : CS} {k i j : Nat} (hk : ck g k i = some ()) (hj : j < rlen k) (hr : rlen k < 2147483648) : fC_Row_at k i g (nI j) = some (sI g (k + 8) i j) := by
  unfold fC_Row_at
  rw [if_neg (nI_pos (by omega)), hk]
  simp only [Option.bind_some]
  rw [if_pos (nI_lt hj hr)]
  unfold cld
  rw [nI_clamp (by omega), Nat.add_sub_cancel, if_neg (fun z => z.elim (nI_pos (by omega)) (by omega))]
  rfl
theorem at_neg {g : CS} {k i : Nat} {x : Int32} (hk : ck g k i = some ()) (h : x < 0) : fC_Row_at k i g x = some (rem k) := by
  unfold fC_Row_at fC_Row_at_13
  rw [if_pos h, hk]
  rfl
theorem put_in {g : CS} {k i j : Nat} {x : Int32} (hk : ck g k i = some ()) (hj : j < rlen k) (hr : rlen k < 2147483648) : fC_Row_put k i g (nI j) x = some (uI g (k + 8) i j x) := by
  unfold fC_Row_put
  rw [if_neg (nI_pos (by omega)), hk]
  simp only [Option.bind_some]
  rw [if_neg (nI_ge hj hr)]
  unfold cst
  rw [nI_clamp (by omega), Nat.add_sub_cancel, if_neg (fun z => z.elim (nI_pos (by omega)) (by omega))]
  rfl
theorem at8 {g : CS} {i j : Nat} (h : i < sN g 0) (hj : j < 3) : fC_Row_at 8 i g (nI j) = some (sI g 16 i j) := at_in (k := 8) (ck_ok (decide_eq_true h)) hj (by decide)
theorem at9 {g : CS} {i j : Nat} (h : i < sN g 1) (hj : j < 3601) : fC_Row_at 9 i g (nI j) = some (sI g 17 i j) := at_in (k := 9) (ck_ok (decide_eq_true h)) hj (by decide)
theorem at10 {g : CS} {i j : Nat} (h : i < sN g 1) (hj : j < 3601) : fC_Row_at 10 i g (nI j) = some (sI g 18 i j) := at_in (k := 10) (ck_ok (decide_eq_true h)) hj (by decide)
theorem at10n {g : CS} {i : Nat} {x : Int32} (h : i < sN g 1) (hj : x < 0) : fC_Row_at 10 i g x = some 0 := at_neg (k := 10) (ck_ok (decide_eq_true h)) hj
theorem at11 {g : CS} {i j : Nat} (h : i < sN g 1) (hj : j < 8) : fC_Row_at 11 i g (nI j) = some (sI g 19 i j) := at_in (k := 11) (ck_ok (decide_eq_true h)) hj (by decide)
theorem at12 {g : CS} {i j : Nat} (h : i < sN g 1) (hj : j < 8) : fC_Row_at 12 i g (nI j) = some (sI g 20 i j) := at_in (k := 12) (ck_ok (decide_eq_true h)) hj (by decide)
theorem at13 {g : CS} {i j : Nat} (h : i < sN g 1) (hj : j < 8) : fC_Row_at 13 i g (nI j) = some (sI g 21 i j) := at_in (k := 13) (ck_ok (decide_eq_true h)) hj (by decide)
theorem at14 {g : CS} {i j : Nat} (h : i < sN g 1) (hj : j < 8) : fC_Row_at 14 i g (nI j) = some (sI g 22 i j) := at_in (k := 14) (ck_ok (decide_eq_true h)) hj (by decide)
theorem at15 {g : CS} {i j : Nat} (h : i < sN g 1) (hj : j < 8) : fC_Row_at 15 i g (nI j) = some (sI g 23 i j) := at_in (k := 15) (ck_ok (decide_eq_true h)) hj (by decide)
theorem put8 {g : CS} {i j : Nat} (x : Int32) (h : i < sN g 0) (hj : j < 3) : fC_Row_put 8 i g (nI j) x = some (uI g 16 i j x) := put_in (k := 8) (ck_ok (decide_eq_true h)) hj (by decide)
theorem put9 {g : CS} {i j : Nat} (x : Int32) (h : i < sN g 1) (hj : j < 3601) : fC_Row_put 9 i g (nI j) x = some (uI g 17 i j x) := put_in (k := 9) (ck_ok (decide_eq_true h)) hj (by decide)
theorem put10 {g : CS} {i j : Nat} (x : Int32) (h : i < sN g 1) (hj : j < 3601) : fC_Row_put 10 i g (nI j) x = some (uI g 18 i j x) := put_in (k := 10) (ck_ok (decide_eq_true h)) hj (by decide)
theorem put11 {g : CS} {i j : Nat} (x : Int32) (h : i < sN g 1) (hj : j < 8) : fC_Row_put 11 i g (nI j) x = some (uI g 19 i j x) := put_in (k := 11) (ck_ok (decide_eq_true h)) hj (by decide)
theorem put12 {g : CS} {i j : Nat} (x : Int32) (h : i < sN g 1) (hj : j < 8) : fC_Row_put 12 i g (nI j) x = some (uI g 20 i j x) := put_in (k := 12) (ck_ok (decide_eq_true h)) hj (by decide)
theorem put13 {g : CS} {i j : Nat} (x : Int32) (h : i < sN g 1) (hj : j < 8) : fC_Row_put 13 i g (nI j) x = some (uI g 21 i j x) := put_in (k := 13) (ck_ok (decide_eq_true h)) hj (by decide)
theorem put14 {g : CS} {i j : Nat} (x : Int32) (h : i < sN g 1) (hj : j < 8) : fC_Row_put 14 i g (nI j) x = some (uI g 22 i j x) := put_in (k := 14) (ck_ok (decide_eq_true h)) hj (by decide)
theorem put15 {g : CS} {i j : Nat} (x : Int32) (h : i < sN g 1) (hj : j < 8) : fC_Row_put 15 i g (nI j) x = some (uI g 23 i j x) := put_in (k := 15) (ck_ok (decide_eq_true h)) hj (by decide)
theorem mlen_ok (k : Nat) : mlen k < 2147483648 := by
  unfold mlen
  split <;> decide
theorem ml {u : MS} {k j : Nat} (h : j < mlen k) : mld u k (nI j) = some (u k j) := by
  have := mlen_ok k
  unfold mld
  rw [nI_clamp (by omega), if_neg (fun z => z.elim (nI_pos (by omega)) (by omega))]
theorem mt {u : MS} {k j : Nat} {x : Int32} (h : j < mlen k) : mst u k (nI j) x = some (mup u k j x) := by
  have := mlen_ok k
  unfold mst
  rw [nI_clamp (by omega), if_neg (fun z => z.elim (nI_pos (by omega)) (by omega))]
theorem md3 {u : MS} {j : Nat} (h : j < 8) : mld u 3 (nI j) = some (u 3 j) := ml (k := 3) h
theorem mt3 {u : MS} {j : Nat} {x : Int32} (h : j < 8) : mst u 3 (nI j) x = some (mup u 3 j x) := mt (k := 3) h
theorem md4 {u : MS} {j : Nat} (h : j < 8) : mld u 4 (nI j) = some (u 4 j) := ml (k := 4) h
theorem mt4 {u : MS} {j : Nat} {x : Int32} (h : j < 8) : mst u 4 (nI j) x = some (mup u 4 j x) := mt (k := 4) h
theorem md5 {u : MS} {j : Nat} (h : j < 8) : mld u 5 (nI j) = some (u 5 j) := ml (k := 5) h
theorem mt5 {u : MS} {j : Nat} {x : Int32} (h : j < 8) : mst u 5 (nI j) x = some (mup u 5 j x) := mt (k := 5) h
theorem md6 {u : MS} {j : Nat} (h : j < 8) : mld u 6 (nI j) = some (u 6 j) := ml (k := 6) h
theorem mt6 {u : MS} {j : Nat} {x : Int32} (h : j < 8) : mst u 6 (nI j) x = some (mup u 6 j x) := mt (k := 6) h
theorem md7 {u : MS} {j : Nat} (h : j < 64) : mld u 7 (nI j) = some (u 7 j) := ml (k := 7) h
theorem mt7 {u : MS} {j : Nat} {x : Int32} (h : j < 64) : mst u 7 (nI j) x = some (mup u 7 j x) := mt (k := 7) h
theorem md8 {u : MS} {j : Nat} (h : j < 24) : mld u 8 (nI j) = some (u 8 j) := ml (k := 8) h
theorem mt8 {u : MS} {j : Nat} {x : Int32} (h : j < 24) : mst u 8 (nI j) x = some (mup u 8 j x) := mt (k := 8) h
theorem md10 {u : MS} {j : Nat} (h : j < 10) : mld u 10 (nI j) = some (u 10 j) := ml (k := 10) h
theorem mt10 {u : MS} {j : Nat} {x : Int32} (h : j < 10) : mst u 10 (nI j) x = some (mup u 10 j x) := mt (k := 10) h
theorem md11 {u : MS} {j : Nat} (h : j < 10) : mld u 11 (nI j) = some (u 11 j) := ml (k := 11) h
theorem mt11 {u : MS} {j : Nat} {x : Int32} (h : j < 10) : mst u 11 (nI j) x = some (mup u 11 j x) := mt (k := 11) h
theorem md12 {u : MS} {j : Nat} (h : j < 10) : mld u 12 (nI j) = some (u 12 j) := ml (k := 12) h
theorem mt12 {u : MS} {j : Nat} {x : Int32} (h : j < 10) : mst u 12 (nI j) x = some (mup u 12 j x) := mt (k := 12) h
theorem md14 {u : MS} {j : Nat} (h : j < 16) : mld u 14 (nI j) = some (u 14 j) := ml (k := 14) h
theorem mt14 {u : MS} {j : Nat} {x : Int32} (h : j < 16) : mst u 14 (nI j) x = some (mup u 14 j x) := mt (k := 14) h
theorem md15 {u : MS} {j : Nat} (h : j < 16) : mld u 15 (nI j) = some (u 15 j) := ml (k := 15) h
theorem mt15 {u : MS} {j : Nat} {x : Int32} (h : j < 16) : mst u 15 (nI j) x = some (mup u 15 j x) := mt (k := 15) h
theorem md16 {u : MS} {j : Nat} (h : j < 16) : mld u 16 (nI j) = some (u 16 j) := ml (k := 16) h
theorem mt16 {u : MS} {j : Nat} {x : Int32} (h : j < 16) : mst u 16 (nI j) x = some (mup u 16 j x) := mt (k := 16) h
theorem md17 {u : MS} {j : Nat} (h : j < 16) : mld u 17 (nI j) = some (u 17 j) := ml (k := 17) h
theorem mt17 {u : MS} {j : Nat} {x : Int32} (h : j < 16) : mst u 17 (nI j) x = some (mup u 17 j x) := mt (k := 17) h
theorem md18 {u : MS} {j : Nat} (h : j < 16) : mld u 18 (nI j) = some (u 18 j) := ml (k := 18) h
theorem mt18 {u : MS} {j : Nat} {x : Int32} (h : j < 16) : mst u 18 (nI j) x = some (mup u 18 j x) := mt (k := 18) h
theorem md19 {u : MS} {j : Nat} (h : j < 16) : mld u 19 (nI j) = some (u 19 j) := ml (k := 19) h
theorem mt19 {u : MS} {j : Nat} {x : Int32} (h : j < 16) : mst u 19 (nI j) x = some (mup u 19 j x) := mt (k := 19) h
theorem md20 {u : MS} {j : Nat} (h : j < 16) : mld u 20 (nI j) = some (u 20 j) := ml (k := 20) h
theorem mt20 {u : MS} {j : Nat} {x : Int32} (h : j < 16) : mst u 20 (nI j) x = some (mup u 20 j x) := mt (k := 20) h
theorem md21 {u : MS} {j : Nat} (h : j < 16) : mld u 21 (nI j) = some (u 21 j) := ml (k := 21) h
theorem mt21 {u : MS} {j : Nat} {x : Int32} (h : j < 16) : mst u 21 (nI j) x = some (mup u 21 j x) := mt (k := 21) h
theorem md22 {u : MS} {j : Nat} (h : j < 57616) : mld u 22 (nI j) = some (u 22 j) := ml (k := 22) h
theorem mt22 {u : MS} {j : Nat} {x : Int32} (h : j < 57616) : mst u 22 (nI j) x = some (mup u 22 j x) := mt (k := 22) h
theorem md23 {u : MS} {j : Nat} (h : j < 128) : mld u 23 (nI j) = some (u 23 j) := ml (k := 23) h
theorem mt23 {u : MS} {j : Nat} {x : Int32} (h : j < 128) : mst u 23 (nI j) x = some (mup u 23 j x) := mt (k := 23) h
theorem md24 {u : MS} {j : Nat} (h : j < 128) : mld u 24 (nI j) = some (u 24 j) := ml (k := 24) h
theorem mt24 {u : MS} {j : Nat} {x : Int32} (h : j < 128) : mst u 24 (nI j) x = some (mup u 24 j x) := mt (k := 24) h
theorem md25 {u : MS} {j : Nat} (h : j < 128) : mld u 25 (nI j) = some (u 25 j) := ml (k := 25) h
theorem mt25 {u : MS} {j : Nat} {x : Int32} (h : j < 128) : mst u 25 (nI j) x = some (mup u 25 j x) := mt (k := 25) h
theorem md26 {u : MS} {j : Nat} (h : j < 128) : mld u 26 (nI j) = some (u 26 j) := ml (k := 26) h
theorem mt26 {u : MS} {j : Nat} {x : Int32} (h : j < 128) : mst u 26 (nI j) x = some (mup u 26 j x) := mt (k := 26) h
theorem md27 {u : MS} {j : Nat} (h : j < 128) : mld u 27 (nI j) = some (u 27 j) := ml (k := 27) h
theorem mt27 {u : MS} {j : Nat} {x : Int32} (h : j < 128) : mst u 27 (nI j) x = some (mup u 27 j x) := mt (k := 27) h
theorem md29 {u : MS} {j : Nat} (h : j < 60) : mld u 29 (nI j) = some (u 29 j) := ml (k := 29) h
theorem mt29 {u : MS} {j : Nat} {x : Int32} (h : j < 60) : mst u 29 (nI j) x = some (mup u 29 j x) := mt (k := 29) h
theorem md30 {u : MS} {j : Nat} (h : j < 60) : mld u 30 (nI j) = some (u 30 j) := ml (k := 30) h
theorem mt30 {u : MS} {j : Nat} {x : Int32} (h : j < 60) : mst u 30 (nI j) x = some (mup u 30 j x) := mt (k := 30) h
theorem md31 {u : MS} {j : Nat} (h : j < 60) : mld u 31 (nI j) = some (u 31 j) := ml (k := 31) h
theorem mt31 {u : MS} {j : Nat} {x : Int32} (h : j < 60) : mst u 31 (nI j) x = some (mup u 31 j x) := mt (k := 31) h
theorem md32 {u : MS} {j : Nat} (h : j < 60) : mld u 32 (nI j) = some (u 32 j) := ml (k := 32) h
theorem mt32 {u : MS} {j : Nat} {x : Int32} (h : j < 60) : mst u 32 (nI j) x = some (mup u 32 j x) := mt (k := 32) h
theorem md33 {u : MS} {j : Nat} (h : j < 60) : mld u 33 (nI j) = some (u 33 j) := ml (k := 33) h
theorem mt33 {u : MS} {j : Nat} {x : Int32} (h : j < 60) : mst u 33 (nI j) x = some (mup u 33 j x) := mt (k := 33) h
theorem md34 {u : MS} {j : Nat} (h : j < 60) : mld u 34 (nI j) = some (u 34 j) := ml (k := 34) h
theorem mt34 {u : MS} {j : Nat} {x : Int32} (h : j < 60) : mst u 34 (nI j) x = some (mup u 34 j x) := mt (k := 34) h
theorem md35 {u : MS} {j : Nat} (h : j < 60) : mld u 35 (nI j) = some (u 35 j) := ml (k := 35) h
theorem mt35 {u : MS} {j : Nat} {x : Int32} (h : j < 60) : mst u 35 (nI j) x = some (mup u 35 j x) := mt (k := 35) h
theorem md37 {u : MS} {j : Nat} (h : j < 40) : mld u 37 (nI j) = some (u 37 j) := ml (k := 37) h
theorem mt37 {u : MS} {j : Nat} {x : Int32} (h : j < 40) : mst u 37 (nI j) x = some (mup u 37 j x) := mt (k := 37) h
theorem md38 {u : MS} {j : Nat} (h : j < 40) : mld u 38 (nI j) = some (u 38 j) := ml (k := 38) h
theorem mt38 {u : MS} {j : Nat} {x : Int32} (h : j < 40) : mst u 38 (nI j) x = some (mup u 38 j x) := mt (k := 38) h
theorem md39 {u : MS} {j : Nat} (h : j < 40) : mld u 39 (nI j) = some (u 39 j) := ml (k := 39) h
theorem mt39 {u : MS} {j : Nat} {x : Int32} (h : j < 40) : mst u 39 (nI j) x = some (mup u 39 j x) := mt (k := 39) h
theorem md40 {u : MS} {j : Nat} (h : j < 40) : mld u 40 (nI j) = some (u 40 j) := ml (k := 40) h
theorem mt40 {u : MS} {j : Nat} {x : Int32} (h : j < 40) : mst u 40 (nI j) x = some (mup u 40 j x) := mt (k := 40) h
theorem md41 {u : MS} {j : Nat} (h : j < 40) : mld u 41 (nI j) = some (u 41 j) := ml (k := 41) h
theorem mt41 {u : MS} {j : Nat} {x : Int32} (h : j < 40) : mst u 41 (nI j) x = some (mup u 41 j x) := mt (k := 41) h
theorem md42 {u : MS} {j : Nat} (h : j < 40) : mld u 42 (nI j) = some (u 42 j) := ml (k := 42) h
theorem mt42 {u : MS} {j : Nat} {x : Int32} (h : j < 40) : mst u 42 (nI j) x = some (mup u 42 j x) := mt (k := 42) h
theorem md43 {u : MS} {j : Nat} (h : j < 40) : mld u 43 (nI j) = some (u 43 j) := ml (k := 43) h
theorem mt43 {u : MS} {j : Nat} {x : Int32} (h : j < 40) : mst u 43 (nI j) x = some (mup u 43 j x) := mt (k := 43) h
theorem md44 {u : MS} {j : Nat} (h : j < 120) : mld u 44 (nI j) = some (u 44 j) := ml (k := 44) h
theorem mt44 {u : MS} {j : Nat} {x : Int32} (h : j < 120) : mst u 44 (nI j) x = some (mup u 44 j x) := mt (k := 44) h
theorem mup_at (u : MS) (k j : Nat) (x : Int32) : mup u k j x k j = x := if_pos ⟨rfl, rfl⟩
theorem mup_nj (u : MS) (k : Nat) {j i : Nat} (x : Int32) (h : i ≠ j) : mup u k j x k i = u k i := if_neg (fun z => h z.2)
theorem sI_at (g : CS) (k i f : Nat) (x : Int32) : sI (uI g k i f x) k i f = x := if_pos ⟨rfl, rfl, rfl⟩
theorem sI_n1 (g : CS) {k a : Nat} (i f : Nat) (x : Int32) (h : a ≠ k) : sI (uI g k i f x) a = sI g a := by
  funext b c
  exact if_neg (fun z => h z.1)
theorem sI_n2 (g : CS) (k : Nat) {i b : Nat} (f : Nat) (x : Int32) (h : b ≠ i) : sI (uI g k i f x) k b = sI g k b := by
  funext c
  exact if_neg (fun z => h z.2.1)
theorem sI_n3 (g : CS) (k i : Nat) {f c : Nat} (x : Int32) (h : c ≠ f) : sI (uI g k i f x) k i c = sI g k i c := if_neg (fun z => h z.2.2)
theorem sI_uJ (g : CS) (k i f : Nat) (x : Option Nat) : sI (uJ g k i f x) = sI g := rfl
theorem sJ_uI (g : CS) (k i f : Nat) (x : Int32) : sJ (uI g k i f x) = sJ g := rfl
theorem sN_uI (g : CS) (k i f : Nat) (x : Int32) : sN (uI g k i f x) = sN g := rfl
theorem sN_uJ (g : CS) (k i f : Nat) (x : Option Nat) : sN (uJ g k i f x) = sN g := rfl
theorem sC_uI (g : CS) (k i f : Nat) (x : Int32) : sC (uI g k i f x) = sC g := rfl
theorem sC_uJ (g : CS) (k i f : Nat) (x : Option Nat) : sC (uJ g k i f x) = sC g := rfl
theorem sJ_at (g : CS) (k i f : Nat) (x : Option Nat) : sJ (uJ g k i f x) k i f = x := if_pos ⟨rfl, rfl, rfl⟩
theorem sJ_n (g : CS) (k i f : Nat) (x : Option Nat) {a b c : Nat} (h : ¬ (a = k ∧ b = i ∧ c = f)) : sJ (uJ g k i f x) a b c = sJ g a b c := if_neg h
theorem sI_n (g : CS) (k i f : Nat) (x : Int32) {a b c : Nat} (h : ¬ (a = k ∧ b = i ∧ c = f)) : sI (uI g k i f x) a b c = sI g a b c := if_neg h
theorem mup_n (u : MS) (k j : Nat) (x : Int32) {a b : Nat} (h : ¬ (a = k ∧ b = j)) : mup u k j x a b = u a b := if_neg h
theorem xb_l {α β : Type} (e : Nat) (f : α → Option (Nat ⊕ β)) : xb (some (.inl e)) f = some (.inl e) := rfl
theorem xb_r {α β : Type} (a : α) (f : α → Option (Nat ⊕ β)) : xb (some (.inr a)) f = f a := rfl
theorem mb2_s {β : Type} (r : Int32) (u : MS) (f : Int32 → MS → Option β) : mb2 (some (r, u)) f = f r u := rfl
theorem om_0 {β : Type} (A : β) (B : Nat → β) : om none A B = A := rfl
theorem om_1 {β : Type} (v : Nat) (A : β) (B : Nat → β) : om (some v) A B = B v := rfl
/-! sums and searches -/
def zS (f : Nat → Int32) : Nat → Nat → Int32
  | _, 0 => 0
  | i, k + 1 => f i + zS f (i + 1) k
theorem zS_split (f : Nat → Int32) (a k : Nat) : ∀ i, zS f i (a + k) = zS f i a + zS f (i + a) k := by
  induction a with
  | zero => intro i; simp [zS]
  | succ a ih =>
    intro i
    rw [show a + 1 + k = (a + k) + 1 from by omega]
    simp only [zS]
    rw [ih (i + 1), Int32.add_assoc, show i + 1 + a = i + (a + 1) from by omega]
theorem zS_last (f : Nat → Int32) (i k : Nat) : zS f i (k + 1) = zS f i k + f (i + k) := by
  rw [zS_split f k 1 i]
  simp [zS]
theorem zS_congr {f h : Nat → Int32} (k : Nat) : ∀ i, (∀ j, i ≤ j → j < i + k → f j = h j) → zS f i k = zS h i k := by
  induction k with
  | zero => intro i _; rfl
  | succ k ih =>
    intro i hj
    simp only [zS]
    rw [hj i (by omega) (by omega), ih (i + 1) (fun j h1 h2 => hj j (by omega) (by omega))]
