/-! ===== the relation: class and reference hold the same ===== -/
def zF (f : Nat → Int32) (b : Nat) : Nat → Int32
  | 0 => 0
  | m + 1 => zF f b m ||| ((1 : Int32) <<< (f (b + m) &&& 31))
def aT (t : Nat) (g : CS) (u : MS) : Prop := sI g 0 0 6 = nI t ∧ t ≤ 3600 ∧ u 1 0 = nI t
def aN (t : Nat) (g : CS) (u : MS) : Prop := sN g 0 ≤ 8 ∧ u 2 0 = nI (sN g 0) ∧ sN g 1 ≤ 16 ∧ u 13 0 = nI (sN g 1) ∧ sN g 2 ≤ 60 ∧ u 28 0 = nI (sN g 2) ∧ sN g 3 ≤ 40 ∧ u 36 0 = nI (sN g 3) ∧ sN g 4 ≤ 9 ∧ u 9 0 = nI (sN g 4 + 1)
def aC (t : Nat) (g : CS) (u : MS) : Prop := ∀ j, j < 5 → sN g j ≤ sC g j ∧ sC g j ≤ 200
def aL (t : Nat) (g : CS) (u : MS) : Prop := ∀ l, l < sN g 0 → sI g 4 l 0 = nI l ∧ (∃ b, sI g 4 l 1 = zB b ∧ u 3 l = zB b) ∧ (∃ b, sI g 4 l 2 = zB b ∧ u 4 l = zB b) ∧ (∃ b, sI g 4 l 3 = zB b ∧ u 5 l = zB b) ∧ u 6 l = sI g 4 l 4
def aW (t : Nat) (g : CS) (u : MS) : Prop := ∀ l, l < 8 → (l < sN g 0 → (∀ n, n < 8 → u 7 (8 * l + n) = zB (hb (sI g 4 l 6) n)) ∧ ∀ n, sN g 0 ≤ n → hb (sI g 4 l 6) n = false) ∧ (sN g 0 ≤ l → ∀ n, n < 8 → u 7 (8 * l + n) = 0)
def aU (t : Nat) (g : CS) (u : MS) : Prop := ∀ l, l < 8 → ∀ j, j < 3 → (l < sN g 0 → u 8 (3 * l + j) = sI g 16 l j) ∧ (sN g 0 ≤ l → u 8 (3 * l + j) = 0)
def aR (t : Nat) (g : CS) (u : MS) : Prop := ∀ i, i ≤ sN g 4 → u 10 i = sI g 3 i 0 ∧ u 11 i = sI g 3 i 1 ∧ ∃ w, 1 ≤ w ∧ w ≤ 360 ∧ sI g 3 i 2 = nI w ∧ u 12 i = nI w
def aP (t : Nat) (g : CS) (u : MS) : Prop := ∀ p, p < sN g 1 → sI g 5 p 0 = nI p ∧ u 14 p = sI g 5 p 1 ∧ u 16 p = sI g 5 p 2 ∧ u 17 p = sI g 5 p 3
def aA (t : Nat) (g : CS) (u : MS) : Prop := ∀ p, p < sN g 1 → u 15 p = sI g 5 p 8
def aH (t : Nat) (g : CS) (u : MS) : Prop := ∀ p, p < sN g 1 → (sJ g 5 p 9 = none ∧ u 18 p = -1) ∨ ∃ l, l < sN g 0 ∧ sJ g 5 p 9 = some l ∧ u 18 p = nI l
def aI (t : Nat) (g : CS) (u : MS) : Prop := ∀ p, p < sN g 1 → (sJ g 5 p 10 = none ∧ u 20 p = -1) ∨ ∃ v, v < sN g 2 ∧ sJ g 5 p 10 = some v ∧ u 20 p = nI v
def aS (t : Nat) (g : CS) (u : MS) : Prop := ∀ p, p < 16 → (p < sN g 1 → ∃ b, sI g 5 p 11 = zB b ∧ u 19 p = zB b) ∧ (sN g 1 ≤ p → u 19 p = 0)
def aE (t : Nat) (g : CS) (u : MS) : Prop := ∀ p, p < 16 → (p < sN g 1 → ∃ f, f ≤ t ∧ sI g 5 p 12 = nI f ∧ u 21 p = nI f) ∧ (sN g 1 ≤ p → u 21 p = 0)
def aD (t : Nat) (g : CS) (u : MS) : Prop := ∀ p, p < 16 → ∀ d, d < 3601 → (p < sN g 1 → u 22 (3601 * p + d) = sI g 17 p d ∧ (∃ m, m % 10 ≤ 4 ∧ (m = 0 ∨ m / 10 < sN g 0) ∧ sI g 17 p d = nI m) ∧ (t < d → sI g 17 p d = 0)) ∧ (sN g 1 ≤ p → u 22 (3601 * p + d) = 0)
def aM (t : Nat) (g : CS) (u : MS) : Prop := ∀ p, p < 16 → ∀ l, l < 8 → (p < sN g 1 → u 23 (8 * p + l) = sI g 23 p l ∧ (0 ≤ sI g 23 p l → ∃ s, s ≤ t ∧ sI g 22 p l = nI s ∧ u 24 (8 * p + l) = nI s)) ∧ (sN g 1 ≤ p → u 23 (8 * p + l) = -1)
def aB (t : Nat) (g : CS) (u : MS) : Prop := ∀ p, p < 16 → ∀ l, l < 8 → (p < sN g 1 → u 25 (8 * p + l) = sI g 20 p l ∧ (0 ≤ sI g 20 p l → u 26 (8 * p + l) = sI g 19 p l ∧ u 27 (8 * p + l) = sI g 21 p l)) ∧ (sN g 1 ≤ p → u 25 (8 * p + l) = -1)
def aV (t : Nat) (g : CS) (u : MS) : Prop := ∀ v, v < sN g 2 → sI g 6 v 0 = nI v ∧ u 29 v = sI g 6 v 1 ∧ (∃ l, l < sN g 0 ∧ sI g 6 v 2 = nI l ∧ u 30 v = nI l) ∧ u 31 v = sI g 6 v 3 ∧ u 32 v = sI g 6 v 4
def aX (t : Nat) (g : CS) (u : MS) : Prop := ∀ v, v < sN g 2 → u 33 v = sI g 6 v 5 ∧ u 34 v = sI g 6 v 6 ∧ u 35 v = sI g 6 v 7
def aQ (t : Nat) (g : CS) (u : MS) : Prop := ∀ r, r < sN g 3 → sI g 7 r 0 = nI r ∧ (∃ p, p < sN g 1 ∧ sI g 7 r 1 = nI p ∧ u 37 r = nI p) ∧ (∃ l, l < sN g 0 ∧ sI g 7 r 2 = nI l ∧ u 38 r = nI l) ∧ u 39 r = sI g 7 r 3 ∧ u 40 r = sI g 7 r 4 ∧ ∃ d, d ≤ t ∧ sI g 7 r 4 = nI d
def aO (t : Nat) (g : CS) (u : MS) : Prop := ∀ r q, r < q → q < sN g 3 → sI g 7 r 4 ≤ sI g 7 q 4
def aZ (t : Nat) (g : CS) (u : MS) : Prop := ∀ r, r < 40 → (r < sN g 3 → u 41 r = sI g 7 r 5 ∧ (sI g 7 r 5 = 2 ∨ sI g 7 r 5 = 3 → u 42 r = sI g 7 r 6)) ∧ (sN g 3 ≤ r → u 41 r = 0)
def aF (t : Nat) (g : CS) (u : MS) : Prop := ∀ r, r < 40 → (r < sN g 3 → ∃ m, m ≤ 3 ∧ u 43 r = nI m ∧ sI g 7 r 7 = zF (u 44) (3 * r) m ∧ (∀ k, k < m → ∃ a, a < sN g 1 ∧ u 44 (3 * r + k) = nI a) ∧ ∀ k k2, k < k2 → k2 < m → u 44 (3 * r + k) ≠ u 44 (3 * r + k2)) ∧ (sN g 3 ≤ r → u 43 r = 0)
def R0 (t : Nat) (g : CS) (u : MS) : Prop := aT t g u ∧ aN t g u ∧ aC t g u ∧ aL t g u ∧ aW t g u ∧ aU t g u ∧ aR t g u ∧ aP t g u ∧ aA t g u ∧ aH t g u ∧ aI t g u ∧ aS t g u ∧ aE t g u ∧ aD t g u ∧ aM t g u ∧ aB t g u ∧ aV t g u ∧ aX t g u ∧ aQ t g u ∧ aO t g u ∧ aZ t g u ∧ aF t g u
theorem R0.aT {t : Nat} {g : CS} {u : MS} (h : R0 t g u) : sI g 0 0 6 = nI t ∧ t ≤ 3600 ∧ u 1 0 = nI t := h.1
theorem R0.aN {t : Nat} {g : CS} {u : MS} (h : R0 t g u) : sN g 0 ≤ 8 ∧ u 2 0 = nI (sN g 0) ∧ sN g 1 ≤ 16 ∧ u 13 0 = nI (sN g 1) ∧ sN g 2 ≤ 60 ∧ u 28 0 = nI (sN g 2) ∧ sN g 3 ≤ 40 ∧ u 36 0 = nI (sN g 3) ∧ sN g 4 ≤ 9 ∧ u 9 0 = nI (sN g 4 + 1) := h.2.1
theorem R0.aC {t : Nat} {g : CS} {u : MS} (h : R0 t g u) : ∀ j, j < 5 → sN g j ≤ sC g j ∧ sC g j ≤ 200 := h.2.2.1
theorem R0.aL {t : Nat} {g : CS} {u : MS} (h : R0 t g u) : ∀ l, l < sN g 0 → sI g 4 l 0 = nI l ∧ (∃ b, sI g 4 l 1 = zB b ∧ u 3 l = zB b) ∧ (∃ b, sI g 4 l 2 = zB b ∧ u 4 l = zB b) ∧ (∃ b, sI g 4 l 3 = zB b ∧ u 5 l = zB b) ∧ u 6 l = sI g 4 l 4 := h.2.2.2.1
theorem R0.aW {t : Nat} {g : CS} {u : MS} (h : R0 t g u) : ∀ l, l < 8 → (l < sN g 0 → (∀ n, n < 8 → u 7 (8 * l + n) = zB (hb (sI g 4 l 6) n)) ∧ ∀ n, sN g 0 ≤ n → hb (sI g 4 l 6) n = false) ∧ (sN g 0 ≤ l → ∀ n, n < 8 → u 7 (8 * l + n) = 0) := h.2.2.2.2.1
theorem R0.aU {t : Nat} {g : CS} {u : MS} (h : R0 t g u) : ∀ l, l < 8 → ∀ j, j < 3 → (l < sN g 0 → u 8 (3 * l + j) = sI g 16 l j) ∧ (sN g 0 ≤ l → u 8 (3 * l + j) = 0) := h.2.2.2.2.2.1
theorem R0.aR {t : Nat} {g : CS} {u : MS} (h : R0 t g u) : ∀ i, i ≤ sN g 4 → u 10 i = sI g 3 i 0 ∧ u 11 i = sI g 3 i 1 ∧ ∃ w, 1 ≤ w ∧ w ≤ 360 ∧ sI g 3 i 2 = nI w ∧ u 12 i = nI w := h.2.2.2.2.2.2.1
theorem R0.aP {t : Nat} {g : CS} {u : MS} (h : R0 t g u) : ∀ p, p < sN g 1 → sI g 5 p 0 = nI p ∧ u 14 p = sI g 5 p 1 ∧ u 16 p = sI g 5 p 2 ∧ u 17 p = sI g 5 p 3 := h.2.2.2.2.2.2.2.1
theorem R0.aA {t : Nat} {g : CS} {u : MS} (h : R0 t g u) : ∀ p, p < sN g 1 → u 15 p = sI g 5 p 8 := h.2.2.2.2.2.2.2.2.1
theorem R0.aH {t : Nat} {g : CS} {u : MS} (h : R0 t g u) : ∀ p, p < sN g 1 → (sJ g 5 p 9 = none ∧ u 18 p = -1) ∨ ∃ l, l < sN g 0 ∧ sJ g 5 p 9 = some l ∧ u 18 p = nI l := h.2.2.2.2.2.2.2.2.2.1
theorem R0.aI {t : Nat} {g : CS} {u : MS} (h : R0 t g u) : ∀ p, p < sN g 1 → (sJ g 5 p 10 = none ∧ u 20 p = -1) ∨ ∃ v, v < sN g 2 ∧ sJ g 5 p 10 = some v ∧ u 20 p = nI v := h.2.2.2.2.2.2.2.2.2.2.1
theorem R0.aS {t : Nat} {g : CS} {u : MS} (h : R0 t g u) : ∀ p, p < 16 → (p < sN g 1 → ∃ b, sI g 5 p 11 = zB b ∧ u 19 p = zB b) ∧ (sN g 1 ≤ p → u 19 p = 0) := h.2.2.2.2.2.2.2.2.2.2.2.1
theorem R0.aE {t : Nat} {g : CS} {u : MS} (h : R0 t g u) : ∀ p, p < 16 → (p < sN g 1 → ∃ f, f ≤ t ∧ sI g 5 p 12 = nI f ∧ u 21 p = nI f) ∧ (sN g 1 ≤ p → u 21 p = 0) := h.2.2.2.2.2.2.2.2.2.2.2.2.1
theorem R0.aD {t : Nat} {g : CS} {u : MS} (h : R0 t g u) : ∀ p, p < 16 → ∀ d, d < 3601 → (p < sN g 1 → u 22 (3601 * p + d) = sI g 17 p d ∧ (∃ m, m % 10 ≤ 4 ∧ (m = 0 ∨ m / 10 < sN g 0) ∧ sI g 17 p d = nI m) ∧ (t < d → sI g 17 p d = 0)) ∧ (sN g 1 ≤ p → u 22 (3601 * p + d) = 0) := h.2.2.2.2.2.2.2.2.2.2.2.2.2.1
theorem R0.aM {t : Nat} {g : CS} {u : MS} (h : R0 t g u) : ∀ p, p < 16 → ∀ l, l < 8 → (p < sN g 1 → u 23 (8 * p + l) = sI g 23 p l ∧ (0 ≤ sI g 23 p l → ∃ s, s ≤ t ∧ sI g 22 p l = nI s ∧ u 24 (8 * p + l) = nI s)) ∧ (sN g 1 ≤ p → u 23 (8 * p + l) = -1) := h.2.2.2.2.2.2.2.2.2.2.2.2.2.2.1
theorem R0.aB {t : Nat} {g : CS} {u : MS} (h : R0 t g u) : ∀ p, p < 16 → ∀ l, l < 8 → (p < sN g 1 → u 25 (8 * p + l) = sI g 20 p l ∧ (0 ≤ sI g 20 p l → u 26 (8 * p + l) = sI g 19 p l ∧ u 27 (8 * p + l) = sI g 21 p l)) ∧ (sN g 1 ≤ p → u 25 (8 * p + l) = -1) := h.2.2.2.2.2.2.2.2.2.2.2.2.2.2.2.1
theorem R0.aV {t : Nat} {g : CS} {u : MS} (h : R0 t g u) : ∀ v, v < sN g 2 → sI g 6 v 0 = nI v ∧ u 29 v = sI g 6 v 1 ∧ (∃ l, l < sN g 0 ∧ sI g 6 v 2 = nI l ∧ u 30 v = nI l) ∧ u 31 v = sI g 6 v 3 ∧ u 32 v = sI g 6 v 4 := h.2.2.2.2.2.2.2.2.2.2.2.2.2.2.2.2.1
theorem R0.aX {t : Nat} {g : CS} {u : MS} (h : R0 t g u) : ∀ v, v < sN g 2 → u 33 v = sI g 6 v 5 ∧ u 34 v = sI g 6 v 6 ∧ u 35 v = sI g 6 v 7 := h.2.2.2.2.2.2.2.2.2.2.2.2.2.2.2.2.2.1
theorem R0.aQ {t : Nat} {g : CS} {u : MS} (h : R0 t g u) : ∀ r, r < sN g 3 → sI g 7 r 0 = nI r ∧ (∃ p, p < sN g 1 ∧ sI g 7 r 1 = nI p ∧ u 37 r = nI p) ∧ (∃ l, l < sN g 0 ∧ sI g 7 r 2 = nI l ∧ u 38 r = nI l) ∧ u 39 r = sI g 7 r 3 ∧ u 40 r = sI g 7 r 4 ∧ ∃ d, d ≤ t ∧ sI g 7 r 4 = nI d := h.2.2.2.2.2.2.2.2.2.2.2.2.2.2.2.2.2.2.1
theorem R0.aO {t : Nat} {g : CS} {u : MS} (h : R0 t g u) : ∀ r q, r < q → q < sN g 3 → sI g 7 r 4 ≤ sI g 7 q 4 := h.2.2.2.2.2.2.2.2.2.2.2.2.2.2.2.2.2.2.2.1
theorem R0.aZ {t : Nat} {g : CS} {u : MS} (h : R0 t g u) : ∀ r, r < 40 → (r < sN g 3 → u 41 r = sI g 7 r 5 ∧ (sI g 7 r 5 = 2 ∨ sI g 7 r 5 = 3 → u 42 r = sI g 7 r 6)) ∧ (sN g 3 ≤ r → u 41 r = 0) := h.2.2.2.2.2.2.2.2.2.2.2.2.2.2.2.2.2.2.2.2.1
theorem R0.aF {t : Nat} {g : CS} {u : MS} (h : R0 t g u) : ∀ r, r < 40 → (r < sN g 3 → ∃ m, m ≤ 3 ∧ u 43 r = nI m ∧ sI g 7 r 7 = zF (u 44) (3 * r) m ∧ (∀ k, k < m → ∃ a, a < sN g 1 ∧ u 44 (3 * r + k) = nI a) ∧ ∀ k k2, k < k2 → k2 < m → u 44 (3 * r + k) ≠ u 44 (3 * r + k2)) ∧ (sN g 3 ≤ r → u 43 r = 0) := h.2.2.2.2.2.2.2.2.2.2.2.2.2.2.2.2.2.2.2.2.2
theorem aT_c {t : Nat} {g g2 : CS} {u u2 : MS} (h : aT t g u) (h0 : sI g2 0 0 6 = sI g 0 0 6) (h1 : u2 1 = u 1) : aT t g2 u2 := by
  unfold aT at h ⊢
  simp only [h0, h1]
  exact h
theorem aN_c {t t2 : Nat} {g g2 : CS} {u u2 : MS} (h : aN t g u) (h0 : sN g2 0 = sN g 0) (h1 : sN g2 1 = sN g 1) (h2 : sN g2 2 = sN g 2) (h3 : sN g2 3 = sN g 3) (h4 : sN g2 4 = sN g 4) (h5 : u2 2 = u 2) (h6 : u2 13 = u 13) (h7 : u2 28 = u 28) (h8 : u2 36 = u 36) (h9 : u2 9 = u 9) : aN t2 g2 u2 := by
  unfold aN at h ⊢
  simp only [h0, h1, h2, h3, h4, h5, h6, h7, h8, h9]
  exact h
theorem aC_c {t t2 : Nat} {g g2 : CS} {u u2 : MS} (h : aC t g u) (h0 : ∀ j, sN g2 j = sN g j) (h1 : ∀ j, sC g2 j = sC g j) : aC t2 g2 u2 := by
  unfold aC at h ⊢
  simp only [h0, h1]
  exact h
theorem aL_c {t t2 : Nat} {g g2 : CS} {u u2 : MS} (h : aL t g u) (h0 : sN g2 0 = sN g 0) (h1 : ∀ i, sI g2 4 i 0 = sI g 4 i 0) (h2 : ∀ i, sI g2 4 i 1 = sI g 4 i 1) (h3 : ∀ i, sI g2 4 i 2 = sI g 4 i 2) (h4 : ∀ i, sI g2 4 i 3 = sI g 4 i 3) (h5 : ∀ i, sI g2 4 i 4 = sI g 4 i 4) (h6 : u2 3 = u 3) (h7 : u2 4 = u 4) (h8 : u2 5 = u 5) (h9 : u2 6 = u 6) : aL t2 g2 u2 := by
  unfold aL at h ⊢
  simp only [h0, h1, h2, h3, h4, h5, h6, h7, h8, h9]
  exact h
theorem aW_c {t t2 : Nat} {g g2 : CS} {u u2 : MS} (h : aW t g u) (h0 : sN g2 0 = sN g 0) (h1 : ∀ i, sI g2 4 i 6 = sI g 4 i 6) (h2 : u2 7 = u 7) : aW t2 g2 u2 := by
  unfold aW at h ⊢
  simp only [h0, h1, h2]
  exact h
theorem aU_c {t t2 : Nat} {g g2 : CS} {u u2 : MS} (h : aU t g u) (h0 : sN g2 0 = sN g 0) (h1 : ∀ i f, sI g2 16 i f = sI g 16 i f) (h2 : u2 8 = u 8) : aU t2 g2 u2 := by
  unfold aU at h ⊢
  simp only [h0, h1, h2]
  exact h
theorem aR_c {t t2 : Nat} {g g2 : CS} {u u2 : MS} (h : aR t g u) (h0 : sN g2 4 = sN g 4) (h1 : ∀ i, sI g2 3 i 0 = sI g 3 i 0) (h2 : ∀ i, sI g2 3 i 1 = sI g 3 i 1) (h3 : ∀ i, sI g2 3 i 2 = sI g 3 i 2) (h4 : u2 10 = u 10) (h5 : u2 11 = u 11) (h6 : u2 12 = u 12) : aR t2 g2 u2 := by
  unfold aR at h ⊢
  simp only [h0, h1, h2, h3, h4, h5, h6]
  exact h
theorem aP_c {t t2 : Nat} {g g2 : CS} {u u2 : MS} (h : aP t g u) (h0 : sN g2 1 = sN g 1) (h1 : ∀ i, sI g2 5 i 0 = sI g 5 i 0) (h2 : ∀ i, sI g2 5 i 1 = sI g 5 i 1) (h3 : ∀ i, sI g2 5 i 2 = sI g 5 i 2) (h4 : ∀ i, sI g2 5 i 3 = sI g 5 i 3) (h5 : u2 14 = u 14) (h6 : u2 16 = u 16) (h7 : u2 17 = u 17) : aP t2 g2 u2 := by
  unfold aP at h ⊢
  simp only [h0, h1, h2, h3, h4, h5, h6, h7]
  exact h
theorem aA_c {t t2 : Nat} {g g2 : CS} {u u2 : MS} (h : aA t g u) (h0 : sN g2 1 = sN g 1) (h1 : ∀ i, sI g2 5 i 8 = sI g 5 i 8) (h2 : u2 15 = u 15) : aA t2 g2 u2 := by
  unfold aA at h ⊢
  simp only [h0, h1, h2]
  exact h
theorem aH_c {t t2 : Nat} {g g2 : CS} {u u2 : MS} (h : aH t g u) (h0 : sN g2 1 = sN g 1) (h1 : sN g2 0 = sN g 0) (h2 : ∀ i, sJ g2 5 i 9 = sJ g 5 i 9) (h3 : u2 18 = u 18) : aH t2 g2 u2 := by
  unfold aH at h ⊢
  simp only [h0, h1, h2, h3]
  exact h
theorem aI_c {t t2 : Nat} {g g2 : CS} {u u2 : MS} (h : aI t g u) (h0 : sN g2 1 = sN g 1) (h1 : sN g2 2 = sN g 2) (h2 : ∀ i, sJ g2 5 i 10 = sJ g 5 i 10) (h3 : u2 20 = u 20) : aI t2 g2 u2 := by
  unfold aI at h ⊢
  simp only [h0, h1, h2, h3]
  exact h
theorem aS_c {t t2 : Nat} {g g2 : CS} {u u2 : MS} (h : aS t g u) (h0 : sN g2 1 = sN g 1) (h1 : ∀ i, sI g2 5 i 11 = sI g 5 i 11) (h2 : u2 19 = u 19) : aS t2 g2 u2 := by
  unfold aS at h ⊢
  simp only [h0, h1, h2]
  exact h
theorem aE_c {t : Nat} {g g2 : CS} {u u2 : MS} (h : aE t g u) (h0 : sN g2 1 = sN g 1) (h1 : ∀ i, sI g2 5 i 12 = sI g 5 i 12) (h2 : u2 21 = u 21) : aE t g2 u2 := by
  unfold aE at h ⊢
  simp only [h0, h1, h2]
  exact h
theorem aD_c {t : Nat} {g g2 : CS} {u u2 : MS} (h : aD t g u) (h0 : sN g2 1 = sN g 1) (h1 : sN g2 0 = sN g 0) (h2 : ∀ i f, sI g2 17 i f = sI g 17 i f) (h3 : u2 22 = u 22) : aD t g2 u2 := by
  unfold aD at h ⊢
  simp only [h0, h1, h2, h3]
  exact h
theorem aM_c {t : Nat} {g g2 : CS} {u u2 : MS} (h : aM t g u) (h0 : sN g2 1 = sN g 1) (h1 : ∀ i f, sI g2 23 i f = sI g 23 i f) (h2 : ∀ i f, sI g2 22 i f = sI g 22 i f) (h3 : u2 23 = u 23) (h4 : u2 24 = u 24) : aM t g2 u2 := by
  unfold aM at h ⊢
  simp only [h0, h1, h2, h3, h4]
  exact h
theorem aB_c {t t2 : Nat} {g g2 : CS} {u u2 : MS} (h : aB t g u) (h0 : sN g2 1 = sN g 1) (h1 : ∀ i f, sI g2 20 i f = sI g 20 i f) (h2 : ∀ i f, sI g2 19 i f = sI g 19 i f) (h3 : ∀ i f, sI g2 21 i f = sI g 21 i f) (h4 : u2 25 = u 25) (h5 : u2 26 = u 26) (h6 : u2 27 = u 27) : aB t2 g2 u2 := by
  unfold aB at h ⊢
  simp only [h0, h1, h2, h3, h4, h5, h6]
  exact h
theorem aV_c {t t2 : Nat} {g g2 : CS} {u u2 : MS} (h : aV t g u) (h0 : sN g2 2 = sN g 2) (h1 : sN g2 0 = sN g 0) (h2 : ∀ i, sI g2 6 i 0 = sI g 6 i 0) (h3 : ∀ i, sI g2 6 i 1 = sI g 6 i 1) (h4 : ∀ i, sI g2 6 i 2 = sI g 6 i 2) (h5 : ∀ i, sI g2 6 i 3 = sI g 6 i 3) (h6 : ∀ i, sI g2 6 i 4 = sI g 6 i 4) (h7 : u2 29 = u 29) (h8 : u2 30 = u 30) (h9 : u2 31 = u 31) (h10 : u2 32 = u 32) : aV t2 g2 u2 := by
  unfold aV at h ⊢
  simp only [h0, h1, h2, h3, h4, h5, h6, h7, h8, h9, h10]
  exact h
theorem aX_c {t t2 : Nat} {g g2 : CS} {u u2 : MS} (h : aX t g u) (h0 : sN g2 2 = sN g 2) (h1 : ∀ i, sI g2 6 i 5 = sI g 6 i 5) (h2 : ∀ i, sI g2 6 i 6 = sI g 6 i 6) (h3 : ∀ i, sI g2 6 i 7 = sI g 6 i 7) (h4 : u2 33 = u 33) (h5 : u2 34 = u 34) (h6 : u2 35 = u 35) : aX t2 g2 u2 := by
  unfold aX at h ⊢
  simp only [h0, h1, h2, h3, h4, h5, h6]
  exact h
theorem aQ_c {t : Nat} {g g2 : CS} {u u2 : MS} (h : aQ t g u) (h0 : sN g2 3 = sN g 3) (h1 : sN g2 1 = sN g 1) (h2 : sN g2 0 = sN g 0) (h3 : ∀ i, sI g2 7 i 0 = sI g 7 i 0) (h4 : ∀ i, sI g2 7 i 1 = sI g 7 i 1) (h5 : ∀ i, sI g2 7 i 2 = sI g 7 i 2) (h6 : ∀ i, sI g2 7 i 3 = sI g 7 i 3) (h7 : ∀ i, sI g2 7 i 4 = sI g 7 i 4) (h8 : u2 37 = u 37) (h9 : u2 38 = u 38) (h10 : u2 39 = u 39) (h11 : u2 40 = u 40) : aQ t g2 u2 := by
  unfold aQ at h ⊢
  simp only [h0, h1, h2, h3, h4, h5, h6, h7, h8, h9, h10, h11]
  exact h
theorem aO_c {t t2 : Nat} {g g2 : CS} {u u2 : MS} (h : aO t g u) (h0 : sN g2 3 = sN g 3) (h1 : ∀ i, sI g2 7 i 4 = sI g 7 i 4) : aO t2 g2 u2 := by
  unfold aO at h ⊢
  simp only [h0, h1]
  exact h
theorem aZ_c {t t2 : Nat} {g g2 : CS} {u u2 : MS} (h : aZ t g u) (h0 : sN g2 3 = sN g 3) (h1 : ∀ i, sI g2 7 i 5 = sI g 7 i 5) (h2 : ∀ i, sI g2 7 i 6 = sI g 7 i 6) (h3 : u2 41 = u 41) (h4 : u2 42 = u 42) : aZ t2 g2 u2 := by
  unfold aZ at h ⊢
  simp only [h0, h1, h2, h3, h4]
  exact h
theorem aF_c {t t2 : Nat} {g g2 : CS} {u u2 : MS} (h : aF t g u) (h0 : sN g2 3 = sN g 3) (h1 : sN g2 1 = sN g 1) (h2 : ∀ i, sI g2 7 i 7 = sI g 7 i 7) (h3 : u2 43 = u 43) (h4 : u2 44 = u 44) : aF t2 g2 u2 := by
  unfold aF at h ⊢
  simp only [h0, h1, h2, h3, h4]
  exact h
/-- does a record count? -/
def vC (g : CS) (x : Int32) : Bool := decide (3 ≤ x.toNatClampNeg % 10) && decide (x.toNatClampNeg / 10 < sN g 0) && !decide (sI g 4 (x.toNatClampNeg / 10) 1 = 0)
def zc (g : CS) (p : Nat) : Nat → Int32 := fun d => zB (vC g (sI g 17 p d))
def Cn (g : CS) (p D : Nat) : Prop := ∀ d, d < D → sI g 18 p d = zS (zc g p) 0 (d + 1)
theorem vC_c {g g2 : CS} (hN : sN g2 0 = sN g 0) (h4 : ∀ l, sI g2 4 l 1 = sI g 4 l 1) (x : Int32) : vC g2 x = vC g x := by
  unfold vC
  rw [hN, h4]
theorem Cn_c {g g2 : CS} {p D : Nat} (h : Cn g p D) (hN : sN g2 0 = sN g 0) (h4 : ∀ l, sI g2 4 l 1 = sI g 4 l 1) (h17 : ∀ d, sI g2 17 p d = sI g 17 p d) (h18 : ∀ d, sI g2 18 p d = sI g 18 p d) : Cn g2 p D := by
  intro d hd
  rw [h18, h d hd]
  refine zS_congr _ _ fun j _ _ => ?_
  show zB (vC g (sI g 17 p j)) = zB (vC g2 (sI g2 17 p j))
  rw [h17, vC_c hN h4]
theorem Cn_uI {g : CS} {k i f : Nat} {x : Int32} {p D : Nat} (h : Cn g p D) (hk : k ≠ 17 ∧ k ≠ 18 ∧ ¬ (k = 4 ∧ f = 1)) : Cn (uI g k i f x) p D := Cn_c h rfl (fun l => sI_n _ _ _ _ _ (fun z => hk.2.2 ⟨z.1.symm, z.2.2.symm⟩)) (fun d => sI_n _ _ _ _ _ (fun z => hk.1 z.1.symm)) (fun d => sI_n _ _ _ _ _ (fun z => hk.2.1 z.1.symm))
theorem Cn_uJ {g : CS} {k i f : Nat} {x : Option Nat} {p D : Nat} (h : Cn g p D) : Cn (uJ g k i f x) p D := Cn_c h rfl (fun _ => rfl) (fun _ => rfl) (fun _ => rfl)
theorem Cn_o {g : CS} {f : Nat} {x : Int32} {k p q D : Nat} (h : Cn g p D) (hk : k = 17 ∨ k = 18) (hq : p ≠ q) : Cn (uI g k q f x) p D := Cn_c h rfl (fun l => sI_n _ _ _ _ _ (fun z => by omega)) (fun d => sI_n _ _ _ _ _ (fun z => hq z.2.1)) (fun d => sI_n _ _ _ _ _ (fun z => hq z.2.1))
theorem Cn_le {g : CS} {p D E : Nat} (h : Cn g p D) (hE : E ≤ D) : Cn g p E := fun d hd => h d (by omega)
def RR (g : CS) (u : MS) : Prop := ∃ t, R0 t g u ∧ ∀ p, p < sN g 1 → Cn g p (t + 1)
