/-! ===== days that count; visas; looking at a person ===== -/
theorem sub_p1 (a b : Int32) : a - b + 1 = a + 1 - b := by
  rw [Int32.sub_eq_add_neg, Int32.sub_eq_add_neg, Int32.add_assoc, Int32.add_comm (-b) 1, ← Int32.add_assoc]
theorem zfrom0 {t w : Nat} (ht : t ≤ 3600) (hw : 1 ≤ w ∧ w ≤ 360) : (if 0 ≤ nI t - nI w + 1 then nI t - nI w + 1 else 0) = nI (t + 1 - w) := by
  rw [sub_p1, zp1]
  by_cases h : w ≤ t + 1
  · rw [pk_sub h, if_pos (nI_pos' (by omega))]
  · rw [if_neg (fun z => ?_), show t + 1 - w = 0 from by omega]
    · rfl
    · have := pk_sneg (a := t + 1) (b := w) (by omega) (by omega)
      rw [Int32.lt_iff_toInt_lt] at this
      rw [Int32.le_iff_toInt_le] at z
      omega
theorem zfrom1 {t w : Nat} (ht : t ≤ 3600) (hw : 1 ≤ w ∧ w ≤ 360) : (if 0 < nI t - nI w + 1 then nI t - nI w + 1 else 0) = nI (t + 1 - w) := by
  rw [sub_p1, zp1]
  by_cases h : w ≤ t
  · rw [pk_sub (by omega), if_pos (show 0 < nI (t + 1 - w) from nI_lt (a := 0) (by omega) (by omega))]
  · by_cases h2 : w = t + 1
    · subst h2
      rw [pk_sub (Nat.le_refl _), Nat.sub_self]
      exact if_neg (by decide +kernel)
    · rw [if_neg (fun z => ?_), show t + 1 - w = 0 from by omega]
      · rfl
      · have := pk_sneg (a := t + 1) (b := w) (by omega) (by omega)
        rw [Int32.lt_iff_toInt_lt] at this z
        omega
section PH
variable {t : Nat} {g : CS} {u : MS}
theorem R0.rec (h : R0 t g u) {p d : Nat} (hp : p < sN g 1) (hd : d < 3601) : ∃ m, m < 80 ∧ m % 10 ≤ 4 ∧ (m = 0 ∨ m / 10 < sN g 0) ∧ sI g 17 p d = nI m ∧ u 22 (3601 * p + d) = nI m := by
  have hN := h.aN.1
  obtain ⟨h1, ⟨m, h2, h3, h4⟩, -⟩ := (h.aD p (h.p16 hp) d hd).1 hp
  exact ⟨m, by omega, h2, h3, h4, by rw [h1, h4]⟩
theorem m22 {p d : Nat} (hp : p < 16) (hd : d < 3601) : mld u 22 ((3601 * nI p) + nI d) = some (u 22 (3601 * p + d)) := by
  rw [zd, md22 (by omega)]
theorem vC_nI (h : R0 t g u) {m : Nat} (hm : m < 80) : vC g (nI m) = (decide (3 ≤ m % 10) && decide (m / 10 < sN g 0) && zR g (m / 10)) := by
  unfold vC zR
  rw [nI_clamp (by omega)]
theorem c_counting (h : R0 t g u) {m : Nat} (hm : m < 80) : fC_Court_isCounting g (nI m) = some (zB (vC g (nI m))) := by
  have hN := h.aN.1
  have hC := h.aC 0 (by decide)
  rw [vC_nI h hm]
  unfold fC_Court_isCounting fC_Court_isCounting_49 fC_Court_isCounting_50
  rw [zr10 (by omega), zq10 (by omega)]
  by_cases h1 : 3 ≤ m % 10
  · rw [if_neg (show ¬ nI (m % 10) < 3 from nI_nlt (b := 3) h1 (by omega)), if_neg (nI_pos (by omega))]
    by_cases h2 : m / 10 < sN g 0
    · rw [if_neg (nI_ge h2 (by omega)), cget_ok h2 hC.1 (by omega)]
      simp only [Option.bind_some]
      rw [show lix 0 (m / 10) = m / 10 from rfl, ck4 h2, (h.reg h2).1]
      simp only [Option.bind_some, zB_0]
      cases zR g (m / 10) <;> simp [h1, h2, zB, mbo]
    · rw [if_pos (nI_le (by omega) (by omega))]
      simp [h2, zB, mbo]
  · rw [if_pos (show nI (m % 10) < 3 from nI_lt (b := 3) (by omega) (by omega))]
    simp [h1, zB, mbo]
theorem m_counts (h : R0 t g u) {p d : Nat} (hp : p < sN g 1) (hd : d < 3601) : fM_counts u (nI p) (nI d) = some (zc g p d, u) := by
  have hN := h.aN.1
  obtain ⟨m, h1, h2, h3, h4, h5⟩ := h.rec hp hd
  unfold zc
  rw [h4, vC_nI h h1]
  unfold fM_counts fM_counts_35 fM_counts_51 fM_counts_52
  rw [m22 (h.p16 hp) hd, h5]
  simp only [Option.bind_some]
  rw [zr10 (by omega), zq10 (by omega)]
  by_cases h0 : m = 0
  · subst h0
    rw [if_pos (by decide +kernel)]
    rfl
  · rw [if_neg (nI_nle (by omega) (by omega))]
    have h6 : m / 10 < sN g 0 := by omega
    rw [md3 (by omega), (h.reg h6).2]
    simp only [Option.bind_some]
    rw [show (3 : Int32) = nI 3 from rfl, show (4 : Int32) = nI 4 from rfl]
    simp only [zT1 (show m % 10 < 2147483648 by omega) (show 3 < 2147483648 by decide), zT1 (show m % 10 < 2147483648 by omega) (show 4 < 2147483648 by decide), zB_0]
    by_cases h7 : m % 10 = 3
    · cases zR g (m / 10) <;> simp [h7, h6, zB, mbo]
    · by_cases h8 : m % 10 = 4
      · cases zR g (m / 10) <;> simp [h8, h6, zB, mbo]
      · have : ¬ 3 ≤ m % 10 := by omega
        simp [h7, h8, this, zB, mbo]
theorem m_count_loop (h : R0 t g u) {p : Nat} (hp : p < sN g 1) {xl : Int32} {E : Nat} (hE : E ≤ 3601) (hx : ∀ d, d < 4000 → (xl < nI d ↔ E ≤ d)) (k : Nat) : ∀ (i n : Nat) (a : Int32), i + k = E → k < n → fM_countTo_37 n u (nI p) xl a (nI i) = some (a + zS (zc g p) i k, u) := by
  induction k with
  | zero =>
    intro i n a hi hn
    obtain ⟨n, rfl⟩ : ∃ m, n = m + 1 := ⟨n - 1, by omega⟩
    rw [fM_countTo_37, if_pos ((hx i (by omega)).mpr (by omega))]
    simp [zS]
  | succ k ih =>
    intro i n a hi hn
    obtain ⟨n, rfl⟩ : ∃ m, n = m + 1 := ⟨n - 1, by omega⟩
    rw [fM_countTo_37, if_neg (fun z => absurd ((hx i (by omega)).mp z) (by omega)), m_counts h hp (by omega)]
    simp only [mb2_s]
    unfold fM_countTo_59
    rw [zp1, ih (i + 1) n _ (by omega) (by omega), ih (i + 1) n _ (by omega) (by omega)]
    simp only [zS, zc, zB_0]
    rcases Bool.eq_false_or_eq_true (vC g (sI g 17 p i)) with e | e
    · rw [if_neg (by rw [e]; decide), e, Int32.add_assoc]
      rfl
    · rw [if_pos e, e]
      simp [zB]
/-- the reference's count, up to a day -/
theorem m_countTo (h : R0 t g u) {p : Nat} (hp : p < sN g 1) {xl : Int32} {E : Nat} (hE : E ≤ 3601) (hE2 : t ≤ E) (hx : ∀ d, d < 4000 → (xl < nI d ↔ E ≤ d)) {b w : Nat} (hb : b ≤ sN g 4) (hr : fM_ruleOf u (nI t) = some (nI b, u)) (hw : 1 ≤ w ∧ w ≤ 360) (h2 : u 12 b = nI w) : fM_countTo u (nI p) xl = some (zS (zc g p) (t + 1 - w) (E - (t + 1 - w)), u) := by
  have hN := h.aN.2.2.2.2.2.2.2.2.1
  have hT := h.aT
  unfold fM_countTo fM_countTo_35
  rw [hT.2.2, hr]
  simp only [mb2_s]
  rw [md12 (by omega), h2]
  simp only [Option.bind_some]
  have e := zfrom0 hT.2.1 hw
  have e2 := m_count_loop h hp hE hx (E - (t + 1 - w)) (t + 1 - w) 4096 0 (by omega) (by omega)
  rw [← e] at e2
  rw [Int32.zero_add] at e2
  by_cases h0 : 0 ≤ nI t - nI w + 1
  · rw [if_pos h0] at e2 ⊢
    exact e2
  · rw [if_neg h0] at e2 ⊢
    exact e2
theorem zlast (ht : t ≤ 3600) : ∀ d, d < 4000 → (nI t < nI d ↔ t + 1 ≤ d) := fun d hd => by rw [zltI (by omega) (by omega)]; exact Iff.rfl
theorem zlast1 (ht : t ≤ 3600) : ∀ d, d < 4000 → (nI t - 1 < nI d ↔ t ≤ d) := fun d hd => zpred (by omega) (by omega)
/-- the sums of the class's rows -/
theorem c_sum (h : R0 t g u) {p D : Nat} (hp : p < sN g 1) (hC : Cn g p D) (hD : D ≤ 3601) {n : Nat} (hn : n ≤ D) : fC_Row_at 10 p g (nI n - 1) = some (zS (zc g p) 0 n) := by
  cases n with
  | zero =>
    rw [show nI 0 - 1 = (-1 : Int32) from by decide +kernel, at10n hp (by decide)]
    rfl
  | succ n => rw [zm1, at10 hp (by omega), hC n (by omega)]
theorem c_sumw (h : R0 t g u) {p D : Nat} (hp : p < sN g 1) (hC : Cn g p D) (hD : t ≤ D) (hD2 : D ≤ 3601) {w : Nat} (hw : 1 ≤ w ∧ w ≤ 360) : fC_Row_at 10 p g (nI t - nI w) = some (zS (zc g p) 0 (t + 1 - w)) := by
  have hT := h.aT
  by_cases h1 : w ≤ t
  · rw [pk_sub h1, at10 hp (by omega), hC (t - w) (by omega), show t - w + 1 = t + 1 - w from by omega]
  · rw [at10n hp (pk_sneg (by omega) (by omega)), show t + 1 - w = 0 from by omega]
    rfl
theorem zS_diff (f : Nat → Int32) {a b : Nat} (h : a ≤ b) : zS f 0 b - zS f 0 a = zS f a (b - a) := by
  have := zS_split f a (b - a) 0
  rw [show a + (b - a) = b from by omega, Nat.zero_add] at this
  rw [this, Int32.add_comm, Int32.add_sub_cancel]
theorem R0.rule (h : R0 t g u) {b : Nat} (hb : b ≤ sN g 4) : ∃ w, 1 ≤ w ∧ w ≤ 360 ∧ sI g 3 b 2 = nI w ∧ u 12 b = nI w := (h.aR b hb).2.2
theorem s_days (h : R0 t g u) {p l : Nat} (hp : p < sN g 1) (hl : l < sN g 0) (hC : Cn g p t) (x3 : Int32) : ∃ b, fC_Court_hasDaysLeft g p l x3 = some (zB b) ∧ fM_hasDays u (nI p) (nI l) x3 = some (zB b, u) := by
  have hN := h.aN.2.2.2.2.2.2.2.2.1
  have hT := h.aT
  obtain ⟨b, hb, c1, m1⟩ := s_rule h
  obtain ⟨w, w1, w2, w3, w4⟩ := h.rule hb
  have r1 := (h.aR b hb).2.1
  unfold fC_Court_hasDaysLeft fC_Court_hasDaysLeft_23 fC_Court_hasDaysLeft_76 fM_hasDays fM_hasDays_62
  rw [ck4 hl, md3 (h.l8 hl), (h.reg hl).1, (h.reg hl).2, hT.1, hT.2.2, c1, m_countTo h hp (E := t) (by omega) (Nat.le_refl _) (zlast1 hT.2.1) hb m1 ⟨w1, w2⟩ w4]
  simp only [Option.bind_some, mb2_s, zB_0]
  rw [hT.2.2, m1]
  simp only [mb2_s]
  rw [ck3 hb, ck5 hp, md11 (by omega), r1, w3, c_sum h hp hC (by omega) (Nat.le_refl _), c_sumw h hp hC (Nat.le_refl _) (by omega) ⟨w1, w2⟩]
  simp only [Option.bind_some]
  rw [zS_diff _ (by omega)]
  cases zR g l
  · by_cases h1 : 60 ≤ nI t - x3
    · exact ⟨false, by simp [h1, zB, mbo], by simp [h1, zB, mbo]⟩
    · exact ⟨true, by simp [h1, zB, mbo], by simp [h1, zB, mbo]⟩
  · by_cases h1 : sI g 3 b 1 < zS (zc g p) (t + 1 - w) (t - (t + 1 - w)) + 1
    · exact ⟨false, by simp [h1, zB, mbo], by simp [h1, zB, mbo]⟩
    · exact ⟨true, by simp [h1, zB, mbo], by simp [h1, zB, mbo]⟩
/-! a visa -/
theorem s_good (h : R0 t g u) {v l : Nat} (hv : v < sN g 2) (hl : l < sN g 0) : ∃ b, fC_Visa_doesFor v g l (nI t) = some (zB b) ∧ fM_isGood u (nI v) (nI l) = some (zB b, u) := by
  have hT := h.aT
  have hN := h.aN.1
  have h60 := h.v60 hv
  have h8 := h.l8 hl
  obtain ⟨-, -, ⟨k, k1, k2, k3⟩, a31, a32⟩ := h.aV v hv
  obtain ⟨-, a34, a35⟩ := h.aX v hv
  have hf : fC_Visa_isFor v g l = some (zB (decide (l = k) || (zR g l && zR g k))) := by
    unfold fC_Visa_isFor fC_Visa_isFor_25 fC_Visa_isFor_29 fC_Visa_isFor_30
    rw [k2, nI_clamp (by omega), ck6 hv, ck4 hl, ck4 k1, (h.reg hl).1, (h.reg k1).1]
    simp only [Option.bind_some, zB_0]
    by_cases e : l = k
    · simp [e, zB, mbo]
    · cases zR g l <;> cases zR g k <;> simp [e, zB, mbo]
  have hm : fM_isGood u (nI v) (nI l) = fM_isGood_38 u (nI v) (zB (decide (l = k) || (zR g l && zR g k))) := by
    unfold fM_isGood fM_isGood_33 fM_isGood_37
    rw [md30 (by omega), k3]
    simp only [Option.bind_some]
    rw [md3 (j := k) (by omega), md3 (j := l) (by omega), (h.reg hl).2, (h.reg k1).2]
    simp only [Option.bind_some, zB_0, zT1 (show k < 2147483648 by omega) (show l < 2147483648 by omega)]
    by_cases e : k = l
    · subst e; simp [zB]
    · have e2 : ¬ l = k := fun z => e z.symm
      cases zR g l <;> cases zR g k <;> simp [e, e2, zB]
  unfold fC_Visa_doesFor fC_Visa_doesFor_39 fC_Visa_doesFor_43 fC_Visa_doesFor_44
  rw [ck6 hv, hf, hm]
  unfold fM_isGood_38 fM_isGood_87 fM_isGood_91 fM_isGood_92
  rw [md31 (by omega), md32 (by omega), a31, a32, hT.2.2]
  simp only [Option.bind_some]
  rw [s_in]
  simp only [mb2_s, zB_0]
  rw [md34 (by omega), md35 (by omega), a34, a35, hT.2.2]
  simp only [Option.bind_some]
  cases (decide (l = k) || (zR g l && zR g k))
  · exact ⟨false, by simp [zB, mbo], by simp [zB, mbo]⟩
  · by_cases h1 : nI t < sI g 6 v 3
    · exact ⟨false, by simp [h1, zB, mbo], by simp [h1, zB, mbo]⟩
    · by_cases h2 : sI g 6 v 4 < nI t
      · exact ⟨false, by simp [h1, h2, zB, mbo], by simp [h1, h2, zB, mbo]⟩
      · by_cases h3 : 0 < sI g 6 v 6
        · exact ⟨true, by simp [h1, h2, h3, zB, mbo], by simp [h1, h2, h3, zB, mbo]⟩
        · by_cases h4 : sI g 6 v 7 = nI t
          · exact ⟨true, by simp [h1, h2, h3, h4, zB, mbo], by simp [h1, h2, h3, h4, zB, mbo]⟩
          · exact ⟨false, by simp [h1, h2, h3, h4, zB, mbo], by simp [h1, h2, h3, h4, zB, mbo]⟩
end PH
