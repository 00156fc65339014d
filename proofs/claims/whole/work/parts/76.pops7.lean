/-! ===== grants, quotas, days ===== -/
section PH
variable {t : Nat} {g : CS} {u : MS}
theorem m_grant_loop (hT : u 1 0 = nI t) (ht : t ≤ 3600) {r l m : Nat} (hr : r < 40) (hl : l < 8) (h38 : u 38 r = nI l) (hm : m ≤ 3) (h43 : u 43 r = nI m) (hF : ∀ k, k < m → ∃ a, a < 16 ∧ u 44 (3 * r + k) = nI a) (d : Nat) : ∀ (i n : Nat) (S : Nat → Bool), i + d = m → d < n → fM_grant_25 n (uS u l t S) (nI r) (nI i) = some (uS u l t (fun q => S q || (decide (q < 16) && zAny (zFo u r q) i d))) := by
  induction d with
  | zero =>
    intro i n S hi hn
    obtain ⟨n, rfl⟩ : ∃ m, n = m + 1 := ⟨n - 1, by omega⟩
    rw [fM_grant_25, md43 hr, uS_n S (by decide) (by decide), h43]
    simp only [Option.bind_some]
    rw [if_pos (nI_le (by omega) (by omega))]
    simp [zAny]
  | succ d ih =>
    intro i n S hi hn
    obtain ⟨n, rfl⟩ : ∃ m, n = m + 1 := ⟨n - 1, by omega⟩
    obtain ⟨a, a1, a2⟩ := hF i (by omega)
    have gr := m_grant1 (u := uS u l t S) (t := t) (by rw [uS_n S (by decide) (by decide)]; exact hT) ht a1 hl
    rw [uS_2 ht] at gr
    rw [fM_grant_25, md43 hr, uS_n (a := 43) S (by decide) (by decide), h43]
    simp only [Option.bind_some]
    rw [if_neg (nI_ge (by omega) (by omega)), z3, md44 (by omega), uS_n (a := 44) S (by decide) (by decide), a2]
    simp only [Option.bind_some]
    rw [md38 hr, uS_n (a := 38) S (by decide) (by decide), h38]
    simp only [Option.bind_some]
    rw [gr]
    simp only [Option.bind_some]
    rw [zp1, ih (i + 1) n _ (by omega) (by omega)]
    refine congrArg (fun z => some (uS u l t z)) (funext fun q => ?_)
    simp only [zAny]
    by_cases e : q < 16
    · have e2 : zFo u r q i = decide (q = a) := by
        unfold zFo
        rw [a2]
        simp only [zT1 (show a < 2147483648 by omega) (show q < 2147483648 by omega), eq_comm]
      rw [e2]
      simp [e, Bool.or_assoc]
    · simp [e, show ¬ q = a by omega]
def zKp (g : CS) (u : MS) (g2 : CS) (u2 : MS) : Prop := (∀ q D, Cn g q D → Cn g2 q D) ∧ sN g2 = sN g ∧ sC g2 = sC g ∧ u2 0 = u 0
theorem zKp.rf : zKp g u g u := ⟨fun _ _ q => q, rfl, rfl, rfl⟩
theorem zKp.tr {g2 g3 : CS} {u2 u3 : MS} (h : zKp g u g2 u2) (k : zKp g2 u2 g3 u3) : zKp g u g3 u3 := ⟨fun q D z => k.1 q D (h.1 q D z), k.2.1.trans h.2.1, k.2.2.1.trans h.2.2.1, k.2.2.2.trans h.2.2.2⟩
theorem s_grant (h : R0 t g u) {r : Nat} (hr : r < sN g 3) : ∃ g2 u2, fC_Court_grant g r = some g2 ∧ fM_grant u (nI r) = some u2 ∧ R0 t g2 u2 ∧ zKp g u g2 u2 ∧ ∀ k c, sI g2 7 k c = if k = r ∧ c = 5 then 1 else sI g 7 k c := by
  have h40 := h.r40 hr
  have hN := h.aN
  have hR := up_rq3 h hr 1 (by decide)
  have hT := hR.aT
  have hr1 : r < sN (uI g 7 r 5 1) 3 := hr
  obtain ⟨-, ⟨pa, p1, p2, p3⟩, ⟨l, l1, l2, l3⟩, -⟩ := hR.aQ r hr1
  have h8 : l < 8 := by have := h.aN.1; exact Nat.lt_of_lt_of_le l1 this
  have hp16 : pa < 16 := Nat.lt_of_lt_of_le p1 hN.2.2.1
  obtain ⟨m, m1, m2, -, m4, -, m6⟩ := s_cnt hR hr1
  have hF : ∀ k, k < m → ∃ a, a < 16 ∧ mup u 41 r 1 44 (3 * r + k) = nI a := fun k hk => by
    obtain ⟨a, a1, a2⟩ := m4 k hk
    exact ⟨a, Nat.lt_of_lt_of_le a1 hN.2.2.1, a2⟩
  have cl := c_grant_loop (g := uI g 7 r 5 1) (t := t) (G := fun q => zAny (zFo (mup u 41 r 1) r q) 0 m) hT.2.1 hr1 hN.2.2.1 (hR.aC 1 (by decide)).1 h8 l2 hT.1 m6 (sN g 1) 0 4096 (fun _ => false) (Nat.zero_add _) (by have := hN.2.2.1; omega)
  rw [gS_0] at cl
  have g1 := m_grant1 (u := mup u 41 r 1) (t := t) hT.2.2 hT.2.1 hp16 h8
  have ml := m_grant_loop (u := mup u 41 r 1) hT.2.2 hT.2.1 h40 h8 l3 m1 m2 hF m 0 4096 (fun q => decide (q = pa)) (Nat.zero_add _) (by omega)
  have eS : (fun q => decide (q = pa) || (decide (q < 16) && zAny (zFo (mup u 41 r 1) r q) 0 m)) = (fun q => false || (decide (0 ≤ q) && decide (q < sN (uI g 7 r 5 1) 1) && (decide (sI (uI g 7 r 5 1) 7 r 1 = nI q) || zAny (zFo (mup u 41 r 1) r q) 0 m))) := by
    funext q
    by_cases e : q < sN g 1
    · have e16 : q < 16 := Nat.lt_of_lt_of_le e hN.2.2.1
      have e' : q < sN (uI g 7 r 5 1) 1 := e
      have e2 : decide (sI (uI g 7 r 5 1) 7 r 1 = nI q) = decide (q = pa) := by
        rw [p2]
        simp only [zT1 (show pa < 2147483648 by omega) (show q < 2147483648 by omega), eq_comm]
      rw [e2]
      simp [e', e16]
    · have e' : ¬ q < sN (uI g 7 r 5 1) 1 := e
      have e2 : ¬ q = pa := fun z => e (z ▸ p1)
      have e3 : q < 16 → zAny (zFo (mup u 41 r 1) r q) 0 m = false := fun z16 => Bool.eq_false_iff.mpr fun z => by
        obtain ⟨k, _, k2, k3⟩ := (zAny_iff _ _ _).mp z
        obtain ⟨a, a1, a2⟩ := m4 k (by omega)
        have k4 : mup u 41 r 1 44 (3 * r + k) = nI q := by unfold zFo at k3; exact of_decide_eq_true k3
        rw [a2] at k4
        have a16 : a < 16 := Nat.lt_of_lt_of_le a1 hN.2.2.1
        have := (zT1 (by omega) (by omega)).mp k4
        exact e (this ▸ a1)
      by_cases e16 : q < 16
      · simp [e', e2, e3 e16]
      · simp [e', e2, e16]
  have hS : ∀ q, (fun q => decide (q = pa) || (decide (q < 16) && zAny (zFo (mup u 41 r 1) r q) 0 m)) q = true → q < sN (uI g 7 r 5 1) 1 := fun q z => by
    rw [eS] at z
    simp only [Bool.false_or, Bool.and_eq_true, decide_eq_true_eq] at z
    exact z.1.2
  refine ⟨_, _, ?_, ?_, up_gS hR h8 hS, ⟨fun q D hq => Cn_gS (Cn_uI hq (by omega)), rfl, rfl, ?_⟩, fun k c => ?_⟩
  · unfold fC_Court_grant
    rw [ck7 hr]
    simp only [Option.bind_some]
    have cl0 : fC_Court_grant_7 4096 (uI g 7 r 5 1) r 0 = _ := cl
    rw [cl0, eS]
  · unfold fM_grant
    rw [mt41 h40]
    simp only [Option.bind_some]
    rw [md37 h40, p3]
    simp only [Option.bind_some]
    rw [md38 h40, l3]
    simp only [Option.bind_some]
    rw [g1]
    simp only [Option.bind_some]
    have ml0 : fM_grant_25 4096 (uS (mup u 41 r 1) l t (fun q => decide (q = pa))) (nI r) 0 = _ := ml
    rw [ml0]
  · rw [uS_n _ (by decide) (by decide), kn (by decide)]
  · rw [gS_I _ (by decide) (by decide)]
    by_cases e : k = r ∧ c = 5
    · obtain ⟨rfl, rfl⟩ := e
      rw [sI_at, if_pos ⟨rfl, rfl⟩]
    · rw [if_neg e, sI_n _ _ _ _ _ (by omega)]
theorem m_first_loop (h : R0 t g u) {l : Nat} (hl : l < 8) (ty : Int32) (k : Nat) : ∀ (i n : Nat), i + k = sN g 3 → k < n → (∀ j, j < i → zW g l ty j = false) → (fM_firstOf_2 n u (nI l) ty (nI i) = some (-1, u) ∧ ∀ j, j < sN g 3 → zW g l ty j = false) ∨ ∃ r, r < sN g 3 ∧ zW g l ty r = true ∧ (∀ j, j < r → zW g l ty j = false) ∧ fM_firstOf_2 n u (nI l) ty (nI i) = some (nI r, u) := by
  have hN := h.aN.2.2.2.2.2.2
  induction k with
  | zero =>
    intro i n hi hn hlow
    obtain ⟨n, rfl⟩ : ∃ m, n = m + 1 := ⟨n - 1, by omega⟩
    rw [fM_firstOf_2, hN.2.1, if_pos (nI_le (by omega) (by omega))]
    exact Or.inl ⟨rfl, fun j hj => hlow j (by omega)⟩
  | succ k ih =>
    intro i n hi hn hlow
    obtain ⟨n, rfl⟩ : ∃ m, n = m + 1 := ⟨n - 1, by omega⟩
    have hi0 : i < sN g 3 := by omega
    have hi4 := h.r40 hi0
    obtain ⟨-, -, ⟨l3, d1, d2, d3⟩, i39, -⟩ := h.aQ i hi0
    have i41 := ((h.aZ i hi4).1 hi0).1
    have nx : zW g l ty i = false → _ := fun z => ih (i + 1) n (by omega) (by omega) (fun j hj => by
      by_cases e : j = i
      · subst e; exact z
      · exact hlow j (by omega))
    rw [fM_firstOf_2]
    unfold fM_firstOf_49
    rw [hN.2.1, if_neg (nI_ge (by omega) (by omega)), md41 hi4, i41, md38 hi4, d3, md39 hi4, i39, zp1]
    simp only [Option.bind_some]
    by_cases c2 : sI g 7 i 5 = 0
    · by_cases c3 : nI l3 = nI l
      · by_cases c4 : sI g 7 i 3 = ty
        · have hw : zW g l ty i = true := by simp [zW, c2, d2, c3, c4]
          have pl := m_place h hi0 (d2.trans c3)
          have z0 : zA g l (sI g 7 i 3) i = 0 := by
            unfold zA
            refine zS_zero _ _ fun j _ hj => ?_
            rw [c4, hlow j (by omega)]
            rfl
          rw [z0] at pl
          rw [if_pos c2, if_pos c3, if_pos c4, pl]
          exact Or.inr ⟨i, hi0, hw, hlow, rfl⟩
        · rw [if_pos c2, if_pos c3, if_neg c4]
          exact nx (by simp [zW, c4])
      · rw [if_pos c2, if_neg c3]
        exact nx (by simp [zW, d2, c3])
    · rw [if_neg c2]
      exact nx (by simp [zW, c2])
theorem m_first (h : R0 t g u) {l : Nat} (hl : l < 8) (ty : Int32) : (fM_firstOf u (nI l) ty = some (-1, u) ∧ ∀ j, j < sN g 3 → zW g l ty j = false) ∨ ∃ r, r < sN g 3 ∧ zW g l ty r = true ∧ (∀ j, j < r → zW g l ty j = false) ∧ fM_firstOf u (nI l) ty = some (nI r, u) := by
  have hN := h.aN.2.2.2.2.2.2.1
  exact m_first_loop h hl ty (sN g 3) 0 4096 (by omega) (by omega) (fun j hj => absurd hj (Nat.not_lt_zero j))
theorem s_q23 {l : Nat} (ty : Int32) (rec4 : CS → Nat → Int32 → Int32 → Option CS) (rec2 : MS → Int32 → Option MS) (rec14 : MS → Int32 → Int32 → Int32 → Option MS) (k : Nat) : ∀ (i n n2 : Nat) (g : CS) (u : MS) (x2 x4 : Int32), i + k = sN g 3 → k < n → k < n2 → R0 t g u → l < sN g 0 → (∀ j, j < i → zW g l ty j = false) → fM_firstOf u (nI l) ty = some (x4, u) → ∃ g2 u2 y, fC_Court_grantByQuotas_23 rec4 n g l x2 ty (nI i) = rec4 g2 l y (ty + 1) ∧ fM_grantAll_40 rec2 rec14 n2 u (nI l) x2 ty x4 = rec14 u2 (nI l) y (ty + 1) ∧ R0 t g2 u2 ∧ zKp g u g2 u2 := by
  induction k with
  | zero =>
    intro i n n2 g u x2 x4 hi hn hn2 h hl hlow hf
    obtain ⟨n, rfl⟩ : ∃ m, n = m + 1 := ⟨n - 1, by omega⟩
    obtain ⟨n2, rfl⟩ : ∃ m, n2 = m + 1 := ⟨n2 - 1, by omega⟩
    have hN := h.aN.2.2.2.2.2.2.1
    have hx4 : x4 = -1 := by
      rcases m_first h (h.l8 hl) ty with ⟨a, -⟩ | ⟨r, r1, r2, r3, r4⟩
      · rw [hf] at a; cases a; rfl
      · rw [hlow r (by omega)] at r2; cases r2
    rw [fC_Court_grantByQuotas_23, fM_grantAll_40]
    unfold fC_Court_grantByQuotas_81 fM_grantAll_70
    rw [if_pos (nI_le (by omega) (by omega)), hx4, if_pos rfl, ite_self]
    exact ⟨g, u, x2, rfl, rfl, h, zKp.rf⟩
  | succ k ih =>
    intro i n n2 g u x2 x4 hi hn hn2 h hl hlow hf
    obtain ⟨n, rfl⟩ : ∃ m, n = m + 1 := ⟨n - 1, by omega⟩
    obtain ⟨n2, rfl⟩ : ∃ m, n2 = m + 1 := ⟨n2 - 1, by omega⟩
    have hN := h.aN.2.2.2.2.2.2.1
    have hC := h.aC 3 (by decide)
    have hi0 : i < sN g 3 := by omega
    rw [fC_Court_grantByQuotas_23]
    unfold fC_Court_grantByQuotas_81 fC_Court_grantByQuotas_75
    rw [if_neg (nI_ge (by omega) (by omega))]
    by_cases e : x2 ≤ 0
    · rw [if_pos e, fM_grantAll_40, if_pos e]
      unfold fM_grantAll_70
      exact ⟨g, u, x2, rfl, rfl, h, zKp.rf⟩
    · rw [if_neg e]
      simp only [cget_ok hi0 hC.1 (show sN g 3 < 2147483648 by omega), show lix 3 i = i from rfl, ck7 hi0, ck4 hl, (h.aL l hl).1, c_waits h hi0, zp1, Option.bind_some, zB_0]
      cases hw : zW g l ty i
      · rw [if_pos rfl]
        exact ih (i + 1) n (n2 + 1) g u x2 x4 (by omega) (by omega) (by omega) h hl (fun j hj => by
          by_cases e9 : j = i
          · subst e9; exact hw
          · exact hlow j (by omega)) hf
      · rw [if_neg (show ¬ true = false by decide)]
        have hx4 : x4 = nI i := by
          rcases m_first h (h.l8 hl) ty with ⟨-, a⟩ | ⟨r, r1, r2, r3, r4⟩
          · rw [a i hi0] at hw; cases hw
          · have : r = i := by
              rcases Nat.lt_trichotomy r i with z | z | z
              · rw [hlow r z] at r2; cases r2
              · exact z
              · rw [r3 i z] at hw; cases hw
            subst this
            rw [hf] at r4
            cases r4
            rfl
        subst hx4
        obtain ⟨g2, u2, gc, gm, hR, hK, h7⟩ := s_grant h hi0
        have hl2 : l < sN g2 0 := by rw [hK.2.1]; exact hl
        have hlow2 : ∀ j, j < i + 1 → zW g2 l ty j = false := fun j hj => by
          unfold zW
          rw [h7, h7, h7]
          by_cases e9 : j = i
          · subst e9
            rw [if_pos ⟨rfl, rfl⟩]
            simp
          · rw [if_neg (fun z => e9 z.1), if_neg (fun z => e9 z.1), if_neg (fun z => e9 z.1)]
            exact hlow j (by omega)
        obtain ⟨y4, hf2⟩ : ∃ y4, fM_firstOf u2 (nI l) ty = some (y4, u2) := by
          rcases m_first hR (hR.l8 hl2) ty with ⟨a, -⟩ | ⟨r, -, -, -, a⟩
          · exact ⟨_, a⟩
          · exact ⟨_, a⟩
        obtain ⟨g3, u3, y, q1, q2, q3, q4⟩ := ih (i + 1) n n2 g2 u2 (x2 + (-1)) y4 (by rw [hK.2.1]; omega) (by omega) (by omega) hR hl2 hlow2 hf2
        refine ⟨g3, u3, y, ?_, ?_, q3, hK.tr q4⟩
        · rw [gc]
          simp only [Option.bind_some]
          exact q1
        · rw [fM_grantAll_40, if_neg e, if_neg (zne1 (by omega)), gm]
          simp only [Option.bind_some]
          rw [hf2]
          exact q2
theorem s_q4 {l : Nat} (rec2 : MS → Int32 → Option MS) (d : Nat) : ∀ (ty n n2 : Nat) (g : CS) (u : MS) (x2 : Int32), ty + d = 3 → d < n → d < n2 → R0 t g u → l < sN g 0 → ∃ g2 u2, fC_Court_grantByQuotas_4 n g l x2 (nI ty) = some g2 ∧ fM_grantAll_14 rec2 n2 u (nI l) x2 (nI ty) = rec2 u2 (nI l + 1) ∧ R0 t g2 u2 ∧ zKp g u g2 u2 := by
  induction d with
  | zero =>
    intro ty n n2 g u x2 hi hn hn2 h hl
    obtain ⟨n, rfl⟩ : ∃ m, n = m + 1 := ⟨n - 1, by omega⟩
    obtain ⟨n2, rfl⟩ : ∃ m, n2 = m + 1 := ⟨n2 - 1, by omega⟩
    have e : 3 ≤ nI ty := nI_le (a := 3) (by omega) (by omega)
    rw [fC_Court_grantByQuotas_4, fM_grantAll_14, if_pos e, if_pos e]
    exact ⟨g, u, rfl, rfl, h, zKp.rf⟩
  | succ d ih =>
    intro ty n n2 g u x2 hi hn hn2 h hl
    obtain ⟨n, rfl⟩ : ∃ m, n = m + 1 := ⟨n - 1, by omega⟩
    obtain ⟨n2, rfl⟩ : ∃ m, n2 = m + 1 := ⟨n2 - 1, by omega⟩
    have hN := h.aN.2.2.2.2.2.2.1
    have h8 := h.l8 hl
    have hty : ty < 3 := by omega
    have e : ¬ 3 ≤ nI ty := nI_ge (b := 3) hty (by decide)
    obtain ⟨y4, hf⟩ : ∃ y4, fM_firstOf u (nI l) (nI ty) = some (y4, u) := by
      rcases m_first h h8 (nI ty) with ⟨a, -⟩ | ⟨r, -, -, -, a⟩
      · exact ⟨_, a⟩
      · exact ⟨_, a⟩
    obtain ⟨g2, u2, y, q1, q2, q3, q4⟩ := s_q23 (t := t) (nI ty) (fC_Court_grantByQuotas_4 n) rec2 (fM_grantAll_14 rec2 n2) (sN g 3) 0 4096 4096 g u (x2 + sI g 16 l ty) y4 (by omega) (by omega) (by omega) h hl (fun j hj => absurd hj (Nat.not_lt_zero j)) hf
    rw [zp1] at q1 q2
    obtain ⟨g3, u3, r1, r2, r3, r4⟩ := ih (ty + 1) n n2 g2 u2 y (by omega) (by omega) (by omega) q3 (by rw [q4.2.1]; exact hl)
    refine ⟨g3, u3, ?_, ?_, r3, q4.tr r4⟩
    · rw [fC_Court_grantByQuotas_4, if_neg e, ck4 hl, at8 hl hty]
      simp only [Option.bind_some]
      exact q1.trans r1
    · rw [fM_grantAll_14, if_neg e, z3, md8 (by omega), ((h.aU l h8 ty hty).1 hl)]
      simp only [Option.bind_some]
      rw [hf]
      simp only [mb2_s]
      exact q2.trans r2
theorem s_q94 (k : Nat) : ∀ (i n n2 : Nat) (g : CS) (u : MS), i + k = sN g 0 → k < n → k < n2 → R0 t g u → ∃ g2 u2, fC_Court_beginDay_94 n g (nI i) = some g2 ∧ fM_grantAll_2 n2 u (nI i) = some u2 ∧ R0 t g2 u2 ∧ zKp g u g2 u2 := by
  induction k with
  | zero =>
    intro i n n2 g u hi hn hn2 h
    obtain ⟨n, rfl⟩ : ∃ m, n = m + 1 := ⟨n - 1, by omega⟩
    obtain ⟨n2, rfl⟩ : ∃ m, n2 = m + 1 := ⟨n2 - 1, by omega⟩
    have hN := h.aN
    rw [fC_Court_beginDay_94, fM_grantAll_2, hN.2.1, if_pos (nI_le (by omega) (by omega)), if_pos (nI_le (by omega) (by omega))]
    exact ⟨g, u, rfl, rfl, h, zKp.rf⟩
  | succ k ih =>
    intro i n n2 g u hi hn hn2 h
    obtain ⟨n, rfl⟩ : ∃ m, n = m + 1 := ⟨n - 1, by omega⟩
    obtain ⟨n2, rfl⟩ : ∃ m, n2 = m + 1 := ⟨n2 - 1, by omega⟩
    have hN := h.aN
    have hC := h.aC 0 (by decide)
    have hi0 : i < sN g 0 := by omega
    obtain ⟨g2, u2, q1, q2, q3, q4⟩ := s_q4 (t := t) (l := i) (fM_grantAll_2 n2) 3 0 4096 4096 g u 0 (by omega) (by omega) (by omega) h hi0
    obtain ⟨g3, u3, r1, r2, r3, r4⟩ := ih (i + 1) n n2 g2 u2 (by rw [q4.2.1]; omega) (by omega) (by omega) q3
    refine ⟨g3, u3, ?_, ?_, r3, q4.tr r4⟩
    · rw [fC_Court_beginDay_94, if_neg (nI_ge (by omega) (by omega)), cget_ok hi0 hC.1 (by omega)]
      simp only [Option.bind_some]
      rw [show lix 0 i = i from rfl, ck4 hi0]
      simp only [Option.bind_some]
      unfold fC_Court_grantByQuotas
      rw [show fC_Court_grantByQuotas_4 4096 g i 0 0 = some g2 from q1]
      simp only [Option.bind_some]
      rw [zp1]
      exact r1
    · rw [fM_grantAll_2, hN.2.1, if_neg (nI_ge (by omega) (by omega))]
      refine (show fM_grantAll_14 (fM_grantAll_2 n2) 4096 u (nI i) 0 0 = _ from q2).trans ?_
      rw [zp1]
      exact r2
/-- the end of a day's beginning -/
def zTc (g : CS) : Option CS := if ((sI g 0 0 6) - (sI g 0 0 6) / 360 * 360) = 0 then fC_Court_beginDay_94 4096 g 0 else fC_Court_beginDay_126 g
def zTm (u : MS) : Option MS := if ((u 1 0) - (u 1 0) / 360 * 360) = 0 then (fM_grantAll u).bind fun u3 => fM_goOn_122 u3 else fM_goOn_122 u
theorem s_tail (h : R0 t g u) : ∃ g2 u2, zTc g = some g2 ∧ zTm u = some u2 ∧ R0 t g2 u2 ∧ zKp g u g2 u2 := by
  have hT := h.aT
  have hN := h.aN
  unfold zTc zTm
  rw [hT.1, hT.2.2]
  by_cases e : nI t - nI t / 360 * 360 = 0
  · obtain ⟨g2, u2, q1, q2, q3, q4⟩ := s_q94 (t := t) (sN g 0) 0 4096 4096 g u (by omega) (by omega) (by omega) h
    refine ⟨g2, u2, by rw [if_pos e]; exact q1, ?_, q3, q4⟩
    rw [if_pos e]
    unfold fM_grantAll
    rw [show fM_grantAll_2 4096 u 0 = some u2 from q2]
    rfl
  · exact ⟨g, u, by rw [if_neg e]; rfl, by rw [if_neg e]; rfl, h, zKp.rf⟩
theorem s_day49 (k : Nat) : ∀ (i n n2 : Nat) (g : CS) (u : MS), i + k = sN g 1 → k < n → k < n2 → R0 t g u → (∀ q, q < i → Cn g q (t + 1)) → (∀ q, i ≤ q → q < sN g 1 → Cn g q t) → ∃ g2 u2, fC_Court_beginDay_49 n g (nI i) = zTc g2 ∧ fM_goOn_77 n2 u (nI i) = zTm u2 ∧ RC t g2 u2 ∧ sN g2 = sN g ∧ u2 0 = u 0 := by
  induction k with
  | zero =>
    intro i n n2 g u hi hn hn2 h hlo hhi
    obtain ⟨n, rfl⟩ : ∃ m, n = m + 1 := ⟨n - 1, by omega⟩
    obtain ⟨n2, rfl⟩ : ∃ m, n2 = m + 1 := ⟨n2 - 1, by omega⟩
    have hN := h.aN.2.2
    rw [fC_Court_beginDay_49, fM_goOn_77, hN.2.1, if_pos (nI_le (by omega) (by omega)), if_pos (nI_le (by omega) (by omega))]
    exact ⟨g, u, rfl, rfl, ⟨h, fun q hq => hlo q (by omega)⟩, rfl, rfl⟩
  | succ k ih =>
    intro i n n2 g u hi hn hn2 h hlo hhi
    obtain ⟨n, rfl⟩ : ∃ m, n = m + 1 := ⟨n - 1, by omega⟩
    obtain ⟨n2, rfl⟩ : ∃ m, n2 = m + 1 := ⟨n2 - 1, by omega⟩
    have hN := h.aN.2.2
    have hC := h.aC 1 (by decide)
    have hi0 : i < sN g 1 := by omega
    have ci := hhi i (Nat.le_refl i) hi0
    rw [fC_Court_beginDay_49, fM_goOn_77, hN.2.1, if_neg (nI_ge (by omega) (by omega)), if_neg (nI_ge (by omega) (by omega)), cget_ok hi0 hC.1 (by omega)]
    unfold fM_goOn_101
    simp only [Option.bind_some]
    rw [show lix 1 i = i from rfl, ck5 hi0]
    simp only [Option.bind_some]
    rcases h.here hi0 with ⟨j, w⟩ | ⟨l, hl, j, w⟩
    · obtain ⟨g2, q1, q2, q3, f1, f2, f3, f4, f5⟩ := s_look0 h hi0 ci j
      obtain ⟨g3, u3, r1, r2, r3, r4, r5⟩ := ih (i + 1) n n2 g2 u (by rw [f2]; omega) (by omega) (by omega) q2 (fun q hq => by
        by_cases e : q = i
        · subst e; exact q3
        · exact f1 q _ e (hlo q (by omega))) (fun q hq hq2 => f1 q _ (by omega) (hhi q (by omega) (by rw [f2] at hq2; exact hq2)))
      refine ⟨g3, u3, ?_, ?_, r3, r4.trans f2, r5⟩
      · rw [q1]
        simp only [Option.bind_some]
        rw [zp1]
        exact r1
      · rw [w]
        simp only [Option.bind_some, if_true]
        rw [zp1]
        exact r2
    · obtain ⟨s, g2, u2, s1, s2, cl, ml, q2, q3, ⟨f1, f2, f3, f4, f5⟩, -, e0⟩ := s_look h hi0 hl ci j
      obtain ⟨g3, u3, r1, r2, r3, r4, r5⟩ := ih (i + 1) n n2 g2 u2 (by rw [f2]; omega) (by omega) (by omega) q2 (fun q hq => by
        by_cases e : q = i
        · subst e; exact q3
        · exact f1 q _ e (hlo q (by omega))) (fun q hq hq2 => f1 q _ (by omega) (hhi q (by omega) (by rw [f2] at hq2; exact hq2)))
      refine ⟨g3, u3, ?_, ?_, r3, r4.trans f2, r5.trans e0⟩
      · rw [cl]
        simp only [Option.bind_some]
        rw [zp1]
        exact r1
      · rw [w]
        simp only [Option.bind_some]
        rw [if_neg (zne1 (by have := h.l8 hl; omega)), ml]
        simp only [mb2_s]
        rw [zp1]
        exact r2
theorem mup_id (u : MS) (k j : Nat) : mup u k j (u k j) = u := by
  funext a b
  unfold mup
  by_cases e : a = k ∧ b = j
  · obtain ⟨rfl, rfl⟩ := e; simp
  · rw [if_neg e]
theorem s_day12 (k : Nat) : ∀ (i n n2 : Nat) (g : CS) (u : MS), i + k = sN g 3 → k < n → k < n2 → R0 t g u → ∃ g2 u2, fC_Court_beginDay_12 n g (nI i) = fC_Court_beginDay_49 4096 g2 0 ∧ fM_goOn_12 n2 u (nI i) = fM_goOn_77 4096 u2 0 ∧ R0 t g2 u2 ∧ zKp g u g2 u2 := by
  induction k with
  | zero =>
    intro i n n2 g u hi hn hn2 h
    obtain ⟨n, rfl⟩ : ∃ m, n = m + 1 := ⟨n - 1, by omega⟩
    obtain ⟨n2, rfl⟩ : ∃ m, n2 = m + 1 := ⟨n2 - 1, by omega⟩
    have hN := h.aN.2.2.2.2.2.2
    rw [fC_Court_beginDay_12, fM_goOn_12, hN.2.1, if_pos (nI_le (by omega) (by omega)), if_pos (nI_le (by omega) (by omega))]
    exact ⟨g, u, rfl, rfl, h, zKp.rf⟩
  | succ k ih =>
    intro i n n2 g u hi hn hn2 h
    obtain ⟨n, rfl⟩ : ∃ m, n = m + 1 := ⟨n - 1, by omega⟩
    obtain ⟨n2, rfl⟩ : ∃ m, n2 = m + 1 := ⟨n2 - 1, by omega⟩
    have hN := h.aN.2.2.2.2.2.2
    have hC := h.aC 3 (by decide)
    have hT := h.aT
    have hi0 : i < sN g 3 := by omega
    have hi4 := h.r40 hi0
    obtain ⟨i41, i42⟩ := (h.aZ i hi4).1 hi0
    rw [fC_Court_beginDay_12, fM_goOn_12, hN.2.1, if_neg (nI_ge (by omega) (by omega)), if_neg (nI_ge (by omega) (by omega)), cget_ok hi0 hC.1 (by omega)]
    unfold fM_goOn_45 fM_goOn_62 fM_goOn_68 fC_Request_endIfLate fC_Request_endIfLate_16 fC_Request_endIfLate_29
    simp only [show lix 3 i = i from rfl, ck7 hi0, md41 hi4, md42 hi4, mt41 hi4, hT.1, hT.2.2, zp1, Option.bind_some]
    have same : ∃ g2 u2, fC_Court_beginDay_12 n g (nI (i + 1)) = fC_Court_beginDay_49 4096 g2 0 ∧ fM_goOn_12 n2 (mup u 41 i (u 41 i)) (nI (i + 1)) = fM_goOn_77 4096 u2 0 ∧ R0 t g2 u2 ∧ zKp g u g2 u2 := by
      rw [mup_id]
      exact ih (i + 1) n n2 g u (by omega) (by omega) (by omega) h
    have over : ∃ g2 u2, fC_Court_beginDay_12 n (uI g 7 i 5 4) (nI (i + 1)) = fC_Court_beginDay_49 4096 g2 0 ∧ fM_goOn_12 n2 (mup u 41 i 4) (nI (i + 1)) = fM_goOn_77 4096 u2 0 ∧ R0 t g2 u2 ∧ zKp g u g2 u2 := by
      obtain ⟨g2, u2, q1, q2, q3, q4⟩ := ih (i + 1) n n2 (uI g 7 i 5 4) (mup u 41 i 4) (by show i + 1 + k = sN g 3; omega) (by omega) (by omega) (up_rq3 h hi0 4 (by decide))
      exact ⟨g2, u2, q1, q2, q3, zKp.tr ⟨fun q D hq => Cn_uI hq (by omega), rfl, rfl, kn (by decide) _ _ _⟩ q4⟩
    rw [i41] at same ⊢
    by_cases e1 : sI g 7 i 5 = 2
    · rw [i42 (Or.inl e1)]
      by_cases e2 : nI t ≤ sI g 7 i 6
      · rw [if_pos e1, if_pos e1, if_pos e2, if_pos e2]
        exact same
      · rw [if_pos e1, if_pos e1, if_neg e2, if_neg e2]
        exact over
    · by_cases e3 : sI g 7 i 5 = 3
      · rw [i42 (Or.inr e3)]
        by_cases e2 : nI t ≤ sI g 7 i 6
        · rw [if_neg e1, if_neg e1, if_pos e3, if_pos e3, if_pos e2, if_pos e2]
          exact same
        · rw [if_neg e1, if_neg e1, if_pos e3, if_pos e3, if_neg e2, if_neg e2]
          exact over
      · rw [if_neg e1, if_neg e1, if_neg e3, if_neg e3]
        exact same
theorem s_day (h : RC t g u) (ht : t < 3600) : ∃ g2 u2, fC_Court_beginDay g = some g2 ∧ fM_goOn u = some u2 ∧ RC (t + 1) g2 u2 ∧ u2 0 = u 0 := by
  have h0 := up_today h.1 ht
  have hT := h.1.aT
  have hN3 := h.1.aN.2.2.2.2.2.2.1
  have hN1 := h.1.aN.2.2.1
  obtain ⟨g2, u2, q1, q2, q3, q4⟩ := s_day12 (t := t + 1) (sN g 3) 0 4096 4096 (uI g 0 0 6 (nI (t + 1))) (mup u 1 0 (nI (t + 1))) (by show 0 + sN g 3 = sN g 3; omega) (by omega) (by omega) h0
  have hc : ∀ q, q < sN g 1 → Cn g2 q (t + 1) := fun q hq => q4.1 q _ (Cn_uI (h.2 q hq) (by decide))
  have eN : sN g2 = sN g := q4.2.1
  obtain ⟨g3, u3, r1, r2, r3, r4, r5⟩ := s_day49 (t := t + 1) (sN g 1) 0 4096 4096 g2 u2 (by rw [eN]; omega) (by omega) (by omega) q3 (fun q hq => absurd hq (Nat.not_lt_zero q)) (fun q _ hq => hc q (by rw [eN] at hq; exact hq))
  obtain ⟨g4, u4, w1, w2, w3, w4⟩ := s_tail r3.1
  refine ⟨g4, u4, ?_, ?_, ⟨w3, fun q hq => w4.1 q _ (r3.2 q (by rw [w4.2.1] at hq; exact hq))⟩, ?_⟩
  · unfold fC_Court_beginDay
    simp only [Option.bind_some]
    rw [hT.1, zp1]
    exact q1.trans (r1.trans w1)
  · unfold fM_goOn
    simp only [Option.bind_some]
    rw [hT.2.2, zp1]
    exact q2.trans (r2.trans w2)
  · rw [w4.2.2.2, r5, q4.2.2.2, kn (by decide)]
theorem s_pass_loop (d : Nat) : ∀ (k i n n2 t : Nat) (g : CS) (u : MS), i + k = d → d < 1000 → k < n → k < n2 → t + k ≤ 3600 → RC t g u → ∃ g2 u2, fC_Court_pass_46 n g (nI d) (nI i) = some (.inr (nI (t + k), g2)) ∧ fM_pass_44 n2 u (nI d) (nI i) = some (nI (t + k), u2) ∧ RC (t + k) g2 u2 ∧ u2 0 = u 0 := by
  intro k
  induction k with
  | zero =>
    intro i n n2 t g u hi hd hn hn2 ht h
    obtain ⟨n, rfl⟩ : ∃ m, n = m + 1 := ⟨n - 1, by omega⟩
    obtain ⟨n2, rfl⟩ : ∃ m, n2 = m + 1 := ⟨n2 - 1, by omega⟩
    have hT := h.1.aT
    rw [fC_Court_pass_46, fM_pass_44, if_pos (nI_le (by omega) (by omega)), if_pos (nI_le (by omega) (by omega)), hT.1, hT.2.2]
    exact ⟨g, u, rfl, rfl, h, rfl⟩
  | succ k ih =>
    intro i n n2 t g u hi hd hn hn2 ht h
    obtain ⟨n, rfl⟩ : ∃ m, n = m + 1 := ⟨n - 1, by omega⟩
    obtain ⟨n2, rfl⟩ : ∃ m, n2 = m + 1 := ⟨n2 - 1, by omega⟩
    obtain ⟨g2, u2, q1, q2, q3, q4⟩ := s_day h (by omega)
    obtain ⟨g3, u3, r1, r2, r3, r4⟩ := ih (i + 1) n n2 (t + 1) g2 u2 (by omega) hd (by omega) (by omega) (by omega) q3
    rw [show t + 1 + k = t + (k + 1) from by omega] at r1 r2 r3
    refine ⟨g3, u3, ?_, ?_, r3, r4.trans q4⟩
    · rw [fC_Court_pass_46, if_neg (nI_ge (by omega) (by omega)), q1]
      simp only [Option.bind_some]
      rw [zp1]
      exact r1
    · rw [fM_pass_44, if_neg (nI_ge (by omega) (by omega)), q2]
      simp only [Option.bind_some]
      rw [zp1]
      exact r2
theorem sim_pass (h : RC t g u) (x1 : Int32) : SimW [1, 2] (fC_Court_pass g x1) (fM_pass u x1) g := by
  have h0 := h.1
  have hz := h.thr 0
  have hT := h0.aT
  unfold fC_Court_pass fC_Court_pass_11 fM_pass fM_pass_34
  by_cases e1 : x1 < 1
  · exact simW_x h 0 rfl (by simp only [e1, mb2_s, Option.bind_some, xb_l, xb_r, goes_0, goes_1, goes_2, goes_3, ne10, if_false, if_true, om_0, om_1]) (by simp only [in_lo e1, mb2_s, Option.bind_some, xb_l, xb_r, goes_0, goes_1, goes_2, goes_3, ne10, if_false, if_true, om_0, om_1])
  by_cases e2 : x1 ≤ 100
  · have e3 : ¬ 100 < x1 := Int32.not_lt.mpr e2
    obtain ⟨d, d1, d2, rfl⟩ := z1to (M := 100) (by decide) e1 e2
    have ea : nI t + nI d = nI (t + d) := nI_add t d
    have el : nI (t + d) ≤ 3600 ↔ t + d ≤ 3600 := zleI (b := 3600) (by omega) (by decide)
    by_cases e4 : t + d ≤ 3600
    · obtain ⟨g2, u2, q1, q2, q3, q4⟩ := s_pass_loop d d 0 4096 4096 t g (mup u 0 0 0) (by omega) (by omega) (by omega) (by omega) e4 hz
      have q1' : fC_Court_pass_46 4096 g (nI d) 0 = some (.inr (nI (t + d), g2)) := q1
      have q2' : fM_pass_44 4096 (mup u 0 0 0) (nI d) 0 = some (nI (t + d), u2) := q2
      exact simW_r (r := nI (t + d)) (by simp only [e1, e2, hT.1, ea, el.mpr e4, q1', mb2_s, Option.bind_some, xb_l, xb_r, goes_0, goes_1, goes_2, goes_3, ne10, if_false, if_true, om_0, om_1]) (by simp only [in_ok e1 e3, hT.2.2, ea, el.mpr e4, q2', mb2_s, Option.bind_some, xb_l, xb_r, goes_0, goes_1, goes_2, goes_3, ne10, if_false, if_true, om_0, om_1]) (by rw [q4]; exact mup_at _ _ _ _) q3
    · have e5 : ¬ nI (t + d) ≤ 3600 := fun z => e4 (el.mp z)
      exact simW_x h 1 rfl (by simp only [e1, e2, hT.1, ea, e5, mb2_s, Option.bind_some, xb_l, xb_r, goes_0, goes_1, goes_2, goes_3, ne10, if_false, if_true, om_0, om_1]) (by simp only [in_ok e1 e3, hT.2.2, ea, e5, mb2_s, Option.bind_some, xb_l, xb_r, goes_0, goes_1, goes_2, goes_3, ne10, if_false, if_true, om_0, om_1])
  · have e3 : 100 < x1 := Int32.not_le.mp e2
    exact simW_x h 0 rfl (by simp only [e1, e2, mb2_s, Option.bind_some, xb_l, xb_r, goes_0, goes_1, goes_2, goes_3, ne10, if_false, if_true, om_0, om_1]) (by simp only [in_hi e3, mb2_s, Option.bind_some, xb_l, xb_r, goes_0, goes_1, goes_2, goes_3, ne10, if_false, if_true, om_0, om_1])
end PH
