/-! Looking again: the new stamp. -/
def jb_g (rd st : Nat → Nat) (wr : Nat → Bool) : Nat → Nat → Nat → Nat
  | 0, _, g => g
  | f + 1, k, g => jb_g rd st wr f (k + 1) (if wr k = true then max (max g (rd k)) (st k) else max g (rd k))
theorem jb_g_max (rd st : Nat → Nat) (wr : Nat → Bool) : ∀ f k a b, jb_g rd st wr f k (max a b) = max (jb_g rd st wr f k a) b := by
  intro f
  induction f with
  | zero => intro k a b; rfl
  | succ f ih =>
    intro k a b
    show jb_g rd st wr f (k + 1) _ = max (jb_g rd st wr f (k + 1) _) b
    rw [← ih]
    congr 1
    cases wr k <;> simp <;> omega
theorem jb_g_le (rd st : Nat → Nat) (wr : Nat → Bool) {C : Nat} : ∀ f k g, g ≤ C → (∀ j, k ≤ j → j < k + f → rd j ≤ C ∧ st j ≤ C) → jb_g rd st wr f k g ≤ C := by
  intro f
  induction f with
  | zero => intro k g h _; exact h
  | succ f ih =>
    intro k g h h2
    have := h2 k (Nat.le_refl _) (by omega)
    refine ih (k + 1) _ ?_ (fun j h3 h4 => h2 j (by omega) (by omega))
    cases wr k <;> simp <;> omega
theorem jb_g_ge (rd st : Nat → Nat) (wr : Nat → Bool) : ∀ f k g, g ≤ jb_g rd st wr f k g ∧ ∀ j, k ≤ j → j < k + f → wr j = true → st j ≤ jb_g rd st wr f k g := by
  intro f
  induction f with
  | zero => intro k g; exact ⟨Nat.le_refl _, fun j h1 h2 => by omega⟩
  | succ f ih =>
    intro k g
    obtain ⟨h1, h2⟩ := ih (k + 1) (if wr k = true then max (max g (rd k)) (st k) else max g (rd k))
    refine ⟨Nat.le_trans ?_ h1, fun j h3 h4 h5 => ?_⟩
    · cases wr k <;> simp <;> omega
    · by_cases e : j = k
      · subst e
        refine Nat.le_trans ?_ h1
        rw [if_pos h5]
        omega
      · exact h2 j (by omega) (by omega) h5
theorem jb_mx {a b : Nat} (ha : a < 2 ^ 31) (hb : b < 2 ^ 31) : (if nI a < nI b then nI b else nI a) = nI (max a b) := by
  by_cases h : a < b
  · rw [if_pos (nI_lt h hb), Nat.max_eq_right (by omega)]
  · rw [if_neg (nI_nlt (by omega) ha), Nat.max_eq_left (by omega)]
theorem jb_mxm {a : Nat} (ha : a < 2 ^ 31) : (if nI a < -1 then -1 else nI a) = nI a := by
  refine if_neg (fun h => ?_)
  rw [Int32.lt_iff_toInt_lt, nI_toInt ha] at h
  have h3 : ((-1 : Int32)).toInt = -1 := by decide
  omega
theorem xNs {d w t C fe : Nat} {M : jm_M} {rd st : Nat → Nat} (hX : jx_S M) (hw : w < 4) (f5 : jm_F M 11 w 5 = some (25, t)) (f1 : jm_F M 25 t 1 = some (26, t + 4)) (n1 : jm_n M 26 (t + 4) = 32) (hC : C < 2 ^ 30) (hfe : jm_I M 11 w 11 = nI fe) (hfe2 : fe < 2 ^ 20) (hrd : ∀ k, k < 32 → rd k ≤ C ∧ ((rd k = 0 ∧ jm_I M 13 w k = -1) ∨ jm_I M 13 w k = nI (rd k))) (hst : ∀ k, k < 32 → st k ≤ C ∧ jm_I M 21 0 k = nI (st k)) : ∀ f k g, k + f = 32 → g ≤ C → jm_D (d + 1) 66 5 [some (.inr (some (11, w))), some (.inr (some (5, 0))), some (.inl (nI g)), some (.inl (nI k))] [] M = some (some (.inl (nI (max (jb_g rd st (fun k => !decide (jm_I M 26 (t + 4) k = nI 0)) f k g + 1) (fe * 1024)))), M) := by
  intro f
  induction f with
  | zero =>
    intro k g hk hg
    obtain rfl : k = 32 := by omega
    rw [e66_5]
    simp only [e66_0, e66_1, e66_2, e66_3, e66_4, e66_6, e66_7, e66_8, e66_9, e66_10, e66_11, e66_12, e66_13, e66_14, e66_15, e66_16, e66_17, e66_18, e66_19, e66_20, e66_21, e66_22, e66_23, e66_24, e66_25, e66_26, e66_27, e66_28, e66_29, e66_30, e66_31, e66_32, e66_33, e66_34, e66_35, e66_36, e66_37, Int32.le_refl, if_true, nI_add, hfe, pk_mul, jb_mx (show g + 1 < 2 ^ 31 by omega) (show fe * 1024 < 2 ^ 31 by omega)]
    rfl
  | succ f ih =>
    intro k g hk hg
    have hk32 : k < 32 := by omega
    have c1 : ¬ nI 32 ≤ nI k := nI_ge (by omega) (by decide)
    obtain ⟨r1, r2⟩ := hrd k hk32
    obtain ⟨s1, s2⟩ := hst k hk32
    have m1 : (if nI g < jm_I M 13 w k then jm_I M 13 w k else nI g) = nI (max g (rd k)) := by
      rcases r2 with ⟨z1, z2⟩ | z
      · rw [z2, z1, Nat.max_eq_left (Nat.zero_le _)]; exact jb_mxm (by omega)
      · rw [z]; exact jb_mx (by omega) (by omega)
    rw [e66_5]
    show _ = some (some (Sum.inl (nI (max (jb_g rd st (fun k => !decide (jm_I M 26 (t + 4) k = nI 0)) f (k + 1) (if (!decide (jm_I M 26 (t + 4) k = nI 0)) = true then max (max g (rd k)) (st k) else max g (rd k)) + 1) (fe * 1024)))), M)
    by_cases a1 : jm_I M 26 (t + 4) k = nI 0
    · rw [if_neg (by rw [decide_eq_true a1]; decide)]
      simp only [e66_0, e66_1, e66_2, e66_3, e66_4, e66_6, e66_7, e66_8, e66_9, e66_10, e66_11, e66_12, e66_13, e66_14, e66_15, e66_16, e66_17, e66_18, e66_19, e66_20, e66_21, e66_22, e66_23, e66_24, e66_25, e66_26, e66_27, e66_28, e66_29, e66_30, e66_31, e66_32, e66_33, e66_34, e66_35, e66_36, e66_37, xw_0 hX hw, xw_1 hX hw, xw_2 hX hw, xw_3 hX hw, xw_4 hX hw, xw_5 hX hw, xw_6 hX hw, xw_7 hX hw, xw_8 hX hw, if_neg c1, jb_ix hk32 (by decide), m1, f5, xWrs f1 n1 hk32, a1, if_true, jb_some, jb_tl, nI_add, ih (k + 1) _ (by omega) (show max g (rd k) ≤ C by omega)]
    · rw [if_pos (by rw [decide_eq_false a1]; decide)]
      have m2 := jb_mx (show max g (rd k) < 2 ^ 31 by omega) (show st k < 2 ^ 31 by omega)
      simp only [e66_0, e66_1, e66_2, e66_3, e66_4, e66_6, e66_7, e66_8, e66_9, e66_10, e66_11, e66_12, e66_13, e66_14, e66_15, e66_16, e66_17, e66_18, e66_19, e66_20, e66_21, e66_22, e66_23, e66_24, e66_25, e66_26, e66_27, e66_28, e66_29, e66_30, e66_31, e66_32, e66_33, e66_34, e66_35, e66_36, e66_37, xs_0 hX, xs_1 hX, xs_2 hX, xs_3 hX, xs_4 hX, xs_5 hX, xs_6 hX, xs_7 hX, xs_8 hX, xs_9 hX, xs_10 hX, xs_11 hX, xs_12 hX, xs_13 hX, xs_14 hX, xs_15 hX, xs_16 hX, xs_17 hX, xs_18 hX, xs_19 hX, xw_0 hX hw, xw_1 hX hw, xw_2 hX hw, xw_3 hX hw, xw_4 hX hw, xw_5 hX hw, xw_6 hX hw, xw_7 hX hw, xw_8 hX hw, if_neg c1, jb_ix hk32 (by decide), m1, f5, xWrs f1 n1 hk32, if_neg a1, nf_0_1, nf_0_2, nf_0_3, nf_0_4, nf_0_5, nf_0_6, nf_1_0, nf_1_2, nf_1_3, nf_1_4, nf_1_5, nf_1_6, nf_2_0, nf_2_1, nf_2_3, nf_2_4, nf_2_5, nf_2_6, nf_3_0, nf_3_1, nf_3_2, nf_3_4, nf_3_5, nf_3_6, nf_4_0, nf_4_1, nf_4_2, nf_4_3, nf_4_5, nf_4_6, nf_5_0, nf_5_1, nf_5_2, nf_5_3, nf_5_4, nf_5_6, nf_6_0, nf_6_1, nf_6_2, nf_6_3, nf_6_4, nf_6_5, if_false, s2, m2, jb_some, jb_tl, nI_add, ih (k + 1) _ (by omega) (show max (max g (rd k)) (st k) ≤ C by omega)]
/-- do its reads hold, do its leaves hold -/
def jx_rh (M : jm_M) (w k : Nat) : Prop := jm_I M 13 w k = -1 ∨ (jm_I M 13 w k = jm_I M 21 0 k ∧ (jm_I M 22 0 k = nI 0 ∨ jm_I M 22 0 k = nI (w + 1)))
theorem xRh {d w : Nat} {M : jm_M} (hX : jx_S M) (hw : w < 4) (h0 : jm_I M 11 w 0 = nI (w + 1)) : ∀ f k, k + f = 32 → (jm_D (d + 1) 64 2 [some (.inr (some (11, w))), some (.inr (some (5, 0))), some (.inl (nI k))] [] M = some (some (.inl (nI 1)), M) ∧ ∀ j, k ≤ j → j < 32 → jx_rh M w j) ∨ (jm_D (d + 1) 64 2 [some (.inr (some (11, w))), some (.inr (some (5, 0))), some (.inl (nI k))] [] M = some (some (.inl (nI 0)), M) ∧ ∃ j, j < 32 ∧ ¬ jx_rh M w j) := by
  intro f
  induction f with
  | zero =>
    intro k hk
    obtain rfl : k = 32 := by omega
    left
    refine ⟨?_, fun j h1 h2 => by omega⟩
    rw [e64_2]
    simp only [e64_0, e64_1, e64_3, e64_4, e64_5, e64_6, e64_7, e64_8, e64_9, e64_10, e64_11, e64_12, e64_13, e64_14, e64_15, e64_16, e64_17, e64_18, e64_19, e64_20, e64_21, e64_22, e64_23, e64_24, e64_25, e64_26, e64_27_0, e64_27_1, e64_28, e64_29, e64_30, e64_31_0, e64_31_1, Int32.le_refl, if_true]
  | succ f ih =>
    intro k hk
    have hk32 : k < 32 := by omega
    have c1 : ¬ nI 32 ≤ nI k := nI_ge (by omega) (by decide)
    have ih := ih (k + 1) (by omega)
    have go : jx_rh M w k → jm_D (d + 1) 64 2 [some (.inr (some (11, w))), some (.inr (some (5, 0))), some (.inl (nI k))] [] M = jm_D (d + 1) 64 2 [some (.inr (some (11, w))), some (.inr (some (5, 0))), some (.inl (nI (k + 1)))] [] M → (jm_D (d + 1) 64 2 [some (.inr (some (11, w))), some (.inr (some (5, 0))), some (.inl (nI k))] [] M = some (some (.inl (nI 1)), M) ∧ ∀ j, k ≤ j → j < 32 → jx_rh M w j) ∨ (jm_D (d + 1) 64 2 [some (.inr (some (11, w))), some (.inr (some (5, 0))), some (.inl (nI k))] [] M = some (some (.inl (nI 0)), M) ∧ ∃ j, j < 32 ∧ ¬ jx_rh M w j) := by
      intro h1 h2
      rw [h2]
      rcases ih with ⟨i1, i2⟩ | i
      · refine Or.inl ⟨i1, fun j h3 h4 => ?_⟩
        by_cases e : j = k
        · subst e; exact h1
        · exact i2 j (by omega) h4
      · exact Or.inr i
    by_cases a1 : jm_I M 13 w k = -1
    · refine go (Or.inl a1) ?_
      rw [e64_2]
      simp only [e64_0, e64_1, e64_3, e64_4, e64_5, e64_6, e64_7, e64_8, e64_9, e64_10, e64_11, e64_12, e64_13, e64_14, e64_15, e64_16, e64_17, e64_18, e64_19, e64_20, e64_21, e64_22, e64_23, e64_24, e64_25, e64_26, e64_27_0, e64_27_1, e64_28, e64_29, e64_30, e64_31_0, e64_31_1, xw_0 hX hw, xw_1 hX hw, xw_2 hX hw, xw_3 hX hw, xw_4 hX hw, xw_5 hX hw, xw_6 hX hw, xw_7 hX hw, xw_8 hX hw, if_neg c1, jb_ix hk32 (by decide), a1, if_true, nI_add]
    · by_cases a2 : jm_I M 13 w k = jm_I M 21 0 k
      · by_cases a3 : jm_I M 22 0 k = nI 0
        · refine go (Or.inr ⟨a2, Or.inl a3⟩) ?_
          rw [e64_2]
          simp only [e64_0, e64_1, e64_3, e64_4, e64_5, e64_6, e64_7, e64_8, e64_9, e64_10, e64_11, e64_12, e64_13, e64_14, e64_15, e64_16, e64_17, e64_18, e64_19, e64_20, e64_21, e64_22, e64_23, e64_24, e64_25, e64_26, e64_27_0, e64_27_1, e64_28, e64_29, e64_30, e64_31_0, e64_31_1, xs_0 hX, xs_1 hX, xs_2 hX, xs_3 hX, xs_4 hX, xs_5 hX, xs_6 hX, xs_7 hX, xs_8 hX, xs_9 hX, xs_10 hX, xs_11 hX, xs_12 hX, xs_13 hX, xs_14 hX, xs_15 hX, xs_16 hX, xs_17 hX, xs_18 hX, xs_19 hX, xw_0 hX hw, xw_1 hX hw, xw_2 hX hw, xw_3 hX hw, xw_4 hX hw, xw_5 hX hw, xw_6 hX hw, xw_7 hX hw, xw_8 hX hw, if_neg c1, jb_ix hk32 (by decide), if_neg a1, if_pos a2, h0, xLkO hX hk32, a3, if_true, jb_some, jb_tl, nI_add]
        · by_cases a4 : jm_I M 22 0 k = nI (w + 1)
          · refine go (Or.inr ⟨a2, Or.inr a4⟩) ?_
            rw [e64_2]
            simp only [e64_0, e64_1, e64_3, e64_4, e64_5, e64_6, e64_7, e64_8, e64_9, e64_10, e64_11, e64_12, e64_13, e64_14, e64_15, e64_16, e64_17, e64_18, e64_19, e64_20, e64_21, e64_22, e64_23, e64_24, e64_25, e64_26, e64_27_0, e64_27_1, e64_28, e64_29, e64_30, e64_31_0, e64_31_1, xs_0 hX, xs_1 hX, xs_2 hX, xs_3 hX, xs_4 hX, xs_5 hX, xs_6 hX, xs_7 hX, xs_8 hX, xs_9 hX, xs_10 hX, xs_11 hX, xs_12 hX, xs_13 hX, xs_14 hX, xs_15 hX, xs_16 hX, xs_17 hX, xs_18 hX, xs_19 hX, xw_0 hX hw, xw_1 hX hw, xw_2 hX hw, xw_3 hX hw, xw_4 hX hw, xw_5 hX hw, xw_6 hX hw, xw_7 hX hw, xw_8 hX hw, if_neg c1, jb_ix hk32 (by decide), if_neg a1, if_pos a2, h0, xLkO hX hk32, if_neg a3, if_pos a4, if_true, jb_some, jb_tl, nI_add]
          · right
            refine ⟨?_, k, hk32, fun z => z.elim a1 (fun z => z.2.elim a3 a4)⟩
            rw [e64_2]
            simp only [e64_0, e64_1, e64_3, e64_4, e64_5, e64_6, e64_7, e64_8, e64_9, e64_10, e64_11, e64_12, e64_13, e64_14, e64_15, e64_16, e64_17, e64_18, e64_19, e64_20, e64_21, e64_22, e64_23, e64_24, e64_25, e64_26, e64_27_0, e64_27_1, e64_28, e64_29, e64_30, e64_31_0, e64_31_1, xs_0 hX, xs_1 hX, xs_2 hX, xs_3 hX, xs_4 hX, xs_5 hX, xs_6 hX, xs_7 hX, xs_8 hX, xs_9 hX, xs_10 hX, xs_11 hX, xs_12 hX, xs_13 hX, xs_14 hX, xs_15 hX, xs_16 hX, xs_17 hX, xs_18 hX, xs_19 hX, xw_0 hX hw, xw_1 hX hw, xw_2 hX hw, xw_3 hX hw, xw_4 hX hw, xw_5 hX hw, xw_6 hX hw, xw_7 hX hw, xw_8 hX hw, if_neg c1, jb_ix hk32 (by decide), if_neg a1, if_pos a2, h0, xLkO hX hk32, if_neg a3, if_neg a4, nf_0_1, nf_0_2, nf_0_3, nf_0_4, nf_0_5, nf_0_6, nf_1_0, nf_1_2, nf_1_3, nf_1_4, nf_1_5, nf_1_6, nf_2_0, nf_2_1, nf_2_3, nf_2_4, nf_2_5, nf_2_6, nf_3_0, nf_3_1, nf_3_2, nf_3_4, nf_3_5, nf_3_6, nf_4_0, nf_4_1, nf_4_2, nf_4_3, nf_4_5, nf_4_6, nf_5_0, nf_5_1, nf_5_2, nf_5_3, nf_5_4, nf_5_6, nf_6_0, nf_6_1, nf_6_2, nf_6_3, nf_6_4, nf_6_5, if_false, jb_some, jb_tl]
      · right
        refine ⟨?_, k, hk32, fun z => z.elim a1 (fun z => a2 z.1)⟩
        rw [e64_2]
        simp only [e64_0, e64_1, e64_3, e64_4, e64_5, e64_6, e64_7, e64_8, e64_9, e64_10, e64_11, e64_12, e64_13, e64_14, e64_15, e64_16, e64_17, e64_18, e64_19, e64_20, e64_21, e64_22, e64_23, e64_24, e64_25, e64_26, e64_27_0, e64_27_1, e64_28, e64_29, e64_30, e64_31_0, e64_31_1, xs_0 hX, xs_1 hX, xs_2 hX, xs_3 hX, xs_4 hX, xs_5 hX, xs_6 hX, xs_7 hX, xs_8 hX, xs_9 hX, xs_10 hX, xs_11 hX, xs_12 hX, xs_13 hX, xs_14 hX, xs_15 hX, xs_16 hX, xs_17 hX, xs_18 hX, xs_19 hX, xw_0 hX hw, xw_1 hX hw, xw_2 hX hw, xw_3 hX hw, xw_4 hX hw, xw_5 hX hw, xw_6 hX hw, xw_7 hX hw, xw_8 hX hw, if_neg c1, jb_ix hk32 (by decide), if_neg a1, if_neg a2]
def jx_nh (M : jm_M) (w i : Nat) : Prop := jm_I M 14 w i = -1 ∨ jm_I M 14 w i = jm_I M 17 i 3
theorem xNh {d w : Nat} {M : jm_M} (hX : jx_S M) (hw : w < 4) : ∀ f k, k + f = 16 → (jm_D d 65 2 [some (.inr (some (11, w))), some (.inr (some (5, 0))), some (.inl (nI k))] [] M = some (some (.inl (nI 1)), M) ∧ ∀ j, k ≤ j → j < 16 → jx_nh M w j) ∨ (jm_D d 65 2 [some (.inr (some (11, w))), some (.inr (some (5, 0))), some (.inl (nI k))] [] M = some (some (.inl (nI 0)), M) ∧ ∃ j, j < 16 ∧ ¬ jx_nh M w j) := by
  intro f
  induction f with
  | zero =>
    intro k hk
    obtain rfl : k = 16 := by omega
    left
    refine ⟨?_, fun j h1 h2 => by omega⟩
    rw [e65_2]
    simp only [e65_0, e65_1, e65_3, e65_4, e65_5, e65_6, e65_7, e65_8, e65_9, e65_10, e65_11, e65_12, e65_13, e65_14, e65_15, e65_16, e65_17, e65_18, e65_19, e65_20, e65_21, e65_22_0, e65_22_1, e65_23, e65_24, e65_25, e65_26_0, e65_26_1, Int32.le_refl, if_true]
  | succ f ih =>
    intro k hk
    have hk16 : k < 16 := by omega
    have c1 : ¬ nI 16 ≤ nI k := nI_ge (by omega) (by decide)
    have ih := ih (k + 1) (by omega)
    have go : jx_nh M w k → jm_D d 65 2 [some (.inr (some (11, w))), some (.inr (some (5, 0))), some (.inl (nI k))] [] M = jm_D d 65 2 [some (.inr (some (11, w))), some (.inr (some (5, 0))), some (.inl (nI (k + 1)))] [] M → (jm_D d 65 2 [some (.inr (some (11, w))), some (.inr (some (5, 0))), some (.inl (nI k))] [] M = some (some (.inl (nI 1)), M) ∧ ∀ j, k ≤ j → j < 16 → jx_nh M w j) ∨ (jm_D d 65 2 [some (.inr (some (11, w))), some (.inr (some (5, 0))), some (.inl (nI k))] [] M = some (some (.inl (nI 0)), M) ∧ ∃ j, j < 16 ∧ ¬ jx_nh M w j) := by
      intro h1 h2
      rw [h2]
      rcases ih with ⟨i1, i2⟩ | i
      · refine Or.inl ⟨i1, fun j h3 h4 => ?_⟩
        by_cases e : j = k
        · subst e; exact h1
        · exact i2 j (by omega) h4
      · exact Or.inr i
    by_cases a1 : jm_I M 14 w k = -1
    · refine go (Or.inl a1) ?_
      rw [e65_2]
      simp only [e65_0, e65_1, e65_3, e65_4, e65_5, e65_6, e65_7, e65_8, e65_9, e65_10, e65_11, e65_12, e65_13, e65_14, e65_15, e65_16, e65_17, e65_18, e65_19, e65_20, e65_21, e65_22_0, e65_22_1, e65_23, e65_24, e65_25, e65_26_0, e65_26_1, xw_0 hX hw, xw_1 hX hw, xw_2 hX hw, xw_3 hX hw, xw_4 hX hw, xw_5 hX hw, xw_6 hX hw, xw_7 hX hw, xw_8 hX hw, if_neg c1, jb_ix hk16 (by decide), a1, if_true, nI_add]
    · by_cases a2 : jm_I M 14 w k = jm_I M 17 k 3
      · refine go (Or.inr a2) ?_
        rw [e65_2]
        simp only [e65_0, e65_1, e65_3, e65_4, e65_5, e65_6, e65_7, e65_8, e65_9, e65_10, e65_11, e65_12, e65_13, e65_14, e65_15, e65_16, e65_17, e65_18, e65_19, e65_20, e65_21, e65_22_0, e65_22_1, e65_23, e65_24, e65_25, e65_26_0, e65_26_1, xs_0 hX, xs_1 hX, xs_2 hX, xs_3 hX, xs_4 hX, xs_5 hX, xs_6 hX, xs_7 hX, xs_8 hX, xs_9 hX, xs_10 hX, xs_11 hX, xs_12 hX, xs_13 hX, xs_14 hX, xs_15 hX, xs_16 hX, xs_17 hX, xs_18 hX, xs_19 hX, xf_0 hX hk16, xf_1 hX hk16, xf_2 hX hk16, xw_0 hX hw, xw_1 hX hw, xw_2 hX hw, xw_3 hX hw, xw_4 hX hw, xw_5 hX hw, xw_6 hX hw, xw_7 hX hw, xw_8 hX hw, if_neg c1, jb_ix hk16 (by decide), if_neg a1, if_pos a2, nI_add]
      · right
        refine ⟨?_, k, hk16, fun z => z.elim a1 a2⟩
        rw [e65_2]
        simp only [e65_0, e65_1, e65_3, e65_4, e65_5, e65_6, e65_7, e65_8, e65_9, e65_10, e65_11, e65_12, e65_13, e65_14, e65_15, e65_16, e65_17, e65_18, e65_19, e65_20, e65_21, e65_22_0, e65_22_1, e65_23, e65_24, e65_25, e65_26_0, e65_26_1, xs_0 hX, xs_1 hX, xs_2 hX, xs_3 hX, xs_4 hX, xs_5 hX, xs_6 hX, xs_7 hX, xs_8 hX, xs_9 hX, xs_10 hX, xs_11 hX, xs_12 hX, xs_13 hX, xs_14 hX, xs_15 hX, xs_16 hX, xs_17 hX, xs_18 hX, xs_19 hX, xf_0 hX hk16, xf_1 hX hk16, xf_2 hX hk16, xw_0 hX hw, xw_1 hX hw, xw_2 hX hw, xw_3 hX hw, xw_4 hX hw, xw_5 hX hw, xw_6 hX hw, xw_7 hX hw, xw_8 hX hw, if_neg c1, jb_ix hk16 (by decide), if_neg a1, if_neg a2]
