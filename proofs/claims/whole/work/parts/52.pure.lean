/-! A run that ends in vain; a run that gives. -/
def jx_ul (M : jm_M) (w k : Nat) : Nat → Nat → Int32 := fun i j => if i = 0 ∧ k ≤ j ∧ j < 32 ∧ jm_I M 22 0 j = nI (w + 1) then nI 0 else jm_I M 22 i j
theorem xUnl {d w : Nat} {M : jm_M} (hX : jx_S M) (hw : w < 4) : ∀ f k g, k + f = 32 → (∀ j, k ≤ j → g 0 j = jm_I M 22 0 j) → jm_D d 35 2 [some (.inr (some (5, 0))), some (.inl (nI (w + 1))), some (.inl (nI k))] [] (jm_setK M 22 g) = some (none, jm_setK M 22 (fun i j => if i = 0 ∧ k ≤ j ∧ j < 32 ∧ jm_I M 22 0 j = nI (w + 1) then nI 0 else g i j)) := by
  intro f
  induction f with
  | zero =>
    intro k g hk hg
    obtain rfl : k = 32 := by omega
    rw [e35_2]
    simp only [e35_0, e35_1, e35_3, e35_4, e35_5, e35_6, e35_7, e35_8, e35_9, e35_10, e35_11, e35_12, e35_13, e35_14, e35_15, e35_16, e35_17, e35_18, Int32.le_refl, if_true]
    exact congrArg some (Prod.ext rfl (jk_ex fun i j => (if_neg (fun e => by omega)).symm))
  | succ f ih =>
    intro k g hk hg
    have c1 : ¬ nI 32 ≤ nI k := nI_ge (by omega) (by decide)
    have hX' : jx_S (jm_setK M 22 g) := hX
    have e0 : jm_I (jm_setK M 22 g) 22 0 k = jm_I M 22 0 k := (jk_I _ _ _ _ _).trans (hg k (Nat.le_refl _))
    rw [e35_2]
    by_cases h1 : jm_I M 22 0 k = nI (w + 1)
    · simp only [e35_0, e35_1, e35_3, e35_4, e35_5, e35_6, e35_7, e35_8, e35_9, e35_10, e35_11, e35_12, e35_13, e35_14, e35_15, e35_16, e35_17, e35_18, xs_0 hX', xs_1 hX', xs_2 hX', xs_3 hX', xs_4 hX', xs_5 hX', xs_6 hX', xs_7 hX', xs_8 hX', xs_9 hX', xs_10 hX', xs_11 hX', xs_12 hX', xs_13 hX', xs_14 hX', xs_15 hX', xs_16 hX', xs_17 hX', xs_18 hX', xs_19 hX', if_neg c1, jb_ix (show k < 32 by omega) (by decide), e0, h1, if_true, nI_add, jk_set]
      rw [ih (k + 1) _ (by omega) (fun j hj => by rw [if_neg (fun e => by omega)]; exact hg j (by omega))]
      refine congrArg some (Prod.ext rfl (jk_ex fun i j => ?_))
      by_cases hj : j = k
      · subst hj
        by_cases hi : i = 0
        · rw [if_neg (fun e => by omega), if_pos ⟨hi, rfl⟩, if_pos ⟨hi, Nat.le_refl _, by omega, h1⟩]
        · rw [if_neg (fun e => hi e.1), if_neg (fun e => hi e.1), if_neg (fun e => hi e.1)]
      · by_cases hc : i = 0 ∧ k + 1 ≤ j ∧ j < 32 ∧ jm_I M 22 0 j = nI (w + 1)
        · rw [if_pos hc, if_pos ⟨hc.1, by omega, hc.2.2⟩]
        · rw [if_neg hc, if_neg (fun e => hj e.2), if_neg (fun e => hc ⟨e.1, by omega, e.2.2⟩)]
    · simp only [e35_0, e35_1, e35_3, e35_4, e35_5, e35_6, e35_7, e35_8, e35_9, e35_10, e35_11, e35_12, e35_13, e35_14, e35_15, e35_16, e35_17, e35_18, xs_0 hX', xs_1 hX', xs_2 hX', xs_3 hX', xs_4 hX', xs_5 hX', xs_6 hX', xs_7 hX', xs_8 hX', xs_9 hX', xs_10 hX', xs_11 hX', xs_12 hX', xs_13 hX', xs_14 hX', xs_15 hX', xs_16 hX', xs_17 hX', xs_18 hX', xs_19 hX', if_neg c1, jb_ix (show k < 32 by omega) (by decide), e0, if_neg h1, nI_add]
      rw [ih (k + 1) _ (by omega) (fun j hj => hg j (by omega))]
      refine congrArg some (Prod.ext rfl (jk_ex fun i j => ?_))
      by_cases hc : i = 0 ∧ k + 1 ≤ j ∧ j < 32 ∧ jm_I M 22 0 j = nI (w + 1)
      · rw [if_pos hc, if_pos ⟨hc.1, by omega, hc.2.2⟩]
      · rw [if_neg hc, if_neg (fun e => hc ⟨e.1, ?_, e.2.2⟩)]
        rcases Nat.eq_or_lt_of_le e.2.1 with h | h
        · rw [← h] at e
          exact absurd e.2.2.2 h1
        · exact h
def jx_ab (M : jm_M) (w t : Nat) : jm_M := jm_setI (jm_setI (jm_setK M 22 (jx_ul M w 0)) 25 t 4 (nI 4)) 11 w 6 (nI 0)
theorem xAb {d w t : Nat} {M : jm_M} (hX : jx_S M) (hw : w < 4) (h0 : jm_I M 11 w 0 = nI (w + 1)) (h5 : jm_F M 11 w 5 = some (25, t)) : jm_D (d + 1) 34 0 [some (.inr (some (11, w))), some (.inr (some (5, 0)))] [] M = some (some (.inl (nI 3)), jx_ab M w t) := by
  have z : jm_D d 35 2 [some (.inr (some (5, 0))), some (.inl (nI (w + 1))), some (.inl (nI 0))] [] M = some (none, jm_setK M 22 (jx_ul M w 0)) := by
    have := xUnl (d := d) hX hw 32 0 (jm_I M 22) rfl (fun _ _ => rfl)
    rw [jk_id] at this
    exact this
  have h5' : jm_F (jm_setK M 22 (jx_ul M w 0)) 11 w 5 = some (25, t) := h5
  simp only [e34_0, e34_1, e34_2, e34_3, e34_4, e34_5, e34_6, e34_7, e34_8, e34_9, e34_10, e34_11, e34_12, e35_0, e35_1, h0, z, jb_some, jb_tn, jb_tl, h5']
  rfl
def jy_ul (N : jm_M) (w : Nat) : Nat → Nat → Int32 := fun i j => if i = 0 ∧ 0 ≤ j ∧ j < 32 ∧ ¬ jm_I N 37 0 j = nI 0 ∧ jm_I N 41 0 j = nI (w + 1) then nI 0 else jm_I N 41 i j
theorem yUnl {d w : Nat} {N : jm_M} (hY : jy_S N) (hw : w < 4) : ∀ f k g, k + f = 32 → (∀ j, k ≤ j → g 0 j = jm_I N 41 0 j) → jm_D d 110 2 [some (.inr (some (31, 0))), some (.inl (nI w)), some (.inl (nI k))] [] (jm_setK N 41 g) = jm_D d 110 25 [some (.inr (some (31, 0))), some (.inl (nI w)), some (.inl (nI 32))] [] (jm_setK N 41 (fun i j => if i = 0 ∧ k ≤ j ∧ j < 32 ∧ ¬ jm_I N 37 0 j = nI 0 ∧ jm_I N 41 0 j = nI (w + 1) then nI 0 else g i j)) := by
  intro f
  induction f with
  | zero =>
    intro k g hk hg
    obtain rfl : k = 32 := by omega
    rw [e110_2]
    simp only [e110_3, e110_4, Int32.le_refl, if_true]
    exact congrArg _ (jk_ex fun i j => (if_neg (fun e => by omega)).symm)
  | succ f ih =>
    intro k g hk hg
    have c1 : ¬ nI 32 ≤ nI k := nI_ge (by omega) (by decide)
    have hY' : jy_S (jm_setK N 41 g) := hY
    have e0 : jm_I (jm_setK N 41 g) 41 0 k = jm_I N 41 0 k := (jk_I _ _ _ _ _).trans (hg k (Nat.le_refl _))
    have e7 : jm_I (jm_setK N 41 g) 37 0 k = jm_I N 37 0 k := rfl
    rw [e110_2]
    have hno : ¬ (¬ jm_I N 37 0 k = nI 0 ∧ jm_I N 41 0 k = nI (w + 1)) → jm_D d 110 2 [some (.inr (some (31, 0))), some (.inl (nI w)), some (.inl (nI (k + 1)))] [] (jm_setK N 41 g) = jm_D d 110 25 [some (.inr (some (31, 0))), some (.inl (nI w)), some (.inl (nI 32))] [] (jm_setK N 41 (fun i j => if i = 0 ∧ k ≤ j ∧ j < 32 ∧ ¬ jm_I N 37 0 j = nI 0 ∧ jm_I N 41 0 j = nI (w + 1) then nI 0 else g i j)) := by
      intro hn
      rw [ih (k + 1) _ (by omega) (fun j hj => hg j (by omega))]
      refine congrArg _ (jk_ex fun i j => ?_)
      by_cases hc : i = 0 ∧ k + 1 ≤ j ∧ j < 32 ∧ ¬ jm_I N 37 0 j = nI 0 ∧ jm_I N 41 0 j = nI (w + 1)
      · rw [if_pos hc, if_pos ⟨hc.1, by omega, hc.2.2⟩]
      · rw [if_neg hc, if_neg (fun e => hc ⟨e.1, ?_, e.2.2⟩)]
        rcases Nat.eq_or_lt_of_le e.2.1 with h | h
        · rw [← h] at e
          exact absurd e.2.2.2 hn
        · exact h
    by_cases h7 : jm_I N 37 0 k = nI 0
    · simp only [e110_0, e110_1, e110_3, e110_4, e110_5, e110_6, e110_7, e110_8, e110_9, e110_10, e110_11, e110_12, e110_13, e110_14, e110_15, e110_16, e110_17, e110_18, e110_19, e110_20, e110_21, e110_22, e110_23, e110_24, e110_26, e110_27, e110_28, e110_29, e110_30, e110_31, e110_32, e110_33, e110_34, e110_35, e110_36, e110_37, e110_38, e110_39, e110_40, e110_41, e110_42, e110_43, e110_44, ys_0 hY', ys_1 hY', ys_2 hY', ys_3 hY', ys_4 hY', ys_5 hY', ys_6 hY', ys_7 hY', ys_8 hY', ys_9 hY', ys_10 hY', ys_11 hY', ys_12 hY', ys_13 hY', ys_14 hY', ys_15 hY', ys_16 hY', ys_17 hY', ys_18 hY', ys_19 hY', ys_20 hY', ys_21 hY', ys_22 hY', ys_23 hY', ys_24 hY', ys_25 hY', ys_26 hY', ys_27 hY', ys_28 hY', ys_29 hY', ys_30 hY', ys_31 hY', ys_32 hY', ys_33 hY', ys_34 hY', ys_35 hY', ys_36 hY', ys_37 hY', ys_38 hY', ys_39 hY', ys_40 hY', ys_41 hY', ys_42 hY', ys_43 hY', ys_44 hY', ys_45 hY', ys_46 hY', ys_47 hY', ys_48 hY', ys_49 hY', ys_50 hY', ys_51 hY', ys_52 hY', ys_53 hY', ys_54 hY', ys_55 hY', ys_56 hY', ys_57 hY', ys_58 hY', ys_59 hY', ys_60 hY', ys_61 hY', ys_62 hY', ys_63 hY', ys_64 hY', ys_65 hY', ys_66 hY', ys_67 hY', ys_68 hY', ys_69 hY', ys_70 hY', ys_71 hY', ys_72 hY', ys_73 hY', ys_74 hY', ys_75 hY', ys_76 hY', ys_77 hY', if_neg c1, jb_ix (show k < 32 by omega) (by decide), e7, h7, if_true, nI_add]
      exact hno (fun e => e.1 h7)
    · by_cases h1 : jm_I N 41 0 k = nI (w + 1)
      · simp only [e110_0, e110_1, e110_3, e110_4, e110_5, e110_6, e110_7, e110_8, e110_9, e110_10, e110_11, e110_12, e110_13, e110_14, e110_15, e110_16, e110_17, e110_18, e110_19, e110_20, e110_21, e110_22, e110_23, e110_24, e110_26, e110_27, e110_28, e110_29, e110_30, e110_31, e110_32, e110_33, e110_34, e110_35, e110_36, e110_37, e110_38, e110_39, e110_40, e110_41, e110_42, e110_43, e110_44, ys_0 hY', ys_1 hY', ys_2 hY', ys_3 hY', ys_4 hY', ys_5 hY', ys_6 hY', ys_7 hY', ys_8 hY', ys_9 hY', ys_10 hY', ys_11 hY', ys_12 hY', ys_13 hY', ys_14 hY', ys_15 hY', ys_16 hY', ys_17 hY', ys_18 hY', ys_19 hY', ys_20 hY', ys_21 hY', ys_22 hY', ys_23 hY', ys_24 hY', ys_25 hY', ys_26 hY', ys_27 hY', ys_28 hY', ys_29 hY', ys_30 hY', ys_31 hY', ys_32 hY', ys_33 hY', ys_34 hY', ys_35 hY', ys_36 hY', ys_37 hY', ys_38 hY', ys_39 hY', ys_40 hY', ys_41 hY', ys_42 hY', ys_43 hY', ys_44 hY', ys_45 hY', ys_46 hY', ys_47 hY', ys_48 hY', ys_49 hY', ys_50 hY', ys_51 hY', ys_52 hY', ys_53 hY', ys_54 hY', ys_55 hY', ys_56 hY', ys_57 hY', ys_58 hY', ys_59 hY', ys_60 hY', ys_61 hY', ys_62 hY', ys_63 hY', ys_64 hY', ys_65 hY', ys_66 hY', ys_67 hY', ys_68 hY', ys_69 hY', ys_70 hY', ys_71 hY', ys_72 hY', ys_73 hY', ys_74 hY', ys_75 hY', ys_76 hY', ys_77 hY', if_neg c1, jb_ix (show k < 32 by omega) (by decide), e7, if_neg h7, e0, h1, if_true, nI_add, jk_set]
        rw [ih (k + 1) _ (by omega) (fun j hj => by rw [if_neg (fun e => by omega)]; exact hg j (by omega))]
        refine congrArg _ (jk_ex fun i j => ?_)
        by_cases hj : j = k
        · subst hj
          by_cases hi : i = 0
          · rw [if_neg (fun e => by omega), if_pos ⟨hi, rfl⟩, if_pos ⟨hi, Nat.le_refl _, by omega, h7, h1⟩]
          · rw [if_neg (fun e => hi e.1), if_neg (fun e => hi e.1), if_neg (fun e => hi e.1)]
        · by_cases hc : i = 0 ∧ k + 1 ≤ j ∧ j < 32 ∧ ¬ jm_I N 37 0 j = nI 0 ∧ jm_I N 41 0 j = nI (w + 1)
          · rw [if_pos hc, if_pos ⟨hc.1, by omega, hc.2.2⟩]
          · rw [if_neg hc, if_neg (fun e => hj e.2), if_neg (fun e => hc ⟨e.1, by omega, e.2.2⟩)]
      · simp only [e110_0, e110_1, e110_3, e110_4, e110_5, e110_6, e110_7, e110_8, e110_9, e110_10, e110_11, e110_12, e110_13, e110_14, e110_15, e110_16, e110_17, e110_18, e110_19, e110_20, e110_21, e110_22, e110_23, e110_24, e110_26, e110_27, e110_28, e110_29, e110_30, e110_31, e110_32, e110_33, e110_34, e110_35, e110_36, e110_37, e110_38, e110_39, e110_40, e110_41, e110_42, e110_43, e110_44, ys_0 hY', ys_1 hY', ys_2 hY', ys_3 hY', ys_4 hY', ys_5 hY', ys_6 hY', ys_7 hY', ys_8 hY', ys_9 hY', ys_10 hY', ys_11 hY', ys_12 hY', ys_13 hY', ys_14 hY', ys_15 hY', ys_16 hY', ys_17 hY', ys_18 hY', ys_19 hY', ys_20 hY', ys_21 hY', ys_22 hY', ys_23 hY', ys_24 hY', ys_25 hY', ys_26 hY', ys_27 hY', ys_28 hY', ys_29 hY', ys_30 hY', ys_31 hY', ys_32 hY', ys_33 hY', ys_34 hY', ys_35 hY', ys_36 hY', ys_37 hY', ys_38 hY', ys_39 hY', ys_40 hY', ys_41 hY', ys_42 hY', ys_43 hY', ys_44 hY', ys_45 hY', ys_46 hY', ys_47 hY', ys_48 hY', ys_49 hY', ys_50 hY', ys_51 hY', ys_52 hY', ys_53 hY', ys_54 hY', ys_55 hY', ys_56 hY', ys_57 hY', ys_58 hY', ys_59 hY', ys_60 hY', ys_61 hY', ys_62 hY', ys_63 hY', ys_64 hY', ys_65 hY', ys_66 hY', ys_67 hY', ys_68 hY', ys_69 hY', ys_70 hY', ys_71 hY', ys_72 hY', ys_73 hY', ys_74 hY', ys_75 hY', ys_76 hY', ys_77 hY', if_neg c1, jb_ix (show k < 32 by omega) (by decide), e7, if_neg h7, e0, if_neg h1, nI_add]
        exact hno (fun e => h1 e.2)
def jy_ab (N : jm_M) (w t : Nat) : jm_M := jm_setI (jm_setI (jm_setI (jm_setK N 41 (jy_ul N w)) 64 0 (t + 1) (nI 4)) 45 0 w (nI 0)) 46 0 w (nI 0)
theorem yAb {d w t : Nat} {N : jm_M} (hY : jy_S N) (hw : w < 4) (ht : t < 100) (h : jm_I N 46 0 w = nI (t + 1)) : jm_D d 110 0 [some (.inr (some (31, 0))), some (.inl (nI w)), none] [] N = some (some (.inl (nI 3)), jy_ab N w t) := by
  have z : jm_D d 110 2 [some (.inr (some (31, 0))), some (.inl (nI w)), some (.inl (nI 0))] [] N = jm_D d 110 25 [some (.inr (some (31, 0))), some (.inl (nI w)), some (.inl (nI 32))] [] (jm_setK N 41 (jy_ul N w)) := by
    have := yUnl (d := d) hY hw 32 0 (jm_I N 41) rfl (fun _ _ => rfl)
    rw [jk_id] at this
    exact this
  have h' : jm_I (jm_setK N 41 (jy_ul N w)) 46 0 w = nI (t + 1) := h
  have hY' : jy_S (jm_setK N 41 (jy_ul N w)) := hY
  rw [e110_0, e110_1, z]
  simp only [e110_0, e110_1, e110_3, e110_4, e110_5, e110_6, e110_7, e110_8, e110_9, e110_10, e110_11, e110_12, e110_13, e110_14, e110_15, e110_16, e110_17, e110_18, e110_19, e110_20, e110_21, e110_22, e110_23, e110_24, e110_25, e110_26, e110_27, e110_28, e110_29, e110_30, e110_31, e110_32, e110_33, e110_34, e110_35, e110_36, e110_37, e110_38, e110_39, e110_40, e110_41, e110_42, e110_43, e110_44, jb_FI, jb_nI, ys_0 hY', ys_1 hY', ys_2 hY', ys_3 hY', ys_4 hY', ys_5 hY', ys_6 hY', ys_7 hY', ys_8 hY', ys_9 hY', ys_10 hY', ys_11 hY', ys_12 hY', ys_13 hY', ys_14 hY', ys_15 hY', ys_16 hY', ys_17 hY', ys_18 hY', ys_19 hY', ys_20 hY', ys_21 hY', ys_22 hY', ys_23 hY', ys_24 hY', ys_25 hY', ys_26 hY', ys_27 hY', ys_28 hY', ys_29 hY', ys_30 hY', ys_31 hY', ys_32 hY', ys_33 hY', ys_34 hY', ys_35 hY', ys_36 hY', ys_37 hY', ys_38 hY', ys_39 hY', ys_40 hY', ys_41 hY', ys_42 hY', ys_43 hY', ys_44 hY', ys_45 hY', ys_46 hY', ys_47 hY', ys_48 hY', ys_49 hY', ys_50 hY', ys_51 hY', ys_52 hY', ys_53 hY', ys_54 hY', ys_55 hY', ys_56 hY', ys_57 hY', ys_58 hY', ys_59 hY', ys_60 hY', ys_61 hY', ys_62 hY', ys_63 hY', ys_64 hY', ys_65 hY', ys_66 hY', ys_67 hY', ys_68 hY', ys_69 hY', ys_70 hY', ys_71 hY', ys_72 hY', ys_73 hY', ys_74 hY', ys_75 hY', ys_76 hY', ys_77 hY', jb_ix hw (by decide), h', jb_ix (show t + 1 < 101 by omega) (by decide)]
  rfl
