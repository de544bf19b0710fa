/-! Flush. -/
/-- all numbers of one kind put anew -/
def jm_setK (M : jm_M) (k : Nat) (g : Nat → Nat → Int32) : jm_M := (fun a b c => if a = k then g b c else M.1 a b c, M.2)
theorem jk_I (M : jm_M) (k : Nat) (g : Nat → Nat → Int32) (i j : Nat) : jm_I (jm_setK M k g) k i j = g i j := if_pos rfl
theorem jk_z {k k' : Nat} (h : k' ≠ k) (M : jm_M) (g : Nat → Nat → Int32) (i j : Nat) : jm_I (jm_setK M k g) k' i j = jm_I M k' i j := if_neg h
theorem jk_F (M : jm_M) (k : Nat) (g : Nat → Nat → Int32) : jm_F (jm_setK M k g) = jm_F M := rfl
theorem jk_n (M : jm_M) (k : Nat) (g : Nat → Nat → Int32) : jm_n (jm_setK M k g) = jm_n M := rfl
theorem jk_c (M : jm_M) (k : Nat) (g : Nat → Nat → Int32) : jm_c (jm_setK M k g) = jm_c M := rfl
theorem jk_set (M : jm_M) (k : Nat) (g : Nat → Nat → Int32) (i j : Nat) (x : Int32) : jm_setI (jm_setK M k g) k i j x = jm_setK M k (fun b c => if b = i ∧ c = j then x else g b c) := by
  refine Prod.ext ?_ rfl
  funext a b c
  show (if a = k ∧ b = i ∧ c = j then x else if a = k then g b c else M.1 a b c) = if a = k then (if b = i ∧ c = j then x else g b c) else M.1 a b c
  by_cases h1 : a = k
  · by_cases h2 : b = i ∧ c = j
    · rw [if_pos ⟨h1, h2⟩, if_pos h1, if_pos h2]
    · rw [if_neg (fun e => h2 e.2), if_pos h1, if_pos h1, if_neg h2]
  · rw [if_neg (fun e => h1 e.1), if_neg h1, if_neg h1]
theorem jk_id (M : jm_M) (k : Nat) : jm_setK M k (jm_I M k) = M := by
  refine Prod.ext ?_ rfl
  funext a b c
  show (if a = k then M.1 k b c else M.1 a b c) = M.1 a b c
  by_cases h1 : a = k
  · rw [if_pos h1, h1]
  · rw [if_neg h1]
theorem jk_ex {M : jm_M} {k : Nat} {g g' : Nat → Nat → Int32} (h : ∀ i j, g i j = g' i j) : jm_setK M k g = jm_setK M k g' := by
  rw [show g = g' from funext fun i => funext fun j => h i j]
theorem jb_nb : vp_nar .boolean (nI 1) = nI 1 := by decide
theorem yFlu {d T w : Nat} {m : Int32} {N : jm_M} (hY : jy_S N) (hw : w < 4) (hT : T ≤ 100) (hTn : jm_I N 31 0 34 = nI T) : ∀ f k g, k + f = T → jm_D (d + 1) 136 37 [some (.inr (some (31, 0))), some (.inl (nI w)), some (.inl m), some (.inl (nI (k + 1)))] [] (jm_setK N 67 g) = jm_D (d + 1) 136 58 [some (.inr (some (31, 0))), some (.inl (nI w)), some (.inl m), some (.inl (nI (T + 1)))] [] (jm_setK N 67 (fun i j => if i = 0 ∧ k + 1 ≤ j ∧ j ≤ T ∧ jy_kp N w (j - 1) = true then nI 1 else g i j)) := by
  intro f
  induction f with
  | zero =>
    intro k g hk
    have hk : k = T := by omega
    subst hk
    have c1 : nI k < nI (k + 1) := nI_lt (by omega) (by omega)
    have hTn' : jm_I (jm_setK N 67 g) 31 0 34 = nI k := hTn
    rw [e136_37]
    simp only [e136_38, e136_39, e136_40, hTn', if_pos c1]
    exact congrArg _ (jk_ex fun i j => (if_neg (fun e => by omega)).symm)
  | succ f ih =>
    intro k g hk
    have c1 : ¬ nI T < nI (k + 1) := nI_nlt (by omega) (by omega)
    have hTn' : jm_I (jm_setK N 67 g) 31 0 34 = nI T := hTn
    have hY' : jy_S (jm_setK N 67 g) := hY
    have hlg := yLg (d := d) hY' (show k + 1 < 101 by omega)
    rw [e136_37]
    by_cases a1 : jm_I N 64 0 (k + 1) = nI 2 ∨ jm_I N 64 0 (k + 1) = nI 3
    · have b1 : (decide (jm_I N 64 0 (k + 1) = nI 2) || decide (jm_I N 64 0 (k + 1) = nI 3)) = true := by
        rcases a1 with a1 | a1
        · rw [decide_eq_true a1]; rfl
        · rw [decide_eq_true a1, Bool.or_true]
      rw [if_pos (show jm_I (jm_setK N 67 g) 64 0 (k + 1) = nI 2 ∨ jm_I (jm_setK N 67 g) 64 0 (k + 1) = nI 3 from a1)] at hlg
      by_cases a2 : jm_I N 63 0 (k + 1) = nI w
      · have hp : jy_kp N w k = true := by unfold jy_kp; rw [b1, decide_eq_true a2]; rfl
        have a2' : jm_I (jm_setK N 67 g) 63 0 (k + 1) = nI w := a2
        simp only [e136_0, e136_1, e136_2, e136_3, e136_4, e136_5, e136_6, e136_7, e136_8, e136_9, e136_10, e136_11, e136_12, e136_13, e136_14, e136_15, e136_16, e136_17, e136_18, e136_19, e136_20, e136_21, e136_22, e136_23, e136_24, e136_25, e136_26, e136_27, e136_28, e136_29, e136_30, e136_31, e136_32, e136_33, e136_34, e136_35, e136_36, e136_38, e136_39, e136_40, e136_41, e136_42, e136_43, e136_44, e136_45, e136_46, e136_47, e136_48, e136_49, e136_50, e136_51, e136_52, e136_53, e136_54, e136_55, e136_56, e136_57, e136_59, e136_60, ys_0 hY', ys_1 hY', ys_2 hY', ys_3 hY', ys_4 hY', ys_5 hY', ys_6 hY', ys_7 hY', ys_8 hY', ys_9 hY', ys_10 hY', ys_11 hY', ys_12 hY', ys_13 hY', ys_14 hY', ys_15 hY', ys_16 hY', ys_17 hY', ys_18 hY', ys_19 hY', ys_20 hY', ys_21 hY', ys_22 hY', ys_23 hY', ys_24 hY', ys_25 hY', ys_26 hY', ys_27 hY', ys_28 hY', ys_29 hY', ys_30 hY', ys_31 hY', ys_32 hY', ys_33 hY', ys_34 hY', ys_35 hY', ys_36 hY', ys_37 hY', ys_38 hY', ys_39 hY', ys_40 hY', ys_41 hY', ys_42 hY', ys_43 hY', ys_44 hY', ys_45 hY', ys_46 hY', ys_47 hY', ys_48 hY', ys_49 hY', ys_50 hY', ys_51 hY', ys_52 hY', ys_53 hY', ys_54 hY', ys_55 hY', ys_56 hY', ys_57 hY', ys_58 hY', ys_59 hY', ys_60 hY', ys_61 hY', ys_62 hY', ys_63 hY', ys_64 hY', ys_65 hY', ys_66 hY', ys_67 hY', ys_68 hY', ys_69 hY', ys_70 hY', ys_71 hY', ys_72 hY', ys_73 hY', ys_74 hY', ys_75 hY', ys_76 hY', ys_77 hY', hTn', if_neg c1, hlg, jb_some, jb_tl, nf_0_1, nf_0_2, nf_0_3, nf_0_4, nf_0_5, nf_0_6, nf_1_0, nf_1_2, nf_1_3, nf_1_4, nf_1_5, nf_1_6, nf_2_0, nf_2_1, nf_2_3, nf_2_4, nf_2_5, nf_2_6, nf_3_0, nf_3_1, nf_3_2, nf_3_4, nf_3_5, nf_3_6, nf_4_0, nf_4_1, nf_4_2, nf_4_3, nf_4_5, nf_4_6, nf_5_0, nf_5_1, nf_5_2, nf_5_3, nf_5_4, nf_5_6, nf_6_0, nf_6_1, nf_6_2, nf_6_3, nf_6_4, nf_6_5, if_false, if_true, jb_ix (show k + 1 < 101 by omega) (by decide), a2', nI_add, jb_nb, jk_set]
        rw [ih (k + 1) _ (by omega)]
        refine congrArg _ (jk_ex fun i j => ?_)
        by_cases hj : j = k + 1
        · subst hj
          by_cases hi : i = 0
          · rw [if_neg (fun e => by omega), if_pos ⟨hi, rfl⟩, if_pos ⟨hi, Nat.le_refl _, by omega, hp⟩]
          · rw [if_neg (fun e => hi e.1), if_neg (fun e => hi e.1), if_neg (fun e => hi e.1)]
        · by_cases hc : i = 0 ∧ k + 1 + 1 ≤ j ∧ j ≤ T ∧ jy_kp N w (j - 1) = true
          · rw [if_pos hc, if_pos ⟨hc.1, by omega, hc.2.2⟩]
          · rw [if_neg hc, if_neg (fun e => hj e.2), if_neg (fun e => hc ⟨e.1, by omega, e.2.2⟩)]
      · have hp : jy_kp N w k = false := by unfold jy_kp; rw [b1, decide_eq_false a2]; rfl
        have a2' : ¬ jm_I (jm_setK N 67 g) 63 0 (k + 1) = nI w := a2
        simp only [e136_0, e136_1, e136_2, e136_3, e136_4, e136_5, e136_6, e136_7, e136_8, e136_9, e136_10, e136_11, e136_12, e136_13, e136_14, e136_15, e136_16, e136_17, e136_18, e136_19, e136_20, e136_21, e136_22, e136_23, e136_24, e136_25, e136_26, e136_27, e136_28, e136_29, e136_30, e136_31, e136_32, e136_33, e136_34, e136_35, e136_36, e136_38, e136_39, e136_40, e136_41, e136_42, e136_43, e136_44, e136_45, e136_46, e136_47, e136_48, e136_49, e136_50, e136_51, e136_52, e136_53, e136_54, e136_55, e136_56, e136_57, e136_59, e136_60, ys_0 hY', ys_1 hY', ys_2 hY', ys_3 hY', ys_4 hY', ys_5 hY', ys_6 hY', ys_7 hY', ys_8 hY', ys_9 hY', ys_10 hY', ys_11 hY', ys_12 hY', ys_13 hY', ys_14 hY', ys_15 hY', ys_16 hY', ys_17 hY', ys_18 hY', ys_19 hY', ys_20 hY', ys_21 hY', ys_22 hY', ys_23 hY', ys_24 hY', ys_25 hY', ys_26 hY', ys_27 hY', ys_28 hY', ys_29 hY', ys_30 hY', ys_31 hY', ys_32 hY', ys_33 hY', ys_34 hY', ys_35 hY', ys_36 hY', ys_37 hY', ys_38 hY', ys_39 hY', ys_40 hY', ys_41 hY', ys_42 hY', ys_43 hY', ys_44 hY', ys_45 hY', ys_46 hY', ys_47 hY', ys_48 hY', ys_49 hY', ys_50 hY', ys_51 hY', ys_52 hY', ys_53 hY', ys_54 hY', ys_55 hY', ys_56 hY', ys_57 hY', ys_58 hY', ys_59 hY', ys_60 hY', ys_61 hY', ys_62 hY', ys_63 hY', ys_64 hY', ys_65 hY', ys_66 hY', ys_67 hY', ys_68 hY', ys_69 hY', ys_70 hY', ys_71 hY', ys_72 hY', ys_73 hY', ys_74 hY', ys_75 hY', ys_76 hY', ys_77 hY', hTn', if_neg c1, hlg, jb_some, jb_tl, nf_0_1, nf_0_2, nf_0_3, nf_0_4, nf_0_5, nf_0_6, nf_1_0, nf_1_2, nf_1_3, nf_1_4, nf_1_5, nf_1_6, nf_2_0, nf_2_1, nf_2_3, nf_2_4, nf_2_5, nf_2_6, nf_3_0, nf_3_1, nf_3_2, nf_3_4, nf_3_5, nf_3_6, nf_4_0, nf_4_1, nf_4_2, nf_4_3, nf_4_5, nf_4_6, nf_5_0, nf_5_1, nf_5_2, nf_5_3, nf_5_4, nf_5_6, nf_6_0, nf_6_1, nf_6_2, nf_6_3, nf_6_4, nf_6_5, if_false, if_true, jb_ix (show k + 1 < 101 by omega) (by decide), if_neg a2', nI_add]
        rw [ih (k + 1) _ (by omega)]
        refine congrArg _ (jk_ex fun i j => ?_)
        by_cases hc : i = 0 ∧ k + 1 + 1 ≤ j ∧ j ≤ T ∧ jy_kp N w (j - 1) = true
        · rw [if_pos hc, if_pos ⟨hc.1, by omega, hc.2.2⟩]
        · rw [if_neg hc, if_neg (fun e => hc ⟨e.1, ?_, e.2.2⟩)]
          rcases Nat.eq_or_lt_of_le e.2.1 with h | h
          · rw [← h, Nat.add_sub_cancel, hp] at e
            exact absurd e.2.2.2 (by decide)
          · exact h
    · have b1 : (decide (jm_I N 64 0 (k + 1) = nI 2) || decide (jm_I N 64 0 (k + 1) = nI 3)) = false := by
        rw [decide_eq_false (fun e => a1 (Or.inl e)), decide_eq_false (fun e => a1 (Or.inr e))]; rfl
      have hp : jy_kp N w k = false := by unfold jy_kp; rw [b1]; rfl
      rw [if_neg (show ¬ (jm_I (jm_setK N 67 g) 64 0 (k + 1) = nI 2 ∨ jm_I (jm_setK N 67 g) 64 0 (k + 1) = nI 3) from a1)] at hlg
      simp only [e136_0, e136_1, e136_2, e136_3, e136_4, e136_5, e136_6, e136_7, e136_8, e136_9, e136_10, e136_11, e136_12, e136_13, e136_14, e136_15, e136_16, e136_17, e136_18, e136_19, e136_20, e136_21, e136_22, e136_23, e136_24, e136_25, e136_26, e136_27, e136_28, e136_29, e136_30, e136_31, e136_32, e136_33, e136_34, e136_35, e136_36, e136_38, e136_39, e136_40, e136_41, e136_42, e136_43, e136_44, e136_45, e136_46, e136_47, e136_48, e136_49, e136_50, e136_51, e136_52, e136_53, e136_54, e136_55, e136_56, e136_57, e136_59, e136_60, ys_0 hY', ys_1 hY', ys_2 hY', ys_3 hY', ys_4 hY', ys_5 hY', ys_6 hY', ys_7 hY', ys_8 hY', ys_9 hY', ys_10 hY', ys_11 hY', ys_12 hY', ys_13 hY', ys_14 hY', ys_15 hY', ys_16 hY', ys_17 hY', ys_18 hY', ys_19 hY', ys_20 hY', ys_21 hY', ys_22 hY', ys_23 hY', ys_24 hY', ys_25 hY', ys_26 hY', ys_27 hY', ys_28 hY', ys_29 hY', ys_30 hY', ys_31 hY', ys_32 hY', ys_33 hY', ys_34 hY', ys_35 hY', ys_36 hY', ys_37 hY', ys_38 hY', ys_39 hY', ys_40 hY', ys_41 hY', ys_42 hY', ys_43 hY', ys_44 hY', ys_45 hY', ys_46 hY', ys_47 hY', ys_48 hY', ys_49 hY', ys_50 hY', ys_51 hY', ys_52 hY', ys_53 hY', ys_54 hY', ys_55 hY', ys_56 hY', ys_57 hY', ys_58 hY', ys_59 hY', ys_60 hY', ys_61 hY', ys_62 hY', ys_63 hY', ys_64 hY', ys_65 hY', ys_66 hY', ys_67 hY', ys_68 hY', ys_69 hY', ys_70 hY', ys_71 hY', ys_72 hY', ys_73 hY', ys_74 hY', ys_75 hY', ys_76 hY', ys_77 hY', hTn', if_neg c1, hlg, jb_some, jb_tl, if_true, nI_add]
      rw [ih (k + 1) _ (by omega)]
      refine congrArg _ (jk_ex fun i j => ?_)
      by_cases hc : i = 0 ∧ k + 1 + 1 ≤ j ∧ j ≤ T ∧ jy_kp N w (j - 1) = true
      · rw [if_pos hc, if_pos ⟨hc.1, by omega, hc.2.2⟩]
      · rw [if_neg hc, if_neg (fun e => hc ⟨e.1, ?_, e.2.2⟩)]
        rcases Nat.eq_or_lt_of_le e.2.1 with h | h
        · rw [← h, Nat.add_sub_cancel, hp] at e
          exact absurd e.2.2.2 (by decide)
        · exact h
