/-! Calls that change something: advance, clear, code. -/
/-- what a pair of calls comes to -/
def jr_B (M M' : jm_M) : Prop := (jm_al M').length ≤ (jm_al M).length + 8 ∧ jm_sl M' ≤ jm_sl M + 1000
def jr_O (E C : Nat) (M N : jm_M) (X Y : jm_Z) : Prop := ∃ r M' N', X = some (some (.inl r), M') ∧ Y = some (some (.inl r), N') ∧ jr_R E C M' N' ∧ jr_B M M' ∧ jr_B N N'
theorem jr_B0 (M : jm_M) : jr_B M M := ⟨Nat.le_add_right _ _, Nat.le_add_right _ _⟩
theorem rW_E {E E' C : Nat} {M N : jm_M} {w : Nat} (hE : E ≤ E') (h : rW E C M N w) : rW E' C M N w := by
  obtain ⟨s, h1, h2, h3, h4, h5, h6⟩ := h
  refine ⟨s, h1, h2, h3, h4, h5, fun hs => ?_⟩
  obtain ⟨t, a1, a2, a3, a4, a5, a6, a7, a8, a9, b1, b2, b3, b4, b5, b6, b7, b8, b9, c1⟩ := h6 hs
  refine ⟨t, a1, a2, a3, a4, a5, a6, a7, a8, a9, b1, b2, b3, b4, b5, b6, b7, b8, fun hs => ?_, c1⟩
  obtain ⟨f, d1, d2, d3⟩ := b9 hs
  exact ⟨f, d1, Nat.le_trans d2 hE, d3⟩
theorem rW_st {E C : Nat} {M N : jm_M} {w : Nat} (h : rW E C M N w) : ∃ s, s ≤ 4 ∧ jm_I M 11 w 6 = nI s ∧ jm_I N 45 0 w = nI s ∧ (3 ≤ s → ∃ f, 1 ≤ f ∧ f ≤ E ∧ jm_I M 11 w 11 = nI f ∧ jm_I N 59 0 w = nI f) := by
  obtain ⟨s, h1, h2, h3, h4, h5, h6⟩ := h
  refine ⟨s, h1, h2, h3, fun hs => ?_⟩
  obtain ⟨t, ht⟩ := h6 (by omega)
  exact ht.2.2.2.2.2.2.2.2.2.2.2.2.2.2.2.2.2.1 hs
theorem xEp {d : Nat} {M : jm_M} {w s : Nat} (h1 : s ≤ 4) (h : jm_I M 11 w 6 = nI s) : jm_D d 78 0 [some (.inr (some (11, w)))] [] M = some (some (.inl (nI (if 3 ≤ s then 1 else 0))), M) := by
  rcases (show s = 0 ∨ s = 1 ∨ s = 2 ∨ s = 3 ∨ s = 4 by omega) with rfl | rfl | rfl | rfl | rfl <;>
    simp only [e78_0, e78_1, e78_2, e78_3, e78_4, e78_5, e78_6, e78_7, e78_8, e78_9, e78_10, e78_11_0, e78_11_1, h, nf_0_1, nf_0_2, nf_0_3, nf_0_4, nf_0_5, nf_0_6, nf_1_0, nf_1_2, nf_1_3, nf_1_4, nf_1_5, nf_1_6, nf_2_0, nf_2_1, nf_2_3, nf_2_4, nf_2_5, nf_2_6, nf_3_0, nf_3_1, nf_3_2, nf_3_4, nf_3_5, nf_3_6, nf_4_0, nf_4_1, nf_4_2, nf_4_3, nf_4_5, nf_4_6, nf_5_0, nf_5_1, nf_5_2, nf_5_3, nf_5_4, nf_5_6, nf_6_0, nf_6_1, nf_6_2, nf_6_3, nf_6_4, nf_6_5, if_false, if_true, Nat.reduceLeDiff]
theorem yEp {d : Nat} {N : jm_M} {w s : Nat} (hY : jy_S N) (hw : w < 4) (h1 : s ≤ 4) (h : jm_I N 45 0 w = nI s) : jm_D d 135 0 [some (.inr (some (31, 0))), some (.inl (nI w))] [] N = some (some (.inl (nI (if 3 ≤ s then 1 else 0))), N) := by
  rcases (show s = 0 ∨ s = 1 ∨ s = 2 ∨ s = 3 ∨ s = 4 by omega) with rfl | rfl | rfl | rfl | rfl <;>
    simp only [e135_0, e135_1, e135_2, e135_3, e135_4, e135_5, e135_6, e135_7, e135_8, e135_9, e135_10, e135_11, e135_12, e135_13, e135_14, e135_15_0, e135_15_1, ys_0 hY, ys_1 hY, ys_2 hY, ys_3 hY, ys_4 hY, ys_5 hY, ys_6 hY, ys_7 hY, ys_8 hY, ys_9 hY, ys_10 hY, ys_11 hY, ys_12 hY, ys_13 hY, ys_14 hY, ys_15 hY, ys_16 hY, ys_17 hY, ys_18 hY, ys_19 hY, ys_20 hY, ys_21 hY, ys_22 hY, ys_23 hY, ys_24 hY, ys_25 hY, ys_26 hY, ys_27 hY, ys_28 hY, ys_29 hY, ys_30 hY, ys_31 hY, ys_32 hY, ys_33 hY, ys_34 hY, ys_35 hY, ys_36 hY, ys_37 hY, ys_38 hY, ys_39 hY, ys_40 hY, ys_41 hY, ys_42 hY, ys_43 hY, ys_44 hY, ys_45 hY, ys_46 hY, ys_47 hY, ys_48 hY, ys_49 hY, ys_50 hY, ys_51 hY, ys_52 hY, ys_53 hY, ys_54 hY, ys_55 hY, ys_56 hY, ys_57 hY, ys_58 hY, ys_59 hY, ys_60 hY, ys_61 hY, ys_62 hY, ys_63 hY, ys_64 hY, ys_65 hY, ys_66 hY, ys_67 hY, ys_68 hY, ys_69 hY, ys_70 hY, ys_71 hY, ys_72 hY, ys_73 hY, ys_74 hY, ys_75 hY, ys_76 hY, ys_77 hY, jb_ix hw (by decide), h, nf_0_1, nf_0_2, nf_0_3, nf_0_4, nf_0_5, nf_0_6, nf_1_0, nf_1_2, nf_1_3, nf_1_4, nf_1_5, nf_1_6, nf_2_0, nf_2_1, nf_2_3, nf_2_4, nf_2_5, nf_2_6, nf_3_0, nf_3_1, nf_3_2, nf_3_4, nf_3_5, nf_3_6, nf_4_0, nf_4_1, nf_4_2, nf_4_3, nf_4_5, nf_4_6, nf_5_0, nf_5_1, nf_5_2, nf_5_3, nf_5_4, nf_5_6, nf_6_0, nf_6_1, nf_6_2, nf_6_3, nf_6_4, nf_6_5, if_false, if_true, Nat.reduceLeDiff]
theorem xAdv {d E C e : Nat} {M N : jm_M} (hX : jx_S M) (hY : jy_S N) (hW : ∀ w, w < 4 → rW E C M N w) (hM : jm_I M 0 0 5 = nI e) (hN : jm_I N 31 0 33 = nI e) : ∀ f w, w + f = 4 →
    (jm_D (d + 1) 77 2 [some (.inr (some (0, 0))), some (.inl (nI w))] [] M = some (some (.inl (-2)), M) ∧ jm_D (d + 1) 134 2 [some (.inr (some (31, 0))), some (.inl (nI w))] [] N = some (some (.inl (-2)), N)) ∨
    (jm_D (d + 1) 77 2 [some (.inr (some (0, 0))), some (.inl (nI w))] [] M = some (some (.inl (nI (e + 1))), jm_setI M 0 0 5 (nI (e + 1))) ∧ jm_D (d + 1) 134 2 [some (.inr (some (31, 0))), some (.inl (nI w))] [] N = some (some (.inl (nI (e + 1))), jm_setI N 31 0 33 (nI (e + 1)))) := by
  intro f
  induction f with
  | zero =>
    intro w hw
    have hw : w = 4 := by omega
    subst hw
    right
    constructor
    · simp only [e77_0, e77_1, e77_2, e77_3, e77_4, e77_5, e77_6, e77_7, e77_8, e77_9, e77_10, e77_11, e77_12, e77_13, e77_14, e77_15, e77_16, e77_17, e77_18, e77_19, e77_20, e77_21, e77_22, e77_23, e77_24, e77_25, e77_26, e77_27, e77_28, e77_29, e77_30, e77_31, hM, Int32.le_refl, if_true, nI_add, jb_II, and_self]
    · simp only [e134_0, e134_1, e134_2, e134_3, e134_4, e134_5, e134_6, e134_7, e134_8, e134_9, e134_10, e134_11, e134_12, e134_13, e134_14, e134_15, e134_16, e134_17, e134_18, e134_19, e134_20, e134_21, e134_22, e134_23, e134_24, e134_25, e134_26, e134_27, e134_28, hN, Int32.le_refl, if_true, nI_add, jb_II, and_self]
  | succ f ih =>
    intro w hf
    have hw : w < 4 := by omega
    have ih := ih (w + 1) (by omega)
    have c1 : ¬ nI 4 ≤ nI w := nI_ge (by omega) (by decide)
    obtain ⟨s, h1, h2, h3, h4⟩ := rW_st (hW w hw)
    by_cases hs : 3 ≤ s
    · obtain ⟨g, -, -, g1, g2⟩ := h4 hs
      by_cases hg : nI e ≤ nI g
      · rw [e77_2, e134_2]
        simp only [e77_0, e77_1, e77_3, e77_4, e77_5, e77_6, e77_7, e77_8, e77_9, e77_10, e77_11, e77_12, e77_13, e77_14, e77_15, e77_16, e77_17, e77_18, e77_19, e77_20, e77_21, e77_22, e77_23, e77_24, e77_25, e77_26, e77_27, e77_28, e77_29, e77_30, e77_31, xs_0 hX, xs_1 hX, xs_2 hX, xs_3 hX, xs_4 hX, xs_5 hX, xs_6 hX, xs_7 hX, xs_8 hX, xs_9 hX, xs_10 hX, xs_11 hX, xs_12 hX, xs_13 hX, xs_14 hX, xs_15 hX, xs_16 hX, xs_17 hX, xs_18 hX, xs_19 hX, xw_0 hX hw, xw_1 hX hw, xw_2 hX hw, xw_3 hX hw, xw_4 hX hw, xw_5 hX hw, xw_6 hX hw, xw_7 hX hw, xw_8 hX hw, if_neg c1, jb_ix hw (by decide), xEp h1 h2, jb_some, jb_tl, if_pos hs, nf_0_1, nf_0_2, nf_0_3, nf_0_4, nf_0_5, nf_0_6, nf_1_0, nf_1_2, nf_1_3, nf_1_4, nf_1_5, nf_1_6, nf_2_0, nf_2_1, nf_2_3, nf_2_4, nf_2_5, nf_2_6, nf_3_0, nf_3_1, nf_3_2, nf_3_4, nf_3_5, nf_3_6, nf_4_0, nf_4_1, nf_4_2, nf_4_3, nf_4_5, nf_4_6, nf_5_0, nf_5_1, nf_5_2, nf_5_3, nf_5_4, nf_5_6, nf_6_0, nf_6_1, nf_6_2, nf_6_3, nf_6_4, nf_6_5, if_false, g1, hM, if_pos hg, nI_add,
          e134_0, e134_1, e134_3, e134_4, e134_5, e134_6, e134_7, e134_8, e134_9, e134_10, e134_11, e134_12, e134_13, e134_14, e134_15, e134_16, e134_17, e134_18, e134_19, e134_20, e134_21, e134_22, e134_23, e134_24, e134_25, e134_26, e134_27, e134_28, ys_0 hY, ys_1 hY, ys_2 hY, ys_3 hY, ys_4 hY, ys_5 hY, ys_6 hY, ys_7 hY, ys_8 hY, ys_9 hY, ys_10 hY, ys_11 hY, ys_12 hY, ys_13 hY, ys_14 hY, ys_15 hY, ys_16 hY, ys_17 hY, ys_18 hY, ys_19 hY, ys_20 hY, ys_21 hY, ys_22 hY, ys_23 hY, ys_24 hY, ys_25 hY, ys_26 hY, ys_27 hY, ys_28 hY, ys_29 hY, ys_30 hY, ys_31 hY, ys_32 hY, ys_33 hY, ys_34 hY, ys_35 hY, ys_36 hY, ys_37 hY, ys_38 hY, ys_39 hY, ys_40 hY, ys_41 hY, ys_42 hY, ys_43 hY, ys_44 hY, ys_45 hY, ys_46 hY, ys_47 hY, ys_48 hY, ys_49 hY, ys_50 hY, ys_51 hY, ys_52 hY, ys_53 hY, ys_54 hY, ys_55 hY, ys_56 hY, ys_57 hY, ys_58 hY, ys_59 hY, ys_60 hY, ys_61 hY, ys_62 hY, ys_63 hY, ys_64 hY, ys_65 hY, ys_66 hY, ys_67 hY, ys_68 hY, ys_69 hY, ys_70 hY, ys_71 hY, ys_72 hY, ys_73 hY, ys_74 hY, ys_75 hY, ys_76 hY, ys_77 hY, yEp hY hw h1 h3, g2, hN]
        exact ih
      · left
        simp only [e77_0, e77_1, e77_2, e77_3, e77_4, e77_5, e77_6, e77_7, e77_8, e77_9, e77_10, e77_11, e77_12, e77_13, e77_14, e77_15, e77_16, e77_17, e77_18, e77_19, e77_20, e77_21, e77_22, e77_23, e77_24, e77_25, e77_26, e77_27, e77_28, e77_29, e77_30, e77_31, xs_0 hX, xs_1 hX, xs_2 hX, xs_3 hX, xs_4 hX, xs_5 hX, xs_6 hX, xs_7 hX, xs_8 hX, xs_9 hX, xs_10 hX, xs_11 hX, xs_12 hX, xs_13 hX, xs_14 hX, xs_15 hX, xs_16 hX, xs_17 hX, xs_18 hX, xs_19 hX, xw_0 hX hw, xw_1 hX hw, xw_2 hX hw, xw_3 hX hw, xw_4 hX hw, xw_5 hX hw, xw_6 hX hw, xw_7 hX hw, xw_8 hX hw, if_neg c1, jb_ix hw (by decide), xEp h1 h2, jb_some, jb_tl, if_pos hs, nf_0_1, nf_0_2, nf_0_3, nf_0_4, nf_0_5, nf_0_6, nf_1_0, nf_1_2, nf_1_3, nf_1_4, nf_1_5, nf_1_6, nf_2_0, nf_2_1, nf_2_3, nf_2_4, nf_2_5, nf_2_6, nf_3_0, nf_3_1, nf_3_2, nf_3_4, nf_3_5, nf_3_6, nf_4_0, nf_4_1, nf_4_2, nf_4_3, nf_4_5, nf_4_6, nf_5_0, nf_5_1, nf_5_2, nf_5_3, nf_5_4, nf_5_6, nf_6_0, nf_6_1, nf_6_2, nf_6_3, nf_6_4, nf_6_5, if_false, g1, hM, if_neg hg,
          e134_0, e134_1, e134_2, e134_3, e134_4, e134_5, e134_6, e134_7, e134_8, e134_9, e134_10, e134_11, e134_12, e134_13, e134_14, e134_15, e134_16, e134_17, e134_18, e134_19, e134_20, e134_21, e134_22, e134_23, e134_24, e134_25, e134_26, e134_27, e134_28, ys_0 hY, ys_1 hY, ys_2 hY, ys_3 hY, ys_4 hY, ys_5 hY, ys_6 hY, ys_7 hY, ys_8 hY, ys_9 hY, ys_10 hY, ys_11 hY, ys_12 hY, ys_13 hY, ys_14 hY, ys_15 hY, ys_16 hY, ys_17 hY, ys_18 hY, ys_19 hY, ys_20 hY, ys_21 hY, ys_22 hY, ys_23 hY, ys_24 hY, ys_25 hY, ys_26 hY, ys_27 hY, ys_28 hY, ys_29 hY, ys_30 hY, ys_31 hY, ys_32 hY, ys_33 hY, ys_34 hY, ys_35 hY, ys_36 hY, ys_37 hY, ys_38 hY, ys_39 hY, ys_40 hY, ys_41 hY, ys_42 hY, ys_43 hY, ys_44 hY, ys_45 hY, ys_46 hY, ys_47 hY, ys_48 hY, ys_49 hY, ys_50 hY, ys_51 hY, ys_52 hY, ys_53 hY, ys_54 hY, ys_55 hY, ys_56 hY, ys_57 hY, ys_58 hY, ys_59 hY, ys_60 hY, ys_61 hY, ys_62 hY, ys_63 hY, ys_64 hY, ys_65 hY, ys_66 hY, ys_67 hY, ys_68 hY, ys_69 hY, ys_70 hY, ys_71 hY, ys_72 hY, ys_73 hY, ys_74 hY, ys_75 hY, ys_76 hY, ys_77 hY, yEp hY hw h1 h3, g2, hN, and_self]
    · rw [e77_2, e134_2]
      simp only [e77_0, e77_1, e77_3, e77_4, e77_5, e77_6, e77_7, e77_8, e77_9, e77_10, e77_11, e77_12, e77_13, e77_14, e77_15, e77_16, e77_17, e77_18, e77_19, e77_20, e77_21, e77_22, e77_23, e77_24, e77_25, e77_26, e77_27, e77_28, e77_29, e77_30, e77_31, xs_0 hX, xs_1 hX, xs_2 hX, xs_3 hX, xs_4 hX, xs_5 hX, xs_6 hX, xs_7 hX, xs_8 hX, xs_9 hX, xs_10 hX, xs_11 hX, xs_12 hX, xs_13 hX, xs_14 hX, xs_15 hX, xs_16 hX, xs_17 hX, xs_18 hX, xs_19 hX, xw_0 hX hw, xw_1 hX hw, xw_2 hX hw, xw_3 hX hw, xw_4 hX hw, xw_5 hX hw, xw_6 hX hw, xw_7 hX hw, xw_8 hX hw, if_neg c1, jb_ix hw (by decide), xEp h1 h2, jb_some, jb_tl, if_neg hs, if_true, nI_add,
          e134_0, e134_1, e134_3, e134_4, e134_5, e134_6, e134_7, e134_8, e134_9, e134_10, e134_11, e134_12, e134_13, e134_14, e134_15, e134_16, e134_17, e134_18, e134_19, e134_20, e134_21, e134_22, e134_23, e134_24, e134_25, e134_26, e134_27, e134_28, ys_0 hY, ys_1 hY, ys_2 hY, ys_3 hY, ys_4 hY, ys_5 hY, ys_6 hY, ys_7 hY, ys_8 hY, ys_9 hY, ys_10 hY, ys_11 hY, ys_12 hY, ys_13 hY, ys_14 hY, ys_15 hY, ys_16 hY, ys_17 hY, ys_18 hY, ys_19 hY, ys_20 hY, ys_21 hY, ys_22 hY, ys_23 hY, ys_24 hY, ys_25 hY, ys_26 hY, ys_27 hY, ys_28 hY, ys_29 hY, ys_30 hY, ys_31 hY, ys_32 hY, ys_33 hY, ys_34 hY, ys_35 hY, ys_36 hY, ys_37 hY, ys_38 hY, ys_39 hY, ys_40 hY, ys_41 hY, ys_42 hY, ys_43 hY, ys_44 hY, ys_45 hY, ys_46 hY, ys_47 hY, ys_48 hY, ys_49 hY, ys_50 hY, ys_51 hY, ys_52 hY, ys_53 hY, ys_54 hY, ys_55 hY, ys_56 hY, ys_57 hY, ys_58 hY, ys_59 hY, ys_60 hY, ys_61 hY, ys_62 hY, ys_63 hY, ys_64 hY, ys_65 hY, ys_66 hY, ys_67 hY, ys_68 hY, ys_69 hY, ys_70 hY, ys_71 hY, ys_72 hY, ys_73 hY, ys_74 hY, ys_75 hY, ys_76 hY, ys_77 hY, yEp hY hw h1 h3]
      exact ih
/-- advance -/
theorem sm_advance {d E C : Nat} {M N : jm_M} (h : jr_R E C M N) (hE2 : E < 2 ^ 20) : jr_O (E + 1) C M N (jm_D (d + 1) 77 0 [some (.inr (some (0, 0))), none] [] M) (jm_D (d + 1) 134 0 [some (.inr (some (31, 0))), none] [] N) := by
  obtain ⟨hX, hY, hN, hP, hS, hL, hW, hT, hG, ⟨e, e1, e2, e3, e4, e5⟩, b, ⟨e', b0, b1, b2⟩, b3⟩ := h
  have b2 : e = e' := (nI_eq (by omega) b0).mp (e4.symm.trans b2)
  subst b2
  have z1 : jm_D (d + 1) 77 0 [some (.inr (some (0, 0))), none] [] M = jm_D (d + 1) 77 2 [some (.inr (some (0, 0))), some (.inl (nI 0))] [] M := by rw [e77_0, e77_1]
  have z2 : jm_D (d + 1) 134 0 [some (.inr (some (31, 0))), none] [] N = jm_D (d + 1) 134 2 [some (.inr (some (31, 0))), some (.inl (nI 0))] [] N := by rw [e134_0, e134_1]
  rw [z1, z2]
  rcases xAdv (d := d) hX hY hW e3 e4 4 0 rfl with ⟨a1, a2⟩ | ⟨a1, a2⟩
  · refine ⟨_, _, _, a1, a2, ⟨hX, hY, hN, hP, hS, hL, fun w hw => rW_E (by omega) (hW w hw), hT, hG, ⟨e, e1, by omega, e3, e4, fun w hw => ?_⟩, b, ⟨e, b0, b1, e4⟩, b3⟩, jr_B0 _, jr_B0 _⟩
    obtain ⟨m, m1, m2⟩ := e5 w hw
    exact ⟨m, by omega, m2⟩
  · refine ⟨_, _, _, a1, a2, ⟨hX, hY, hN, hP, hS, hL, fun w hw => rW_E (Nat.le_succ E) (hW w hw), hT, hG, ⟨e + 1, by omega, by omega, rfl, rfl, fun w hw => ?_⟩, b, ⟨e + 1, by omega, by omega, rfl⟩, b3⟩, jr_B0 _, jr_B0 _⟩
    obtain ⟨m, m1, m2⟩ := e5 w hw
    exact ⟨m, by omega, m2⟩
