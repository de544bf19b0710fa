/-! One step of installing. -/
theorem sm_inst {d d' E C w t : Nat} {M N : jm_M} (h : jr_V E C M N w 4 t) (hC : C < 2 ^ 31) (hw : w < 4) :
    jr_P E C M N w (jm_D (d + 6) 67 0 [some (.inr (some (11, w))), some (.inr (some (5, 0))), none] [] M) (jm_D (d' + 6) 129 0 [some (.inr (some (31, 0))), some (.inl (nI w)), none, none] [] N) ∨
    ((∀ k, k < 32 → ¬ jm_I N 51 0 (32 * w + k) = nI 0 → ¬ jm_I N 55 0 (32 * w + k) = nI 0) ∧ jm_D (d + 6) 67 0 [some (.inr (some (11, w))), some (.inr (some (5, 0))), none] [] M = some (some (.inl (nI 2)), jm_setI (jm_setI M 25 t 4 (nI 2)) 11 w 6 (nI 0)) ∧ jm_D (d' + 6) 129 0 [some (.inr (some (31, 0))), some (.inl (nI w)), none, none] [] N = jm_bind (jm_D (d' + 5) 130 0 [some (.inr (some (31, 0))), some (.inl (nI w)), none, none] [] N) (fun r M1 => jm_D (d' + 6) 129 31 [some (.inr (some (31, 0))), some (.inl (nI w)), some (.inl (nI 32)), none] (r.toList ++ []) M1)) := by
  have h' := h
  obtain ⟨hR, a1, a2, a3⟩ := h
  have hX := hR.1
  have hY := hR.2.1
  have h0 := hR.2.2.1.1 w hw
  have hT := hR.2.2.2.2.2.2.2.1
  obtain ⟨c1, f5, c3, c4, c5, c6, c7, c8, c9, d1, d2, d3, d4, d5, d6, d7, d8, d9, g1, g2, g3⟩ := a3
  obtain ⟨-, f1, f2, n1, n2, -⟩ := hT.2.2.2.2.2 t c1
  obtain ⟨⟨o, o1, o2, o3, o4⟩, hk4⟩ := g3 rfl
  have hcg : jb_fnd (jx_lw M w t 1) 32 0 = jb_fnd (jy_lw N w 55) 32 0 := by
    refine jb_fnd_congr 32 0 (fun k _ hk => ?_)
    have hk : k < 32 := by omega
    unfold jx_lw jy_lw
    have e26 : decide (jm_I M 26 (t + 4) k = nI 0) = decide (jm_I N 51 0 (32 * w + k) = nI 0) := by
      rcases d2 k hk with ⟨z1, z2⟩ | ⟨z1, ⟨-, z2⟩ | ⟨-, z2, -⟩, -⟩ <;> (rw [z1, z2] <;> decide)
    by_cases q26 : jm_I M 26 (t + 4) k = nI 0
    · rw [← e26, decide_eq_true q26]; rfl
    · rw [← e26, decide_eq_false q26]
      have := (hk4 k hk).2
      by_cases q55 : jm_I N 55 0 (32 * w + k) = nI 0
      · rw [decide_eq_true (this.mpr ⟨q26, q55⟩), decide_eq_true q55]; rfl
      · rw [decide_eq_false (fun z => q55 (this.mp z).2), decide_eq_false q55]; rfl
  have zc : jm_D (d + 5) 57 0 [some (.inr (some (11, w))), some (.inr (some (5, 0))), some (.inl (nI 1)), none] [] M = some (some (.inl (nI (jb_fnd (jy_lw N w 55) 32 0))), M) := by
    have := xLw (d := d + 4) hX hw h0 f5 f1 n1 (Or.inr rfl) 32 0 rfl
    rw [hcg] at this
    rw [e57_0, e57_1]
    exact this
  have zm : jm_D (d' + 6) 129 0 [some (.inr (some (31, 0))), some (.inl (nI w)), none, none] [] N = jm_D (d' + 6) 129 25 [some (.inr (some (31, 0))), some (.inl (nI w)), some (.inl (nI (jb_fnd (jy_lw N w 55) 32 0))), none] [] N := by
    rw [e129_0, e129_1]
    exact yLw129 hY hw 32 0 rfl
  rw [zm]
  have hle := jb_fnd_le (jy_lw N w 55) 32 0
  by_cases hk : jb_fnd (jy_lw N w 55) 32 0 = 32
  · right
    rw [hk] at zc ⊢
    have hno := jb_fnd_no 32 0 hk
    refine ⟨fun k hk z y => ?_, ?_, ?_⟩
    · have := hno k (Nat.zero_le _) (by omega)
      unfold jy_lw at this
      rw [decide_eq_false z, decide_eq_true y] at this
      exact absurd this (by decide)
    · simp only [e67_0, e67_1, e67_2, e67_3, e67_4, e67_5, e67_6, e67_7, e67_8, e67_9, e67_10, e67_11, e67_12, e67_13, e67_14, e67_15, e67_16, e67_17, e67_18, e67_19, e67_20, e67_21, e67_22, e67_23, e67_24, e67_25, e67_26, e67_27, e67_28, e67_29, e67_30, e67_31, e67_32, e67_33, zc, jb_some, jb_tl, if_true, f5]
    · simp only [e129_25, e129_26, e129_27, e129_28, e129_29, e129_30, if_true]
  · left
    have hk32 : jb_fnd (jy_lw N w 55) 32 0 < 32 := by omega
    have hat := jb_fnd_at (p := jy_lw N w 55) 32 0 (by omega)
    generalize jb_fnd (jy_lw N w 55) 32 0 = k at zc hat hk hk32 ⊢
    have hb : 32 * w + k < 128 := by omega
    have c32 : ¬ nI k = nI 32 := fun z => hk ((nI_eq (by omega) (by decide)).mp z)
    unfold jy_lw at hat
    simp only [Bool.and_eq_true, Bool.not_eq_true', decide_eq_false_iff_not, decide_eq_true_eq] at hat
    obtain ⟨w1, w2⟩ := hat
    rcases d2 k hk32 with ⟨z1, z2⟩ | ⟨z1, ⟨z2, z3⟩ | ⟨z2, z3, z4⟩, z5⟩
    · exact absurd z1 w1
    · have h22 := (hk4 k hk32).2.mpr ⟨by rw [z3]; decide, w2⟩
      refine ⟨nI 1, _, _, ?_, ?_, jr_inst (q := 1) (v := jm_I N 53 0 (32 * w + k)) h' hC hw hk32 h22 w1 w2 o4 o1 (Or.inl rfl), Or.inr (Or.inr ⟨rfl, 4, by decide, by decide, a2⟩), ⟨rfl, rfl⟩, ⟨rfl, rfl⟩⟩
      · simp only [e67_0, e67_1, e67_2, e67_3, e67_4, e67_5, e67_6, e67_7, e67_8, e67_9, e67_10, e67_11, e67_12, e67_13, e67_14, e67_15, e67_16, e67_17, e67_18, e67_19, e67_20, e67_21, e67_22, e67_23, e67_24, e67_25, e67_26, e67_27, e67_28, e67_29, e67_30, e67_31, e67_32, e67_33, e48_0, e48_1, e48_2, e48_3, e48_4, e48_5, e48_6, e48_7, e48_8, e48_9_0, e48_9_1, e68_0, e68_1, e68_2, e68_3, e68_4, e68_5, e68_6, e68_7, e68_8, e68_9, e68_10, e68_11, e68_12, e68_13, e68_14, e68_15, e68_16, e68_17, e68_18, e68_19, e68_20, e68_21, e68_22, e68_23, e68_24, e68_25, e68_26, e68_27, e68_28, xs_0 hX, xs_1 hX, xs_2 hX, xs_3 hX, xs_4 hX, xs_5 hX, xs_6 hX, xs_7 hX, xs_8 hX, xs_9 hX, xs_10 hX, xs_11 hX, xs_12 hX, xs_13 hX, xs_14 hX, xs_15 hX, xs_16 hX, xs_17 hX, xs_18 hX, xs_19 hX, jb_FI, jb_nI, zc, jb_some, jb_tl, jb_tn, if_neg c32, f5, f1, f2, n1, n2, jb_ix hk32 (by decide), z3, z5, o2, nf_0_1, nf_0_2, nf_0_3, nf_0_4, nf_0_5, nf_0_6, nf_1_0, nf_1_2, nf_1_3, nf_1_4, nf_1_5, nf_1_6, nf_2_0, nf_2_1, nf_2_3, nf_2_4, nf_2_5, nf_2_6, nf_3_0, nf_3_1, nf_3_2, nf_3_4, nf_3_5, nf_3_6, nf_4_0, nf_4_1, nf_4_2, nf_4_3, nf_4_5, nf_4_6, nf_5_0, nf_5_1, nf_5_2, nf_5_3, nf_5_4, nf_5_6, nf_6_0, nf_6_1, nf_6_2, nf_6_3, nf_6_4, nf_6_5, if_false, if_true]
        rfl
      · simp only [e129_0, e129_1, e129_3, e129_4, e129_5, e129_6, e129_7, e129_8, e129_9, e129_10, e129_11, e129_12, e129_13, e129_14, e129_15, e129_16, e129_17, e129_18, e129_19, e129_20, e129_21, e129_22, e129_23, e129_24, e129_25, e129_26, e129_27, e129_28, e129_29, e129_30, e129_31, e129_32, e129_33, e129_34, e129_35, e129_36, e129_37, e129_38, e129_39, e129_40, e129_41, e129_42, e129_43, e129_44, e129_45, e129_46, e129_47, e129_48, e129_49, e129_50, e129_51, e129_52, e129_53, e129_54, e129_55, e129_56, e129_57, e129_58, e129_59, e129_60, e129_61, e129_62, e129_63, e129_64, e129_65, e129_66, e129_67, e129_68, e129_69, e129_70, e129_71, e129_72, e129_73, e129_74, e129_75, e129_76, e129_77, e129_78, e129_79, e129_80, e129_81, e129_82, e129_83, e129_84, ys_0 hY, ys_1 hY, ys_2 hY, ys_3 hY, ys_4 hY, ys_5 hY, ys_6 hY, ys_7 hY, ys_8 hY, ys_9 hY, ys_10 hY, ys_11 hY, ys_12 hY, ys_13 hY, ys_14 hY, ys_15 hY, ys_16 hY, ys_17 hY, ys_18 hY, ys_19 hY, ys_20 hY, ys_21 hY, ys_22 hY, ys_23 hY, ys_24 hY, ys_25 hY, ys_26 hY, ys_27 hY, ys_28 hY, ys_29 hY, ys_30 hY, ys_31 hY, ys_32 hY, ys_33 hY, ys_34 hY, ys_35 hY, ys_36 hY, ys_37 hY, ys_38 hY, ys_39 hY, ys_40 hY, ys_41 hY, ys_42 hY, ys_43 hY, ys_44 hY, ys_45 hY, ys_46 hY, ys_47 hY, ys_48 hY, ys_49 hY, ys_50 hY, ys_51 hY, ys_52 hY, ys_53 hY, ys_54 hY, ys_55 hY, ys_56 hY, ys_57 hY, ys_58 hY, ys_59 hY, ys_60 hY, ys_61 hY, ys_62 hY, ys_63 hY, ys_64 hY, ys_65 hY, ys_66 hY, ys_67 hY, ys_68 hY, ys_69 hY, ys_70 hY, ys_71 hY, ys_72 hY, ys_73 hY, ys_74 hY, ys_75 hY, ys_76 hY, ys_77 hY, jb_FI, jb_nI, if_neg c32, pk_mul, nI_add, jb_ix hb (by decide), jb_ix hk32 (by decide), jb_ix hw (by decide), z2, if_true, jb_nb, jb_Iz (show 52 ≠ 38 by decide), jb_Iz (show 53 ≠ 38 by decide), jb_Iz (show 60 ≠ 38 by decide), jb_Iz (show 60 ≠ 39 by decide), o4]
        rfl
    · have h22 := (hk4 k hk32).2.mpr ⟨by rw [z3]; decide, w2⟩
      refine ⟨nI 1, _, _, ?_, ?_, jr_inst (q := 0) (v := nI 0) h' hC hw hk32 h22 w1 w2 o4 o1 (Or.inr ⟨rfl, rfl⟩), Or.inr (Or.inr ⟨rfl, 4, by decide, by decide, a2⟩), ⟨rfl, rfl⟩, ⟨rfl, rfl⟩⟩
      · simp only [e67_0, e67_1, e67_2, e67_3, e67_4, e67_5, e67_6, e67_7, e67_8, e67_9, e67_10, e67_11, e67_12, e67_13, e67_14, e67_15, e67_16, e67_17, e67_18, e67_19, e67_20, e67_21, e67_22, e67_23, e67_24, e67_25, e67_26, e67_27, e67_28, e67_29, e67_30, e67_31, e67_32, e67_33, e48_0, e48_1, e48_2, e48_3, e48_4, e48_5, e48_6, e48_7, e48_8, e48_9_0, e48_9_1, e68_0, e68_1, e68_2, e68_3, e68_4, e68_5, e68_6, e68_7, e68_8, e68_9, e68_10, e68_11, e68_12, e68_13, e68_14, e68_15, e68_16, e68_17, e68_18, e68_19, e68_20, e68_21, e68_22, e68_23, e68_24, e68_25, e68_26, e68_27, e68_28, xs_0 hX, xs_1 hX, xs_2 hX, xs_3 hX, xs_4 hX, xs_5 hX, xs_6 hX, xs_7 hX, xs_8 hX, xs_9 hX, xs_10 hX, xs_11 hX, xs_12 hX, xs_13 hX, xs_14 hX, xs_15 hX, xs_16 hX, xs_17 hX, xs_18 hX, xs_19 hX, jb_FI, jb_nI, zc, jb_some, jb_tl, jb_tn, if_neg c32, f5, f1, f2, n1, n2, jb_ix hk32 (by decide), z3, o2, nf_0_1, nf_0_2, nf_0_3, nf_0_4, nf_0_5, nf_0_6, nf_1_0, nf_1_2, nf_1_3, nf_1_4, nf_1_5, nf_1_6, nf_2_0, nf_2_1, nf_2_3, nf_2_4, nf_2_5, nf_2_6, nf_3_0, nf_3_1, nf_3_2, nf_3_4, nf_3_5, nf_3_6, nf_4_0, nf_4_1, nf_4_2, nf_4_3, nf_4_5, nf_4_6, nf_5_0, nf_5_1, nf_5_2, nf_5_3, nf_5_4, nf_5_6, nf_6_0, nf_6_1, nf_6_2, nf_6_3, nf_6_4, nf_6_5, if_false, if_true]
        rfl
      · simp only [e129_0, e129_1, e129_3, e129_4, e129_5, e129_6, e129_7, e129_8, e129_9, e129_10, e129_11, e129_12, e129_13, e129_14, e129_15, e129_16, e129_17, e129_18, e129_19, e129_20, e129_21, e129_22, e129_23, e129_24, e129_25, e129_26, e129_27, e129_28, e129_29, e129_30, e129_31, e129_32, e129_33, e129_34, e129_35, e129_36, e129_37, e129_38, e129_39, e129_40, e129_41, e129_42, e129_43, e129_44, e129_45, e129_46, e129_47, e129_48, e129_49, e129_50, e129_51, e129_52, e129_53, e129_54, e129_55, e129_56, e129_57, e129_58, e129_59, e129_60, e129_61, e129_62, e129_63, e129_64, e129_65, e129_66, e129_67, e129_68, e129_69, e129_70, e129_71, e129_72, e129_73, e129_74, e129_75, e129_76, e129_77, e129_78, e129_79, e129_80, e129_81, e129_82, e129_83, e129_84, ys_0 hY, ys_1 hY, ys_2 hY, ys_3 hY, ys_4 hY, ys_5 hY, ys_6 hY, ys_7 hY, ys_8 hY, ys_9 hY, ys_10 hY, ys_11 hY, ys_12 hY, ys_13 hY, ys_14 hY, ys_15 hY, ys_16 hY, ys_17 hY, ys_18 hY, ys_19 hY, ys_20 hY, ys_21 hY, ys_22 hY, ys_23 hY, ys_24 hY, ys_25 hY, ys_26 hY, ys_27 hY, ys_28 hY, ys_29 hY, ys_30 hY, ys_31 hY, ys_32 hY, ys_33 hY, ys_34 hY, ys_35 hY, ys_36 hY, ys_37 hY, ys_38 hY, ys_39 hY, ys_40 hY, ys_41 hY, ys_42 hY, ys_43 hY, ys_44 hY, ys_45 hY, ys_46 hY, ys_47 hY, ys_48 hY, ys_49 hY, ys_50 hY, ys_51 hY, ys_52 hY, ys_53 hY, ys_54 hY, ys_55 hY, ys_56 hY, ys_57 hY, ys_58 hY, ys_59 hY, ys_60 hY, ys_61 hY, ys_62 hY, ys_63 hY, ys_64 hY, ys_65 hY, ys_66 hY, ys_67 hY, ys_68 hY, ys_69 hY, ys_70 hY, ys_71 hY, ys_72 hY, ys_73 hY, ys_74 hY, ys_75 hY, ys_76 hY, ys_77 hY, jb_FI, jb_nI, if_neg c32, pk_mul, nI_add, jb_ix hb (by decide), jb_ix hk32 (by decide), jb_ix hw (by decide), z2, nf_0_1, nf_0_2, nf_0_3, nf_0_4, nf_0_5, nf_0_6, nf_1_0, nf_1_2, nf_1_3, nf_1_4, nf_1_5, nf_1_6, nf_2_0, nf_2_1, nf_2_3, nf_2_4, nf_2_5, nf_2_6, nf_3_0, nf_3_1, nf_3_2, nf_3_4, nf_3_5, nf_3_6, nf_4_0, nf_4_1, nf_4_2, nf_4_3, nf_4_5, nf_4_6, nf_5_0, nf_5_1, nf_5_2, nf_5_3, nf_5_4, nf_5_6, nf_6_0, nf_6_1, nf_6_2, nf_6_3, nf_6_4, nf_6_5, if_false, if_true, jb_nb0, jb_Iz (show 52 ≠ 38 by decide), jb_Iz (show 60 ≠ 38 by decide), jb_Iz (show 60 ≠ 39 by decide), o4]
        rfl
