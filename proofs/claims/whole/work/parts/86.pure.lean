/-! A crash: the store made empty; fates. -/
theorem xEm0 {d : Nat} {M : jm_M} (hX : jx_S M) : ∀ f k g1 g2 g3 g4, k + f = 32 → jm_D d 86 2 [some (.inr (some (5, 0))), some (.inl (nI k))] [] (jm_setK (jm_setK (jm_setK (jm_setK M 19 g1) 20 g2) 21 g3) 22 g4) = jm_D d 86 27 [some (.inr (some (5, 0))), some (.inl (nI 32))] [] (jm_setK (jm_setK (jm_setK (jm_setK M 19 (jk_row 0 k 32 (fun _ => nI 0) g1)) 20 (jk_row 0 k 32 (fun _ => nI 0) g2)) 21 (jk_row 0 k 32 (fun _ => nI 0) g3)) 22 (jk_row 0 k 32 (fun _ => nI 0) g4)) := by
  intro f
  induction f with
  | zero =>
    intro k g1 g2 g3 g4 hk
    obtain rfl : k = 32 := by omega
    rw [e86_2, jk_end, jk_end, jk_end, jk_end]
    simp only [e86_3, e86_4, Int32.le_refl, if_true]
  | succ f ih =>
    intro k g1 g2 g3 g4 hk
    have c1 : ¬ nI 32 ≤ nI k := nI_ge (by omega) (by decide)
    have hl : k < 32 := by omega
    rw [e86_2, ← jk_step (v := fun _ => nI 0) (g := g1) hl, ← jk_step (v := fun _ => nI 0) (g := g2) hl, ← jk_step (v := fun _ => nI 0) (g := g3) hl, ← jk_step (v := fun _ => nI 0) (g := g4) hl, ← ih (k + 1) _ _ _ _ (by omega)]
    simp only [e86_0, e86_1, e86_3, e86_4, e86_5, e86_6, e86_7, e86_8, e86_9, e86_10, e86_11, e86_12, e86_13, e86_14, e86_15, e86_16, e86_17, e86_18, e86_19, e86_20, e86_21, e86_22, e86_23, e86_24, e86_25, e86_26, e86_28, e86_29, e86_30, e86_31, e86_32, e86_33, e86_34, e86_35, e86_36, e86_37, e86_38, e86_39, e86_40, e86_41, e86_42, e86_43, e86_44, e86_45, e86_46, e86_47, jb_FI, jb_nI, jk_F, jk_n, xs_0 hX, xs_1 hX, xs_2 hX, xs_3 hX, xs_4 hX, xs_5 hX, xs_6 hX, xs_7 hX, xs_8 hX, xs_9 hX, xs_10 hX, xs_11 hX, xs_12 hX, xs_13 hX, xs_14 hX, xs_15 hX, xs_16 hX, xs_17 hX, xs_18 hX, xs_19 hX, if_neg c1, nI_add, jb_ix hl (by decide), jk_comm (show 19 ≠ 22 by decide), jk_comm (show 19 ≠ 21 by decide), jk_comm (show 19 ≠ 20 by decide), jk_comm (show 20 ≠ 22 by decide), jk_comm (show 20 ≠ 21 by decide), jk_comm (show 21 ≠ 22 by decide), jk_set]
def jx_lv (g : Nat → Nat → Int32) (e : Nat) : Nat → Nat → Int32 := fun b j => if e ≤ b ∧ b < 16 ∧ (j = 2 ∨ j = 3) then nI 0 else g b j
theorem xEm1 {d : Nat} {M : jm_M} (hX : jx_S M) : ∀ f i g, i + f = 16 → jm_D (d + 1) 86 29 [some (.inr (some (5, 0))), some (.inl (nI i))] [] (jm_setK M 17 g) = jm_D (d + 1) 86 39 [some (.inr (some (5, 0))), some (.inl (nI 16))] [] (jm_setK M 17 (jx_lv g i)) := by
  intro f
  induction f with
  | zero =>
    intro i g hi
    obtain rfl : i = 16 := by omega
    have : jm_setK M 17 (jx_lv g 16) = jm_setK M 17 g := by
      refine jk_ex (fun b j => ?_)
      unfold jx_lv
      rw [if_neg (by omega)]
    rw [e86_29, this]
    simp only [e86_30, e86_31, Int32.le_refl, if_true]
  | succ f ih =>
    intro i g hi
    have c1 : ¬ nI 16 ≤ nI i := nI_ge (by omega) (by decide)
    have hl : i < 16 := by omega
    have ee : jm_setK M 17 (jx_lv g i) = jm_setK M 17 (jx_lv (fun b c => if b = i ∧ c = 3 then nI 0 else if b = i ∧ c = 2 then nI 0 else g b c) (i + 1)) := by
      refine jk_ex (fun b j => ?_)
      unfold jx_lv
      by_cases h1 : i + 1 ≤ b ∧ b < 16 ∧ (j = 2 ∨ j = 3)
      · rw [if_pos h1, if_pos ⟨by omega, h1.2⟩]
      · rw [if_neg h1]
        dsimp only
        by_cases h2 : b = i ∧ j = 3
        · rw [if_pos h2, if_pos ⟨by omega, by omega, by omega⟩]
        · rw [if_neg h2]
          by_cases h3 : b = i ∧ j = 2
          · rw [if_pos h3, if_pos ⟨by omega, by omega, by omega⟩]
          · rw [if_neg h3, if_neg (by omega)]
    rw [e86_29, ee, ← ih (i + 1) _ (by omega)]
    simp only [e86_0, e86_1, e86_2, e86_3, e86_4, e86_5, e86_6, e86_7, e86_8, e86_9, e86_10, e86_11, e86_12, e86_13, e86_14, e86_15, e86_16, e86_17, e86_18, e86_19, e86_20, e86_21, e86_22, e86_23, e86_24, e86_25, e86_26, e86_27, e86_28, e86_30, e86_31, e86_32, e86_33, e86_34, e86_35, e86_36, e86_37, e86_38, e86_40, e86_41, e86_42, e86_43, e86_44, e86_45, e86_46, e86_47, e87_0, e87_1, e87_2, e87_3, e87_4, e87_5, e87_6, jb_FI, jb_nI, jk_F, jk_n, xs_0 hX, xs_1 hX, xs_2 hX, xs_3 hX, xs_4 hX, xs_5 hX, xs_6 hX, xs_7 hX, xs_8 hX, xs_9 hX, xs_10 hX, xs_11 hX, xs_12 hX, xs_13 hX, xs_14 hX, xs_15 hX, xs_16 hX, xs_17 hX, xs_18 hX, xs_19 hX, xf_0 hX hl, xf_1 hX hl, xf_2 hX hl, if_neg c1, nI_add, jb_ix hl (by decide), jb_some, jb_tn, jk_set]
def jx_em (M : jm_M) : jm_M := jm_setI (jm_setI (jm_setK (jm_setK (jm_setK (jm_setK (jm_setK M 19 (jk_row 0 0 32 (fun _ => nI 0) (jm_I M 19))) 20 (jk_row 0 0 32 (fun _ => nI 0) (jm_I M 20))) 21 (jk_row 0 0 32 (fun _ => nI 0) (jm_I M 21))) 22 (jk_row 0 0 32 (fun _ => nI 0) (jm_I M 22))) 17 (jx_lv (jm_I M 17) 0)) 24 0 0 (nI 0)) 5 0 6 (nI 1)
theorem xEm {d : Nat} {M : jm_M} (hX : jx_S M) : jm_D (d + 1) 86 0 [some (.inr (some (5, 0))), none] [] M = some (none, jx_em M) := by
  have h0 := xEm0 (d := d + 1) hX 32 0 (jm_I M 19) (jm_I M 20) (jm_I M 21) (jm_I M 22) rfl
  have eM : jm_setK (jm_setK (jm_setK (jm_setK M 19 (jm_I M 19)) 20 (jm_I M 20)) 21 (jm_I M 21)) 22 (jm_I M 22) = M := by
    rw [jk_id, jk_id, jk_id, jk_id]
  rw [eM] at h0
  have h1 := xEm1 (d := d) (M := jm_setK (jm_setK (jm_setK (jm_setK M 19 (jk_row 0 0 32 (fun _ => nI 0) (jm_I M 19))) 20 (jk_row 0 0 32 (fun _ => nI 0) (jm_I M 20))) 21 (jk_row 0 0 32 (fun _ => nI 0) (jm_I M 21))) 22 (jk_row 0 0 32 (fun _ => nI 0) (jm_I M 22))) hX 16 0 (jm_I M 17) rfl
  have eM2 : jm_setK (jm_setK (jm_setK (jm_setK (jm_setK M 19 (jk_row 0 0 32 (fun _ => nI 0) (jm_I M 19))) 20 (jk_row 0 0 32 (fun _ => nI 0) (jm_I M 20))) 21 (jk_row 0 0 32 (fun _ => nI 0) (jm_I M 21))) 22 (jk_row 0 0 32 (fun _ => nI 0) (jm_I M 22))) 17 (jm_I M 17) = (jm_setK (jm_setK (jm_setK (jm_setK M 19 (jk_row 0 0 32 (fun _ => nI 0) (jm_I M 19))) 20 (jk_row 0 0 32 (fun _ => nI 0) (jm_I M 20))) 21 (jk_row 0 0 32 (fun _ => nI 0) (jm_I M 21))) 22 (jk_row 0 0 32 (fun _ => nI 0) (jm_I M 22))) := jk_id _ 17
  rw [eM2] at h1
  rw [e86_0, e86_1, h0, e86_27, e86_28, h1]
  simp only [e86_0, e86_1, e86_3, e86_4, e86_5, e86_6, e86_7, e86_8, e86_9, e86_10, e86_11, e86_12, e86_13, e86_14, e86_15, e86_16, e86_17, e86_18, e86_19, e86_20, e86_21, e86_22, e86_23, e86_24, e86_25, e86_26, e86_27, e86_28, e86_30, e86_31, e86_32, e86_33, e86_34, e86_35, e86_36, e86_37, e86_38, e86_39, e86_40, e86_41, e86_42, e86_43, e86_44, e86_45, e86_46, e86_47, jb_FI, jb_nI, jk_F, jk_n, xs_0 hX, xs_1 hX, xs_2 hX, xs_3 hX, xs_4 hX, xs_5 hX, xs_6 hX, xs_7 hX, xs_8 hX, xs_9 hX, xs_10 hX, xs_11 hX, xs_12 hX, xs_13 hX, xs_14 hX, xs_15 hX, xs_16 hX, xs_17 hX, xs_18 hX, xs_19 hX, jb_ix (show 0 < 16 by decide) (by decide)]
  rfl
/-- the reference's fates -/
def jy_kn (N : jm_M) (m : Int32) (t : Nat) : Bool := decide (jm_I N 65 0 (t + 1) / nI 1024 ≤ m)
def jy_ft (N : jm_M) (m : Int32) (T k : Nat) (g : Nat → Nat → Int32) : Nat → Nat → Int32 := fun i j => if i = 0 ∧ k + 1 ≤ j ∧ j ≤ T ∧ jc_ls N (jy_kn N m) (j - 1) = true then nI 5 else g i j
theorem yFt {d T : Nat} {m : Int32} {N : jm_M} (hY : jy_S N) (hT : T ≤ 100) (hTn : jm_I N 31 0 34 = nI T) : ∀ f k g, k + f = T → (∀ j, k + 1 ≤ j → g 0 j = jm_I N 64 0 j) → jm_D (d + 1) 138 5 [some (.inr (some (31, 0))), some (.inl m), some (.inl (nI (k + 1))), none, none] [] (jm_setK N 64 g) = jm_D (d + 1) 138 34 [some (.inr (some (31, 0))), some (.inl m), some (.inl (nI (T + 1))), none, none] [] (jm_setK N 64 (jy_ft N m T k g)) := by
  intro f
  induction f with
  | zero =>
    intro k g hk _
    obtain rfl : k = T := by omega
    have : jm_setK N 64 (jy_ft N m k k g) = jm_setK N 64 g := by
      refine jk_ex (fun b j => ?_)
      unfold jy_ft
      rw [if_neg (by omega)]
    have c1 : nI k < nI (k + 1) := nI_lt (by omega) (by omega)
    have e1 : jm_I (jm_setK N 64 g) 31 0 34 = nI k := hTn
    rw [e138_5, this]
    simp only [e138_6, e138_7, e138_8, e1, if_pos c1]
  | succ f ih =>
    intro k g hk hg
    have c1 : ¬ nI T < nI (k + 1) := nI_nlt (by omega) (by omega)
    have e1 : jm_I (jm_setK N 64 g) 31 0 34 = nI T := hTn
    have e2 : jm_I (jm_setK N 64 g) 64 0 (k + 1) = jm_I N 64 0 (k + 1) := (jk_I _ _ _ _ _).trans (hg (k + 1) (Nat.le_refl _))
    have hk1 : k + 1 < 101 := by omega
    have hY' : jy_S (jm_setK N 64 g) := hY
    have hlg := yLg (d := d) hY' hk1
    rw [e2] at hlg
    have n1024 : ¬ nI 1024 = nI 0 := by decide
    have n1 : ¬ nI 1 = nI 0 := by decide
    have e65 : jm_I (jm_setK N 64 g) 65 0 (k + 1) = jm_I N 65 0 (k + 1) := rfl
    rw [e138_5]
    by_cases hl : jc_ls N (jy_kn N m) k = true
    · have ee : jm_setK N 64 (jy_ft N m T k g) = jm_setK N 64 (jy_ft N m T (k + 1) (fun b c => if b = 0 ∧ c = k + 1 then nI 5 else g b c)) := by
        refine jk_ex (fun b j => ?_)
        unfold jy_ft
        by_cases h1 : b = 0 ∧ k + 1 + 1 ≤ j ∧ j ≤ T ∧ jc_ls N (jy_kn N m) (j - 1) = true
        · rw [if_pos h1, if_pos ⟨h1.1, by omega, h1.2.2⟩]
        · rw [if_neg h1]
          dsimp only
          by_cases h2 : b = 0 ∧ j = k + 1
          · rw [if_pos h2, if_pos ⟨h2.1, by omega, by omega, by rw [h2.2]; exact hl⟩]
          · rw [if_neg h2, if_neg (fun z => h1 ⟨z.1, by omega, z.2.2⟩)]
      rw [ee, ← ih (k + 1) _ (by omega) (fun j hj => by rw [if_neg (by omega)]; exact hg j (by omega))]
      unfold jc_ls at hl
      by_cases h1 : jm_I N 64 0 (k + 1) = nI 1
      · simp only [e138_0, e138_1, e138_2, e138_3, e138_4, e138_6, e138_7, e138_8, e138_9, e138_10, e138_11, e138_12, e138_13, e138_14, e138_15, e138_16, e138_17, e138_18, e138_19, e138_20, e138_21, e138_22, e138_23, e138_24, e138_25, e138_26, e138_27, e138_28, e138_29, e138_30, e138_31, e138_32, e138_33, e138_35, e138_36, e138_37, e138_38, e138_39, e138_40, e138_41, e138_42, e138_43, e138_44, e138_45, e138_46, e138_47, e138_48, e138_49, e138_50, e138_51, e138_52, e138_53, e138_54, e138_55, e138_56, e138_57, e138_58, e138_59, e138_60, e138_61, e138_62, e138_63, e138_64, e138_65, e138_66, e138_67, e138_68, e138_69, e138_70, e138_71, e138_72, e138_73, e138_74, e138_75, e138_76, e138_77, e138_78, e138_79, e138_80, e138_81, e138_82, e138_83, e138_84, e138_85, e138_86, e138_87, e138_88, e138_89, e138_90, e138_91, e138_92, e138_93, e138_94, e138_95, e138_96, e138_97, e138_98, e138_99, e138_100, e138_101, e138_102, e138_103, e138_104, e138_105, e138_106, e138_107, e138_108, e138_109, e138_110, e138_111, e138_112, e138_113, e138_114, e138_115, e138_116, e138_117, e138_118, e138_119, e138_120, e138_121, e138_122, e138_123, e138_124, e138_125, e138_126, e138_127, e138_128, e138_129, e138_130, e138_131, e138_132, e138_133, e138_134, e138_135, e138_136, e138_137, e138_138, e138_139, e138_140, e138_141, e138_142, e138_143, e138_144, e138_145, e138_146, e138_147, e138_148, e138_149, e138_150, jk_F, jk_n, ys_0 hY, ys_1 hY, ys_2 hY, ys_3 hY, ys_4 hY, ys_5 hY, ys_6 hY, ys_7 hY, ys_8 hY, ys_9 hY, ys_10 hY, ys_11 hY, ys_12 hY, ys_13 hY, ys_14 hY, ys_15 hY, ys_16 hY, ys_17 hY, ys_18 hY, ys_19 hY, ys_20 hY, ys_21 hY, ys_22 hY, ys_23 hY, ys_24 hY, ys_25 hY, ys_26 hY, ys_27 hY, ys_28 hY, ys_29 hY, ys_30 hY, ys_31 hY, ys_32 hY, ys_33 hY, ys_34 hY, ys_35 hY, ys_36 hY, ys_37 hY, ys_38 hY, ys_39 hY, ys_40 hY, ys_41 hY, ys_42 hY, ys_43 hY, ys_44 hY, ys_45 hY, ys_46 hY, ys_47 hY, ys_48 hY, ys_49 hY, ys_50 hY, ys_51 hY, ys_52 hY, ys_53 hY, ys_54 hY, ys_55 hY, ys_56 hY, ys_57 hY, ys_58 hY, ys_59 hY, ys_60 hY, ys_61 hY, ys_62 hY, ys_63 hY, ys_64 hY, ys_65 hY, ys_66 hY, ys_67 hY, ys_68 hY, ys_69 hY, ys_70 hY, ys_71 hY, ys_72 hY, ys_73 hY, ys_74 hY, ys_75 hY, ys_76 hY, ys_77 hY, e1, if_neg c1, jb_ix hk1 (by decide), e2, h1, if_true, jk_set, nI_add]
      · rw [decide_eq_false h1] at hl
        simp only [Bool.false_or, Bool.and_eq_true, Bool.or_eq_true, decide_eq_true_eq, Bool.not_eq_true'] at hl
        rw [if_pos hl.1] at hlg
        have h3 : ¬ jm_I N 65 0 (k + 1) / nI 1024 ≤ m := of_decide_eq_false hl.2
        simp only [e138_0, e138_1, e138_2, e138_3, e138_4, e138_6, e138_7, e138_8, e138_9, e138_10, e138_11, e138_12, e138_13, e138_14, e138_15, e138_16, e138_17, e138_18, e138_19, e138_20, e138_21, e138_22, e138_23, e138_24, e138_25, e138_26, e138_27, e138_28, e138_29, e138_30, e138_31, e138_32, e138_33, e138_35, e138_36, e138_37, e138_38, e138_39, e138_40, e138_41, e138_42, e138_43, e138_44, e138_45, e138_46, e138_47, e138_48, e138_49, e138_50, e138_51, e138_52, e138_53, e138_54, e138_55, e138_56, e138_57, e138_58, e138_59, e138_60, e138_61, e138_62, e138_63, e138_64, e138_65, e138_66, e138_67, e138_68, e138_69, e138_70, e138_71, e138_72, e138_73, e138_74, e138_75, e138_76, e138_77, e138_78, e138_79, e138_80, e138_81, e138_82, e138_83, e138_84, e138_85, e138_86, e138_87, e138_88, e138_89, e138_90, e138_91, e138_92, e138_93, e138_94, e138_95, e138_96, e138_97, e138_98, e138_99, e138_100, e138_101, e138_102, e138_103, e138_104, e138_105, e138_106, e138_107, e138_108, e138_109, e138_110, e138_111, e138_112, e138_113, e138_114, e138_115, e138_116, e138_117, e138_118, e138_119, e138_120, e138_121, e138_122, e138_123, e138_124, e138_125, e138_126, e138_127, e138_128, e138_129, e138_130, e138_131, e138_132, e138_133, e138_134, e138_135, e138_136, e138_137, e138_138, e138_139, e138_140, e138_141, e138_142, e138_143, e138_144, e138_145, e138_146, e138_147, e138_148, e138_149, e138_150, jk_F, jk_n, ys_0 hY, ys_1 hY, ys_2 hY, ys_3 hY, ys_4 hY, ys_5 hY, ys_6 hY, ys_7 hY, ys_8 hY, ys_9 hY, ys_10 hY, ys_11 hY, ys_12 hY, ys_13 hY, ys_14 hY, ys_15 hY, ys_16 hY, ys_17 hY, ys_18 hY, ys_19 hY, ys_20 hY, ys_21 hY, ys_22 hY, ys_23 hY, ys_24 hY, ys_25 hY, ys_26 hY, ys_27 hY, ys_28 hY, ys_29 hY, ys_30 hY, ys_31 hY, ys_32 hY, ys_33 hY, ys_34 hY, ys_35 hY, ys_36 hY, ys_37 hY, ys_38 hY, ys_39 hY, ys_40 hY, ys_41 hY, ys_42 hY, ys_43 hY, ys_44 hY, ys_45 hY, ys_46 hY, ys_47 hY, ys_48 hY, ys_49 hY, ys_50 hY, ys_51 hY, ys_52 hY, ys_53 hY, ys_54 hY, ys_55 hY, ys_56 hY, ys_57 hY, ys_58 hY, ys_59 hY, ys_60 hY, ys_61 hY, ys_62 hY, ys_63 hY, ys_64 hY, ys_65 hY, ys_66 hY, ys_67 hY, ys_68 hY, ys_69 hY, ys_70 hY, ys_71 hY, ys_72 hY, ys_73 hY, ys_74 hY, ys_75 hY, ys_76 hY, ys_77 hY, e1, if_neg c1, jb_ix hk1 (by decide), e2, if_neg h1, hlg, jb_some, jb_tl, if_neg n1, e65, if_neg n1024, if_neg h3, jk_set, nI_add]
    · have ee : jm_setK N 64 (jy_ft N m T k g) = jm_setK N 64 (jy_ft N m T (k + 1) g) := by
        refine jk_ex (fun b j => ?_)
        unfold jy_ft
        by_cases h1 : b = 0 ∧ k + 1 + 1 ≤ j ∧ j ≤ T ∧ jc_ls N (jy_kn N m) (j - 1) = true
        · rw [if_pos h1, if_pos ⟨h1.1, by omega, h1.2.2⟩]
        · rw [if_neg h1, if_neg]
          intro z
          rcases Nat.lt_or_eq_of_le z.2.1 with h | h
          · exact h1 ⟨z.1, h, z.2.2⟩
          · rw [← h] at z; exact hl z.2.2.2
      rw [ee, ← ih (k + 1) _ (by omega) (fun j hj => hg j (by omega))]
      have h1 : ¬ jm_I N 64 0 (k + 1) = nI 1 := fun z => hl (by unfold jc_ls; rw [decide_eq_true z, Bool.true_or])
      by_cases h2 : jm_I N 64 0 (k + 1) = nI 2 ∨ jm_I N 64 0 (k + 1) = nI 3
      · rw [if_pos h2] at hlg
        have h3 : jm_I N 65 0 (k + 1) / nI 1024 ≤ m := by
          refine Decidable.byContradiction (fun z => hl ?_)
          unfold jc_ls jy_kn
          rw [decide_eq_false z]
          rcases h2 with h2 | h2
          · rw [decide_eq_true h2]; simp
          · rw [decide_eq_true h2]; simp
        simp only [e138_0, e138_1, e138_2, e138_3, e138_4, e138_6, e138_7, e138_8, e138_9, e138_10, e138_11, e138_12, e138_13, e138_14, e138_15, e138_16, e138_17, e138_18, e138_19, e138_20, e138_21, e138_22, e138_23, e138_24, e138_25, e138_26, e138_27, e138_28, e138_29, e138_30, e138_31, e138_32, e138_33, e138_35, e138_36, e138_37, e138_38, e138_39, e138_40, e138_41, e138_42, e138_43, e138_44, e138_45, e138_46, e138_47, e138_48, e138_49, e138_50, e138_51, e138_52, e138_53, e138_54, e138_55, e138_56, e138_57, e138_58, e138_59, e138_60, e138_61, e138_62, e138_63, e138_64, e138_65, e138_66, e138_67, e138_68, e138_69, e138_70, e138_71, e138_72, e138_73, e138_74, e138_75, e138_76, e138_77, e138_78, e138_79, e138_80, e138_81, e138_82, e138_83, e138_84, e138_85, e138_86, e138_87, e138_88, e138_89, e138_90, e138_91, e138_92, e138_93, e138_94, e138_95, e138_96, e138_97, e138_98, e138_99, e138_100, e138_101, e138_102, e138_103, e138_104, e138_105, e138_106, e138_107, e138_108, e138_109, e138_110, e138_111, e138_112, e138_113, e138_114, e138_115, e138_116, e138_117, e138_118, e138_119, e138_120, e138_121, e138_122, e138_123, e138_124, e138_125, e138_126, e138_127, e138_128, e138_129, e138_130, e138_131, e138_132, e138_133, e138_134, e138_135, e138_136, e138_137, e138_138, e138_139, e138_140, e138_141, e138_142, e138_143, e138_144, e138_145, e138_146, e138_147, e138_148, e138_149, e138_150, jk_F, jk_n, ys_0 hY, ys_1 hY, ys_2 hY, ys_3 hY, ys_4 hY, ys_5 hY, ys_6 hY, ys_7 hY, ys_8 hY, ys_9 hY, ys_10 hY, ys_11 hY, ys_12 hY, ys_13 hY, ys_14 hY, ys_15 hY, ys_16 hY, ys_17 hY, ys_18 hY, ys_19 hY, ys_20 hY, ys_21 hY, ys_22 hY, ys_23 hY, ys_24 hY, ys_25 hY, ys_26 hY, ys_27 hY, ys_28 hY, ys_29 hY, ys_30 hY, ys_31 hY, ys_32 hY, ys_33 hY, ys_34 hY, ys_35 hY, ys_36 hY, ys_37 hY, ys_38 hY, ys_39 hY, ys_40 hY, ys_41 hY, ys_42 hY, ys_43 hY, ys_44 hY, ys_45 hY, ys_46 hY, ys_47 hY, ys_48 hY, ys_49 hY, ys_50 hY, ys_51 hY, ys_52 hY, ys_53 hY, ys_54 hY, ys_55 hY, ys_56 hY, ys_57 hY, ys_58 hY, ys_59 hY, ys_60 hY, ys_61 hY, ys_62 hY, ys_63 hY, ys_64 hY, ys_65 hY, ys_66 hY, ys_67 hY, ys_68 hY, ys_69 hY, ys_70 hY, ys_71 hY, ys_72 hY, ys_73 hY, ys_74 hY, ys_75 hY, ys_76 hY, ys_77 hY, e1, if_neg c1, jb_ix hk1 (by decide), e2, if_neg h1, hlg, jb_some, jb_tl, if_neg n1, e65, if_neg n1024, if_pos h3, nI_add]
      · rw [if_neg h2] at hlg
        simp only [e138_0, e138_1, e138_2, e138_3, e138_4, e138_6, e138_7, e138_8, e138_9, e138_10, e138_11, e138_12, e138_13, e138_14, e138_15, e138_16, e138_17, e138_18, e138_19, e138_20, e138_21, e138_22, e138_23, e138_24, e138_25, e138_26, e138_27, e138_28, e138_29, e138_30, e138_31, e138_32, e138_33, e138_35, e138_36, e138_37, e138_38, e138_39, e138_40, e138_41, e138_42, e138_43, e138_44, e138_45, e138_46, e138_47, e138_48, e138_49, e138_50, e138_51, e138_52, e138_53, e138_54, e138_55, e138_56, e138_57, e138_58, e138_59, e138_60, e138_61, e138_62, e138_63, e138_64, e138_65, e138_66, e138_67, e138_68, e138_69, e138_70, e138_71, e138_72, e138_73, e138_74, e138_75, e138_76, e138_77, e138_78, e138_79, e138_80, e138_81, e138_82, e138_83, e138_84, e138_85, e138_86, e138_87, e138_88, e138_89, e138_90, e138_91, e138_92, e138_93, e138_94, e138_95, e138_96, e138_97, e138_98, e138_99, e138_100, e138_101, e138_102, e138_103, e138_104, e138_105, e138_106, e138_107, e138_108, e138_109, e138_110, e138_111, e138_112, e138_113, e138_114, e138_115, e138_116, e138_117, e138_118, e138_119, e138_120, e138_121, e138_122, e138_123, e138_124, e138_125, e138_126, e138_127, e138_128, e138_129, e138_130, e138_131, e138_132, e138_133, e138_134, e138_135, e138_136, e138_137, e138_138, e138_139, e138_140, e138_141, e138_142, e138_143, e138_144, e138_145, e138_146, e138_147, e138_148, e138_149, e138_150, jk_F, jk_n, ys_0 hY, ys_1 hY, ys_2 hY, ys_3 hY, ys_4 hY, ys_5 hY, ys_6 hY, ys_7 hY, ys_8 hY, ys_9 hY, ys_10 hY, ys_11 hY, ys_12 hY, ys_13 hY, ys_14 hY, ys_15 hY, ys_16 hY, ys_17 hY, ys_18 hY, ys_19 hY, ys_20 hY, ys_21 hY, ys_22 hY, ys_23 hY, ys_24 hY, ys_25 hY, ys_26 hY, ys_27 hY, ys_28 hY, ys_29 hY, ys_30 hY, ys_31 hY, ys_32 hY, ys_33 hY, ys_34 hY, ys_35 hY, ys_36 hY, ys_37 hY, ys_38 hY, ys_39 hY, ys_40 hY, ys_41 hY, ys_42 hY, ys_43 hY, ys_44 hY, ys_45 hY, ys_46 hY, ys_47 hY, ys_48 hY, ys_49 hY, ys_50 hY, ys_51 hY, ys_52 hY, ys_53 hY, ys_54 hY, ys_55 hY, ys_56 hY, ys_57 hY, ys_58 hY, ys_59 hY, ys_60 hY, ys_61 hY, ys_62 hY, ys_63 hY, ys_64 hY, ys_65 hY, ys_66 hY, ys_67 hY, ys_68 hY, ys_69 hY, ys_70 hY, ys_71 hY, ys_72 hY, ys_73 hY, ys_74 hY, ys_75 hY, ys_76 hY, ys_77 hY, e1, if_neg c1, jb_ix hk1 (by decide), e2, if_neg h1, hlg, jb_some, jb_tl, if_true, nI_add]
theorem yTh {d : Nat} {m : Int32} {N : jm_M} (hY : jy_S N) : ∀ f k g, k + f = 32 → jm_D d 138 36 [some (.inr (some (31, 0))), some (.inl m), some (.inl (nI k)), none, none] [] (jm_setK N 37 g) = jm_D d 138 46 [some (.inr (some (31, 0))), some (.inl m), some (.inl (nI 32)), none, none] [] (jm_setK N 37 (jk_row 0 k 32 (fun _ => nI 0) g)) := by
  intro f
  induction f with
  | zero =>
    intro k g hk
    obtain rfl : k = 32 := by omega
    rw [e138_36, jk_end]
    simp only [e138_37, e138_38, Int32.le_refl, if_true]
  | succ f ih =>
    intro k g hk
    have c1 : ¬ nI 32 ≤ nI k := nI_ge (by omega) (by decide)
    have hl : k < 32 := by omega
    rw [e138_36, ← jk_step (v := fun _ => nI 0) (g := g) hl, ← ih (k + 1) _ (by omega)]
    simp only [e138_37, e138_38, e138_39, e138_40, e138_41, e138_42, e138_43, e138_44, e138_45, jk_F, jk_n, ys_0 hY, ys_1 hY, ys_2 hY, ys_3 hY, ys_4 hY, ys_5 hY, ys_6 hY, ys_7 hY, ys_8 hY, ys_9 hY, ys_10 hY, ys_11 hY, ys_12 hY, ys_13 hY, ys_14 hY, ys_15 hY, ys_16 hY, ys_17 hY, ys_18 hY, ys_19 hY, ys_20 hY, ys_21 hY, ys_22 hY, ys_23 hY, ys_24 hY, ys_25 hY, ys_26 hY, ys_27 hY, ys_28 hY, ys_29 hY, ys_30 hY, ys_31 hY, ys_32 hY, ys_33 hY, ys_34 hY, ys_35 hY, ys_36 hY, ys_37 hY, ys_38 hY, ys_39 hY, ys_40 hY, ys_41 hY, ys_42 hY, ys_43 hY, ys_44 hY, ys_45 hY, ys_46 hY, ys_47 hY, ys_48 hY, ys_49 hY, ys_50 hY, ys_51 hY, ys_52 hY, ys_53 hY, ys_54 hY, ys_55 hY, ys_56 hY, ys_57 hY, ys_58 hY, ys_59 hY, ys_60 hY, ys_61 hY, ys_62 hY, ys_63 hY, ys_64 hY, ys_65 hY, ys_66 hY, ys_67 hY, ys_68 hY, ys_69 hY, ys_70 hY, ys_71 hY, ys_72 hY, ys_73 hY, ys_74 hY, ys_75 hY, ys_76 hY, ys_77 hY, if_neg c1, nI_add, jb_ix hl (by decide), jb_nb0, jk_set]
theorem yWk {d : Nat} {m : Int32} {l3 l4 : Option jm_V} {N : jm_M} (hY : jy_S N) : ∀ f k g1 g2 g3 g4, k + f = 4 → jm_D d 138 119 [some (.inr (some (31, 0))), some (.inl m), some (.inl (nI k)), l3, l4] [] (jm_setK (jm_setK (jm_setK (jm_setK N 45 g1) 46 g2) 61 g3) 62 g4) = jm_D d 138 144 [some (.inr (some (31, 0))), some (.inl m), some (.inl (nI 4)), l3, l4] [] (jm_setK (jm_setK (jm_setK (jm_setK N 45 (jk_row 0 k 4 (fun _ => nI 0) g1)) 46 (jk_row 0 k 4 (fun _ => nI 0) g2)) 61 (jk_row 0 k 4 (fun _ => nI 0) g3)) 62 (jk_row 0 k 4 (fun _ => m) g4)) := by
  intro f
  induction f with
  | zero =>
    intro k g1 g2 g3 g4 hk
    obtain rfl : k = 4 := by omega
    rw [e138_119, jk_end, jk_end, jk_end, jk_end]
    simp only [e138_120, e138_121, Int32.le_refl, if_true]
  | succ f ih =>
    intro k g1 g2 g3 g4 hk
    have c1 : ¬ nI 4 ≤ nI k := nI_ge (by omega) (by decide)
    have hl : k < 4 := by omega
    rw [e138_119, ← jk_step (v := fun _ => nI 0) (g := g1) hl, ← jk_step (v := fun _ => nI 0) (g := g2) hl, ← jk_step (v := fun _ => nI 0) (g := g3) hl, ← jk_step (v := fun _ => m) (g := g4) hl, ← ih (k + 1) _ _ _ _ (by omega)]
    simp only [e138_120, e138_121, e138_122, e138_123, e138_124, e138_125, e138_126, e138_127, e138_128, e138_129, e138_130, e138_131, e138_132, e138_133, e138_134, e138_135, e138_136, e138_137, e138_138, e138_139, e138_140, e138_141, e138_142, e138_143, jb_FI, jb_nI, jk_F, jk_n, ys_0 hY, ys_1 hY, ys_2 hY, ys_3 hY, ys_4 hY, ys_5 hY, ys_6 hY, ys_7 hY, ys_8 hY, ys_9 hY, ys_10 hY, ys_11 hY, ys_12 hY, ys_13 hY, ys_14 hY, ys_15 hY, ys_16 hY, ys_17 hY, ys_18 hY, ys_19 hY, ys_20 hY, ys_21 hY, ys_22 hY, ys_23 hY, ys_24 hY, ys_25 hY, ys_26 hY, ys_27 hY, ys_28 hY, ys_29 hY, ys_30 hY, ys_31 hY, ys_32 hY, ys_33 hY, ys_34 hY, ys_35 hY, ys_36 hY, ys_37 hY, ys_38 hY, ys_39 hY, ys_40 hY, ys_41 hY, ys_42 hY, ys_43 hY, ys_44 hY, ys_45 hY, ys_46 hY, ys_47 hY, ys_48 hY, ys_49 hY, ys_50 hY, ys_51 hY, ys_52 hY, ys_53 hY, ys_54 hY, ys_55 hY, ys_56 hY, ys_57 hY, ys_58 hY, ys_59 hY, ys_60 hY, ys_61 hY, ys_62 hY, ys_63 hY, ys_64 hY, ys_65 hY, ys_66 hY, ys_67 hY, ys_68 hY, ys_69 hY, ys_70 hY, ys_71 hY, ys_72 hY, ys_73 hY, ys_74 hY, ys_75 hY, ys_76 hY, ys_77 hY, if_neg c1, nI_add, jb_ix hl (by decide), jk_comm (show 45 ≠ 62 by decide), jk_comm (show 45 ≠ 61 by decide), jk_comm (show 45 ≠ 46 by decide), jk_comm (show 46 ≠ 62 by decide), jk_comm (show 46 ≠ 61 by decide), jk_comm (show 61 ≠ 62 by decide), jk_set]
