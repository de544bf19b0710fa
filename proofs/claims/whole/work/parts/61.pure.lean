/-! Locking. -/
theorem jb_fnd_congr {p q : Nat → Bool} : ∀ f k, (∀ j, k ≤ j → j < k + f → p j = q j) → jb_fnd p f k = jb_fnd q f k := by
  intro f
  induction f with
  | zero => intro k _; rfl
  | succ f ih =>
    intro k h
    cases e : q k with
    | true => rw [jb_fnd_t e, jb_fnd_t ((h k (Nat.le_refl _) (by omega)).trans e)]
    | false => rw [jb_fnd_f e, jb_fnd_f ((h k (Nat.le_refl _) (by omega)).trans e)]; exact ih (k + 1) (fun j h1 h2 => h j (by omega) (by omega))
theorem jb_fnd_at {p : Nat → Bool} : ∀ f k, jb_fnd p f k < k + f → p (jb_fnd p f k) = true := by
  intro f
  induction f with
  | zero => intro k h; exact absurd h (by show ¬ k < k + 0; omega)
  | succ f ih =>
    intro k h
    cases e : p k with
    | true => rw [jb_fnd_t e]; exact e
    | false => rw [jb_fnd_f e] at h ⊢; exact ih (k + 1) (by omega)
theorem jb_fnd_no {p : Nat → Bool} : ∀ f k, jb_fnd p f k = k + f → ∀ j, k ≤ j → j < k + f → p j = false := by
  intro f
  induction f with
  | zero => intro k _ j h1 h2; omega
  | succ f ih =>
    intro k h j h1 h2
    cases e : p k with
    | true => rw [jb_fnd_t e] at h; omega
    | false =>
      rw [jb_fnd_f e] at h
      by_cases hj : j = k
      · subst hj; exact e
      · exact ih (k + 1) (by omega) j (by omega) (by omega)
def jx_lw (M : jm_M) (w t L k : Nat) : Bool := !decide (jm_I M 26 (t + 4) k = nI 0) && (decide (jm_I M 22 0 k = nI (w + 1)) == decide (L = 1))
theorem xLw {d w t L : Nat} {M : jm_M} (hX : jx_S M) (hw : w < 4) (h0 : jm_I M 11 w 0 = nI (w + 1)) (f5 : jm_F M 11 w 5 = some (25, t)) (f1 : jm_F M 25 t 1 = some (26, t + 4)) (n1 : jm_n M 26 (t + 4) = 32) (hL : L = 0 ∨ L = 1) : ∀ f k, k + f = 32 → jm_D (d + 1) 57 2 [some (.inr (some (11, w))), some (.inr (some (5, 0))), some (.inl (nI L)), some (.inl (nI k))] [] M = some (some (.inl (nI (jb_fnd (jx_lw M w t L) f k))), M) := by
  intro f
  induction f with
  | zero =>
    intro k hk
    obtain rfl : k = 32 := by omega
    rw [e57_2]
    simp only [e57_0, e57_1, e57_3, e57_4, e57_5, e57_6, e57_7, e57_8, e57_9, e57_10, e57_11, e57_12, e57_13, e57_14, e57_15, e57_16, e57_17, e57_18, e57_19, e57_20, e57_21, e57_22, e57_23, e57_24, e57_25, e57_26, e57_27, Int32.le_refl, if_true]
    rfl
  | succ f ih =>
    intro k hk
    have hk32 : k < 32 := by omega
    have c1 : ¬ nI 32 ≤ nI k := nI_ge (by omega) (by decide)
    have ih := ih (k + 1) (by omega)
    rw [e57_2]
    by_cases a1 : jm_I M 26 (t + 4) k = nI 0
    · have hp : jx_lw M w t L k = false := by unfold jx_lw; rw [decide_eq_true a1]; rfl
      rw [jb_fnd_f hp]
      simp only [e57_0, e57_1, e57_3, e57_4, e57_5, e57_6, e57_7, e57_8, e57_9, e57_10, e57_11, e57_12, e57_13, e57_14, e57_15, e57_16, e57_17, e57_18, e57_19, e57_20, e57_21, e57_22, e57_23, e57_24, e57_25, e57_26, e57_27, if_neg c1, f5, xWrs f1 n1 hk32, a1, if_true, jb_some, jb_tl, nI_add, ih]
    · by_cases a2 : jm_I M 22 0 k = nI (w + 1)
      · rcases hL with rfl | rfl
        · have hp : jx_lw M w t 0 k = false := by unfold jx_lw; rw [decide_eq_true a2]; simp
          rw [jb_fnd_f hp]
          simp only [e57_0, e57_1, e57_3, e57_4, e57_5, e57_6, e57_7, e57_8, e57_9, e57_10, e57_11, e57_12, e57_13, e57_14, e57_15, e57_16, e57_17, e57_18, e57_19, e57_20, e57_21, e57_22, e57_23, e57_24, e57_25, e57_26, e57_27, xs_0 hX, xs_1 hX, xs_2 hX, xs_3 hX, xs_4 hX, xs_5 hX, xs_6 hX, xs_7 hX, xs_8 hX, xs_9 hX, xs_10 hX, xs_11 hX, xs_12 hX, xs_13 hX, xs_14 hX, xs_15 hX, xs_16 hX, xs_17 hX, xs_18 hX, xs_19 hX, if_neg c1, f5, xWrs f1 n1 hk32, if_neg a1, jb_ix hk32 (by decide), h0, a2, if_true, nf_0_1, nf_0_2, nf_0_3, nf_0_4, nf_0_5, nf_0_6, nf_1_0, nf_1_2, nf_1_3, nf_1_4, nf_1_5, nf_1_6, nf_2_0, nf_2_1, nf_2_3, nf_2_4, nf_2_5, nf_2_6, nf_3_0, nf_3_1, nf_3_2, nf_3_4, nf_3_5, nf_3_6, nf_4_0, nf_4_1, nf_4_2, nf_4_3, nf_4_5, nf_4_6, nf_5_0, nf_5_1, nf_5_2, nf_5_3, nf_5_4, nf_5_6, nf_6_0, nf_6_1, nf_6_2, nf_6_3, nf_6_4, nf_6_5, if_false, jb_some, jb_tl, nI_add, ih]
        · have hp : jx_lw M w t 1 k = true := by unfold jx_lw; rw [decide_eq_false a1, decide_eq_true a2]; rfl
          rw [jb_fnd_t hp]
          simp only [e57_0, e57_1, e57_3, e57_4, e57_5, e57_6, e57_7, e57_8, e57_9, e57_10, e57_11, e57_12, e57_13, e57_14, e57_15, e57_16, e57_17, e57_18, e57_19, e57_20, e57_21, e57_22, e57_23, e57_24, e57_25, e57_26, e57_27, xs_0 hX, xs_1 hX, xs_2 hX, xs_3 hX, xs_4 hX, xs_5 hX, xs_6 hX, xs_7 hX, xs_8 hX, xs_9 hX, xs_10 hX, xs_11 hX, xs_12 hX, xs_13 hX, xs_14 hX, xs_15 hX, xs_16 hX, xs_17 hX, xs_18 hX, xs_19 hX, if_neg c1, f5, xWrs f1 n1 hk32, if_neg a1, jb_ix hk32 (by decide), h0, a2, if_true, nf_0_1, nf_0_2, nf_0_3, nf_0_4, nf_0_5, nf_0_6, nf_1_0, nf_1_2, nf_1_3, nf_1_4, nf_1_5, nf_1_6, nf_2_0, nf_2_1, nf_2_3, nf_2_4, nf_2_5, nf_2_6, nf_3_0, nf_3_1, nf_3_2, nf_3_4, nf_3_5, nf_3_6, nf_4_0, nf_4_1, nf_4_2, nf_4_3, nf_4_5, nf_4_6, nf_5_0, nf_5_1, nf_5_2, nf_5_3, nf_5_4, nf_5_6, nf_6_0, nf_6_1, nf_6_2, nf_6_3, nf_6_4, nf_6_5, if_false, jb_some, jb_tl]
      · rcases hL with rfl | rfl
        · have hp : jx_lw M w t 0 k = true := by unfold jx_lw; rw [decide_eq_false a1, decide_eq_false a2]; rfl
          rw [jb_fnd_t hp]
          simp only [e57_0, e57_1, e57_3, e57_4, e57_5, e57_6, e57_7, e57_8, e57_9, e57_10, e57_11, e57_12, e57_13, e57_14, e57_15, e57_16, e57_17, e57_18, e57_19, e57_20, e57_21, e57_22, e57_23, e57_24, e57_25, e57_26, e57_27, xs_0 hX, xs_1 hX, xs_2 hX, xs_3 hX, xs_4 hX, xs_5 hX, xs_6 hX, xs_7 hX, xs_8 hX, xs_9 hX, xs_10 hX, xs_11 hX, xs_12 hX, xs_13 hX, xs_14 hX, xs_15 hX, xs_16 hX, xs_17 hX, xs_18 hX, xs_19 hX, if_neg c1, f5, xWrs f1 n1 hk32, if_neg a1, jb_ix hk32 (by decide), h0, if_neg a2, if_true, nf_0_1, nf_0_2, nf_0_3, nf_0_4, nf_0_5, nf_0_6, nf_1_0, nf_1_2, nf_1_3, nf_1_4, nf_1_5, nf_1_6, nf_2_0, nf_2_1, nf_2_3, nf_2_4, nf_2_5, nf_2_6, nf_3_0, nf_3_1, nf_3_2, nf_3_4, nf_3_5, nf_3_6, nf_4_0, nf_4_1, nf_4_2, nf_4_3, nf_4_5, nf_4_6, nf_5_0, nf_5_1, nf_5_2, nf_5_3, nf_5_4, nf_5_6, nf_6_0, nf_6_1, nf_6_2, nf_6_3, nf_6_4, nf_6_5, if_false, jb_some, jb_tl]
        · have hp : jx_lw M w t 1 k = false := by unfold jx_lw; rw [decide_eq_false a2]; simp
          rw [jb_fnd_f hp]
          simp only [e57_0, e57_1, e57_3, e57_4, e57_5, e57_6, e57_7, e57_8, e57_9, e57_10, e57_11, e57_12, e57_13, e57_14, e57_15, e57_16, e57_17, e57_18, e57_19, e57_20, e57_21, e57_22, e57_23, e57_24, e57_25, e57_26, e57_27, xs_0 hX, xs_1 hX, xs_2 hX, xs_3 hX, xs_4 hX, xs_5 hX, xs_6 hX, xs_7 hX, xs_8 hX, xs_9 hX, xs_10 hX, xs_11 hX, xs_12 hX, xs_13 hX, xs_14 hX, xs_15 hX, xs_16 hX, xs_17 hX, xs_18 hX, xs_19 hX, if_neg c1, f5, xWrs f1 n1 hk32, if_neg a1, jb_ix hk32 (by decide), h0, if_neg a2, if_true, nf_0_1, nf_0_2, nf_0_3, nf_0_4, nf_0_5, nf_0_6, nf_1_0, nf_1_2, nf_1_3, nf_1_4, nf_1_5, nf_1_6, nf_2_0, nf_2_1, nf_2_3, nf_2_4, nf_2_5, nf_2_6, nf_3_0, nf_3_1, nf_3_2, nf_3_4, nf_3_5, nf_3_6, nf_4_0, nf_4_1, nf_4_2, nf_4_3, nf_4_5, nf_4_6, nf_5_0, nf_5_1, nf_5_2, nf_5_3, nf_5_4, nf_5_6, nf_6_0, nf_6_1, nf_6_2, nf_6_3, nf_6_4, nf_6_5, if_false, jb_some, jb_tl, nI_add, ih]
def jy_lw (N : jm_M) (w K k : Nat) : Bool := !decide (jm_I N 51 0 (32 * w + k) = nI 0) && decide (jm_I N K 0 (32 * w + k) = nI 0)
theorem yLw125 {d w : Nat} {N : jm_M} (hY : jy_S N) (hw : w < 4) : ∀ f k, k + f = 32 → jm_D d 125 2 [some (.inr (some (31, 0))), some (.inl (nI w)), some (.inl (nI k)), none, none, none] [] N = jm_D d 125 25 [some (.inr (some (31, 0))), some (.inl (nI w)), some (.inl (nI (jb_fnd (jy_lw N w 54) f k))), none, none, none] [] N := by
  intro f
  induction f with
  | zero =>
    intro k hk
    obtain rfl : k = 32 := by omega
    rw [e125_2]
    simp only [e125_3, e125_4, Int32.le_refl, if_true]
    rfl
  | succ f ih =>
    intro k hk
    have hb : 32 * w + k < 128 := by omega
    have c1 : ¬ nI 32 ≤ nI k := nI_ge (by omega) (by decide)
    have ih := ih (k + 1) (by omega)
    rw [e125_2]
    by_cases a1 : jm_I N 51 0 (32 * w + k) = nI 0
    · have hp : jy_lw N w 54 k = false := by unfold jy_lw; rw [decide_eq_true a1]; rfl
      rw [jb_fnd_f hp]
      simp only [e125_0, e125_1, e125_3, e125_4, e125_5, e125_6, e125_7, e125_8, e125_9, e125_10, e125_11, e125_12, e125_13, e125_14, e125_15, e125_16, e125_17, e125_18, e125_19, e125_20, e125_21, e125_22, e125_23, e125_24, e125_26, e125_27, e125_28, e125_29, e125_30, e125_31, e125_32, e125_33, e125_34, e125_35, e125_36, e125_37, e125_38, e125_39, e125_40, e125_41, e125_42, e125_43, e125_44, e125_45, e125_46, e125_47, e125_48, e125_49, e125_50, e125_51, e125_52, e125_53, e125_54, e125_55, e125_56, e125_57, e125_58, e125_59, e125_60, e125_61, e125_62, e125_63, e125_64, e125_65, e125_66, e125_67, e125_68, e125_69, e125_70, e125_71, e125_72, e125_73, e125_74, e125_75, e125_76, e125_77, e125_78, e125_79, e125_80, e125_81, e125_82, e125_83, e125_84, e125_85, e125_86, e125_87, e125_88, e125_89, e125_90, e125_91, e125_92, e125_93, e125_94, e125_95, e125_96, e125_97, e125_98, e125_99, e125_100, e125_101, e125_102, e125_103, e125_104, e125_105, e125_106, e125_107, e125_108, e125_109, e125_110, e125_111, e125_112, e125_113, e125_114, e125_115, e125_116, e125_117, e125_118, e125_119, e125_120, e125_121, e125_122, e125_123, e125_124, ys_0 hY, ys_1 hY, ys_2 hY, ys_3 hY, ys_4 hY, ys_5 hY, ys_6 hY, ys_7 hY, ys_8 hY, ys_9 hY, ys_10 hY, ys_11 hY, ys_12 hY, ys_13 hY, ys_14 hY, ys_15 hY, ys_16 hY, ys_17 hY, ys_18 hY, ys_19 hY, ys_20 hY, ys_21 hY, ys_22 hY, ys_23 hY, ys_24 hY, ys_25 hY, ys_26 hY, ys_27 hY, ys_28 hY, ys_29 hY, ys_30 hY, ys_31 hY, ys_32 hY, ys_33 hY, ys_34 hY, ys_35 hY, ys_36 hY, ys_37 hY, ys_38 hY, ys_39 hY, ys_40 hY, ys_41 hY, ys_42 hY, ys_43 hY, ys_44 hY, ys_45 hY, ys_46 hY, ys_47 hY, ys_48 hY, ys_49 hY, ys_50 hY, ys_51 hY, ys_52 hY, ys_53 hY, ys_54 hY, ys_55 hY, ys_56 hY, ys_57 hY, ys_58 hY, ys_59 hY, ys_60 hY, ys_61 hY, ys_62 hY, ys_63 hY, ys_64 hY, ys_65 hY, ys_66 hY, ys_67 hY, ys_68 hY, ys_69 hY, ys_70 hY, ys_71 hY, ys_72 hY, ys_73 hY, ys_74 hY, ys_75 hY, ys_76 hY, ys_77 hY, if_neg c1, pk_mul, nI_add, jb_ix hb (by decide), a1, if_true, ih]
    · by_cases a2 : jm_I N 54 0 (32 * w + k) = nI 0
      · have hp : jy_lw N w 54 k = true := by unfold jy_lw; rw [decide_eq_false a1, decide_eq_true a2]; rfl
        rw [jb_fnd_t hp]
        simp only [e125_0, e125_1, e125_3, e125_4, e125_5, e125_6, e125_7, e125_8, e125_9, e125_10, e125_11, e125_12, e125_13, e125_14, e125_15, e125_16, e125_17, e125_18, e125_19, e125_20, e125_21, e125_22, e125_23, e125_24, e125_26, e125_27, e125_28, e125_29, e125_30, e125_31, e125_32, e125_33, e125_34, e125_35, e125_36, e125_37, e125_38, e125_39, e125_40, e125_41, e125_42, e125_43, e125_44, e125_45, e125_46, e125_47, e125_48, e125_49, e125_50, e125_51, e125_52, e125_53, e125_54, e125_55, e125_56, e125_57, e125_58, e125_59, e125_60, e125_61, e125_62, e125_63, e125_64, e125_65, e125_66, e125_67, e125_68, e125_69, e125_70, e125_71, e125_72, e125_73, e125_74, e125_75, e125_76, e125_77, e125_78, e125_79, e125_80, e125_81, e125_82, e125_83, e125_84, e125_85, e125_86, e125_87, e125_88, e125_89, e125_90, e125_91, e125_92, e125_93, e125_94, e125_95, e125_96, e125_97, e125_98, e125_99, e125_100, e125_101, e125_102, e125_103, e125_104, e125_105, e125_106, e125_107, e125_108, e125_109, e125_110, e125_111, e125_112, e125_113, e125_114, e125_115, e125_116, e125_117, e125_118, e125_119, e125_120, e125_121, e125_122, e125_123, e125_124, ys_0 hY, ys_1 hY, ys_2 hY, ys_3 hY, ys_4 hY, ys_5 hY, ys_6 hY, ys_7 hY, ys_8 hY, ys_9 hY, ys_10 hY, ys_11 hY, ys_12 hY, ys_13 hY, ys_14 hY, ys_15 hY, ys_16 hY, ys_17 hY, ys_18 hY, ys_19 hY, ys_20 hY, ys_21 hY, ys_22 hY, ys_23 hY, ys_24 hY, ys_25 hY, ys_26 hY, ys_27 hY, ys_28 hY, ys_29 hY, ys_30 hY, ys_31 hY, ys_32 hY, ys_33 hY, ys_34 hY, ys_35 hY, ys_36 hY, ys_37 hY, ys_38 hY, ys_39 hY, ys_40 hY, ys_41 hY, ys_42 hY, ys_43 hY, ys_44 hY, ys_45 hY, ys_46 hY, ys_47 hY, ys_48 hY, ys_49 hY, ys_50 hY, ys_51 hY, ys_52 hY, ys_53 hY, ys_54 hY, ys_55 hY, ys_56 hY, ys_57 hY, ys_58 hY, ys_59 hY, ys_60 hY, ys_61 hY, ys_62 hY, ys_63 hY, ys_64 hY, ys_65 hY, ys_66 hY, ys_67 hY, ys_68 hY, ys_69 hY, ys_70 hY, ys_71 hY, ys_72 hY, ys_73 hY, ys_74 hY, ys_75 hY, ys_76 hY, ys_77 hY, if_neg c1, pk_mul, nI_add, jb_ix hb (by decide), if_neg a1, a2, if_true]
      · have hp : jy_lw N w 54 k = false := by unfold jy_lw; rw [decide_eq_false a2, Bool.and_false]
        rw [jb_fnd_f hp]
        simp only [e125_0, e125_1, e125_3, e125_4, e125_5, e125_6, e125_7, e125_8, e125_9, e125_10, e125_11, e125_12, e125_13, e125_14, e125_15, e125_16, e125_17, e125_18, e125_19, e125_20, e125_21, e125_22, e125_23, e125_24, e125_26, e125_27, e125_28, e125_29, e125_30, e125_31, e125_32, e125_33, e125_34, e125_35, e125_36, e125_37, e125_38, e125_39, e125_40, e125_41, e125_42, e125_43, e125_44, e125_45, e125_46, e125_47, e125_48, e125_49, e125_50, e125_51, e125_52, e125_53, e125_54, e125_55, e125_56, e125_57, e125_58, e125_59, e125_60, e125_61, e125_62, e125_63, e125_64, e125_65, e125_66, e125_67, e125_68, e125_69, e125_70, e125_71, e125_72, e125_73, e125_74, e125_75, e125_76, e125_77, e125_78, e125_79, e125_80, e125_81, e125_82, e125_83, e125_84, e125_85, e125_86, e125_87, e125_88, e125_89, e125_90, e125_91, e125_92, e125_93, e125_94, e125_95, e125_96, e125_97, e125_98, e125_99, e125_100, e125_101, e125_102, e125_103, e125_104, e125_105, e125_106, e125_107, e125_108, e125_109, e125_110, e125_111, e125_112, e125_113, e125_114, e125_115, e125_116, e125_117, e125_118, e125_119, e125_120, e125_121, e125_122, e125_123, e125_124, ys_0 hY, ys_1 hY, ys_2 hY, ys_3 hY, ys_4 hY, ys_5 hY, ys_6 hY, ys_7 hY, ys_8 hY, ys_9 hY, ys_10 hY, ys_11 hY, ys_12 hY, ys_13 hY, ys_14 hY, ys_15 hY, ys_16 hY, ys_17 hY, ys_18 hY, ys_19 hY, ys_20 hY, ys_21 hY, ys_22 hY, ys_23 hY, ys_24 hY, ys_25 hY, ys_26 hY, ys_27 hY, ys_28 hY, ys_29 hY, ys_30 hY, ys_31 hY, ys_32 hY, ys_33 hY, ys_34 hY, ys_35 hY, ys_36 hY, ys_37 hY, ys_38 hY, ys_39 hY, ys_40 hY, ys_41 hY, ys_42 hY, ys_43 hY, ys_44 hY, ys_45 hY, ys_46 hY, ys_47 hY, ys_48 hY, ys_49 hY, ys_50 hY, ys_51 hY, ys_52 hY, ys_53 hY, ys_54 hY, ys_55 hY, ys_56 hY, ys_57 hY, ys_58 hY, ys_59 hY, ys_60 hY, ys_61 hY, ys_62 hY, ys_63 hY, ys_64 hY, ys_65 hY, ys_66 hY, ys_67 hY, ys_68 hY, ys_69 hY, ys_70 hY, ys_71 hY, ys_72 hY, ys_73 hY, ys_74 hY, ys_75 hY, ys_76 hY, ys_77 hY, if_neg c1, pk_mul, nI_add, jb_ix hb (by decide), if_neg a1, if_neg a2, ih]
theorem yLw129 {d w : Nat} {N : jm_M} (hY : jy_S N) (hw : w < 4) : ∀ f k, k + f = 32 → jm_D d 129 2 [some (.inr (some (31, 0))), some (.inl (nI w)), some (.inl (nI k)), none] [] N = jm_D d 129 25 [some (.inr (some (31, 0))), some (.inl (nI w)), some (.inl (nI (jb_fnd (jy_lw N w 55) f k))), none] [] N := by
  intro f
  induction f with
  | zero =>
    intro k hk
    obtain rfl : k = 32 := by omega
    rw [e129_2]
    simp only [e129_3, e129_4, Int32.le_refl, if_true]
    rfl
  | succ f ih =>
    intro k hk
    have hb : 32 * w + k < 128 := by omega
    have c1 : ¬ nI 32 ≤ nI k := nI_ge (by omega) (by decide)
    have ih := ih (k + 1) (by omega)
    rw [e129_2]
    by_cases a1 : jm_I N 51 0 (32 * w + k) = nI 0
    · have hp : jy_lw N w 55 k = false := by unfold jy_lw; rw [decide_eq_true a1]; rfl
      rw [jb_fnd_f hp]
      simp only [e129_0, e129_1, e129_3, e129_4, e129_5, e129_6, e129_7, e129_8, e129_9, e129_10, e129_11, e129_12, e129_13, e129_14, e129_15, e129_16, e129_17, e129_18, e129_19, e129_20, e129_21, e129_22, e129_23, e129_24, e129_26, e129_27, e129_28, e129_29, e129_30, e129_31, e129_32, e129_33, e129_34, e129_35, e129_36, e129_37, e129_38, e129_39, e129_40, e129_41, e129_42, e129_43, e129_44, e129_45, e129_46, e129_47, e129_48, e129_49, e129_50, e129_51, e129_52, e129_53, e129_54, e129_55, e129_56, e129_57, e129_58, e129_59, e129_60, e129_61, e129_62, e129_63, e129_64, e129_65, e129_66, e129_67, e129_68, e129_69, e129_70, e129_71, e129_72, e129_73, e129_74, e129_75, e129_76, e129_77, e129_78, e129_79, e129_80, e129_81, e129_82, e129_83, e129_84, ys_0 hY, ys_1 hY, ys_2 hY, ys_3 hY, ys_4 hY, ys_5 hY, ys_6 hY, ys_7 hY, ys_8 hY, ys_9 hY, ys_10 hY, ys_11 hY, ys_12 hY, ys_13 hY, ys_14 hY, ys_15 hY, ys_16 hY, ys_17 hY, ys_18 hY, ys_19 hY, ys_20 hY, ys_21 hY, ys_22 hY, ys_23 hY, ys_24 hY, ys_25 hY, ys_26 hY, ys_27 hY, ys_28 hY, ys_29 hY, ys_30 hY, ys_31 hY, ys_32 hY, ys_33 hY, ys_34 hY, ys_35 hY, ys_36 hY, ys_37 hY, ys_38 hY, ys_39 hY, ys_40 hY, ys_41 hY, ys_42 hY, ys_43 hY, ys_44 hY, ys_45 hY, ys_46 hY, ys_47 hY, ys_48 hY, ys_49 hY, ys_50 hY, ys_51 hY, ys_52 hY, ys_53 hY, ys_54 hY, ys_55 hY, ys_56 hY, ys_57 hY, ys_58 hY, ys_59 hY, ys_60 hY, ys_61 hY, ys_62 hY, ys_63 hY, ys_64 hY, ys_65 hY, ys_66 hY, ys_67 hY, ys_68 hY, ys_69 hY, ys_70 hY, ys_71 hY, ys_72 hY, ys_73 hY, ys_74 hY, ys_75 hY, ys_76 hY, ys_77 hY, if_neg c1, pk_mul, nI_add, jb_ix hb (by decide), a1, if_true, ih]
    · by_cases a2 : jm_I N 55 0 (32 * w + k) = nI 0
      · have hp : jy_lw N w 55 k = true := by unfold jy_lw; rw [decide_eq_false a1, decide_eq_true a2]; rfl
        rw [jb_fnd_t hp]
        simp only [e129_0, e129_1, e129_3, e129_4, e129_5, e129_6, e129_7, e129_8, e129_9, e129_10, e129_11, e129_12, e129_13, e129_14, e129_15, e129_16, e129_17, e129_18, e129_19, e129_20, e129_21, e129_22, e129_23, e129_24, e129_26, e129_27, e129_28, e129_29, e129_30, e129_31, e129_32, e129_33, e129_34, e129_35, e129_36, e129_37, e129_38, e129_39, e129_40, e129_41, e129_42, e129_43, e129_44, e129_45, e129_46, e129_47, e129_48, e129_49, e129_50, e129_51, e129_52, e129_53, e129_54, e129_55, e129_56, e129_57, e129_58, e129_59, e129_60, e129_61, e129_62, e129_63, e129_64, e129_65, e129_66, e129_67, e129_68, e129_69, e129_70, e129_71, e129_72, e129_73, e129_74, e129_75, e129_76, e129_77, e129_78, e129_79, e129_80, e129_81, e129_82, e129_83, e129_84, ys_0 hY, ys_1 hY, ys_2 hY, ys_3 hY, ys_4 hY, ys_5 hY, ys_6 hY, ys_7 hY, ys_8 hY, ys_9 hY, ys_10 hY, ys_11 hY, ys_12 hY, ys_13 hY, ys_14 hY, ys_15 hY, ys_16 hY, ys_17 hY, ys_18 hY, ys_19 hY, ys_20 hY, ys_21 hY, ys_22 hY, ys_23 hY, ys_24 hY, ys_25 hY, ys_26 hY, ys_27 hY, ys_28 hY, ys_29 hY, ys_30 hY, ys_31 hY, ys_32 hY, ys_33 hY, ys_34 hY, ys_35 hY, ys_36 hY, ys_37 hY, ys_38 hY, ys_39 hY, ys_40 hY, ys_41 hY, ys_42 hY, ys_43 hY, ys_44 hY, ys_45 hY, ys_46 hY, ys_47 hY, ys_48 hY, ys_49 hY, ys_50 hY, ys_51 hY, ys_52 hY, ys_53 hY, ys_54 hY, ys_55 hY, ys_56 hY, ys_57 hY, ys_58 hY, ys_59 hY, ys_60 hY, ys_61 hY, ys_62 hY, ys_63 hY, ys_64 hY, ys_65 hY, ys_66 hY, ys_67 hY, ys_68 hY, ys_69 hY, ys_70 hY, ys_71 hY, ys_72 hY, ys_73 hY, ys_74 hY, ys_75 hY, ys_76 hY, ys_77 hY, if_neg c1, pk_mul, nI_add, jb_ix hb (by decide), if_neg a1, a2, if_true]
      · have hp : jy_lw N w 55 k = false := by unfold jy_lw; rw [decide_eq_false a2, Bool.and_false]
        rw [jb_fnd_f hp]
        simp only [e129_0, e129_1, e129_3, e129_4, e129_5, e129_6, e129_7, e129_8, e129_9, e129_10, e129_11, e129_12, e129_13, e129_14, e129_15, e129_16, e129_17, e129_18, e129_19, e129_20, e129_21, e129_22, e129_23, e129_24, e129_26, e129_27, e129_28, e129_29, e129_30, e129_31, e129_32, e129_33, e129_34, e129_35, e129_36, e129_37, e129_38, e129_39, e129_40, e129_41, e129_42, e129_43, e129_44, e129_45, e129_46, e129_47, e129_48, e129_49, e129_50, e129_51, e129_52, e129_53, e129_54, e129_55, e129_56, e129_57, e129_58, e129_59, e129_60, e129_61, e129_62, e129_63, e129_64, e129_65, e129_66, e129_67, e129_68, e129_69, e129_70, e129_71, e129_72, e129_73, e129_74, e129_75, e129_76, e129_77, e129_78, e129_79, e129_80, e129_81, e129_82, e129_83, e129_84, ys_0 hY, ys_1 hY, ys_2 hY, ys_3 hY, ys_4 hY, ys_5 hY, ys_6 hY, ys_7 hY, ys_8 hY, ys_9 hY, ys_10 hY, ys_11 hY, ys_12 hY, ys_13 hY, ys_14 hY, ys_15 hY, ys_16 hY, ys_17 hY, ys_18 hY, ys_19 hY, ys_20 hY, ys_21 hY, ys_22 hY, ys_23 hY, ys_24 hY, ys_25 hY, ys_26 hY, ys_27 hY, ys_28 hY, ys_29 hY, ys_30 hY, ys_31 hY, ys_32 hY, ys_33 hY, ys_34 hY, ys_35 hY, ys_36 hY, ys_37 hY, ys_38 hY, ys_39 hY, ys_40 hY, ys_41 hY, ys_42 hY, ys_43 hY, ys_44 hY, ys_45 hY, ys_46 hY, ys_47 hY, ys_48 hY, ys_49 hY, ys_50 hY, ys_51 hY, ys_52 hY, ys_53 hY, ys_54 hY, ys_55 hY, ys_56 hY, ys_57 hY, ys_58 hY, ys_59 hY, ys_60 hY, ys_61 hY, ys_62 hY, ys_63 hY, ys_64 hY, ys_65 hY, ys_66 hY, ys_67 hY, ys_68 hY, ys_69 hY, ys_70 hY, ys_71 hY, ys_72 hY, ys_73 hY, ys_74 hY, ys_75 hY, ys_76 hY, ys_77 hY, if_neg c1, pk_mul, nI_add, jb_ix hb (by decide), if_neg a1, if_neg a2, ih]
theorem rU_own3 {w t : Nat} {M N M' N' : jm_M} (h : rU M N) (hO : jq_O M N M' N' w t) (hs3 : ∀ b e, e < 2 ^ 31 → b ≤ e → jm_I N 31 0 33 = nI e → ∃ f, f < 2 ^ 31 ∧ b ≤ f ∧ jm_I N' 59 0 w = nI f) (hs4 : ¬ jm_I N' 45 0 w = nI 4) : rU M' N' := by
  obtain ⟨b, b1, b2, b3, b4, b5, b6, b7⟩ := h
  obtain ⟨⟨f1, f2, f3⟩, -, a3, a4, a5, a6, a7, a8, a9, c1, c2, c3, c4⟩ := hO
  have eN : ∀ k, k < 45 ∨ 61 < k → jm_I N' k = jm_I N k := fun k z => funext fun i => funext fun j => a8 k i j z
  have n31 := eN 31 (by decide)
  have n37 := eN 37 (by decide)
  have n40 := eN 40 (by decide)
  have n65 := eN 65 (by decide)
  have n68 := eN 68 (by decide)
  have n64 := eN 64 (by decide)
  have hv3 : ∀ v, False ∨ jm_I N' 45 0 v = nI 4 → v ≠ w := by
    rintro v hv rfl
    exact hv.elim id hs4
  have n45 : ∀ v, v ≠ w → jm_I N' 45 0 v = jm_I N 45 0 v := fun v hv => a9 45 v (by decide) hv
  have n59 : ∀ v, v ≠ w → jm_I N' 59 0 v = jm_I N 59 0 v := fun v hv => a9 59 v (by decide) hv
  have n60 : ∀ v, v ≠ w → jm_I N' 60 0 v = jm_I N 60 0 v := fun v hv => a9 60 v (by decide) hv
  have n51 : ∀ v k, v ≠ w → k < 32 → jm_I N' 51 0 (32 * v + k) = jm_I N 51 0 (32 * v + k) := fun v k hv hk => c2 51 v k (by decide) (by decide) hv hk
  have n55 : ∀ v k, v ≠ w → k < 32 → jm_I N' 55 0 (32 * v + k) = jm_I N 55 0 (32 * v + k) := fun v k hv hk => c2 55 v k (by decide) (by decide) hv hk
  refine ⟨b, ?_, fun v hv hl => ?_, ?_, fun v k hv hk hl => ?_, ?_, fun v u k hv hu hk hl => ?_, fun u v k hu hv hk huv h4 h5 => ?_⟩
  · rw [n31]; exact b1
  · by_cases e : v = w
    · subst e
      obtain ⟨e, e1, e2, e3⟩ := b1
      exact hs3 b e e1 e2 e3
    · rw [n45 v e] at hl
      rw [n59 v e]
      exact b2 v hv hl
  · unfold jy_lg
    rw [f3, n64, n68, n65, n37, n40]
    exact b3
  · have e := hv3 v (Or.inr hl)
    rw [n45 v e] at hl
    rw [n51 v k e hk, n55 v k e hk, n60 v e, n40, n37]
    exact b4 v k hv hk hl
  · unfold jy_lg
    rw [f3, n64, n68, n65]
    exact b5
  · have e := hv3 v (Or.inr hl)
    rw [n45 v e] at hl
    unfold jy_lg
    rw [n55 v k e hk, n64, n68, n65, n60 v e]
    rw [f3] at hu
    exact b6 v u k hv hu hk hl
  · have e := hv3 v (Or.inr h5)
    have e' := hv3 u (Or.inr h4)
    rw [n45 v e] at h5
    rw [n45 u e'] at h4
    rw [n55 v k e hk, n55 u k e' hk, n60 v e, n60 u e']
    exact b7 u v k hu hv hk huv h4 h5
