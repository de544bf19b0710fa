/-! A record added to the reference's store. -/
def jy_u (p : Nat → Bool) (K : Nat) : Nat := jb_cnt (fun x => p x && decide (K ≤ x)) 32
theorem jy_u_t {p : Nat → Bool} {f : Nat} (hf : f < 32) (h : p f = true) : jy_u p f = jy_u p (f + 1) + 1 := by
  refine jb_cnt_up 32 hf ?_ ?_ (fun x hx he => ?_)
  · rw [decide_eq_false (show ¬ f + 1 ≤ f by omega), Bool.and_false]
  · rw [decide_eq_true (Nat.le_refl f), Bool.and_true, h]
  · by_cases e : f ≤ x
    · rw [decide_eq_true e, decide_eq_true (show f + 1 ≤ x by omega)]
    · rw [decide_eq_false e, decide_eq_false (show ¬ f + 1 ≤ x by omega)]
theorem jy_u_f {p : Nat → Bool} {f : Nat} (h : p f = false) : jy_u p f = jy_u p (f + 1) := by
  refine jb_cnt_congr (fun x hx => ?_)
  by_cases e : x = f
  · subst e
    rw [h, Bool.false_and, Bool.false_and]
  · by_cases e2 : f ≤ x
    · rw [decide_eq_true e2, decide_eq_true (show f + 1 ≤ x by omega)]
    · rw [decide_eq_false e2, decide_eq_false (show ¬ f + 1 ≤ x by omega)]
def jy_mv (N : jm_M) (i n K : Nat) : Nat → Nat → Int32 := fun b x => if b = 0 ∧ K ≤ x ∧ x < 32 ∧ jy_at N i x = true then nI (n + 1) else jm_I N 42 b x
theorem jy_mv_lo {N : jm_M} {i n K b x : Nat} (h : x < K) : jy_mv N i n K b x = jm_I N 42 b x := if_neg (by omega)
theorem yMv {d i n : Nat} {N : jm_M} {l1 l2 : Option jm_V} (hY : jy_S N) (h12 : jm_I N 31 0 12 = nI (n + 1)) (htot : 2 ≤ jy_u (jy_at N i) 0) : ∀ f m, f ≤ 32 → m ≤ 2 → jy_u (jy_at N i) f = m → ∃ K, K ≤ f ∧ jy_u (jy_at N i) K = 2 ∧ jm_D d 126 112 [some (.inr (some (31, 0))), l1, l2, some (.inl (nI (i + 1))), some (.inl (nI m)), some (.inl (nI f + (-1)))] [] (jm_setK N 42 (jy_mv N i n f)) = some (some (.inl (nI (n + 1))), jm_setK N 42 (jy_mv N i n K)) := by
  intro f
  have hk : ∀ K, jm_I (jm_setK N 42 (jy_mv N i n K)) 31 0 12 = nI (n + 1) := fun _ => h12
  induction f with
  | zero =>
    intro m _ hm hu
    have c1 : nI 0 + (-1) < nI 0 := by decide
    refine ⟨0, Nat.le_refl _, by omega, ?_⟩
    rw [e126_112, e126_113, if_pos c1]
    simp only [e126_137, e126_138, e126_139, hk]
  | succ f ih =>
    intro m hf hm hu
    have c1 : ¬ nI f < nI 0 := nI_nlt (by omega) (by omega)
    rw [pk_m1, e126_112, e126_113, if_neg c1, e126_114, e126_115, e126_116]
    by_cases h2 : m = 2
    · subst h2
      refine ⟨f + 1, Nat.le_refl _, hu, ?_⟩
      rw [if_pos (Int32.le_refl _)]
      simp only [e126_137, e126_138, e126_139, hk]
    · have c2 : ¬ nI 2 ≤ nI m := nI_ge (by omega) (by omega)
      have hf32 : f < 32 := by omega
      have e37 : jm_I (jm_setK N 42 (jy_mv N i n (f + 1))) 37 0 f = jm_I N 37 0 f := rfl
      have e42 : jm_I (jm_setK N 42 (jy_mv N i n (f + 1))) 42 0 f = jm_I N 42 0 f := (jk_I _ _ _ _ _).trans (jy_mv_lo (by omega))
      rw [if_neg c2]
      by_cases hp : jy_at N i f = true
      · have hs : jy_u (jy_at N i) f = m + 1 := by rw [jy_u_t hf32 hp, hu]
        obtain ⟨K, k1, k2, k3⟩ := ih (m + 1) (by omega) (by omega) hs
        refine ⟨K, by omega, k2, ?_⟩
        have hp' := hp
        unfold jy_at at hp'
        simp only [Bool.and_eq_true, Bool.not_eq_true', decide_eq_false_iff_not, decide_eq_true_eq] at hp'
        have ee : jm_setK N 42 (fun b c => if b = 0 ∧ c = f then nI (n + 1) else jy_mv N i n (f + 1) b c) = jm_setK N 42 (jy_mv N i n f) := by
          refine jk_ex (fun b c => ?_)
          unfold jy_mv
          by_cases q1 : b = 0 ∧ c = f
          · obtain ⟨rfl, rfl⟩ := q1
            rw [if_pos ⟨rfl, rfl⟩, if_pos ⟨rfl, Nat.le_refl _, hf32, hp⟩]
          · rw [if_neg q1]
            by_cases q2 : b = 0 ∧ f + 1 ≤ c ∧ c < 32 ∧ jy_at N i c = true
            · rw [if_pos q2, if_pos ⟨q2.1, by omega, q2.2.2⟩]
            · rw [if_neg q2, if_neg (fun z => q2 ⟨z.1, by omega, z.2.2⟩)]
        rw [← k3]
        simp only [e126_0, e126_1, e126_2, e126_3, e126_4, e126_5, e126_6, e126_7, e126_8, e126_9, e126_10, e126_11, e126_12, e126_13, e126_14, e126_15, e126_16, e126_17, e126_18, e126_19, e126_20, e126_21, e126_22, e126_23, e126_24, e126_25, e126_26, e126_27, e126_28, e126_29, e126_30, e126_31, e126_32, e126_33, e126_34, e126_35, e126_36, e126_37, e126_38, e126_39, e126_40, e126_41, e126_42, e126_43, e126_44, e126_45, e126_46, e126_47, e126_48, e126_49, e126_50, e126_51, e126_52, e126_53, e126_54, e126_55, e126_56, e126_57, e126_58, e126_59, e126_60, e126_61, e126_62, e126_63, e126_64, e126_65, e126_66, e126_67, e126_68, e126_69, e126_70, e126_72, e126_73, e126_74, e126_75, e126_76, e126_77, e126_78, e126_79, e126_80, e126_81, e126_82, e126_83, e126_84, e126_85, e126_86, e126_87, e126_88, e126_89, e126_90, e126_91, e126_92, e126_93, e126_94, e126_95, e126_96, e126_97, e126_98, e126_99, e126_100, e126_101, e126_102, e126_103, e126_104, e126_105, e126_106, e126_107, e126_108, e126_109, e126_110, e126_111, e126_113, e126_114, e126_115, e126_116, e126_117, e126_118, e126_119, e126_120, e126_121, e126_122, e126_123, e126_124, e126_125, e126_126, e126_127, e126_128, e126_129, e126_130, e126_131, e126_132, e126_133, e126_134, e126_135, e126_136, e126_137, e126_138, e126_139, jk_F, jk_n, ys_0 hY, ys_1 hY, ys_2 hY, ys_3 hY, ys_4 hY, ys_5 hY, ys_6 hY, ys_7 hY, ys_8 hY, ys_9 hY, ys_10 hY, ys_11 hY, ys_12 hY, ys_13 hY, ys_14 hY, ys_15 hY, ys_16 hY, ys_17 hY, ys_18 hY, ys_19 hY, ys_20 hY, ys_21 hY, ys_22 hY, ys_23 hY, ys_24 hY, ys_25 hY, ys_26 hY, ys_27 hY, ys_28 hY, ys_29 hY, ys_30 hY, ys_31 hY, ys_32 hY, ys_33 hY, ys_34 hY, ys_35 hY, ys_36 hY, ys_37 hY, ys_38 hY, ys_39 hY, ys_40 hY, ys_41 hY, ys_42 hY, ys_43 hY, ys_44 hY, ys_45 hY, ys_46 hY, ys_47 hY, ys_48 hY, ys_49 hY, ys_50 hY, ys_51 hY, ys_52 hY, ys_53 hY, ys_54 hY, ys_55 hY, ys_56 hY, ys_57 hY, ys_58 hY, ys_59 hY, ys_60 hY, ys_61 hY, ys_62 hY, ys_63 hY, ys_64 hY, ys_65 hY, ys_66 hY, ys_67 hY, ys_68 hY, ys_69 hY, ys_70 hY, ys_71 hY, ys_72 hY, ys_73 hY, ys_74 hY, ys_75 hY, ys_76 hY, ys_77 hY, jb_ix hf32 (by decide), e37, if_neg hp'.1, e42, hp'.2, if_true, hk, jk_set, ee, nI_add]
      · have hp0 : jy_at N i f = false := Bool.eq_false_iff.mpr hp
        have hs : jy_u (jy_at N i) f = m := by rw [jy_u_f hp0, hu]
        obtain ⟨K, k1, k2, k3⟩ := ih m (by omega) hm hs
        refine ⟨K, by omega, k2, ?_⟩
        have ee : jm_setK N 42 (jy_mv N i n (f + 1)) = jm_setK N 42 (jy_mv N i n f) := by
          refine jk_ex (fun b c => ?_)
          unfold jy_mv
          by_cases q2 : b = 0 ∧ f + 1 ≤ c ∧ c < 32 ∧ jy_at N i c = true
          · rw [if_pos q2, if_pos ⟨q2.1, by omega, q2.2.2⟩]
          · rw [if_neg q2, if_neg (fun z => q2 ⟨z.1, by
              rcases Nat.lt_or_eq_of_le z.2.1 with h | h
              · omega
              · rw [← h] at z; exact absurd z.2.2.2 hp, z.2.2⟩)]
        rw [← k3, ← ee]
        have hor : jm_I N 37 0 f = nI 0 ∨ (¬ jm_I N 37 0 f = nI 0 ∧ ¬ jm_I N 42 0 f = nI (i + 1)) := by
          by_cases q : jm_I N 37 0 f = nI 0
          · exact Or.inl q
          · refine Or.inr ⟨q, fun z => hp ?_⟩
            unfold jy_at
            rw [decide_eq_false q, decide_eq_true z]
            rfl
        rcases hor with q | ⟨q1, q2⟩
        · simp only [e126_0, e126_1, e126_2, e126_3, e126_4, e126_5, e126_6, e126_7, e126_8, e126_9, e126_10, e126_11, e126_12, e126_13, e126_14, e126_15, e126_16, e126_17, e126_18, e126_19, e126_20, e126_21, e126_22, e126_23, e126_24, e126_25, e126_26, e126_27, e126_28, e126_29, e126_30, e126_31, e126_32, e126_33, e126_34, e126_35, e126_36, e126_37, e126_38, e126_39, e126_40, e126_41, e126_42, e126_43, e126_44, e126_45, e126_46, e126_47, e126_48, e126_49, e126_50, e126_51, e126_52, e126_53, e126_54, e126_55, e126_56, e126_57, e126_58, e126_59, e126_60, e126_61, e126_62, e126_63, e126_64, e126_65, e126_66, e126_67, e126_68, e126_69, e126_70, e126_72, e126_73, e126_74, e126_75, e126_76, e126_77, e126_78, e126_79, e126_80, e126_81, e126_82, e126_83, e126_84, e126_85, e126_86, e126_87, e126_88, e126_89, e126_90, e126_91, e126_92, e126_93, e126_94, e126_95, e126_96, e126_97, e126_98, e126_99, e126_100, e126_101, e126_102, e126_103, e126_104, e126_105, e126_106, e126_107, e126_108, e126_109, e126_110, e126_111, e126_113, e126_114, e126_115, e126_116, e126_117, e126_118, e126_119, e126_120, e126_121, e126_122, e126_123, e126_124, e126_125, e126_126, e126_127, e126_128, e126_129, e126_130, e126_131, e126_132, e126_133, e126_134, e126_135, e126_136, e126_137, e126_138, e126_139, jk_F, jk_n, ys_0 hY, ys_1 hY, ys_2 hY, ys_3 hY, ys_4 hY, ys_5 hY, ys_6 hY, ys_7 hY, ys_8 hY, ys_9 hY, ys_10 hY, ys_11 hY, ys_12 hY, ys_13 hY, ys_14 hY, ys_15 hY, ys_16 hY, ys_17 hY, ys_18 hY, ys_19 hY, ys_20 hY, ys_21 hY, ys_22 hY, ys_23 hY, ys_24 hY, ys_25 hY, ys_26 hY, ys_27 hY, ys_28 hY, ys_29 hY, ys_30 hY, ys_31 hY, ys_32 hY, ys_33 hY, ys_34 hY, ys_35 hY, ys_36 hY, ys_37 hY, ys_38 hY, ys_39 hY, ys_40 hY, ys_41 hY, ys_42 hY, ys_43 hY, ys_44 hY, ys_45 hY, ys_46 hY, ys_47 hY, ys_48 hY, ys_49 hY, ys_50 hY, ys_51 hY, ys_52 hY, ys_53 hY, ys_54 hY, ys_55 hY, ys_56 hY, ys_57 hY, ys_58 hY, ys_59 hY, ys_60 hY, ys_61 hY, ys_62 hY, ys_63 hY, ys_64 hY, ys_65 hY, ys_66 hY, ys_67 hY, ys_68 hY, ys_69 hY, ys_70 hY, ys_71 hY, ys_72 hY, ys_73 hY, ys_74 hY, ys_75 hY, ys_76 hY, ys_77 hY, jb_ix hf32 (by decide), e37, q, if_true]
        · simp only [e126_0, e126_1, e126_2, e126_3, e126_4, e126_5, e126_6, e126_7, e126_8, e126_9, e126_10, e126_11, e126_12, e126_13, e126_14, e126_15, e126_16, e126_17, e126_18, e126_19, e126_20, e126_21, e126_22, e126_23, e126_24, e126_25, e126_26, e126_27, e126_28, e126_29, e126_30, e126_31, e126_32, e126_33, e126_34, e126_35, e126_36, e126_37, e126_38, e126_39, e126_40, e126_41, e126_42, e126_43, e126_44, e126_45, e126_46, e126_47, e126_48, e126_49, e126_50, e126_51, e126_52, e126_53, e126_54, e126_55, e126_56, e126_57, e126_58, e126_59, e126_60, e126_61, e126_62, e126_63, e126_64, e126_65, e126_66, e126_67, e126_68, e126_69, e126_70, e126_72, e126_73, e126_74, e126_75, e126_76, e126_77, e126_78, e126_79, e126_80, e126_81, e126_82, e126_83, e126_84, e126_85, e126_86, e126_87, e126_88, e126_89, e126_90, e126_91, e126_92, e126_93, e126_94, e126_95, e126_96, e126_97, e126_98, e126_99, e126_100, e126_101, e126_102, e126_103, e126_104, e126_105, e126_106, e126_107, e126_108, e126_109, e126_110, e126_111, e126_113, e126_114, e126_115, e126_116, e126_117, e126_118, e126_119, e126_120, e126_121, e126_122, e126_123, e126_124, e126_125, e126_126, e126_127, e126_128, e126_129, e126_130, e126_131, e126_132, e126_133, e126_134, e126_135, e126_136, e126_137, e126_138, e126_139, jk_F, jk_n, ys_0 hY, ys_1 hY, ys_2 hY, ys_3 hY, ys_4 hY, ys_5 hY, ys_6 hY, ys_7 hY, ys_8 hY, ys_9 hY, ys_10 hY, ys_11 hY, ys_12 hY, ys_13 hY, ys_14 hY, ys_15 hY, ys_16 hY, ys_17 hY, ys_18 hY, ys_19 hY, ys_20 hY, ys_21 hY, ys_22 hY, ys_23 hY, ys_24 hY, ys_25 hY, ys_26 hY, ys_27 hY, ys_28 hY, ys_29 hY, ys_30 hY, ys_31 hY, ys_32 hY, ys_33 hY, ys_34 hY, ys_35 hY, ys_36 hY, ys_37 hY, ys_38 hY, ys_39 hY, ys_40 hY, ys_41 hY, ys_42 hY, ys_43 hY, ys_44 hY, ys_45 hY, ys_46 hY, ys_47 hY, ys_48 hY, ys_49 hY, ys_50 hY, ys_51 hY, ys_52 hY, ys_53 hY, ys_54 hY, ys_55 hY, ys_56 hY, ys_57 hY, ys_58 hY, ys_59 hY, ys_60 hY, ys_61 hY, ys_62 hY, ys_63 hY, ys_64 hY, ys_65 hY, ys_66 hY, ys_67 hY, ys_68 hY, ys_69 hY, ys_70 hY, ys_71 hY, ys_72 hY, ys_73 hY, ys_74 hY, ys_75 hY, ys_76 hY, ys_77 hY, jb_ix hf32 (by decide), e37, if_neg q1, e42, if_neg q2]
theorem ySh0 {d n q : Nat} {N : jm_M} {l1 l3 l5 : Option jm_V} (hY : jy_S N) (hn : n < 16) : ∀ f, q + 1 + f ≤ n → jm_D d 126 71 [some (.inr (some (31, 0))), l1, some (.inl (nI q)), l3, some (.inl (nI (q + 1 + f))), l5] [] (jm_setK N 43 (jk_sh (jm_I N 43) 0 (q + 1 + f) n)) = jm_D d 126 88 [some (.inr (some (31, 0))), l1, some (.inl (nI q)), l3, some (.inl (nI (q + 1))), l5] [] (jm_setK N 43 (jk_sh (jm_I N 43) 0 (q + 1) n)) := by
  intro f
  induction f with
  | zero =>
    intro _
    rw [Nat.add_zero, e126_71]
    simp only [e126_72, e126_73, e126_74, e126_75, nI_add, Int32.le_refl, if_true]
  | succ f ih =>
    intro hf
    have ih := ih (by omega)
    rw [show q + 1 + (f + 1) = q + 1 + f + 1 from rfl, e126_71]
    have c1 : ¬ nI (q + 1 + f + 1) ≤ nI (q + 1) := nI_ge (by omega) (by omega)
    have e1 : jm_I (jm_setK N 43 (jk_sh (jm_I N 43) 0 (q + 1 + f + 1) n)) 43 0 (q + 1 + f) = jm_I N 43 0 (q + 1 + f) := (jk_I _ _ _ _ _).trans (jk_sh_lo (by omega))
    have ee := jk_sh1 (M := N) (K := 43) (w := 0) (e := q + 1 + f) (n := n) (g := jm_I N 43) (by omega)
    simp only [e126_72, e126_73, e126_74, e126_75, nI_add, if_neg c1, e126_76, e126_77, e126_78, e126_79, e126_80, e126_81, e126_82, e126_83, e126_84, e126_85, e126_86, e126_87, jk_F, jk_n, ys_0 hY, ys_1 hY, ys_2 hY, ys_3 hY, ys_4 hY, ys_5 hY, ys_6 hY, ys_7 hY, ys_8 hY, ys_9 hY, ys_10 hY, ys_11 hY, ys_12 hY, ys_13 hY, ys_14 hY, ys_15 hY, ys_16 hY, ys_17 hY, ys_18 hY, ys_19 hY, ys_20 hY, ys_21 hY, ys_22 hY, ys_23 hY, ys_24 hY, ys_25 hY, ys_26 hY, ys_27 hY, ys_28 hY, ys_29 hY, ys_30 hY, ys_31 hY, ys_32 hY, ys_33 hY, ys_34 hY, ys_35 hY, ys_36 hY, ys_37 hY, ys_38 hY, ys_39 hY, ys_40 hY, ys_41 hY, ys_42 hY, ys_43 hY, ys_44 hY, ys_45 hY, ys_46 hY, ys_47 hY, ys_48 hY, ys_49 hY, ys_50 hY, ys_51 hY, ys_52 hY, ys_53 hY, ys_54 hY, ys_55 hY, ys_56 hY, ys_57 hY, ys_58 hY, ys_59 hY, ys_60 hY, ys_61 hY, ys_62 hY, ys_63 hY, ys_64 hY, ys_65 hY, ys_66 hY, ys_67 hY, ys_68 hY, ys_69 hY, ys_70 hY, ys_71 hY, ys_72 hY, ys_73 hY, ys_74 hY, ys_75 hY, ys_76 hY, ys_77 hY, jb_sub1, jb_ix (show q + 1 + f < 40 by omega) (by decide), jb_ix (show q + 1 + f + 1 < 40 by omega) (by decide), e1, jk_set, ee, pk_m1, ih]
def jy_a1 (N : jm_M) (k i v : Nat) : jm_M := jm_setI (jm_setI (jm_setI (jm_setI (jm_setI (jm_setI (jm_setI N 37 0 k (nI 1)) 38 0 k (nI 0)) 39 0 k (nI 0)) 40 0 k (nI 0)) 41 0 k (nI 0)) 42 0 k (nI (i + 1))) 44 0 (i + 1) (nI (v + 1))
def jy_a2 (N : jm_M) (k i v q n : Nat) : jm_M := jm_setI (jm_setI (jm_setK (jm_setI (jm_setI (jy_a1 N k i v) 44 0 (i + 1) (nI (v + 1 + 1))) 31 0 12 (nI (n + 1))) 43 (jk_op (jm_I N 43) (q + 1) n (nI (n + 1)))) 44 0 (n + 1) (nI 0)) 31 0 11 (nI (n + 1))
theorem yAdd {d k i v q n c : Nat} {N : jm_M} (hY : jy_S N) (hi : i < n) (hn : n < 16) (hq : q < n) (hk : k < 32) (hv : jm_I N 44 0 (i + 1) = nI v) (h43 : jm_I N 43 0 q = nI (i + 1)) (h11 : jm_I N 31 0 11 = nI n) (h12 : jm_I N 31 0 12 = nI n) (hc : jb_cnt (jy_at (jy_a1 N k i v) i) 32 = c) (hc5 : c ≤ 5) (z1 : ∀ d, jm_D (d + 1) 117 0 [some (.inr (some (31, 0))), some (.inl (nI k)), none, none, none] [] N = some (some (.inl (nI q)), N)) : (c < 5 ∧ jm_D (d + 2) 126 0 [some (.inr (some (31, 0))), some (.inl (nI k)), none, none, none, none] [] N = some (some (.inl (nI 0)), jy_a1 N k i v)) ∨ (c = 5 ∧ ∃ K, jy_u (jy_at (jy_a2 N k i v q n) i) K = 2 ∧ jm_D (d + 2) 126 0 [some (.inr (some (31, 0))), some (.inl (nI k)), none, none, none, none] [] N = some (some (.inl (nI (n + 1))), jm_setK (jy_a2 N k i v q n) 42 (jy_mv (jy_a2 N k i v q n) i n K))) := by
  have h44 : jm_I (jm_setI (jm_setI (jm_setI (jm_setI (jm_setI (jm_setI N 37 0 k (nI 1)) 38 0 k (nI 0)) 39 0 k (nI 0)) 40 0 k (nI 0)) 41 0 k (nI 0)) 42 0 k (nI (i + 1))) 44 0 (i + 1) = nI v := hv
  have hY1 : jy_S (jy_a1 N k i v) := hY
  have hM := yMany (d := d + 1) hY1 (nI (i + 1))
  have hM2 : jb_cnt (jy_p (jy_a1 N k i v) (nI (i + 1))) 32 = c := hc
  rw [hM2] at hM
  have p1 : jm_D (d + 2) 126 0 [some (.inr (some (31, 0))), some (.inl (nI k)), none, none, none, none] [] N = jm_D (d + 2) 126 50 [some (.inr (some (31, 0))), some (.inl (nI k)), some (.inl (nI q)), some (.inl (nI (i + 1))), none, none] [.inl (nI c)] (jy_a1 N k i v) := by
    have e3 : jm_setI (jm_setI (jm_setI (jm_setI (jm_setI (jm_setI (jm_setI N 37 0 k (nI 1)) 38 0 k (nI 0)) 39 0 k (nI 0)) 40 0 k (nI 0)) 41 0 k (nI 0)) 42 0 k (nI (i + 1))) 44 0 (i + 1) (nI (v + 1)) = jy_a1 N k i v := rfl
    simp only [e126_0, e126_1, e126_2, e126_3, e126_4, e126_5, e126_6, e126_7, e126_8, e126_9, e126_10, e126_11, e126_12, e126_13, e126_14, e126_15, e126_16, e126_17, e126_18, e126_19, e126_20, e126_21, e126_22, e126_23, e126_24, e126_25, e126_26, e126_27, e126_28, e126_29, e126_30, e126_31, e126_32, e126_33, e126_34, e126_35, e126_36, e126_37, e126_38, e126_39, e126_40, e126_41, e126_42, e126_43, e126_44, e126_45, e126_46, e126_47, e126_48, e126_49, ys_0 hY, ys_1 hY, ys_2 hY, ys_3 hY, ys_4 hY, ys_5 hY, ys_6 hY, ys_7 hY, ys_8 hY, ys_9 hY, ys_10 hY, ys_11 hY, ys_12 hY, ys_13 hY, ys_14 hY, ys_15 hY, ys_16 hY, ys_17 hY, ys_18 hY, ys_19 hY, ys_20 hY, ys_21 hY, ys_22 hY, ys_23 hY, ys_24 hY, ys_25 hY, ys_26 hY, ys_27 hY, ys_28 hY, ys_29 hY, ys_30 hY, ys_31 hY, ys_32 hY, ys_33 hY, ys_34 hY, ys_35 hY, ys_36 hY, ys_37 hY, ys_38 hY, ys_39 hY, ys_40 hY, ys_41 hY, ys_42 hY, ys_43 hY, ys_44 hY, ys_45 hY, ys_46 hY, ys_47 hY, ys_48 hY, ys_49 hY, ys_50 hY, ys_51 hY, ys_52 hY, ys_53 hY, ys_54 hY, ys_55 hY, ys_56 hY, ys_57 hY, ys_58 hY, ys_59 hY, ys_60 hY, ys_61 hY, ys_62 hY, ys_63 hY, ys_64 hY, ys_65 hY, ys_66 hY, ys_67 hY, ys_68 hY, ys_69 hY, ys_70 hY, ys_71 hY, ys_72 hY, ys_73 hY, ys_74 hY, ys_75 hY, ys_76 hY, ys_77 hY, z1, jb_some, jb_tl, jb_FI, jb_nI, jb_ix (show q < 40 by omega) (by decide), h43, jb_ix hk (by decide), jb_nb, jb_nb0, jb_ix (show i + 1 < 40 by omega) (by decide), h44, nI_add, e3, hM]
  rw [p1]
  by_cases h5 : c = 5
  · refine Or.inr ⟨h5, ?_⟩
    subst h5
    have hY2 : jy_S (jy_a2 N k i v q n) := hY
    have e44 : jm_I (jy_a1 N k i v) 44 0 (i + 1) = nI (v + 1) := jb_Is _ 44 0 _ _
    have e12 : jm_I (jm_setI (jy_a1 N k i v) 44 0 (i + 1) (nI (v + 1 + 1))) 31 0 12 = nI n := h12
    have e11 : jm_I (jm_setI (jm_setI (jy_a1 N k i v) 44 0 (i + 1) (nI (v + 1 + 1))) 31 0 12 (nI (n + 1))) 31 0 11 = nI n := (jb_Io (by decide) _ _ _ _ _ _).trans h11
    have h0 := ySh0 (d := d + 2) (N := jm_setI (jm_setI (jy_a1 N k i v) 44 0 (i + 1) (nI (v + 1 + 1))) 31 0 12 (nI (n + 1))) (q := q) (l1 := some (.inl (nI k))) (l3 := some (.inl (nI (i + 1)))) (l5 := none) hY hn (n - (q + 1)) (by omega)
    rw [show q + 1 + (n - (q + 1)) = n by omega, jk_sh0, jk_id] at h0
    have g12 : jm_I (jm_setK (jm_setI (jm_setI (jy_a1 N k i v) 44 0 (i + 1) (nI (v + 1 + 1))) 31 0 12 (nI (n + 1))) 43 (jk_sh (jm_I (jm_setI (jm_setI (jy_a1 N k i v) 44 0 (i + 1) (nI (v + 1 + 1))) 31 0 12 (nI (n + 1))) 43) 0 (q + 1) n)) 31 0 12 = nI (n + 1) := jb_Is (jm_setI (jy_a1 N k i v) 44 0 (i + 1) (nI (v + 1 + 1))) 31 0 12 _
    have e3 : jm_setI (jm_setK (jm_setI (jm_setI (jy_a1 N k i v) 44 0 (i + 1) (nI (v + 1 + 1))) 31 0 12 (nI (n + 1))) 43 (jk_sh (jm_I (jm_setI (jm_setI (jy_a1 N k i v) 44 0 (i + 1) (nI (v + 1 + 1))) 31 0 12 (nI (n + 1))) 43) 0 (q + 1) n)) 43 0 (q + 1) (nI (n + 1)) = jm_setK (jm_setI (jm_setI (jy_a1 N k i v) 44 0 (i + 1) (nI (v + 1 + 1))) 31 0 12 (nI (n + 1))) 43 (jk_op (jm_I N 43) (q + 1) n (nI (n + 1))) := jk_set _ _ _ _ _ _
    have f12 : jm_I (jm_setK (jm_setI (jm_setI (jy_a1 N k i v) 44 0 (i + 1) (nI (v + 1 + 1))) 31 0 12 (nI (n + 1))) 43 (jk_op (jm_I N 43) (q + 1) n (nI (n + 1)))) 31 0 12 = nI (n + 1) := jb_Is (jm_setI (jy_a1 N k i v) 44 0 (i + 1) (nI (v + 1 + 1))) 31 0 12 _
    have f11 : jm_I (jm_setI (jm_setK (jm_setI (jm_setI (jy_a1 N k i v) 44 0 (i + 1) (nI (v + 1 + 1))) 31 0 12 (nI (n + 1))) 43 (jk_op (jm_I N 43) (q + 1) n (nI (n + 1)))) 44 0 (n + 1) (nI 0)) 31 0 11 = nI n := e11
    have e4 : jm_setI (jm_setI (jm_setK (jm_setI (jm_setI (jy_a1 N k i v) 44 0 (i + 1) (nI (v + 1 + 1))) 31 0 12 (nI (n + 1))) 43 (jk_op (jm_I N 43) (q + 1) n (nI (n + 1)))) 44 0 (n + 1) (nI 0)) 31 0 11 (nI (n + 1)) = jy_a2 N k i v q n := rfl
    have h12' : jm_I (jy_a2 N k i v q n) 31 0 12 = nI (n + 1) := (jb_Io (show 12 ≠ 11 by decide) _ 31 0 _ 31 0).trans f12
    have hsame : jy_at (jy_a2 N k i v q n) i = jy_at (jy_a1 N k i v) i := rfl
    have hu0 : jy_u (jy_at (jy_a2 N k i v q n) i) 0 = 5 := by
      rw [hsame, ← hc]
      exact jb_cnt_congr (fun x _ => by rw [decide_eq_true (Nat.zero_le x), Bool.and_true])
    have hu32 : jy_u (jy_at (jy_a2 N k i v q n) i) 32 = 0 := jb_cnt0 32 (fun x hx => by rw [decide_eq_false (show ¬ 32 ≤ x by omega), Bool.and_false])
    obtain ⟨K, -, k2, k3⟩ := yMv (d := d + 2) (l1 := some (.inl (nI k))) (l2 := some (.inl (nI q))) hY2 h12' (by omega) 32 0 (by omega) (by omega) hu32
    refine ⟨K, k2, ?_⟩
    rw [← k3]
    have e5 : jm_setK (jy_a2 N k i v q n) 42 (jy_mv (jy_a2 N k i v q n) i n 32) = jy_a2 N k i v q n := by
      have : jm_setK (jy_a2 N k i v q n) 42 (jy_mv (jy_a2 N k i v q n) i n 32) = jm_setK (jy_a2 N k i v q n) 42 (jm_I (jy_a2 N k i v q n) 42) := by
        refine jk_ex (fun b c => ?_)
        unfold jy_mv
        rw [if_neg (by omega)]
      rw [this, jk_id]
    have e31 : nI 31 = nI 32 + (-1) := by decide
    rw [e5, ← e31, e126_50, e126_51, if_pos (Int32.le_refl _)]
    simp only [e126_54, e126_55, e126_56, e126_57, e126_58, e126_59, e126_60, e126_61, e126_62, e126_63, e126_64, e126_65, e126_66, e126_67, e126_68, e126_69, e126_70, jb_FI, jb_nI, ys_0 hY1, ys_1 hY1, ys_2 hY1, ys_3 hY1, ys_4 hY1, ys_5 hY1, ys_6 hY1, ys_7 hY1, ys_8 hY1, ys_9 hY1, ys_10 hY1, ys_11 hY1, ys_12 hY1, ys_13 hY1, ys_14 hY1, ys_15 hY1, ys_16 hY1, ys_17 hY1, ys_18 hY1, ys_19 hY1, ys_20 hY1, ys_21 hY1, ys_22 hY1, ys_23 hY1, ys_24 hY1, ys_25 hY1, ys_26 hY1, ys_27 hY1, ys_28 hY1, ys_29 hY1, ys_30 hY1, ys_31 hY1, ys_32 hY1, ys_33 hY1, ys_34 hY1, ys_35 hY1, ys_36 hY1, ys_37 hY1, ys_38 hY1, ys_39 hY1, ys_40 hY1, ys_41 hY1, ys_42 hY1, ys_43 hY1, ys_44 hY1, ys_45 hY1, ys_46 hY1, ys_47 hY1, ys_48 hY1, ys_49 hY1, ys_50 hY1, ys_51 hY1, ys_52 hY1, ys_53 hY1, ys_54 hY1, ys_55 hY1, ys_56 hY1, ys_57 hY1, ys_58 hY1, ys_59 hY1, ys_60 hY1, ys_61 hY1, ys_62 hY1, ys_63 hY1, ys_64 hY1, ys_65 hY1, ys_66 hY1, ys_67 hY1, ys_68 hY1, ys_69 hY1, ys_70 hY1, ys_71 hY1, ys_72 hY1, ys_73 hY1, ys_74 hY1, ys_75 hY1, ys_76 hY1, ys_77 hY1, jb_ix (show i + 1 < 40 by omega) (by decide), e44, nI_add, e12, e11, h0]
    simp only [e126_88, e126_89, e126_90, e126_91, e126_92, e126_93, e126_94, e126_95, e126_96, e126_97, e126_98, e126_99, e126_100, e126_101, e126_102, e126_103, e126_104, e126_105, e126_106, e126_107, e126_108, e126_109, e126_110, e126_111, jk_F, jk_n, jb_FI, jb_nI, ys_0 hY1, ys_1 hY1, ys_2 hY1, ys_3 hY1, ys_4 hY1, ys_5 hY1, ys_6 hY1, ys_7 hY1, ys_8 hY1, ys_9 hY1, ys_10 hY1, ys_11 hY1, ys_12 hY1, ys_13 hY1, ys_14 hY1, ys_15 hY1, ys_16 hY1, ys_17 hY1, ys_18 hY1, ys_19 hY1, ys_20 hY1, ys_21 hY1, ys_22 hY1, ys_23 hY1, ys_24 hY1, ys_25 hY1, ys_26 hY1, ys_27 hY1, ys_28 hY1, ys_29 hY1, ys_30 hY1, ys_31 hY1, ys_32 hY1, ys_33 hY1, ys_34 hY1, ys_35 hY1, ys_36 hY1, ys_37 hY1, ys_38 hY1, ys_39 hY1, ys_40 hY1, ys_41 hY1, ys_42 hY1, ys_43 hY1, ys_44 hY1, ys_45 hY1, ys_46 hY1, ys_47 hY1, ys_48 hY1, ys_49 hY1, ys_50 hY1, ys_51 hY1, ys_52 hY1, ys_53 hY1, ys_54 hY1, ys_55 hY1, ys_56 hY1, ys_57 hY1, ys_58 hY1, ys_59 hY1, ys_60 hY1, ys_61 hY1, ys_62 hY1, ys_63 hY1, ys_64 hY1, ys_65 hY1, ys_66 hY1, ys_67 hY1, ys_68 hY1, ys_69 hY1, ys_70 hY1, ys_71 hY1, ys_72 hY1, ys_73 hY1, ys_74 hY1, ys_75 hY1, ys_76 hY1, ys_77 hY1, nI_add, jb_ix (show q + 1 < 40 by omega) (by decide), g12, e3, f12, jb_ix (show n + 1 < 40 by omega) (by decide), f11, e4]
  · have c1 : ¬ nI 5 ≤ nI c := nI_ge (by omega) (by omega)
    refine Or.inl ⟨by omega, ?_⟩
    simp only [e126_50, e126_51, if_neg c1, e126_52, e126_53]
