/-! The fence; a lock put on a record that is there. -/
def jr_V (E C : Nat) (M N : jm_M) (w s t : Nat) : Prop := jr_R E C M N ∧ jm_I M 11 w 6 = nI s ∧ jm_I N 45 0 w = nI s ∧ rRun E C M N w s t
theorem jr_fence {E C w t e : Nat} {M N : jm_M} (h : jr_V E C M N w 2 t) (hE2 : E < 2 ^ 31) (hw : w < 4) (he : jm_I N 31 0 33 = nI e) (he2 : 1 ≤ e ∧ e ≤ E) (hl : ∀ k, k < 32 → ¬ jm_I M 26 (t + 4) k = nI 0 → jm_I M 22 0 k = nI (w + 1)) : jr_R E C (jm_setI (jm_setI M 11 w 6 (nI 3)) 11 w 11 (nI e)) (jm_setI (jm_setI N 45 0 w (nI 3)) 59 0 w (nI e)) := by
  obtain ⟨hR, a1, a2, a3⟩ := h
  have hO : jq_O M N (jm_setI (jm_setI M 11 w 6 (nI 3)) 11 w 11 (nI e)) (jm_setI (jm_setI N 45 0 w (nI 3)) 59 0 w (nI e)) w t := jo_M (jo_M (jo_N (jo_N (jo_r M N w t) (by decide) (by decide) (nI 3)) (by decide) (by decide) (nI e)) (by decide) (by decide) (by decide) (nI 3)) (by decide) (by decide) (by decide) (nI e)
  have b2 : jm_I (jm_setI (jm_setI N 45 0 w (nI 3)) 59 0 w (nI e)) 45 0 w = nI 3 := jb_Is N 45 0 w (nI 3)
  have b9 : jm_I (jm_setI (jm_setI N 45 0 w (nI 3)) 59 0 w (nI e)) 59 0 w = nI e := jb_Is _ _ _ _ _
  have e11 : ∀ j, j ≠ 6 → j ≠ 11 → jm_I (jm_setI (jm_setI M 11 w 6 (nI 3)) 11 w 11 (nI e)) 11 w j = jm_I M 11 w j := fun j h1 h2 => (jb_Io h2 _ _ _ _ _ _).trans (jb_Io h1 _ _ _ _ _ _)
  have hr : rRun E C (jm_setI (jm_setI M 11 w 6 (nI 3)) 11 w 11 (nI e)) (jm_setI (jm_setI N 45 0 w (nI 3)) 59 0 w (nI e)) w 3 t := by
    obtain ⟨c1, c2, c3, c4, c5, c6, ⟨p, p1, p2, p3⟩, c8, c9, d1, d2, d3, d4, d5, d6, d7, d8, d9, f1, f2, f3⟩ := a3
    refine ⟨c1, c2, c3, c4, c5, c6, ⟨p, p1, (e11 4 (by decide) (by decide)).trans p2, p3⟩, c8, c9, d1, d2, d3, (e11 9 (by decide) (by decide)).trans d4, (e11 10 (by decide) (by decide)).trans d5, fun z => absurd z (by decide), fun _ => d7 (by decide), fun z => absurd z (by decide), fun _ => ⟨e, he2.1, he2.2, jb_Is _ _ _ _ _, b9⟩, fun _ k hk => ⟨fun z => ?_, fun z => hl k hk z⟩, fun _ => f2 (by decide), fun z => absurd z (by decide)⟩
    rcases d8 rfl k hk with ⟨-, q⟩ | ⟨-, -, q⟩
    · exact absurd z q
    · exact q
  refine jr_own hR (Nat.le_refl _) hw a3.2.2.1 a3.1 a3.2.2.2.2.1 (by rw [a2]; decide) hO ?_ (by rw [b2]; decide) (rU_own3 hR.2.2.2.2.2.2.2.2.2.2 hO (fun b e' q1 q2 q3 => ?_) (by rw [b2]; decide))
  · obtain ⟨s, p1, p2, p3, ⟨x, p4, p5, p6⟩, -⟩ := hR.2.2.2.2.2.2.1 w hw
    have es : s = 2 := (nI_eq (by omega) (by decide)).mp (p3.symm.trans a2)
    subst es
    exact ⟨3, by decide, (jb_Io (by decide) _ _ _ _ _ _).trans (jb_Is _ _ _ _ _), b2, ⟨x, p4, p5, fun _ => (e11 12 (by decide) (by decide)).trans (p6 (by decide))⟩, fun z => absurd z (by decide), fun _ => ⟨t, hr⟩⟩
  · have : e' = e := (nI_eq q1 (by omega)).mp (q3.symm.trans he)
    subst this
    exact ⟨e', q1, q2, b9⟩
theorem jr_lock {E C w t k : Nat} {M N : jm_M} (h : jr_V E C M N w 2 t) (hw : w < 4) (hk : k < 32) (h7 : ¬ jm_I N 37 0 k = nI 0) (h22 : jm_I M 22 0 k = nI 0) (h26 : ¬ jm_I M 26 (t + 4) k = nI 0) : jr_R E C (jm_setI M 22 0 k (nI (w + 1))) (jm_setI (jm_setI N 41 0 k (nI (w + 1))) 54 0 (32 * w + k) (nI 1)) := by
  obtain ⟨⟨hX, hY, hN, hP, hS, hL, hW, hT, hG, hE, hU⟩, a1, a2, a3⟩ := h
  refine ⟨hX, hY, hN, hP, fun j hj => ?_, hL, fun v hv => ?_, hT, hG, hE, hU⟩
  · by_cases e : j = k
    · subst e
      rcases hS j hj with ⟨s1, -⟩ | ⟨s1, s2, s3, s4, s5⟩
      · exact absurd s1 h7
      · exact Or.inr ⟨s1, s2, s3, s4, ⟨w + 1, by omega, jb_Is _ _ _ _ _, jb_Is N 41 0 j (nI (w + 1))⟩⟩
    · have e1 : jm_I (jm_setI M 22 0 k (nI (w + 1))) 22 0 j = jm_I M 22 0 j := jb_Io e _ _ _ _ _ _
      have e2 : jm_I (jm_setI (jm_setI N 41 0 k (nI (w + 1))) 54 0 (32 * w + k) (nI 1)) 41 0 j = jm_I N 41 0 j := jb_Io e N 41 0 (nI (w + 1)) 41 0
      have hS := hS j hj
      unfold rSk at hS ⊢
      rw [e1, e2]
      exact hS
  · by_cases e : v = w
    · subst e
      obtain ⟨s, p1, p2, p3, p4, p5, p6⟩ := hW v hv
      have es : s = 2 := (nI_eq (by omega) (by decide)).mp (p3.symm.trans a2)
      subst es
      refine ⟨2, by decide, p2, p3, p4, fun z => absurd z (by decide), fun _ => ⟨t, ?_⟩⟩
      obtain ⟨c1, c2, c3, c4, c5, c6, c7, c8, c9, d1, d2, d3, d4, d5, d6, d7, d8, d9, f1, f2, f3⟩ := a3
      refine ⟨c1, c2, c3, c4, c5, c6, c7, c8, c9, d1, d2, d3, d4, d5, fun z => absurd z (by decide), d7, fun _ j hj => ?_, fun z => absurd z (by decide), fun z => absurd z (by decide), f2, fun z => absurd z (by decide)⟩
      by_cases e : j = k
      · subst e
        exact Or.inr ⟨jb_Is _ _ _ _ _, jb_Is _ _ _ _ _, h26⟩
      · have e1 : jm_I (jm_setI M 22 0 k (nI (v + 1))) 22 0 j = jm_I M 22 0 j := jb_Io e _ _ _ _ _ _
        have e2 : jm_I (jm_setI (jm_setI N 41 0 k (nI (v + 1))) 54 0 (32 * v + k) (nI 1)) 54 0 (32 * v + j) = jm_I N 54 0 (32 * v + j) := jb_Io (by omega) _ _ _ _ _ _
        rw [e1, e2]
        exact d8 rfl j hj
    · refine rW_cg (hW v hv) (Nat.le_refl _) (Nat.le_refl _) ⟨fun j => rfl, rfl, fun K hK => ?_, fun r hr => ⟨rfl, rfl⟩, fun m j h1 h2 hj => ?_, fun n hn => rfl, fun k _ => rfl, fun k _ => rfl⟩ (fun u hu _ _ _ => ⟨fun j _ => rfl, fun k _ => ⟨rfl, rfl⟩, rfl, rfl⟩) ⟨Nat.le_refl _, fun u hu z => ⟨hu, z⟩, fun j hj => ?_, fun k _ z => z, fun m hm z => ⟨m, Nat.le_refl _, hm, z⟩⟩
      · rcases hK with rfl | rfl | rfl | rfl | rfl | rfl | rfl | rfl | rfl
        all_goals rfl
      · rcases (show m = 51 ∨ m = 52 ∨ m = 53 ∨ m = 54 ∨ m = 55 ∨ m = 56 by omega) with rfl | rfl | rfl | rfl | rfl | rfl
        · rfl
        · rfl
        · rfl
        · exact jb_Io (by omega) _ _ _ _ _ _
        · rfl
        · rfl
      · by_cases e2 : j = k
        · subst e2
          rw [jb_Is, h22]
          exact ⟨fun z => absurd ((nI_eq (by omega) (by omega)).mp z) (by omega), fun z => absurd ((nI_eq (by decide) (by omega)).mp z) (by omega)⟩
        · rw [jb_Io e2]
/-- one step of locking; what is left open is a record that must be added first -/
theorem sm_lock {d d' E C w t : Nat} {M N : jm_M} (h : jr_V E C M N w 2 t) (hE2 : E < 2 ^ 31) (hw : w < 4) (hadd : ∀ k, k < 32 → jm_I N 37 0 k = nI 0 → ¬ jm_I M 26 (t + 4) k = nI 0 → ∀ e, jr_P E C M N w (jm_D (d + 7) 56 28 [some (.inr (some (11, w))), some (.inr (some (5, 0))), some (.inl e), some (.inl (nI k))] [] M) (jm_D (d' + 7) 125 46 [some (.inr (some (31, 0))), some (.inl (nI w)), some (.inl (nI k)), none, none, none] [] N)) : jr_P E C M N w (jm_D (d + 7) 56 0 [some (.inr (some (11, w))), some (.inr (some (5, 0))), some (.inl (jm_I M 0 0 5)), none] [] M) (jm_D (d' + 7) 125 0 [some (.inr (some (31, 0))), some (.inl (nI w)), none, none, none, none] [] N) := by
  have h' := h
  obtain ⟨hR, a1, a2, a3⟩ := h
  have hX := hR.1
  have hY := hR.2.1
  have h0 := hR.2.2.1.1 w hw
  obtain ⟨e, e1, e2, e3, e4, -⟩ := hR.2.2.2.2.2.2.2.2.2.1
  have hT := hR.2.2.2.2.2.2.2.1
  obtain ⟨c1, f5, c3, c4, c5, c6, c7, c8, c9, d1, d2, d3, d4, d5, d6, d7, d8, d9, g1, g2, g3⟩ := a3
  obtain ⟨-, f1, f2, n1, n2, -⟩ := hT.2.2.2.2.2 t c1
  have hcg : jb_fnd (jx_lw M w t 0) 32 0 = jb_fnd (jy_lw N w 54) 32 0 := by
    refine jb_fnd_congr 32 0 (fun k _ hk => ?_)
    have hk : k < 32 := by omega
    unfold jx_lw jy_lw
    have e26 : decide (jm_I M 26 (t + 4) k = nI 0) = decide (jm_I N 51 0 (32 * w + k) = nI 0) := by
      rcases d2 k hk with ⟨z1, z2⟩ | ⟨z1, ⟨-, z2⟩ | ⟨-, z2, -⟩, -⟩ <;> (rw [z1, z2] <;> decide)
    rw [e26]
    congr 1
    rcases d8 rfl k hk with ⟨z1, z2⟩ | ⟨z1, z2, -⟩
    · rw [decide_eq_false z2, z1]; decide
    · rw [decide_eq_true z2, z1]; decide
  have zc : jm_D (d + 6) 57 0 [some (.inr (some (11, w))), some (.inr (some (5, 0))), some (.inl (nI 0)), none] [] M = some (some (.inl (nI (jb_fnd (jy_lw N w 54) 32 0))), M) := by
    have := xLw (d := d + 5) hX hw h0 f5 f1 n1 (Or.inl rfl) 32 0 rfl
    rw [hcg] at this
    rw [e57_0, e57_1]
    exact this
  have zm : jm_D (d' + 7) 125 0 [some (.inr (some (31, 0))), some (.inl (nI w)), none, none, none, none] [] N = jm_D (d' + 7) 125 25 [some (.inr (some (31, 0))), some (.inl (nI w)), some (.inl (nI (jb_fnd (jy_lw N w 54) 32 0))), none, none, none] [] N := by
    rw [e125_0, e125_1]
    exact yLw125 hY hw 32 0 rfl
  rw [zm]
  have hle := jb_fnd_le (jy_lw N w 54) 32 0
  by_cases hk : jb_fnd (jy_lw N w 54) 32 0 = 32
  · rw [hk] at zc ⊢
    have hno := jb_fnd_no 32 0 (hcg.trans hk)
    have hl : ∀ k, k < 32 → ¬ jm_I M 26 (t + 4) k = nI 0 → jm_I M 22 0 k = nI (w + 1) := by
      intro k hk z
      have := hno k (Nat.zero_le _) (by omega)
      unfold jx_lw at this
      rw [decide_eq_false z] at this
      by_cases q : jm_I M 22 0 k = nI (w + 1)
      · exact q
      · rw [decide_eq_false q] at this
        exact absurd this (by decide)
    refine ⟨nI 1, _, _, ?_, ?_, jr_fence h' hE2 hw e4 ⟨e1, e2⟩ hl, Or.inr (Or.inr ⟨rfl, 3, by decide, by decide, jb_Is N 45 0 w (nI 3)⟩), ⟨rfl, rfl⟩, ⟨rfl, rfl⟩⟩
    · simp only [e56_0, e56_1, e56_2, e56_3, e56_4, e56_5, e56_6, e56_7, e56_8, e56_9, e56_10, e56_11, e56_12, e56_13, e56_14, e56_15, e56_16, e56_17, e56_18, e56_19, e56_20, e56_21, e56_22, e56_23, e56_24, e56_25, e56_26, e56_27, e56_28, e56_29, e56_30, e56_31, e56_32, e56_33, e56_34, e56_35, e56_36, e56_37, e56_38, e56_39, zc, jb_some, jb_tl, if_true, e3]
    · have e5 : jm_I (jm_setI N 45 0 w (nI 3)) 31 0 33 = nI e := e4
      simp only [e125_0, e125_1, e125_3, e125_4, e125_5, e125_6, e125_7, e125_8, e125_9, e125_10, e125_11, e125_12, e125_13, e125_14, e125_15, e125_16, e125_17, e125_18, e125_19, e125_20, e125_21, e125_22, e125_23, e125_24, e125_25, e125_26, e125_27, e125_28, e125_29, e125_30, e125_31, e125_32, e125_33, e125_34, e125_35, e125_36, e125_37, e125_38, e125_39, e125_40, e125_41, e125_42, e125_43, e125_44, e125_45, e125_46, e125_47, e125_48, e125_49, e125_50, e125_51, e125_52, e125_53, e125_54, e125_55, e125_56, e125_57, e125_58, e125_59, e125_60, e125_61, e125_62, e125_63, e125_64, e125_65, e125_66, e125_67, e125_68, e125_69, e125_70, e125_72, e125_73, e125_74, e125_75, e125_76, e125_77, e125_78, e125_79, e125_80, e125_81, e125_82, e125_83, e125_84, e125_85, e125_86, e125_87, e125_88, e125_89, e125_90, e125_91, e125_92, e125_93, e125_94, e125_95, e125_96, e125_97, e125_98, e125_99, e125_100, e125_101, e125_102, e125_103, e125_104, e125_105, e125_106, e125_107, e125_108, e125_109, e125_110, e125_111, e125_112, e125_113, e125_114, e125_115, e125_116, e125_117, e125_118, e125_119, e125_120, e125_121, e125_122, e125_123, e125_124, ys_0 hY, ys_1 hY, ys_2 hY, ys_3 hY, ys_4 hY, ys_5 hY, ys_6 hY, ys_7 hY, ys_8 hY, ys_9 hY, ys_10 hY, ys_11 hY, ys_12 hY, ys_13 hY, ys_14 hY, ys_15 hY, ys_16 hY, ys_17 hY, ys_18 hY, ys_19 hY, ys_20 hY, ys_21 hY, ys_22 hY, ys_23 hY, ys_24 hY, ys_25 hY, ys_26 hY, ys_27 hY, ys_28 hY, ys_29 hY, ys_30 hY, ys_31 hY, ys_32 hY, ys_33 hY, ys_34 hY, ys_35 hY, ys_36 hY, ys_37 hY, ys_38 hY, ys_39 hY, ys_40 hY, ys_41 hY, ys_42 hY, ys_43 hY, ys_44 hY, ys_45 hY, ys_46 hY, ys_47 hY, ys_48 hY, ys_49 hY, ys_50 hY, ys_51 hY, ys_52 hY, ys_53 hY, ys_54 hY, ys_55 hY, ys_56 hY, ys_57 hY, ys_58 hY, ys_59 hY, ys_60 hY, ys_61 hY, ys_62 hY, ys_63 hY, ys_64 hY, ys_65 hY, ys_66 hY, ys_67 hY, ys_68 hY, ys_69 hY, ys_70 hY, ys_71 hY, ys_72 hY, ys_73 hY, ys_74 hY, ys_75 hY, ys_76 hY, ys_77 hY, jb_FI, jb_nI, jb_ix hw (by decide), if_true, e5]
  · have hk32 : jb_fnd (jy_lw N w 54) 32 0 < 32 := by omega
    have hat := jb_fnd_at (p := jy_lw N w 54) 32 0 (by omega)
    generalize jb_fnd (jy_lw N w 54) 32 0 = k at zc hat hk hk32 ⊢
    have hb : 32 * w + k < 128 := by omega
    have c32 : ¬ nI k = nI 32 := fun z => hk ((nI_eq (by omega) (by decide)).mp z)
    unfold jy_lw at hat
    simp only [Bool.and_eq_true, Bool.not_eq_true', decide_eq_false_iff_not, decide_eq_true_eq] at hat
    obtain ⟨w1, w2⟩ := hat
    have h26 : ¬ jm_I M 26 (t + 4) k = nI 0 := by
      rcases d2 k hk32 with ⟨z1, z2⟩ | ⟨z1, ⟨-, z2⟩ | ⟨-, z2, -⟩, -⟩
      · exact absurd z1 w1
      · rw [z2]; decide
      · rw [z2]; decide
    have h22 : ¬ jm_I M 22 0 k = nI (w + 1) := by
      rcases d8 rfl k hk32 with ⟨z1, z2⟩ | ⟨z1, z2, -⟩
      · exact z2
      · rw [w2] at z1; exact absurd z1 (by decide)
    rcases hR.2.2.2.2.1 k hk32 with ⟨s1, s2, s3, s4, s5⟩ | ⟨s1, s2, s3, s4, ⟨l, s5, s6, s7⟩⟩
    · have := hadd k hk32 s1 h26 (jm_I M 0 0 5)
      have xc : jm_D (d + 7) 56 0 [some (.inr (some (11, w))), some (.inr (some (5, 0))), some (.inl (jm_I M 0 0 5)), none] [] M = jm_D (d + 7) 56 28 [some (.inr (some (11, w))), some (.inr (some (5, 0))), some (.inl (jm_I M 0 0 5)), some (.inl (nI k))] [] M := by
        simp only [e56_0, e56_1, e56_2, e56_3, e56_4, e56_5, e56_6, e56_7, e56_8, e56_9, e56_10, e56_11, e56_12, e56_13, e56_14, e56_15, e56_16, e56_17, e56_18, e56_19, e56_20, e56_21, e56_22, e56_23, e56_24, e56_25, e56_26, e56_27, e56_29, e56_30, e56_31, e56_32, e56_33, e56_34, e56_35, e56_36, e56_37, e56_38, e56_39, e42_0, e42_1, e42_2, e42_3, e42_4, e42_5, e42_6, e42_7, e42_8_0, e42_8_1, xs_0 hX, xs_1 hX, xs_2 hX, xs_3 hX, xs_4 hX, xs_5 hX, xs_6 hX, xs_7 hX, xs_8 hX, xs_9 hX, xs_10 hX, xs_11 hX, xs_12 hX, xs_13 hX, xs_14 hX, xs_15 hX, xs_16 hX, xs_17 hX, xs_18 hX, xs_19 hX, zc, jb_some, jb_tl, if_neg c32, h0, xLkO hX hk32, s5, if_true, jb_ix hk32 (by decide), s2]
      have xm : jm_D (d' + 7) 125 25 [some (.inr (some (31, 0))), some (.inl (nI w)), some (.inl (nI k)), none, none, none] [] N = jm_D (d' + 7) 125 46 [some (.inr (some (31, 0))), some (.inl (nI w)), some (.inl (nI k)), none, none, none] [] N := by
        simp only [e125_0, e125_1, e125_3, e125_4, e125_5, e125_6, e125_7, e125_8, e125_9, e125_10, e125_11, e125_12, e125_13, e125_14, e125_15, e125_16, e125_17, e125_18, e125_19, e125_20, e125_21, e125_22, e125_23, e125_24, e125_25, e125_26, e125_27, e125_28, e125_29, e125_30, e125_31, e125_32, e125_33, e125_34, e125_35, e125_36, e125_37, e125_38, e125_39, e125_40, e125_41, e125_42, e125_43, e125_44, e125_45, e125_47, e125_48, e125_49, e125_50, e125_51, e125_52, e125_53, e125_54, e125_55, e125_56, e125_57, e125_58, e125_59, e125_60, e125_61, e125_62, e125_63, e125_64, e125_65, e125_66, e125_67, e125_68, e125_69, e125_70, e125_72, e125_73, e125_74, e125_75, e125_76, e125_77, e125_78, e125_79, e125_80, e125_81, e125_82, e125_83, e125_84, e125_85, e125_86, e125_87, e125_88, e125_89, e125_90, e125_91, e125_92, e125_93, e125_94, e125_95, e125_96, e125_97, e125_98, e125_99, e125_100, e125_101, e125_102, e125_103, e125_104, e125_105, e125_106, e125_107, e125_108, e125_109, e125_110, e125_111, e125_112, e125_113, e125_114, e125_115, e125_116, e125_117, e125_118, e125_119, e125_120, e125_121, e125_122, e125_123, e125_124, ys_0 hY, ys_1 hY, ys_2 hY, ys_3 hY, ys_4 hY, ys_5 hY, ys_6 hY, ys_7 hY, ys_8 hY, ys_9 hY, ys_10 hY, ys_11 hY, ys_12 hY, ys_13 hY, ys_14 hY, ys_15 hY, ys_16 hY, ys_17 hY, ys_18 hY, ys_19 hY, ys_20 hY, ys_21 hY, ys_22 hY, ys_23 hY, ys_24 hY, ys_25 hY, ys_26 hY, ys_27 hY, ys_28 hY, ys_29 hY, ys_30 hY, ys_31 hY, ys_32 hY, ys_33 hY, ys_34 hY, ys_35 hY, ys_36 hY, ys_37 hY, ys_38 hY, ys_39 hY, ys_40 hY, ys_41 hY, ys_42 hY, ys_43 hY, ys_44 hY, ys_45 hY, ys_46 hY, ys_47 hY, ys_48 hY, ys_49 hY, ys_50 hY, ys_51 hY, ys_52 hY, ys_53 hY, ys_54 hY, ys_55 hY, ys_56 hY, ys_57 hY, ys_58 hY, ys_59 hY, ys_60 hY, ys_61 hY, ys_62 hY, ys_63 hY, ys_64 hY, ys_65 hY, ys_66 hY, ys_67 hY, ys_68 hY, ys_69 hY, ys_70 hY, ys_71 hY, ys_72 hY, ys_73 hY, ys_74 hY, ys_75 hY, ys_76 hY, ys_77 hY, if_neg c32, jb_ix hk32 (by decide), s1, if_true]
      rw [xc, xm]
      exact this
    · have hbe : ¬ jm_I M 19 0 k = nI 0 := by
        rcases s2 with ⟨-, z⟩ | ⟨-, z, -⟩ <;> (rw [z]; decide)
      have h7 : ¬ jm_I N 37 0 k = nI 0 := by rw [s1]; decide
      by_cases hl : l = 0
      · subst hl
        refine ⟨nI 1, _, _, ?_, ?_, jr_lock h' hw hk32 h7 s6 h26, Or.inr (Or.inr ⟨rfl, 2, by decide, by decide, a2⟩), ⟨rfl, rfl⟩, ⟨rfl, rfl⟩⟩
        · simp only [e56_0, e56_1, e56_2, e56_3, e56_4, e56_5, e56_6, e56_7, e56_8, e56_9, e56_10, e56_11, e56_12, e56_13, e56_14, e56_15, e56_16, e56_17, e56_18, e56_19, e56_20, e56_21, e56_22, e56_23, e56_24, e56_25, e56_26, e56_27, e56_28, e56_29, e56_30, e56_31, e56_32, e56_33, e56_34, e56_35, e56_36, e56_37, e56_38, e56_39, e42_0, e42_1, e42_2, e42_3, e42_4, e42_5, e42_6, e42_7, e42_8_0, e42_8_1, xs_0 hX, xs_1 hX, xs_2 hX, xs_3 hX, xs_4 hX, xs_5 hX, xs_6 hX, xs_7 hX, xs_8 hX, xs_9 hX, xs_10 hX, xs_11 hX, xs_12 hX, xs_13 hX, xs_14 hX, xs_15 hX, xs_16 hX, xs_17 hX, xs_18 hX, xs_19 hX, zc, jb_some, jb_tl, if_neg c32, h0, xLkO hX hk32, s6, if_true, jb_ix hk32 (by decide), if_neg hbe, nf_0_1, nf_0_2, nf_0_3, nf_0_4, nf_0_5, nf_0_6, nf_1_0, nf_1_2, nf_1_3, nf_1_4, nf_1_5, nf_1_6, nf_2_0, nf_2_1, nf_2_3, nf_2_4, nf_2_5, nf_2_6, nf_3_0, nf_3_1, nf_3_2, nf_3_4, nf_3_5, nf_3_6, nf_4_0, nf_4_1, nf_4_2, nf_4_3, nf_4_5, nf_4_6, nf_5_0, nf_5_1, nf_5_2, nf_5_3, nf_5_4, nf_5_6, nf_6_0, nf_6_1, nf_6_2, nf_6_3, nf_6_4, nf_6_5, if_false]
        · simp only [e125_0, e125_1, e125_3, e125_4, e125_5, e125_6, e125_7, e125_8, e125_9, e125_10, e125_11, e125_12, e125_13, e125_14, e125_15, e125_16, e125_17, e125_18, e125_19, e125_20, e125_21, e125_22, e125_23, e125_24, e125_25, e125_26, e125_27, e125_28, e125_29, e125_30, e125_31, e125_32, e125_33, e125_34, e125_35, e125_36, e125_37, e125_38, e125_39, e125_40, e125_41, e125_42, e125_43, e125_44, e125_45, e125_47, e125_48, e125_49, e125_50, e125_51, e125_52, e125_53, e125_54, e125_55, e125_56, e125_57, e125_58, e125_59, e125_60, e125_61, e125_62, e125_63, e125_64, e125_65, e125_66, e125_67, e125_68, e125_69, e125_70, e125_72, e125_73, e125_74, e125_75, e125_76, e125_77, e125_78, e125_79, e125_80, e125_81, e125_82, e125_83, e125_84, e125_85, e125_86, e125_87, e125_88, e125_89, e125_90, e125_91, e125_92, e125_93, e125_94, e125_95, e125_96, e125_97, e125_98, e125_99, e125_100, e125_101, e125_102, e125_103, e125_104, e125_105, e125_106, e125_107, e125_108, e125_109, e125_110, e125_111, e125_112, e125_113, e125_114, e125_115, e125_116, e125_117, e125_118, e125_119, e125_120, e125_121, e125_122, e125_123, e125_124, ys_0 hY, ys_1 hY, ys_2 hY, ys_3 hY, ys_4 hY, ys_5 hY, ys_6 hY, ys_7 hY, ys_8 hY, ys_9 hY, ys_10 hY, ys_11 hY, ys_12 hY, ys_13 hY, ys_14 hY, ys_15 hY, ys_16 hY, ys_17 hY, ys_18 hY, ys_19 hY, ys_20 hY, ys_21 hY, ys_22 hY, ys_23 hY, ys_24 hY, ys_25 hY, ys_26 hY, ys_27 hY, ys_28 hY, ys_29 hY, ys_30 hY, ys_31 hY, ys_32 hY, ys_33 hY, ys_34 hY, ys_35 hY, ys_36 hY, ys_37 hY, ys_38 hY, ys_39 hY, ys_40 hY, ys_41 hY, ys_42 hY, ys_43 hY, ys_44 hY, ys_45 hY, ys_46 hY, ys_47 hY, ys_48 hY, ys_49 hY, ys_50 hY, ys_51 hY, ys_52 hY, ys_53 hY, ys_54 hY, ys_55 hY, ys_56 hY, ys_57 hY, ys_58 hY, ys_59 hY, ys_60 hY, ys_61 hY, ys_62 hY, ys_63 hY, ys_64 hY, ys_65 hY, ys_66 hY, ys_67 hY, ys_68 hY, ys_69 hY, ys_70 hY, ys_71 hY, ys_72 hY, ys_73 hY, ys_74 hY, ys_75 hY, ys_76 hY, ys_77 hY, jb_FI, jb_nI, if_neg c32, jb_ix hk32 (by decide), if_neg h7, s7, if_true, pk_mul, nI_add, jb_ix hb (by decide), jb_nb]
      · have hl0 : ¬ nI l = nI 0 := fun z => hl ((nI_eq (by omega) (by decide)).mp z)
        have hlw : ¬ nI l = nI (w + 1) := by rw [← s6]; exact h22
        refine ⟨nI 0, M, N, ?_, ?_, hR, Or.inl rfl, ⟨rfl, rfl⟩, ⟨rfl, rfl⟩⟩
        · simp only [e56_0, e56_1, e56_2, e56_3, e56_4, e56_5, e56_6, e56_7, e56_8, e56_9, e56_10, e56_11, e56_12, e56_13, e56_14, e56_15, e56_16, e56_17, e56_18, e56_19, e56_20, e56_21, e56_22, e56_23, e56_24, e56_25, e56_26, e56_27, e56_28, e56_29, e56_30, e56_31, e56_32, e56_33, e56_34, e56_35, e56_36, e56_37, e56_38, e56_39, zc, jb_some, jb_tl, if_neg c32, h0, xLkO hX hk32, s6, if_neg hl0, if_neg hlw, nf_0_1, nf_0_2, nf_0_3, nf_0_4, nf_0_5, nf_0_6, nf_1_0, nf_1_2, nf_1_3, nf_1_4, nf_1_5, nf_1_6, nf_2_0, nf_2_1, nf_2_3, nf_2_4, nf_2_5, nf_2_6, nf_3_0, nf_3_1, nf_3_2, nf_3_4, nf_3_5, nf_3_6, nf_4_0, nf_4_1, nf_4_2, nf_4_3, nf_4_5, nf_4_6, nf_5_0, nf_5_1, nf_5_2, nf_5_3, nf_5_4, nf_5_6, nf_6_0, nf_6_1, nf_6_2, nf_6_3, nf_6_4, nf_6_5, if_false]
        · simp only [e125_0, e125_1, e125_3, e125_4, e125_5, e125_6, e125_7, e125_8, e125_9, e125_10, e125_11, e125_12, e125_13, e125_14, e125_15, e125_16, e125_17, e125_18, e125_19, e125_20, e125_21, e125_22, e125_23, e125_24, e125_25, e125_26, e125_27, e125_28, e125_29, e125_30, e125_31, e125_32, e125_33, e125_34, e125_35, e125_36, e125_37, e125_38, e125_39, e125_40, e125_41, e125_42, e125_43, e125_44, e125_45, e125_47, e125_48, e125_49, e125_50, e125_51, e125_52, e125_53, e125_54, e125_55, e125_56, e125_57, e125_58, e125_59, e125_60, e125_61, e125_62, e125_63, e125_64, e125_65, e125_66, e125_67, e125_68, e125_69, e125_70, e125_72, e125_73, e125_74, e125_75, e125_76, e125_77, e125_78, e125_79, e125_80, e125_81, e125_82, e125_83, e125_84, e125_85, e125_86, e125_87, e125_88, e125_89, e125_90, e125_91, e125_92, e125_93, e125_94, e125_95, e125_96, e125_97, e125_98, e125_99, e125_100, e125_101, e125_102, e125_103, e125_104, e125_105, e125_106, e125_107, e125_108, e125_109, e125_110, e125_111, e125_112, e125_113, e125_114, e125_115, e125_116, e125_117, e125_118, e125_119, e125_120, e125_121, e125_122, e125_123, e125_124, ys_0 hY, ys_1 hY, ys_2 hY, ys_3 hY, ys_4 hY, ys_5 hY, ys_6 hY, ys_7 hY, ys_8 hY, ys_9 hY, ys_10 hY, ys_11 hY, ys_12 hY, ys_13 hY, ys_14 hY, ys_15 hY, ys_16 hY, ys_17 hY, ys_18 hY, ys_19 hY, ys_20 hY, ys_21 hY, ys_22 hY, ys_23 hY, ys_24 hY, ys_25 hY, ys_26 hY, ys_27 hY, ys_28 hY, ys_29 hY, ys_30 hY, ys_31 hY, ys_32 hY, ys_33 hY, ys_34 hY, ys_35 hY, ys_36 hY, ys_37 hY, ys_38 hY, ys_39 hY, ys_40 hY, ys_41 hY, ys_42 hY, ys_43 hY, ys_44 hY, ys_45 hY, ys_46 hY, ys_47 hY, ys_48 hY, ys_49 hY, ys_50 hY, ys_51 hY, ys_52 hY, ys_53 hY, ys_54 hY, ys_55 hY, ys_56 hY, ys_57 hY, ys_58 hY, ys_59 hY, ys_60 hY, ys_61 hY, ys_62 hY, ys_63 hY, ys_64 hY, ys_65 hY, ys_66 hY, ys_67 hY, ys_68 hY, ys_69 hY, ys_70 hY, ys_71 hY, ys_72 hY, ys_73 hY, ys_74 hY, ys_75 hY, ys_76 hY, ys_77 hY, if_neg c32, jb_ix hk32 (by decide), if_neg h7, s7, if_neg hl0]
