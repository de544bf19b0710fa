/-! step and run. -/
theorem jr_st {E C w : Nat} {M N : jm_M} (h : jr_R E C M N) (hw : w < 4) : (jm_I M 11 w 6 = nI 0 ∧ jm_I N 45 0 w = nI 0) ∨ (¬ jm_I M 11 w 6 = nI 0 ∧ ¬ jm_I N 45 0 w = nI 0) := by
  obtain ⟨s, s4, h6, h45, -⟩ := h.2.2.2.2.2.2.1 w hw
  by_cases e : s = 0
  · subst e
    exact Or.inl ⟨h6, h45⟩
  · refine Or.inr ⟨?_, ?_⟩
    · rw [h6]; exact fun z => e ((nI_eq (by omega) (by decide)).mp z)
    · rw [h45]; exact fun z => e ((nI_eq (by omega) (by decide)).mp z)
theorem sm_step {d E C : Nat} {M N : jm_M} (h : jr_R E C M N) (hC : C < 2 ^ 29) (hE2 : E < 2 ^ 19) (x : Int32) : jr_O E (max C (1024 * E) + 1) M N (jm_D (d + 10) 29 0 [some (.inr (some (0, 0))), some (.inl x)] [] M) (jm_D (d + 10) 106 0 [some (.inr (some (31, 0))), some (.inl x)] [] N) := by
  have hX := h.1
  have hY := h.2.1
  have hR' := jr_C h (show C ≤ max C (1024 * E) + 1 by omega)
  rcases jb_case x (show 4 < 2 ^ 31 by decide) with hx | ⟨w, hw, rfl⟩
  · refine jr_same hR' (r := -1) ?_ ?_
    · simp only [e29_0, e29_1, e29_2, e29_3, e29_4, e29_5, e29_6, e29_7, e29_8, e29_9, e29_10, e29_11, e29_12, e29_13, e29_14, e29_15, e29_16, xW_f _ _ hx, jb_some, jb_tl, if_true]
    · simp only [e106_0, e106_1, e106_2, e106_3, e106_4, e106_5, e106_6, e106_7, e106_8, e106_9, e106_10, e106_11, e106_12, e106_13, e106_14, e106_15, yW_f _ _ hx, jb_some, jb_tl, if_true]
  · have n1 : ¬ nI 1 = nI 0 := by decide
    rcases jr_st h hw with ⟨h6, h45⟩ | ⟨h6, h45⟩
    · refine jr_same hR' (r := -2) ?_ ?_
      · simp only [e29_0, e29_1, e29_2, e29_3, e29_4, e29_5, e29_6, e29_7, e29_8, e29_9, e29_10, e29_11, e29_12, e29_13, e29_14, e29_15, e29_16, xW_t _ _ hw, jb_some, jb_tl, if_neg n1, xs_0 hX, xs_1 hX, xs_2 hX, xs_3 hX, xs_4 hX, xs_5 hX, xs_6 hX, xs_7 hX, xs_8 hX, xs_9 hX, xs_10 hX, xs_11 hX, xs_12 hX, xs_13 hX, xs_14 hX, xs_15 hX, xs_16 hX, xs_17 hX, xs_18 hX, xs_19 hX, xw_0 hX hw, xw_1 hX hw, xw_2 hX hw, xw_3 hX hw, xw_4 hX hw, xw_5 hX hw, xw_6 hX hw, xw_7 hX hw, xw_8 hX hw, jb_ix hw (by decide), h6, if_true]
      · simp only [e106_0, e106_1, e106_2, e106_3, e106_4, e106_5, e106_6, e106_7, e106_8, e106_9, e106_10, e106_11, e106_12, e106_13, e106_14, e106_15, yW_t _ _ hw, jb_some, jb_tl, if_neg n1, ys_0 hY, ys_1 hY, ys_2 hY, ys_3 hY, ys_4 hY, ys_5 hY, ys_6 hY, ys_7 hY, ys_8 hY, ys_9 hY, ys_10 hY, ys_11 hY, ys_12 hY, ys_13 hY, ys_14 hY, ys_15 hY, ys_16 hY, ys_17 hY, ys_18 hY, ys_19 hY, ys_20 hY, ys_21 hY, ys_22 hY, ys_23 hY, ys_24 hY, ys_25 hY, ys_26 hY, ys_27 hY, ys_28 hY, ys_29 hY, ys_30 hY, ys_31 hY, ys_32 hY, ys_33 hY, ys_34 hY, ys_35 hY, ys_36 hY, ys_37 hY, ys_38 hY, ys_39 hY, ys_40 hY, ys_41 hY, ys_42 hY, ys_43 hY, ys_44 hY, ys_45 hY, ys_46 hY, ys_47 hY, ys_48 hY, ys_49 hY, ys_50 hY, ys_51 hY, ys_52 hY, ys_53 hY, ys_54 hY, ys_55 hY, ys_56 hY, ys_57 hY, ys_58 hY, ys_59 hY, ys_60 hY, ys_61 hY, ys_62 hY, ys_63 hY, ys_64 hY, ys_65 hY, ys_66 hY, ys_67 hY, ys_68 hY, ys_69 hY, ys_70 hY, ys_71 hY, ys_72 hY, ys_73 hY, ys_74 hY, ys_75 hY, ys_76 hY, ys_77 hY, jb_ix hw (by decide), h45, if_true]
    · obtain ⟨r, M', N', a1, a2, a3, -, a5, a6⟩ := sm_move (d := d) (d' := d) h hC hE2 hw h45 (sm_add h hw)
      refine ⟨r, M', N', ?_, ?_, a3, a5, a6⟩
      · simp only [e29_0, e29_1, e29_2, e29_3, e29_4, e29_5, e29_6, e29_7, e29_8, e29_9, e29_10, e29_11, e29_12, e29_13, e29_14, e29_15, e29_16, xW_t _ _ hw, jb_some, jb_tl, if_neg n1, xs_0 hX, xs_1 hX, xs_2 hX, xs_3 hX, xs_4 hX, xs_5 hX, xs_6 hX, xs_7 hX, xs_8 hX, xs_9 hX, xs_10 hX, xs_11 hX, xs_12 hX, xs_13 hX, xs_14 hX, xs_15 hX, xs_16 hX, xs_17 hX, xs_18 hX, xs_19 hX, xw_0 hX hw, xw_1 hX hw, xw_2 hX hw, xw_3 hX hw, xw_4 hX hw, xw_5 hX hw, xw_6 hX hw, xw_7 hX hw, xw_8 hX hw, jb_ix hw (by decide), if_neg h6, a1]
      · simp only [e106_0, e106_1, e106_2, e106_3, e106_4, e106_5, e106_6, e106_7, e106_8, e106_9, e106_10, e106_11, e106_12, e106_13, e106_14, e106_15, yW_t _ _ hw, jb_some, jb_tl, if_neg n1, ys_0 hY, ys_1 hY, ys_2 hY, ys_3 hY, ys_4 hY, ys_5 hY, ys_6 hY, ys_7 hY, ys_8 hY, ys_9 hY, ys_10 hY, ys_11 hY, ys_12 hY, ys_13 hY, ys_14 hY, ys_15 hY, ys_16 hY, ys_17 hY, ys_18 hY, ys_19 hY, ys_20 hY, ys_21 hY, ys_22 hY, ys_23 hY, ys_24 hY, ys_25 hY, ys_26 hY, ys_27 hY, ys_28 hY, ys_29 hY, ys_30 hY, ys_31 hY, ys_32 hY, ys_33 hY, ys_34 hY, ys_35 hY, ys_36 hY, ys_37 hY, ys_38 hY, ys_39 hY, ys_40 hY, ys_41 hY, ys_42 hY, ys_43 hY, ys_44 hY, ys_45 hY, ys_46 hY, ys_47 hY, ys_48 hY, ys_49 hY, ys_50 hY, ys_51 hY, ys_52 hY, ys_53 hY, ys_54 hY, ys_55 hY, ys_56 hY, ys_57 hY, ys_58 hY, ys_59 hY, ys_60 hY, ys_61 hY, ys_62 hY, ys_63 hY, ys_64 hY, ys_65 hY, ys_66 hY, ys_67 hY, ys_68 hY, ys_69 hY, ys_70 hY, ys_71 hY, ys_72 hY, ys_73 hY, ys_74 hY, ys_75 hY, ys_76 hY, ys_77 hY, jb_ix hw (by decide), if_neg h45, a2]
theorem sm_run0 {d E D w T : Nat} (hD : D + T < 2 ^ 29) (hE2 : E < 2 ^ 19) (hDE : 1024 * E ≤ D) (hw : w < 4) : ∀ f s M N, s + f = T → jr_R E (D + s) M N → ¬ jm_I N 45 0 w = nI 0 → jr_O E (D + T) M N (jm_D (d + 10) 76 23 [some (.inr (some (0, 0))), some (.inl (nI w)), some (.inl (nI T)), some (.inl (nI 1)), some (.inl (nI s))] [] M) (jm_D (d + 10) 133 22 [some (.inr (some (31, 0))), some (.inl (nI w)), some (.inl (nI T)), some (.inl (nI 1)), some (.inl (nI s))] [] N) := by
  intro f
  induction f with
  | zero =>
    intro s M N hs h h45
    obtain rfl : s = T := by omega
    refine jr_same h (r := nI 1) ?_ ?_
    · rw [e76_23]
      simp only [e76_24, e76_25, Int32.le_refl, if_true, e76_35, e76_36]
    · rw [e133_22]
      simp only [e133_23, e133_24, Int32.le_refl, if_true, e133_34, e133_35]
  | succ f ih =>
    intro s M N hs h h45
    have c1 : ¬ nI T ≤ nI s := nI_ge (by omega) (by omega)
    obtain ⟨r, M', N', a1, a2, a3, a4, a5, a6⟩ := sm_move (d := d) (d' := d) h (by omega) hE2 hw h45 (sm_add h hw)
    rw [show max (D + s) (1024 * E) + 1 = D + (s + 1) by omega] at a3
    have xc : jm_D (d + 10) 76 23 [some (.inr (some (0, 0))), some (.inl (nI w)), some (.inl (nI T)), some (.inl (nI 1)), some (.inl (nI s))] [] M = jm_D (d + 10) 76 23 [some (.inr (some (0, 0))), some (.inl (nI w)), some (.inl (nI T)), some (.inl r), some (.inl (nI (s + 1)))] [] M' := by
      rw [e76_23]
      simp only [e76_24, e76_25, if_neg c1, e76_26, e76_27, e76_28, if_true, e76_29, e76_30, e76_31, a1, jb_some, jb_tl, e76_32, e76_33, nI_add, e76_34]
    have xm : jm_D (d + 10) 133 22 [some (.inr (some (31, 0))), some (.inl (nI w)), some (.inl (nI T)), some (.inl (nI 1)), some (.inl (nI s))] [] N = jm_D (d + 10) 133 22 [some (.inr (some (31, 0))), some (.inl (nI w)), some (.inl (nI T)), some (.inl r), some (.inl (nI (s + 1)))] [] N' := by
      rw [e133_22]
      simp only [e133_23, e133_24, if_neg c1, e133_25, e133_26, e133_27, if_true, e133_28, e133_29, e133_30, a2, jb_some, jb_tl, e133_31, e133_32, nI_add, e133_33]
    rw [xc, xm]
    rcases a4 with hr | ⟨rfl, ⟨s', s1, s4, s5⟩, z1, z2⟩
    · refine ⟨r, M', N', ?_, ?_, jr_C a3 (by omega), a5, a6⟩
      · rw [e76_23, e76_24, e76_25]
        by_cases c2 : nI T ≤ nI (s + 1)
        · simp only [if_pos c2, e76_35, e76_36]
        · simp only [if_neg c2, e76_26, e76_27, e76_28, if_neg hr, e76_35, e76_36]
      · rw [e133_22, e133_23, e133_24]
        by_cases c2 : nI T ≤ nI (s + 1)
        · simp only [if_pos c2, e133_34, e133_35]
        · simp only [if_neg c2, e133_25, e133_26, e133_27, if_neg hr, e133_34, e133_35]
    · have hne : ¬ jm_I N' 45 0 w = nI 0 := by
        rw [s5]
        exact fun z => absurd ((nI_eq (by omega) (by decide)).mp z) (by omega)
      obtain ⟨r', M2, N2, b1, b2, b3, b4, b5⟩ := ih (s + 1) M' N' (by omega) a3 hne
      exact ⟨r', M2, N2, b1, b2, b3, ⟨by rw [← z1.1]; exact b4.1, by rw [← z1.2]; exact b4.2⟩, ⟨by rw [← z2.1]; exact b5.1, by rw [← z2.2]; exact b5.2⟩⟩
theorem sm_run {d E C : Nat} {M N : jm_M} (h : jr_R E C M N) (hC : max C (1024 * E) + 100 < 2 ^ 29) (hE2 : E < 2 ^ 19) (x y : Int32) : jr_O E (max C (1024 * E) + 100) M N (jm_D (d + 10) 76 0 [some (.inr (some (0, 0))), some (.inl x), some (.inl y), none, none] [] M) (jm_D (d + 10) 133 0 [some (.inr (some (31, 0))), some (.inl x), some (.inl y), none, none] [] N) := by
  have hX := h.1
  have hY := h.2.1
  have hR' := jr_C h (show C ≤ max C (1024 * E) + 100 by omega)
  have n1 : ¬ nI 1 = nI 0 := by decide
  rcases jb_case x (show 4 < 2 ^ 31 by decide) with hx | ⟨w, hw, rfl⟩
  · refine jr_same hR' (r := -1) ?_ ?_
    · simp only [e76_0, e76_1, e76_2, e76_3, e76_4, e76_5, e76_6, e76_7, e76_8, e76_9, e76_10, e76_11, e76_12, e76_13, e76_14, e76_15, e76_16, e76_17, e76_18, e76_19, e76_20, e76_21, e76_22, e76_24, e76_25, e76_26, e76_27, e76_28, e76_29, e76_30, e76_31, e76_32, e76_33, e76_34, e76_35, e76_36, xW_f _ _ hx, jb_some, jb_tl, if_true]
    · by_cases c1 : y < nI 1
      · simp only [e133_0, e133_1, e133_2, e133_3, e133_4, e133_5, e133_6, e133_7, e133_8, e133_9, e133_10, e133_11, e133_12, e133_13, e133_14, e133_15, e133_16, e133_17, e133_18, e133_19, e133_20, e133_21, e133_23, e133_24, e133_25, e133_26, e133_27, e133_28, e133_29, e133_30, e133_31, e133_32, e133_33, e133_34, e133_35, if_pos c1]
      · by_cases c2 : nI 100 < y
        · simp only [e133_0, e133_1, e133_2, e133_3, e133_4, e133_5, e133_6, e133_7, e133_8, e133_9, e133_10, e133_11, e133_12, e133_13, e133_14, e133_15, e133_16, e133_17, e133_18, e133_19, e133_20, e133_21, e133_23, e133_24, e133_25, e133_26, e133_27, e133_28, e133_29, e133_30, e133_31, e133_32, e133_33, e133_34, e133_35, if_neg c1, if_pos c2]
        · simp only [e133_0, e133_1, e133_2, e133_3, e133_4, e133_5, e133_6, e133_7, e133_8, e133_9, e133_10, e133_11, e133_12, e133_13, e133_14, e133_15, e133_16, e133_17, e133_18, e133_19, e133_20, e133_21, e133_23, e133_24, e133_25, e133_26, e133_27, e133_28, e133_29, e133_30, e133_31, e133_32, e133_33, e133_34, e133_35, if_neg c1, if_neg c2, yW_f _ _ hx, jb_some, jb_tl, if_true]
  · by_cases c1 : y < nI 1
    · refine jr_same hR' (r := -1) ?_ ?_
      · simp only [e76_0, e76_1, e76_2, e76_3, e76_4, e76_5, e76_6, e76_7, e76_8, e76_9, e76_10, e76_11, e76_12, e76_13, e76_14, e76_15, e76_16, e76_17, e76_18, e76_19, e76_20, e76_21, e76_22, e76_24, e76_25, e76_26, e76_27, e76_28, e76_29, e76_30, e76_31, e76_32, e76_33, e76_34, e76_35, e76_36, xW_t _ _ hw, jb_some, jb_tl, if_neg n1, if_pos c1]
      · simp only [e133_0, e133_1, e133_2, e133_3, e133_4, e133_5, e133_6, e133_7, e133_8, e133_9, e133_10, e133_11, e133_12, e133_13, e133_14, e133_15, e133_16, e133_17, e133_18, e133_19, e133_20, e133_21, e133_23, e133_24, e133_25, e133_26, e133_27, e133_28, e133_29, e133_30, e133_31, e133_32, e133_33, e133_34, e133_35, if_pos c1]
    · by_cases c2 : nI 100 < y
      · have c3 : ¬ y ≤ nI 100 := Int32.not_le.mpr c2
        refine jr_same hR' (r := -1) ?_ ?_
        · simp only [e76_0, e76_1, e76_2, e76_3, e76_4, e76_5, e76_6, e76_7, e76_8, e76_9, e76_10, e76_11, e76_12, e76_13, e76_14, e76_15, e76_16, e76_17, e76_18, e76_19, e76_20, e76_21, e76_22, e76_24, e76_25, e76_26, e76_27, e76_28, e76_29, e76_30, e76_31, e76_32, e76_33, e76_34, e76_35, e76_36, xW_t _ _ hw, jb_some, jb_tl, if_neg n1, if_neg c1, if_neg c3]
        · simp only [e133_0, e133_1, e133_2, e133_3, e133_4, e133_5, e133_6, e133_7, e133_8, e133_9, e133_10, e133_11, e133_12, e133_13, e133_14, e133_15, e133_16, e133_17, e133_18, e133_19, e133_20, e133_21, e133_23, e133_24, e133_25, e133_26, e133_27, e133_28, e133_29, e133_30, e133_31, e133_32, e133_33, e133_34, e133_35, if_neg c1, if_pos c2]
      · have c3 : y ≤ nI 100 := Int32.not_lt.mp c2
        obtain ⟨T, hT, rfl⟩ : ∃ T : Nat, T ≤ 100 ∧ y = nI T := by
          rcases jb_case y (show 101 < 2 ^ 31 by decide) with (z | z) | ⟨j, j1, j2⟩
          · exact absurd (Int32.lt_of_lt_of_le z (show (0 : Int32) ≤ nI 1 by decide)) c1
          · exact absurd (Int32.lt_of_lt_of_le (show nI 100 < nI 101 by decide) z) c2
          · exact ⟨j, by omega, j2⟩
        rcases jr_st h hw with ⟨h6, h45⟩ | ⟨h6, h45⟩
        · refine jr_same hR' (r := -2) ?_ ?_
          · simp only [e76_0, e76_1, e76_2, e76_3, e76_4, e76_5, e76_6, e76_7, e76_8, e76_9, e76_10, e76_11, e76_12, e76_13, e76_14, e76_15, e76_16, e76_17, e76_18, e76_19, e76_20, e76_21, e76_22, e76_24, e76_25, e76_26, e76_27, e76_28, e76_29, e76_30, e76_31, e76_32, e76_33, e76_34, e76_35, e76_36, xW_t _ _ hw, jb_some, jb_tl, if_neg n1, if_neg c1, if_pos c3, xs_0 hX, xs_1 hX, xs_2 hX, xs_3 hX, xs_4 hX, xs_5 hX, xs_6 hX, xs_7 hX, xs_8 hX, xs_9 hX, xs_10 hX, xs_11 hX, xs_12 hX, xs_13 hX, xs_14 hX, xs_15 hX, xs_16 hX, xs_17 hX, xs_18 hX, xs_19 hX, xw_0 hX hw, xw_1 hX hw, xw_2 hX hw, xw_3 hX hw, xw_4 hX hw, xw_5 hX hw, xw_6 hX hw, xw_7 hX hw, xw_8 hX hw, jb_ix hw (by decide), h6, if_true]
          · simp only [e133_0, e133_1, e133_2, e133_3, e133_4, e133_5, e133_6, e133_7, e133_8, e133_9, e133_10, e133_11, e133_12, e133_13, e133_14, e133_15, e133_16, e133_17, e133_18, e133_19, e133_20, e133_21, e133_23, e133_24, e133_25, e133_26, e133_27, e133_28, e133_29, e133_30, e133_31, e133_32, e133_33, e133_34, e133_35, if_neg c1, if_neg c2, yW_t _ _ hw, jb_some, jb_tl, if_neg n1, ys_0 hY, ys_1 hY, ys_2 hY, ys_3 hY, ys_4 hY, ys_5 hY, ys_6 hY, ys_7 hY, ys_8 hY, ys_9 hY, ys_10 hY, ys_11 hY, ys_12 hY, ys_13 hY, ys_14 hY, ys_15 hY, ys_16 hY, ys_17 hY, ys_18 hY, ys_19 hY, ys_20 hY, ys_21 hY, ys_22 hY, ys_23 hY, ys_24 hY, ys_25 hY, ys_26 hY, ys_27 hY, ys_28 hY, ys_29 hY, ys_30 hY, ys_31 hY, ys_32 hY, ys_33 hY, ys_34 hY, ys_35 hY, ys_36 hY, ys_37 hY, ys_38 hY, ys_39 hY, ys_40 hY, ys_41 hY, ys_42 hY, ys_43 hY, ys_44 hY, ys_45 hY, ys_46 hY, ys_47 hY, ys_48 hY, ys_49 hY, ys_50 hY, ys_51 hY, ys_52 hY, ys_53 hY, ys_54 hY, ys_55 hY, ys_56 hY, ys_57 hY, ys_58 hY, ys_59 hY, ys_60 hY, ys_61 hY, ys_62 hY, ys_63 hY, ys_64 hY, ys_65 hY, ys_66 hY, ys_67 hY, ys_68 hY, ys_69 hY, ys_70 hY, ys_71 hY, ys_72 hY, ys_73 hY, ys_74 hY, ys_75 hY, ys_76 hY, ys_77 hY, jb_ix hw (by decide), h45, if_true]
        · obtain ⟨r, M', N', a1, a2, a3, a5, a6⟩ := sm_run0 (d := d) (D := max C (1024 * E)) (w := w) (T := T) (by omega) hE2 (by omega) hw T 0 M N (by omega) (jr_C h (by omega)) h45
          refine ⟨r, M', N', ?_, ?_, jr_C a3 (by omega), a5, a6⟩
          · rw [← a1]
            simp only [e76_0, e76_1, e76_2, e76_3, e76_4, e76_5, e76_6, e76_7, e76_8, e76_9, e76_10, e76_11, e76_12, e76_13, e76_14, e76_15, e76_16, e76_17, e76_18, e76_19, e76_20, e76_21, e76_22, e76_24, e76_25, e76_26, e76_27, e76_28, e76_29, e76_30, e76_31, e76_32, e76_33, e76_34, e76_35, e76_36, xW_t _ _ hw, jb_some, jb_tl, if_neg n1, if_neg c1, if_pos c3, xs_0 hX, xs_1 hX, xs_2 hX, xs_3 hX, xs_4 hX, xs_5 hX, xs_6 hX, xs_7 hX, xs_8 hX, xs_9 hX, xs_10 hX, xs_11 hX, xs_12 hX, xs_13 hX, xs_14 hX, xs_15 hX, xs_16 hX, xs_17 hX, xs_18 hX, xs_19 hX, xw_0 hX hw, xw_1 hX hw, xw_2 hX hw, xw_3 hX hw, xw_4 hX hw, xw_5 hX hw, xw_6 hX hw, xw_7 hX hw, xw_8 hX hw, jb_ix hw (by decide), if_neg h6]
          · rw [← a2]
            simp only [e133_0, e133_1, e133_2, e133_3, e133_4, e133_5, e133_6, e133_7, e133_8, e133_9, e133_10, e133_11, e133_12, e133_13, e133_14, e133_15, e133_16, e133_17, e133_18, e133_19, e133_20, e133_21, e133_23, e133_24, e133_25, e133_26, e133_27, e133_28, e133_29, e133_30, e133_31, e133_32, e133_33, e133_34, e133_35, if_neg c1, if_neg c2, yW_t _ _ hw, jb_some, jb_tl, if_neg n1, ys_0 hY, ys_1 hY, ys_2 hY, ys_3 hY, ys_4 hY, ys_5 hY, ys_6 hY, ys_7 hY, ys_8 hY, ys_9 hY, ys_10 hY, ys_11 hY, ys_12 hY, ys_13 hY, ys_14 hY, ys_15 hY, ys_16 hY, ys_17 hY, ys_18 hY, ys_19 hY, ys_20 hY, ys_21 hY, ys_22 hY, ys_23 hY, ys_24 hY, ys_25 hY, ys_26 hY, ys_27 hY, ys_28 hY, ys_29 hY, ys_30 hY, ys_31 hY, ys_32 hY, ys_33 hY, ys_34 hY, ys_35 hY, ys_36 hY, ys_37 hY, ys_38 hY, ys_39 hY, ys_40 hY, ys_41 hY, ys_42 hY, ys_43 hY, ys_44 hY, ys_45 hY, ys_46 hY, ys_47 hY, ys_48 hY, ys_49 hY, ys_50 hY, ys_51 hY, ys_52 hY, ys_53 hY, ys_54 hY, ys_55 hY, ys_56 hY, ys_57 hY, ys_58 hY, ys_59 hY, ys_60 hY, ys_61 hY, ys_62 hY, ys_63 hY, ys_64 hY, ys_65 hY, ys_66 hY, ys_67 hY, ys_68 hY, ys_69 hY, ys_70 hY, ys_71 hY, ys_72 hY, ys_73 hY, ys_74 hY, ys_75 hY, ys_76 hY, ys_77 hY, jb_ix hw (by decide), if_neg h45]
