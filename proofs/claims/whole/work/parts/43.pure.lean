/-- a worker's log made durable in both -/
theorem jr_flu {E C w x : Nat} {M N : jm_M} (h : jr_R E C M N) (hw : w < 4) (hx : x < E) : jr_R E C (jm_setI (jm_setI M 15 w 1 (nI (jy_kl M N w).length)) 15 w 2 (nI x)) (jm_setK (jm_setI N 62 0 w (nI x)) 67 (fun i j => if i = 0 ∧ 0 + 1 ≤ j ∧ j ≤ jm_c M 25 ∧ jy_kp N w (j - 1) = true then nI 1 else jm_I N 67 i j)) := by
  obtain ⟨hX, hY, hN, hP, hS, hL, hW, hT, hG, ⟨e, e1, e2, e3, e4, e5⟩, hU⟩ := h
  refine ⟨hX, hY, hN, hP, hS, hL, hW, hT, ⟨fun v hv => ?_, hG.2⟩, ⟨e, e1, e2, e3, e4, fun v hv => ?_⟩, hU⟩
  · obtain ⟨g1, n, g2, g3, g4⟩ := hG.1 v hv
    refine ⟨g1, ?_⟩
    show ∃ n, n ≤ (jy_kl M N v).length ∧ jm_I (jm_setI (jm_setI M 15 w 1 (nI (jy_kl M N w).length)) 15 w 2 (nI x)) 15 v 1 = nI n ∧ ∀ j t, (jy_kl M N v)[j]? = some t → jm_I (jm_setK (jm_setI N 62 0 w (nI x)) 67 (fun i j => if i = 0 ∧ 0 + 1 ≤ j ∧ j ≤ jm_c M 25 ∧ jy_kp N w (j - 1) = true then nI 1 else jm_I N 67 i j)) 67 0 (t + 1) = if j < n then nI 1 else nI 0
    have hmem : ∀ j t : Nat, (jy_kl M N v)[j]? = some t → t < jm_c M 25 ∧ jy_kp N v t = true := by
      intro j t hj
      have := List.mem_of_getElem? hj
      unfold jy_kl at this
      rw [List.mem_filter, List.mem_range] at this
      exact this
    by_cases hvw : v = w
    · subst hvw
      refine ⟨(jy_kl M N v).length, Nat.le_refl _, ?_, fun j t hj => ?_⟩
      · rw [jb_Io (by decide), jb_Is]
      · have hl : j < (jy_kl M N v).length := (List.getElem?_eq_some_iff.mp hj).1
        obtain ⟨m1, m2⟩ := hmem j t hj
        rw [jk_I, if_pos ⟨rfl, by omega, by omega, m2⟩, if_pos hl]
    · refine ⟨n, g2, ?_, fun j t hj => ?_⟩
      · rw [jb_Ij hvw, jb_Ij hvw]
        exact g3
      · obtain ⟨m1, m2⟩ := hmem j t hj
        rw [jk_I, if_neg, g4 j t hj]
        intro e
        have e := e.2.2.2
        rw [Nat.add_sub_cancel] at e
        unfold jy_kp at e m2
        simp only [Bool.and_eq_true, decide_eq_true_eq] at e m2
        exact hvw ((nI_eq (by omega) (by omega)).mp (m2.2.symm.trans e.2))
  · obtain ⟨m, m1, m2, m3⟩ := e5 v hv
    by_cases hvw : v = w
    · subst hvw
      exact ⟨x, hx, jb_Is _ _ _ _ _, jb_Is N 62 0 v (nI x)⟩
    · exact ⟨m, m1, ((jb_Ij hvw _ _ _ _ _ _).trans (jb_Ij hvw _ _ _ _ _ _)).trans m2, (jb_Io hvw N 62 0 (nI x) 62 0).trans m3⟩
theorem xMkD {d w m x : Nat} {M : jm_M} {l : List Nat} (hX : jx_S M) (hw : w < 4) (hl : jx_L M 16 w l) (hm : jm_I M 15 w 2 = nI m) (hmb : m < 2 ^ 31) (hxb : x < 2 ^ 31) : jm_D (d + 1) 80 0 [some (.inr (some (15, w))), some (.inl (nI x))] [] M = some (none, jm_setI (jm_setI M 15 w 1 (nI l.length)) 15 w 2 (nI (if m < x then x else m))) := by
  have g : jm_I (jm_setI M 15 w 1 (nI l.length)) 15 w 2 = nI m := (jb_Io (by decide) _ _ _ _ _ _).trans hm
  have g2 : (if nI m < nI x then nI x else nI m) = nI (if m < x then x else m) := by
    by_cases h : m < x
    · rw [if_pos h, if_pos (nI_lt h hxb)]
    · rw [if_neg h, if_neg (nI_nlt (Nat.not_lt.mp h) hmb)]
  simp only [e80_0, e80_1, e80_2, e80_3, e80_4, e80_5, e80_6, e80_7, e80_8, e80_9, e80_10, e80_11, xw_0 hX hw, xw_1 hX hw, xw_2 hX hw, xw_3 hX hw, xw_4 hX hw, xw_5 hX hw, xw_6 hX hw, xw_7 hX hw, xw_8 hX hw, xl_size_16 hl, jb_some, jb_tl, g, g2]
/-- flush -/
theorem sm_flush {d E C : Nat} {M N : jm_M} (h : jr_R E C M N) (hE2 : E < 2 ^ 20) (x : Int32) : jr_O E C M N (jm_D (d + 4) 79 0 [some (.inr (some (0, 0))), some (.inl x), none] [] M) (jm_D (d + 4) 136 0 [some (.inr (some (31, 0))), some (.inl x), none, none] [] N) := by
  have h' := h
  obtain ⟨hX, hY, hN, hP, hS, hL, hW, hT, hG, ⟨e, e1, e2, e3, e4, e5⟩, hU⟩ := h
  rcases jb_case x (show 4 < 2 ^ 31 by decide) with hx | ⟨w, hw, rfl⟩
  · refine jr_same h' (r := -1) ?_ ?_
    · simp only [e79_0, e79_1, e79_2, e79_3, e79_4, e79_5, e79_6, e79_7, e79_8, e79_9, e79_10, e79_11, e79_12, e79_13, e79_14, e79_15, e79_16, e79_17, e79_18, e79_19, e79_20, e79_21, e79_22, e79_23, e79_24, e79_25, e79_26, e79_27, e79_28, e79_29, e79_30, xW_f _ _ hx, jb_some, jb_tl, if_true]
    · simp only [e136_0, e136_1, e136_2, e136_3, e136_4, e136_5, e136_6, e136_7, e136_8, e136_9, e136_10, e136_11, e136_12, e136_13, e136_14, e136_15, e136_16, e136_17, e136_18, e136_19, e136_20, e136_21, e136_22, e136_23, e136_24, e136_25, e136_26, e136_27, e136_28, e136_29, e136_30, e136_31, e136_32, e136_33, e136_34, e136_35, e136_36, e136_38, e136_39, e136_40, e136_41, e136_42, e136_43, e136_44, e136_45, e136_46, e136_47, e136_48, e136_49, e136_50, e136_51, e136_52, e136_53, e136_54, e136_55, e136_56, e136_57, e136_58, e136_59, e136_60, yW_f _ _ hx, jb_some, jb_tl, if_true]
  · obtain ⟨s, h1, h2, h3, h4⟩ := rW_st (hW w hw)
    obtain ⟨m, m1, m2, m3⟩ := e5 w hw
    obtain ⟨l1, -⟩ := hG.1 w hw
    have key : ∀ f, 1 ≤ f → f ≤ E → jm_D (d + 4) 79 0 [some (.inr (some (0, 0))), some (.inl (nI w)), none] [] M = jm_D (d + 4) 79 19 [some (.inr (some (0, 0))), some (.inl (nI w)), none] [.inl (nI f)] M → jm_D (d + 4) 136 0 [some (.inr (some (31, 0))), some (.inl (nI w)), none, none] [] N = jm_D (d + 4) 136 16 [some (.inr (some (31, 0))), some (.inl (nI w)), none, none] [.inl (nI f)] N → jr_O E C M N (jm_D (d + 4) 79 0 [some (.inr (some (0, 0))), some (.inl (nI w)), none] [] M) (jm_D (d + 4) 136 0 [some (.inr (some (31, 0))), some (.inl (nI w)), none, none] [] N) := by
      intro f f1 f2 k1 k2
      have hmx : (if m < f - 1 then f - 1 else m) < E := by split <;> omega
      obtain ⟨r, M', N', r1, r2, r3, ⟨r4, r5⟩, r6, r7⟩ := sm_rel (d := d) (d' := d) (jr_flu h' hw hmx)
      refine ⟨r, M', N', ?_, ?_, r3, ⟨by rw [r4]; exact Nat.le_add_right _ _, by rw [r5]; exact Nat.le_add_right _ _⟩, ⟨by rw [r6]; exact Nat.le_add_right _ _, by rw [r7]; exact Nat.le_add_right _ _⟩⟩
      · rw [k1]
        simp only [e79_0, e79_1, e79_2, e79_3, e79_4, e79_5, e79_6, e79_7, e79_8, e79_9, e79_10, e79_11, e79_12, e79_13, e79_14, e79_15, e79_16, e79_17, e79_18, e79_19, e79_20, e79_21, e79_22, e79_23, e79_24, e79_25, e79_26, e79_27, e79_28, e79_29, e79_30, xs_0 hX, xs_1 hX, xs_2 hX, xs_3 hX, xs_4 hX, xs_5 hX, xs_6 hX, xs_7 hX, xs_8 hX, xs_9 hX, xs_10 hX, xs_11 hX, xs_12 hX, xs_13 hX, xs_14 hX, xs_15 hX, xs_16 hX, xs_17 hX, xs_18 hX, xs_19 hX, xw_0 hX hw, xw_1 hX hw, xw_2 hX hw, xw_3 hX hw, xw_4 hX hw, xw_5 hX hw, xw_6 hX hw, xw_7 hX hw, xw_8 hX hw, jb_ix hw (by decide), pk_sub f1, xMkD (d := d + 2) (m := m) (x := f - 1) hX hw l1 m2 (by omega) (by omega), jb_some, jb_tl, jb_tn, r1]
      · rw [k2]
        have hYa : jy_S (jm_setI N 62 0 w (nI (if m < f - 1 then f - 1 else m))) := hY
        have z := yFlu (d := d + 3) (m := nI (f - 1)) hYa hw hT.1 hT.2.2.2.1 (jm_c M 25) 0 (jm_I N 67) (by omega)
        have z0 : jm_setK (jm_setI N 62 0 w (nI (if m < f - 1 then f - 1 else m))) 67 (jm_I N 67) = jm_setI N 62 0 w (nI (if m < f - 1 then f - 1 else m)) := jk_id _ _
        rw [z0] at z
        by_cases hmf : m < f - 1
        · rw [if_pos hmf] at z r2
          have c1 : ¬ nI (f - 1) ≤ nI m := nI_ge hmf (by omega)
          simp only [e136_0, e136_1, e136_2, e136_3, e136_4, e136_5, e136_6, e136_7, e136_8, e136_9, e136_10, e136_11, e136_12, e136_13, e136_14, e136_15, e136_16, e136_17, e136_18, e136_19, e136_20, e136_21, e136_22, e136_23, e136_24, e136_25, e136_26, e136_27, e136_28, e136_29, e136_30, e136_31, e136_32, e136_33, e136_34, e136_35, e136_36, e136_38, e136_39, e136_40, e136_41, e136_42, e136_43, e136_44, e136_45, e136_46, e136_47, e136_48, e136_49, e136_50, e136_51, e136_52, e136_53, e136_54, e136_55, e136_56, e136_57, e136_58, e136_59, e136_60, ys_0 hY, ys_1 hY, ys_2 hY, ys_3 hY, ys_4 hY, ys_5 hY, ys_6 hY, ys_7 hY, ys_8 hY, ys_9 hY, ys_10 hY, ys_11 hY, ys_12 hY, ys_13 hY, ys_14 hY, ys_15 hY, ys_16 hY, ys_17 hY, ys_18 hY, ys_19 hY, ys_20 hY, ys_21 hY, ys_22 hY, ys_23 hY, ys_24 hY, ys_25 hY, ys_26 hY, ys_27 hY, ys_28 hY, ys_29 hY, ys_30 hY, ys_31 hY, ys_32 hY, ys_33 hY, ys_34 hY, ys_35 hY, ys_36 hY, ys_37 hY, ys_38 hY, ys_39 hY, ys_40 hY, ys_41 hY, ys_42 hY, ys_43 hY, ys_44 hY, ys_45 hY, ys_46 hY, ys_47 hY, ys_48 hY, ys_49 hY, ys_50 hY, ys_51 hY, ys_52 hY, ys_53 hY, ys_54 hY, ys_55 hY, ys_56 hY, ys_57 hY, ys_58 hY, ys_59 hY, ys_60 hY, ys_61 hY, ys_62 hY, ys_63 hY, ys_64 hY, ys_65 hY, ys_66 hY, ys_67 hY, ys_68 hY, ys_69 hY, ys_70 hY, ys_71 hY, ys_72 hY, ys_73 hY, ys_74 hY, ys_75 hY, ys_76 hY, ys_77 hY, pk_sub f1, jb_ix hw (by decide), m3, if_neg c1]
          refine z.trans ?_
          simp only [e136_58, e136_59]
          erw [r2]
          simp only [jb_some, jb_tl, e136_60]
        · rw [if_neg hmf] at z r2
          have c1 : nI (f - 1) ≤ nI m := nI_le (by omega) (by omega)
          simp only [e136_0, e136_1, e136_2, e136_3, e136_4, e136_5, e136_6, e136_7, e136_8, e136_9, e136_10, e136_11, e136_12, e136_13, e136_14, e136_15, e136_16, e136_17, e136_18, e136_19, e136_20, e136_21, e136_22, e136_23, e136_24, e136_25, e136_26, e136_27, e136_28, e136_29, e136_30, e136_31, e136_32, e136_33, e136_34, e136_35, e136_36, e136_38, e136_39, e136_40, e136_41, e136_42, e136_43, e136_44, e136_45, e136_46, e136_47, e136_48, e136_49, e136_50, e136_51, e136_52, e136_53, e136_54, e136_55, e136_56, e136_57, e136_58, e136_59, e136_60, ys_0 hY, ys_1 hY, ys_2 hY, ys_3 hY, ys_4 hY, ys_5 hY, ys_6 hY, ys_7 hY, ys_8 hY, ys_9 hY, ys_10 hY, ys_11 hY, ys_12 hY, ys_13 hY, ys_14 hY, ys_15 hY, ys_16 hY, ys_17 hY, ys_18 hY, ys_19 hY, ys_20 hY, ys_21 hY, ys_22 hY, ys_23 hY, ys_24 hY, ys_25 hY, ys_26 hY, ys_27 hY, ys_28 hY, ys_29 hY, ys_30 hY, ys_31 hY, ys_32 hY, ys_33 hY, ys_34 hY, ys_35 hY, ys_36 hY, ys_37 hY, ys_38 hY, ys_39 hY, ys_40 hY, ys_41 hY, ys_42 hY, ys_43 hY, ys_44 hY, ys_45 hY, ys_46 hY, ys_47 hY, ys_48 hY, ys_49 hY, ys_50 hY, ys_51 hY, ys_52 hY, ys_53 hY, ys_54 hY, ys_55 hY, ys_56 hY, ys_57 hY, ys_58 hY, ys_59 hY, ys_60 hY, ys_61 hY, ys_62 hY, ys_63 hY, ys_64 hY, ys_65 hY, ys_66 hY, ys_67 hY, ys_68 hY, ys_69 hY, ys_70 hY, ys_71 hY, ys_72 hY, ys_73 hY, ys_74 hY, ys_75 hY, ys_76 hY, ys_77 hY, pk_sub f1, jb_ix hw (by decide), m3, if_pos c1]
          refine z.trans ?_
          simp only [e136_58, e136_59]
          erw [r2]
          simp only [jb_some, jb_tl, e136_60]
    by_cases hs : 3 ≤ s
    · obtain ⟨f, f1, f2, f3, f4⟩ := h4 hs
      refine key f f1 f2 ?_ ?_
      · simp only [e79_0, e79_1, e79_2, e79_3, e79_4, e79_5, e79_6, e79_7, e79_8, e79_9, e79_10, e79_11, e79_12, e79_13, e79_14, e79_15, e79_16, e79_17, e79_18, e79_20, e79_21, e79_22, e79_23, e79_24, e79_25, e79_26, e79_27, e79_28, e79_29, e79_30, xs_0 hX, xs_1 hX, xs_2 hX, xs_3 hX, xs_4 hX, xs_5 hX, xs_6 hX, xs_7 hX, xs_8 hX, xs_9 hX, xs_10 hX, xs_11 hX, xs_12 hX, xs_13 hX, xs_14 hX, xs_15 hX, xs_16 hX, xs_17 hX, xs_18 hX, xs_19 hX, xw_0 hX hw, xw_1 hX hw, xw_2 hX hw, xw_3 hX hw, xw_4 hX hw, xw_5 hX hw, xw_6 hX hw, xw_7 hX hw, xw_8 hX hw, jb_ix hw (by decide), xW_t _ _ hw, xEp h1 h2, jb_some, jb_tl, if_pos hs, nf_0_1, nf_0_2, nf_0_3, nf_0_4, nf_0_5, nf_0_6, nf_1_0, nf_1_2, nf_1_3, nf_1_4, nf_1_5, nf_1_6, nf_2_0, nf_2_1, nf_2_3, nf_2_4, nf_2_5, nf_2_6, nf_3_0, nf_3_1, nf_3_2, nf_3_4, nf_3_5, nf_3_6, nf_4_0, nf_4_1, nf_4_2, nf_4_3, nf_4_5, nf_4_6, nf_5_0, nf_5_1, nf_5_2, nf_5_3, nf_5_4, nf_5_6, nf_6_0, nf_6_1, nf_6_2, nf_6_3, nf_6_4, nf_6_5, if_false, f3]
      · simp only [e136_0, e136_1, e136_2, e136_3, e136_4, e136_5, e136_6, e136_7, e136_8, e136_9, e136_10, e136_11, e136_12, e136_13, e136_14, e136_15, e136_17, e136_18, e136_19, e136_20, e136_21, e136_22, e136_23, e136_24, e136_25, e136_26, e136_27, e136_28, e136_29, e136_30, e136_31, e136_32, e136_33, e136_34, e136_35, e136_36, e136_37, e136_38, e136_39, e136_40, e136_41, e136_42, e136_43, e136_44, e136_45, e136_46, e136_47, e136_48, e136_49, e136_50, e136_51, e136_52, e136_53, e136_54, e136_55, e136_56, e136_57, e136_58, e136_59, e136_60, ys_0 hY, ys_1 hY, ys_2 hY, ys_3 hY, ys_4 hY, ys_5 hY, ys_6 hY, ys_7 hY, ys_8 hY, ys_9 hY, ys_10 hY, ys_11 hY, ys_12 hY, ys_13 hY, ys_14 hY, ys_15 hY, ys_16 hY, ys_17 hY, ys_18 hY, ys_19 hY, ys_20 hY, ys_21 hY, ys_22 hY, ys_23 hY, ys_24 hY, ys_25 hY, ys_26 hY, ys_27 hY, ys_28 hY, ys_29 hY, ys_30 hY, ys_31 hY, ys_32 hY, ys_33 hY, ys_34 hY, ys_35 hY, ys_36 hY, ys_37 hY, ys_38 hY, ys_39 hY, ys_40 hY, ys_41 hY, ys_42 hY, ys_43 hY, ys_44 hY, ys_45 hY, ys_46 hY, ys_47 hY, ys_48 hY, ys_49 hY, ys_50 hY, ys_51 hY, ys_52 hY, ys_53 hY, ys_54 hY, ys_55 hY, ys_56 hY, ys_57 hY, ys_58 hY, ys_59 hY, ys_60 hY, ys_61 hY, ys_62 hY, ys_63 hY, ys_64 hY, ys_65 hY, ys_66 hY, ys_67 hY, ys_68 hY, ys_69 hY, ys_70 hY, ys_71 hY, ys_72 hY, ys_73 hY, ys_74 hY, ys_75 hY, ys_76 hY, ys_77 hY, jb_ix hw (by decide), yW_t _ _ hw, yEp hY hw h1 h3, jb_some, jb_tl, if_pos hs, nf_0_1, nf_0_2, nf_0_3, nf_0_4, nf_0_5, nf_0_6, nf_1_0, nf_1_2, nf_1_3, nf_1_4, nf_1_5, nf_1_6, nf_2_0, nf_2_1, nf_2_3, nf_2_4, nf_2_5, nf_2_6, nf_3_0, nf_3_1, nf_3_2, nf_3_4, nf_3_5, nf_3_6, nf_4_0, nf_4_1, nf_4_2, nf_4_3, nf_4_5, nf_4_6, nf_5_0, nf_5_1, nf_5_2, nf_5_3, nf_5_4, nf_5_6, nf_6_0, nf_6_1, nf_6_2, nf_6_3, nf_6_4, nf_6_5, if_false, f4]
    · refine key e e1 e2 ?_ ?_
      · simp only [e79_0, e79_1, e79_2, e79_3, e79_4, e79_5, e79_6, e79_7, e79_8, e79_9, e79_10, e79_11, e79_12, e79_13, e79_14, e79_15, e79_16, e79_17, e79_18, e79_20, e79_21, e79_22, e79_23, e79_24, e79_25, e79_26, e79_27, e79_28, e79_29, e79_30, xs_0 hX, xs_1 hX, xs_2 hX, xs_3 hX, xs_4 hX, xs_5 hX, xs_6 hX, xs_7 hX, xs_8 hX, xs_9 hX, xs_10 hX, xs_11 hX, xs_12 hX, xs_13 hX, xs_14 hX, xs_15 hX, xs_16 hX, xs_17 hX, xs_18 hX, xs_19 hX, xw_0 hX hw, xw_1 hX hw, xw_2 hX hw, xw_3 hX hw, xw_4 hX hw, xw_5 hX hw, xw_6 hX hw, xw_7 hX hw, xw_8 hX hw, jb_ix hw (by decide), xW_t _ _ hw, xEp h1 h2, jb_some, jb_tl, if_neg hs, nf_0_1, nf_0_2, nf_0_3, nf_0_4, nf_0_5, nf_0_6, nf_1_0, nf_1_2, nf_1_3, nf_1_4, nf_1_5, nf_1_6, nf_2_0, nf_2_1, nf_2_3, nf_2_4, nf_2_5, nf_2_6, nf_3_0, nf_3_1, nf_3_2, nf_3_4, nf_3_5, nf_3_6, nf_4_0, nf_4_1, nf_4_2, nf_4_3, nf_4_5, nf_4_6, nf_5_0, nf_5_1, nf_5_2, nf_5_3, nf_5_4, nf_5_6, nf_6_0, nf_6_1, nf_6_2, nf_6_3, nf_6_4, nf_6_5, if_false, if_true, e3]
      · simp only [e136_0, e136_1, e136_2, e136_3, e136_4, e136_5, e136_6, e136_7, e136_8, e136_9, e136_10, e136_11, e136_12, e136_13, e136_14, e136_15, e136_17, e136_18, e136_19, e136_20, e136_21, e136_22, e136_23, e136_24, e136_25, e136_26, e136_27, e136_28, e136_29, e136_30, e136_31, e136_32, e136_33, e136_34, e136_35, e136_36, e136_37, e136_38, e136_39, e136_40, e136_41, e136_42, e136_43, e136_44, e136_45, e136_46, e136_47, e136_48, e136_49, e136_50, e136_51, e136_52, e136_53, e136_54, e136_55, e136_56, e136_57, e136_58, e136_59, e136_60, ys_0 hY, ys_1 hY, ys_2 hY, ys_3 hY, ys_4 hY, ys_5 hY, ys_6 hY, ys_7 hY, ys_8 hY, ys_9 hY, ys_10 hY, ys_11 hY, ys_12 hY, ys_13 hY, ys_14 hY, ys_15 hY, ys_16 hY, ys_17 hY, ys_18 hY, ys_19 hY, ys_20 hY, ys_21 hY, ys_22 hY, ys_23 hY, ys_24 hY, ys_25 hY, ys_26 hY, ys_27 hY, ys_28 hY, ys_29 hY, ys_30 hY, ys_31 hY, ys_32 hY, ys_33 hY, ys_34 hY, ys_35 hY, ys_36 hY, ys_37 hY, ys_38 hY, ys_39 hY, ys_40 hY, ys_41 hY, ys_42 hY, ys_43 hY, ys_44 hY, ys_45 hY, ys_46 hY, ys_47 hY, ys_48 hY, ys_49 hY, ys_50 hY, ys_51 hY, ys_52 hY, ys_53 hY, ys_54 hY, ys_55 hY, ys_56 hY, ys_57 hY, ys_58 hY, ys_59 hY, ys_60 hY, ys_61 hY, ys_62 hY, ys_63 hY, ys_64 hY, ys_65 hY, ys_66 hY, ys_67 hY, ys_68 hY, ys_69 hY, ys_70 hY, ys_71 hY, ys_72 hY, ys_73 hY, ys_74 hY, ys_75 hY, ys_76 hY, ys_77 hY, jb_ix hw (by decide), yW_t _ _ hw, yEp hY hw h1 h3, jb_some, jb_tl, if_neg hs, nf_0_1, nf_0_2, nf_0_3, nf_0_4, nf_0_5, nf_0_6, nf_1_0, nf_1_2, nf_1_3, nf_1_4, nf_1_5, nf_1_6, nf_2_0, nf_2_1, nf_2_3, nf_2_4, nf_2_5, nf_2_6, nf_3_0, nf_3_1, nf_3_2, nf_3_4, nf_3_5, nf_3_6, nf_4_0, nf_4_1, nf_4_2, nf_4_3, nf_4_5, nf_4_6, nf_5_0, nf_5_1, nf_5_2, nf_5_3, nf_5_4, nf_5_6, nf_6_0, nf_6_1, nf_6_2, nf_6_3, nf_6_4, nf_6_5, if_false, if_true, e4]
