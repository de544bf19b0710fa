/-! One move of a worker: the four states. -/
theorem jn_up {E C C' w : Nat} {M N : jm_M} {X Y X' Y' : jm_Z} (hC : C ≤ C') (h : jr_P E C M N w X Y) (hx : ∀ r M', ¬ r = nI 2 → X = some (some (.inl r), M') → X' = X) (hy : ∀ r M', Y = some (some (.inl r), M') → Y' = Y) : jr_N E C' M N w X' Y' := by
  obtain ⟨r, M', N', a1, a2, a3, a4, a5, a6⟩ := h
  have hr : ¬ r = nI 2 := by
    rcases a4 with rfl | rfl | ⟨rfl, -⟩
    all_goals decide
  rw [hx r M' hr a1, hy r N' a2]
  exact jn_of ⟨r, M', N', a1, a2, jr_C a3 hC, a4, a5, a6⟩
def jh_add (E C w d d' : Nat) (M N : jm_M) : Prop := ∀ t k, jr_V E C M N w 2 t → k < 32 → jm_I N 37 0 k = nI 0 → ¬ jm_I M 26 (t + 4) k = nI 0 → ∀ e, jr_P E C M N w (jm_D (d + 7) 56 28 [some (.inr (some (11, w))), some (.inr (some (5, 0))), some (.inl e), some (.inl (nI k))] [] M) (jm_D (d' + 8) 125 46 [some (.inr (some (31, 0))), some (.inl (nI w)), some (.inl (nI k)), none, none, none] [] N)
theorem sm_move {d d' E C w : Nat} {M N : jm_M} (h : jr_R E C M N) (hC : C < 2 ^ 29) (hE2 : E < 2 ^ 19) (hw : w < 4) (hs : ¬ jm_I N 45 0 w = nI 0) (hadd : jh_add E C w d d' M N) : jr_N E (max C (1024 * E) + 1) M N w (jm_D (d + 9) 30 0 [some (.inr (some (0, 0))), some (.inl (nI w)), none, none] [] M) (jm_D (d' + 9) 107 0 [some (.inr (some (31, 0))), some (.inl (nI w))] [] N) := by
  have hX := h.1
  have hY := h.2.1
  have hCC : C ≤ max C (1024 * E) + 1 := by omega
  obtain ⟨s, s4, h6, h45, -, -, hrun⟩ := h.2.2.2.2.2.2.1 w hw
  have s0 : s ≠ 0 := by rintro rfl; exact hs h45
  obtain ⟨t, hr⟩ := hrun s0
  obtain ⟨p, p4, m4, n47⟩ := hr.2.2.2.2.2.2.1
  have pc : jm_D (d + 9) 30 0 [some (.inr (some (0, 0))), some (.inl (nI w)), none, none] [] M = jm_bind (jm_D (d + 8) 31 2 [some (.inr (some (11, w))), some (.inr (some (5, 0))), some (.inr (some (6, p))), some (.inl (jm_I M 0 0 5))] [.inl (nI s)] M) (fun r M1 => jm_D (d + 9) 30 19 [some (.inr (some (0, 0))), some (.inl (nI w)), some (.inr (some (6, p))), none] (r.toList ++ []) M1) := by
    simp only [e30_0, e30_1, e30_2, e30_3, e30_4, e30_5, e30_6, e30_7, e30_8, e30_9, e30_10, e30_11, e30_12, e30_13, e30_14, e30_15, e30_16, e30_17, e30_18, e31_0, e31_1, xs_0 hX, xs_1 hX, xs_2 hX, xs_3 hX, xs_4 hX, xs_5 hX, xs_6 hX, xs_7 hX, xs_8 hX, xs_9 hX, xs_10 hX, xs_11 hX, xs_12 hX, xs_13 hX, xs_14 hX, xs_15 hX, xs_16 hX, xs_17 hX, xs_18 hX, xs_19 hX, xw_0 hX hw, xw_1 hX hw, xw_2 hX hw, xw_3 hX hw, xw_4 hX hw, xw_5 hX hw, xw_6 hX hw, xw_7 hX hw, xw_8 hX hw, xp_0 hX p4, xp_1 hX p4, xp_2 hX p4, xp_3 hX p4, xp_4 hX p4, xp_5 hX p4, xp_6 hX p4, xp_7 hX p4, xp_8 hX p4, jb_ix hw (by decide), m4, jb_ix p4 (by decide), h6]
  have pm : jm_D (d' + 9) 107 0 [some (.inr (some (31, 0))), some (.inl (nI w))] [] N = jm_D (d' + 9) 107 4 [some (.inr (some (31, 0))), some (.inl (nI w))] [.inl (nI s)] N := by
    simp only [e107_0, e107_1, e107_2, e107_3, ys_0 hY, ys_1 hY, ys_2 hY, ys_3 hY, ys_4 hY, ys_5 hY, ys_6 hY, ys_7 hY, ys_8 hY, ys_9 hY, ys_10 hY, ys_11 hY, ys_12 hY, ys_13 hY, ys_14 hY, ys_15 hY, ys_16 hY, ys_17 hY, ys_18 hY, ys_19 hY, ys_20 hY, ys_21 hY, ys_22 hY, ys_23 hY, ys_24 hY, ys_25 hY, ys_26 hY, ys_27 hY, ys_28 hY, ys_29 hY, ys_30 hY, ys_31 hY, ys_32 hY, ys_33 hY, ys_34 hY, ys_35 hY, ys_36 hY, ys_37 hY, ys_38 hY, ys_39 hY, ys_40 hY, ys_41 hY, ys_42 hY, ys_43 hY, ys_44 hY, ys_45 hY, ys_46 hY, ys_47 hY, ys_48 hY, ys_49 hY, ys_50 hY, ys_51 hY, ys_52 hY, ys_53 hY, ys_54 hY, ys_55 hY, ys_56 hY, ys_57 hY, ys_58 hY, ys_59 hY, ys_60 hY, ys_61 hY, ys_62 hY, ys_63 hY, ys_64 hY, ys_65 hY, ys_66 hY, ys_67 hY, ys_68 hY, ys_69 hY, ys_70 hY, ys_71 hY, ys_72 hY, ys_73 hY, ys_74 hY, ys_75 hY, ys_76 hY, ys_77 hY, jb_ix hw (by decide), h45]
  rw [pc, pm]
  match s, s4, s0, h6, h45, hr with
  | 1, _, _, h6, h45, hr =>
    refine jn_up hCC (sm_instr (d := d + 1) (d' := d') ⟨h, h6, h45, hr⟩ (by omega) hw p4 m4 n47) (fun r M' h2 e => ?_) (fun r M' e => ?_)
    · simp only [e31_2_0, e31_3, e31_4, e31_5, e31_6, e31_7, e, jb_some, jb_tl, e30_19, e30_20, e30_21, e30_22, if_neg h2, e30_38, e30_39]
    · simp only [e107_4_0, e107_5, e107_6, e107_7, e107_8, e, jb_some, jb_tl]
  | 2, _, _, h6, h45, hr =>
    refine jn_up hCC (sm_lock (d := d) (d' := d' + 1) ⟨h, h6, h45, hr⟩ (by omega) hw (fun k hk h1 h2 e => hadd t k ⟨h, h6, h45, hr⟩ hk h1 h2 e)) (fun r M' h2 e => ?_) (fun r M' e => ?_)
    · simp only [e31_2_1, e31_8, e31_9, e31_10, e31_11, e31_12, e, jb_some, jb_tl, e30_19, e30_20, e30_21, e30_22, if_neg h2, e30_38, e30_39]
    · simp only [e107_4_1, e107_9, e107_10, e107_11, e107_12, e, jb_some, jb_tl]
  | 3, _, _, h6, h45, hr =>
    refine jn_up (Nat.le_refl _) (sm_check (d := d + 1) (d' := d' + 2) ⟨h, h6, h45, hr⟩ hC hE2 hw) (fun r M' h2 e => ?_) (fun r M' e => ?_)
    · simp only [e31_2_2, e31_13, e31_14, e31_15, e31_16, e, jb_some, jb_tl, e30_19, e30_20, e30_21, e30_22, if_neg h2, e30_38, e30_39]
    · simp only [e107_4_2, e107_13, e107_14, e107_15, e107_16, e, jb_some, jb_tl]
  | 4, _, _, h6, h45, hr =>
    have h4 : (nI 4).toInt < 1 ∨ 3 < (nI 4).toInt := Or.inr (by decide)
    rcases sm_inst (d := d + 1) (d' := d' + 2) ⟨h, h6, h45, hr⟩ (by omega) hw with hP | ⟨hall, z1, z2⟩
    · refine jn_up hCC hP (fun r M' h2 e => ?_) (fun r M' e => ?_)
      · simp only [e31_2_3, e31_17, e31_18, e31_19, e31_20, e, jb_some, jb_tl, e30_19, e30_20, e30_21, e30_22, if_neg h2, e30_38, e30_39]
      · simp only [e107_4_d _ _ _ _ _ _ h4, e107_17, e107_18, e107_19, e107_20, e, jb_some, jb_tl]
    · obtain ⟨M', N', g1, g2, g3, g4, g5⟩ := sm_com (d := d) (d' := d') (l2 := some (.inr (some (6, p)))) ⟨h, h6, h45, hr⟩ (by omega) hw hall
      refine ⟨nI 2, M', N', ?_, ?_, jr_C g3 hCC, Or.inl (by decide), g4, g5⟩
      · rw [← g1]
        simp only [e31_2_3, e31_17, e31_18, e31_19, e31_20, z1, jb_some, jb_tl, e30_19, e30_20, e30_21, e30_22, if_true]
        rfl
      · simp only [e107_4_d _ _ _ _ _ _ h4, e107_17, e107_18, e107_19, e107_20, z2, g2, jb_some, jb_tl, e129_31]
