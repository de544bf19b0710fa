/-! Commit: the reference's run. -/
def jy_cv (N : jm_M) (w t K : Nat) : Nat → Int32 := fun j => jm_I N K 0 (32 * w + (j - 32 * (t + 1)))
def jy_cb (N : jm_M) (w t K : Nat) : Nat → Int32 := fun j => vp_nar .boolean (jm_I N K 0 (32 * w + (j - 32 * (t + 1))))
theorem yCm0 {d w t : Nat} {N : jm_M} (hY : jy_S N) (hw : w < 4) (ht : t < 100) : ∀ f k g1 g2 g3, k + f = 32 → jm_D d 130 33 [some (.inr (some (31, 0))), some (.inl (nI w)), some (.inl (nI (t + 1))), some (.inl (nI k))] [] (jm_setK (jm_setK (jm_setK N 68 g1) 69 g2) 70 g3) = jm_D d 130 86 [some (.inr (some (31, 0))), some (.inl (nI w)), some (.inl (nI (t + 1))), some (.inl (nI 32))] [] (jm_setK (jm_setK (jm_setK N 68 (jk_row 0 (32 * (t + 1) + k) (32 * (t + 1) + 32) (jy_cb N w t 51) g1)) 69 (jk_row 0 (32 * (t + 1) + k) (32 * (t + 1) + 32) (jy_cb N w t 52) g2)) 70 (jk_row 0 (32 * (t + 1) + k) (32 * (t + 1) + 32) (jy_cv N w t 53) g3)) := by
  intro f
  induction f with
  | zero =>
    intro k g1 g2 g3 hk
    obtain rfl : k = 32 := by omega
    rw [e130_33, jk_end, jk_end, jk_end]
    simp only [e130_34, e130_35, Int32.le_refl, if_true]
  | succ f ih =>
    intro k g1 g2 g3 hk
    have c1 : ¬ nI 32 ≤ nI k := nI_ge (by omega) (by decide)
    have hb : 32 * w + k < 128 := by omega
    have hb2 : 32 * (t + 1) + k < 3232 := by omega
    have hl : 32 * (t + 1) + k < 32 * (t + 1) + 32 := by omega
    have e1 : jy_cb N w t 51 (32 * (t + 1) + k) = vp_nar .boolean (jm_I N 51 0 (32 * w + k)) := by unfold jy_cb; rw [Nat.add_sub_cancel_left]
    have e2 : jy_cb N w t 52 (32 * (t + 1) + k) = vp_nar .boolean (jm_I N 52 0 (32 * w + k)) := by unfold jy_cb; rw [Nat.add_sub_cancel_left]
    have e3 : jy_cv N w t 53 (32 * (t + 1) + k) = jm_I N 53 0 (32 * w + k) := by unfold jy_cv; rw [Nat.add_sub_cancel_left]
    rw [e130_33, ← jk_step (v := jy_cb N w t 51) (g := g1) hl, ← jk_step (v := jy_cb N w t 52) (g := g2) hl, ← jk_step (v := jy_cv N w t 53) (g := g3) hl, Nat.add_assoc, ← ih (k + 1) _ _ _ (by omega), e1, e2, e3]
    simp only [e130_0, e130_1, e130_2, e130_3, e130_4, e130_5, e130_6, e130_7, e130_8, e130_9, e130_10, e130_11, e130_12, e130_13, e130_14, e130_15, e130_16, e130_17, e130_18, e130_19, e130_20, e130_21, e130_22, e130_23, e130_24, e130_25, e130_26, e130_27, e130_28, e130_29, e130_30, e130_31, e130_32, e130_34, e130_35, e130_36, e130_37, e130_38, e130_39, e130_40, e130_41, e130_42, e130_43, e130_44, e130_45, e130_46, e130_47, e130_48, e130_49, e130_50, e130_51, e130_52, e130_53, e130_54, e130_55, e130_56, e130_57, e130_58, e130_59, e130_60, e130_61, e130_62, e130_63, e130_64, e130_65, e130_66, e130_67, e130_68, e130_69, e130_70, e130_71, e130_72, e130_73, e130_74, e130_75, e130_76, e130_77, e130_78, e130_79, e130_80, e130_81, e130_82, e130_83, e130_84, e130_85, e130_87, e130_88, e130_89, e130_90, e130_91, e130_92, e130_93, e130_94, e130_95, e130_96, e130_97, e130_98, e130_99, e130_100, e130_101, e130_102, e130_103, e130_104, e130_105, e130_106, e130_107, e130_108, jb_FI, jb_nI, jk_F, jk_n, ys_0 hY, ys_1 hY, ys_2 hY, ys_3 hY, ys_4 hY, ys_5 hY, ys_6 hY, ys_7 hY, ys_8 hY, ys_9 hY, ys_10 hY, ys_11 hY, ys_12 hY, ys_13 hY, ys_14 hY, ys_15 hY, ys_16 hY, ys_17 hY, ys_18 hY, ys_19 hY, ys_20 hY, ys_21 hY, ys_22 hY, ys_23 hY, ys_24 hY, ys_25 hY, ys_26 hY, ys_27 hY, ys_28 hY, ys_29 hY, ys_30 hY, ys_31 hY, ys_32 hY, ys_33 hY, ys_34 hY, ys_35 hY, ys_36 hY, ys_37 hY, ys_38 hY, ys_39 hY, ys_40 hY, ys_41 hY, ys_42 hY, ys_43 hY, ys_44 hY, ys_45 hY, ys_46 hY, ys_47 hY, ys_48 hY, ys_49 hY, ys_50 hY, ys_51 hY, ys_52 hY, ys_53 hY, ys_54 hY, ys_55 hY, ys_56 hY, ys_57 hY, ys_58 hY, ys_59 hY, ys_60 hY, ys_61 hY, ys_62 hY, ys_63 hY, ys_64 hY, ys_65 hY, ys_66 hY, ys_67 hY, ys_68 hY, ys_69 hY, ys_70 hY, ys_71 hY, ys_72 hY, ys_73 hY, ys_74 hY, ys_75 hY, ys_76 hY, ys_77 hY, if_neg c1, pk_mul, nI_add, jb_ix hb (by decide), jb_ix hb2 (by decide), jk_z (show 51 ≠ 70 by decide), jk_z (show 51 ≠ 69 by decide), jk_z (show 51 ≠ 68 by decide), jb_Iz (show 52 ≠ 68 by decide), jk_z (show 52 ≠ 70 by decide), jk_z (show 52 ≠ 69 by decide), jk_z (show 52 ≠ 68 by decide), jb_Iz (show 53 ≠ 68 by decide), jb_Iz (show 53 ≠ 69 by decide), jk_z (show 53 ≠ 70 by decide), jk_z (show 53 ≠ 69 by decide), jk_z (show 53 ≠ 68 by decide), jk_comm (show 68 ≠ 70 by decide), jk_comm (show 68 ≠ 69 by decide), jk_comm (show 69 ≠ 70 by decide), jk_set]
def jy_c1 (N : jm_M) (w t o : Nat) : jm_M := jm_setI (jm_setI (jm_setI (jm_setI N 64 0 (t + 1) (nI 2)) 65 0 (t + 1) (nI o)) 66 0 (t + 1) (jm_I N 58 0 w)) 67 0 (t + 1) (nI 0)
def jy_c2 (N : jm_M) (w t : Nat) : jm_M := jm_setK (jm_setK (jm_setK N 68 (jk_row 0 (32 * (t + 1)) (32 * (t + 1) + 32) (jy_cb N w t 51) (jm_I N 68))) 69 (jk_row 0 (32 * (t + 1)) (32 * (t + 1) + 32) (jy_cb N w t 52) (jm_I N 69))) 70 (jk_row 0 (32 * (t + 1)) (32 * (t + 1) + 32) (jy_cv N w t 53) (jm_I N 70))
def jy_c3 (N : jm_M) (w o : Nat) : jm_M := jm_setI (jm_setI (jm_setI N 61 0 w (nI o)) 45 0 w (nI 0)) 46 0 w (nI 0)
def jy_cm (N : jm_M) (w t o : Nat) : jm_M := jy_c3 (jy_c2 (jy_c1 N w t o) w t) w o
theorem yCm {d w t o : Nat} {N : jm_M} (hY : jy_S N) (hw : w < 4) (ht : t < 100) (h46 : jm_I N 46 0 w = nI (t + 1)) (h60 : jm_I N 60 0 w = nI o) : jm_D (d + 1) 130 0 [some (.inr (some (31, 0))), some (.inl (nI w)), none, none] [] N = jm_bind (jm_D d 131 0 [some (.inr (some (31, 0))), none, none, none] [] (jy_cm N w t o)) (fun r M1 => jm_D (d + 1) 130 106 [some (.inr (some (31, 0))), some (.inl (nI w)), some (.inl (nI (t + 1))), some (.inl (nI 32))] (r.toList ++ []) M1) := by
  have hY1 : jy_S (jy_c1 N w t o) := hY
  have z1 := yCm0 (d := d + 1) hY1 hw ht 32 0 (jm_I N 68) (jm_I N 69) (jm_I N 70) rfl
  have q1 : jm_setK (jm_setK (jm_setK (jy_c1 N w t o) 68 (jm_I N 68)) 69 (jm_I N 69)) 70 (jm_I N 70) = jy_c1 N w t o := by
    refine Eq.trans (jk_id (jm_setK (jm_setK (jy_c1 N w t o) 68 (jm_I N 68)) 69 (jm_I N 69)) 70) ?_
    refine Eq.trans (jk_id (jm_setK (jy_c1 N w t o) 68 (jm_I N 68)) 69) ?_
    exact jk_id (jy_c1 N w t o) 68
  rw [q1] at z1
  have g1 : jm_I (jm_setI N 64 0 (t + 1) (nI 2)) 60 0 w = nI o := h60
  have g2 : jm_I (jm_setI (jm_setI N 64 0 (t + 1) (nI 2)) 65 0 (t + 1) (nI o)) 58 0 w = jm_I N 58 0 w := rfl
  have hY2 : jy_S (jy_c2 (jy_c1 N w t o) w t) := hY
  have g3 : jm_I (jy_c2 (jy_c1 N w t o) w t) 60 0 w = nI o := h60
  simp only [e130_0, e130_1, e130_2, e130_3, e130_4, e130_5, e130_6, e130_7, e130_8, e130_9, e130_10, e130_11, e130_12, e130_13, e130_14, e130_15, e130_16, e130_17, e130_18, e130_19, e130_20, e130_21, e130_22, e130_23, e130_24, e130_25, e130_26, e130_27, e130_28, e130_29, e130_30, e130_31, e130_32, ys_0 hY, ys_1 hY, ys_2 hY, ys_3 hY, ys_4 hY, ys_5 hY, ys_6 hY, ys_7 hY, ys_8 hY, ys_9 hY, ys_10 hY, ys_11 hY, ys_12 hY, ys_13 hY, ys_14 hY, ys_15 hY, ys_16 hY, ys_17 hY, ys_18 hY, ys_19 hY, ys_20 hY, ys_21 hY, ys_22 hY, ys_23 hY, ys_24 hY, ys_25 hY, ys_26 hY, ys_27 hY, ys_28 hY, ys_29 hY, ys_30 hY, ys_31 hY, ys_32 hY, ys_33 hY, ys_34 hY, ys_35 hY, ys_36 hY, ys_37 hY, ys_38 hY, ys_39 hY, ys_40 hY, ys_41 hY, ys_42 hY, ys_43 hY, ys_44 hY, ys_45 hY, ys_46 hY, ys_47 hY, ys_48 hY, ys_49 hY, ys_50 hY, ys_51 hY, ys_52 hY, ys_53 hY, ys_54 hY, ys_55 hY, ys_56 hY, ys_57 hY, ys_58 hY, ys_59 hY, ys_60 hY, ys_61 hY, ys_62 hY, ys_63 hY, ys_64 hY, ys_65 hY, ys_66 hY, ys_67 hY, ys_68 hY, ys_69 hY, ys_70 hY, ys_71 hY, ys_72 hY, ys_73 hY, ys_74 hY, ys_75 hY, ys_76 hY, ys_77 hY, jb_FI, jb_nI, jb_ix hw (by decide), h46, jb_ix (show t + 1 < 101 by omega) (by decide), g1, g2, jb_nb0]
  refine Eq.trans z1 ?_
  show jm_D (d + 1) 130 86 [some (.inr (some (31, 0))), some (.inl (nI w)), some (.inl (nI (t + 1))), some (.inl (nI 32))] [] (jy_c2 (jy_c1 N w t o) w t) = _
  simp only [e130_86, e130_87, e130_88, e130_89, e130_90, e130_91, e130_92, e130_93, e130_94, e130_95, e130_96, e130_97, e130_98, e130_99, e130_100, e130_101, e130_102, e130_103, e130_104, e130_105, ys_0 hY2, ys_1 hY2, ys_2 hY2, ys_3 hY2, ys_4 hY2, ys_5 hY2, ys_6 hY2, ys_7 hY2, ys_8 hY2, ys_9 hY2, ys_10 hY2, ys_11 hY2, ys_12 hY2, ys_13 hY2, ys_14 hY2, ys_15 hY2, ys_16 hY2, ys_17 hY2, ys_18 hY2, ys_19 hY2, ys_20 hY2, ys_21 hY2, ys_22 hY2, ys_23 hY2, ys_24 hY2, ys_25 hY2, ys_26 hY2, ys_27 hY2, ys_28 hY2, ys_29 hY2, ys_30 hY2, ys_31 hY2, ys_32 hY2, ys_33 hY2, ys_34 hY2, ys_35 hY2, ys_36 hY2, ys_37 hY2, ys_38 hY2, ys_39 hY2, ys_40 hY2, ys_41 hY2, ys_42 hY2, ys_43 hY2, ys_44 hY2, ys_45 hY2, ys_46 hY2, ys_47 hY2, ys_48 hY2, ys_49 hY2, ys_50 hY2, ys_51 hY2, ys_52 hY2, ys_53 hY2, ys_54 hY2, ys_55 hY2, ys_56 hY2, ys_57 hY2, ys_58 hY2, ys_59 hY2, ys_60 hY2, ys_61 hY2, ys_62 hY2, ys_63 hY2, ys_64 hY2, ys_65 hY2, ys_66 hY2, ys_67 hY2, ys_68 hY2, ys_69 hY2, ys_70 hY2, ys_71 hY2, ys_72 hY2, ys_73 hY2, ys_74 hY2, ys_75 hY2, ys_76 hY2, ys_77 hY2, jb_FI, jb_nI, jb_ix hw (by decide), g3]
  rfl
theorem jb_fapp {p p' : Nat → Bool} {t : Nat} : ∀ n, t < n → p t = false → p' t = true → (∀ u, u < n → u ≠ t → p' u = p u) → (∀ u, u < n → t < u → p u = false) → (List.range n).filter p' = (List.range n).filter p ++ [t] := by
  intro n
  induction n with
  | zero => intro h; omega
  | succ n ih =>
    intro h1 h2 h3 h4 h5
    rw [List.range_succ, List.filter_append, List.filter_append]
    by_cases e : n = t
    · subst e
      rw [List.filter_cons, if_pos h3, List.filter_nil, List.filter_cons, if_neg (by rw [h2]; decide), List.filter_nil, List.append_nil]
      congr 1
      exact List.filter_congr (fun u hu => h4 u (by have := List.mem_range.mp hu; omega) (by have := List.mem_range.mp hu; omega))
    · have hp := h5 n (by omega) (by omega)
      have hp' := (h4 n (by omega) e).trans hp
      rw [List.filter_cons, if_neg (by rw [hp']; decide), List.filter_nil, List.filter_cons, if_neg (by rw [hp]; decide), List.filter_nil, List.append_nil, List.append_nil]
      exact ih (by omega) h2 h3 (fun u hu => h4 u (by omega)) (fun u hu => h5 u (by omega))
