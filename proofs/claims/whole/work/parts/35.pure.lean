/-! Loops that find and count; leaf, epoch, log, worker. -/
def jb_fnd (p : Nat → Bool) : Nat → Nat → Nat
  | 0, k => k
  | f + 1, k => if p k = true then k else jb_fnd p f (k + 1)
theorem jb_fnd_head (p : Nat → Bool) (f k : Nat) : jb_fnd p f k = (((List.range' k f).filter p).head?).getD (k + f) := by
  induction f generalizing k with
  | zero => rfl
  | succ f ih =>
    rw [List.range'_succ]
    unfold jb_fnd
    cases h : p k with
    | true => simp [h]
    | false =>
      rw [if_neg (by decide), ih (k + 1), List.filter_cons, if_neg (by rw [h]; decide)]
      congr 1
      omega
theorem jb_fnd_t {p : Nat → Bool} {f k : Nat} (h : p k = true) : jb_fnd p (f + 1) k = k := if_pos h
theorem jb_fnd_f {p : Nat → Bool} {f k : Nat} (h : p k = false) : jb_fnd p (f + 1) k = jb_fnd p f (k + 1) := if_neg (by rw [h]; decide)
theorem jb_fnd_le (p : Nat → Bool) (f k : Nat) : jb_fnd p f k ≤ k + f := by
  induction f generalizing k with
  | zero => exact Nat.le_refl _
  | succ f ih =>
    unfold jb_fnd
    split
    · omega
    · have := ih (k + 1); omega
theorem jb_cnt_t {p : Nat → Bool} {k : Nat} (h : p k = true) : jb_cnt p (k + 1) = jb_cnt p k + 1 := by
  show jb_cnt p k + _ = _; rw [if_pos h]
theorem jb_cnt_f {p : Nat → Bool} {k : Nat} (h : p k = false) : jb_cnt p (k + 1) = jb_cnt p k := by
  show jb_cnt p k + _ = _; rw [if_neg (by rw [h]; decide)]; rfl
def jy_p (N : jm_M) (x : Int32) (k : Nat) : Bool := !decide (jm_I N 37 0 k = nI 0) && decide (jm_I N 42 0 k = x)
theorem yLeast0 {d : Nat} {N : jm_M} (hY : jy_S N) (x : Int32) : ∀ f k, k + f = 32 → jm_D d 118 2 [some (.inr (some (31, 0))), some (.inl x), some (.inl (nI k))] [] N = some (some (.inl (nI (jb_fnd (jy_p N x) f k))), N) := by
  intro f
  induction f with
  | zero =>
    intro k hk
    have hk : k = 32 := by omega
    subst hk
    simp only [e118_0, e118_1, e118_2, e118_3, e118_4, e118_5, e118_6, e118_7, e118_8, e118_9, e118_10, e118_11, e118_12, e118_13, e118_14, e118_15, e118_16, e118_17, e118_18, e118_19, Int32.le_refl, if_true, jb_fnd]
  | succ f ih =>
    intro k hk
    have c1 : ¬ nI 32 ≤ nI k := nI_ge (by omega) (by decide)
    have ih := ih (k + 1) (by omega)
    rw [e118_2]
    by_cases a1 : jm_I N 37 0 k = nI 0
    · have hp : jy_p N x k = false := by unfold jy_p; rw [decide_eq_true a1]; rfl
      simp only [e118_0, e118_1, e118_3, e118_4, e118_5, e118_6, e118_7, e118_8, e118_9, e118_10, e118_11, e118_12, e118_13, e118_14, e118_15, e118_16, e118_17, e118_18, e118_19, ys_0 hY, ys_1 hY, ys_2 hY, ys_3 hY, ys_4 hY, ys_5 hY, ys_6 hY, ys_7 hY, ys_8 hY, ys_9 hY, ys_10 hY, ys_11 hY, ys_12 hY, ys_13 hY, ys_14 hY, ys_15 hY, ys_16 hY, ys_17 hY, ys_18 hY, ys_19 hY, ys_20 hY, ys_21 hY, ys_22 hY, ys_23 hY, ys_24 hY, ys_25 hY, ys_26 hY, ys_27 hY, ys_28 hY, ys_29 hY, ys_30 hY, ys_31 hY, ys_32 hY, ys_33 hY, ys_34 hY, ys_35 hY, ys_36 hY, ys_37 hY, ys_38 hY, ys_39 hY, ys_40 hY, ys_41 hY, ys_42 hY, ys_43 hY, ys_44 hY, ys_45 hY, ys_46 hY, ys_47 hY, ys_48 hY, ys_49 hY, ys_50 hY, ys_51 hY, ys_52 hY, ys_53 hY, ys_54 hY, ys_55 hY, ys_56 hY, ys_57 hY, ys_58 hY, ys_59 hY, ys_60 hY, ys_61 hY, ys_62 hY, ys_63 hY, ys_64 hY, ys_65 hY, ys_66 hY, ys_67 hY, ys_68 hY, ys_69 hY, ys_70 hY, ys_71 hY, ys_72 hY, ys_73 hY, ys_74 hY, ys_75 hY, ys_76 hY, ys_77 hY, jb_ix (show k < 32 by omega) (by decide), if_neg c1, a1, if_true, nI_add, ih]
      rw [jb_fnd_f hp]
    · by_cases a2 : jm_I N 42 0 k = x
      · have hp : jy_p N x k = true := by unfold jy_p; rw [decide_eq_false a1, decide_eq_true a2]; rfl
        simp only [e118_0, e118_1, e118_3, e118_4, e118_5, e118_6, e118_7, e118_8, e118_9, e118_10, e118_11, e118_12, e118_13, e118_14, e118_15, e118_16, e118_17, e118_18, e118_19, ys_0 hY, ys_1 hY, ys_2 hY, ys_3 hY, ys_4 hY, ys_5 hY, ys_6 hY, ys_7 hY, ys_8 hY, ys_9 hY, ys_10 hY, ys_11 hY, ys_12 hY, ys_13 hY, ys_14 hY, ys_15 hY, ys_16 hY, ys_17 hY, ys_18 hY, ys_19 hY, ys_20 hY, ys_21 hY, ys_22 hY, ys_23 hY, ys_24 hY, ys_25 hY, ys_26 hY, ys_27 hY, ys_28 hY, ys_29 hY, ys_30 hY, ys_31 hY, ys_32 hY, ys_33 hY, ys_34 hY, ys_35 hY, ys_36 hY, ys_37 hY, ys_38 hY, ys_39 hY, ys_40 hY, ys_41 hY, ys_42 hY, ys_43 hY, ys_44 hY, ys_45 hY, ys_46 hY, ys_47 hY, ys_48 hY, ys_49 hY, ys_50 hY, ys_51 hY, ys_52 hY, ys_53 hY, ys_54 hY, ys_55 hY, ys_56 hY, ys_57 hY, ys_58 hY, ys_59 hY, ys_60 hY, ys_61 hY, ys_62 hY, ys_63 hY, ys_64 hY, ys_65 hY, ys_66 hY, ys_67 hY, ys_68 hY, ys_69 hY, ys_70 hY, ys_71 hY, ys_72 hY, ys_73 hY, ys_74 hY, ys_75 hY, ys_76 hY, ys_77 hY, jb_ix (show k < 32 by omega) (by decide), if_neg c1, if_neg a1, a2, if_true]
        rw [jb_fnd_t hp]
      · have hp : jy_p N x k = false := by unfold jy_p; rw [decide_eq_false a1, decide_eq_false a2]; rfl
        simp only [e118_0, e118_1, e118_3, e118_4, e118_5, e118_6, e118_7, e118_8, e118_9, e118_10, e118_11, e118_12, e118_13, e118_14, e118_15, e118_16, e118_17, e118_18, e118_19, ys_0 hY, ys_1 hY, ys_2 hY, ys_3 hY, ys_4 hY, ys_5 hY, ys_6 hY, ys_7 hY, ys_8 hY, ys_9 hY, ys_10 hY, ys_11 hY, ys_12 hY, ys_13 hY, ys_14 hY, ys_15 hY, ys_16 hY, ys_17 hY, ys_18 hY, ys_19 hY, ys_20 hY, ys_21 hY, ys_22 hY, ys_23 hY, ys_24 hY, ys_25 hY, ys_26 hY, ys_27 hY, ys_28 hY, ys_29 hY, ys_30 hY, ys_31 hY, ys_32 hY, ys_33 hY, ys_34 hY, ys_35 hY, ys_36 hY, ys_37 hY, ys_38 hY, ys_39 hY, ys_40 hY, ys_41 hY, ys_42 hY, ys_43 hY, ys_44 hY, ys_45 hY, ys_46 hY, ys_47 hY, ys_48 hY, ys_49 hY, ys_50 hY, ys_51 hY, ys_52 hY, ys_53 hY, ys_54 hY, ys_55 hY, ys_56 hY, ys_57 hY, ys_58 hY, ys_59 hY, ys_60 hY, ys_61 hY, ys_62 hY, ys_63 hY, ys_64 hY, ys_65 hY, ys_66 hY, ys_67 hY, ys_68 hY, ys_69 hY, ys_70 hY, ys_71 hY, ys_72 hY, ys_73 hY, ys_74 hY, ys_75 hY, ys_76 hY, ys_77 hY, jb_ix (show k < 32 by omega) (by decide), if_neg c1, if_neg a1, if_neg a2, nI_add, ih]
        rw [jb_fnd_f hp]
theorem yLeast {d : Nat} {N : jm_M} (hY : jy_S N) (x : Int32) : jm_D d 118 0 [some (.inr (some (31, 0))), some (.inl x), none] [] N = some (some (.inl (nI (jb_fnd (jy_p N x) 32 0))), N) := by
  rw [e118_0, e118_1, yLeast0 hY x 32 0 (by decide)]
theorem yMany0 {d : Nat} {N : jm_M} (hY : jy_S N) (x : Int32) : ∀ f k, k + f = 32 → jm_D d 127 4 [some (.inr (some (31, 0))), some (.inl x), some (.inl (nI (jb_cnt (jy_p N x) k))), some (.inl (nI k))] [] N = some (some (.inl (nI (jb_cnt (jy_p N x) 32))), N) := by
  intro f
  induction f with
  | zero =>
    intro k hk
    have hk : k = 32 := by omega
    subst hk
    simp only [e127_0, e127_1, e127_2, e127_3, e127_4, e127_5, e127_6, e127_7, e127_8, e127_9, e127_10, e127_11, e127_12, e127_13, e127_14, e127_15, e127_16, e127_17, e127_18, e127_19, e127_20, e127_21, e127_22, e127_23, e127_24, e127_25, e127_26, e127_27, Int32.le_refl, if_true]
  | succ f ih =>
    intro k hk
    have c1 : ¬ nI 32 ≤ nI k := nI_ge (by omega) (by decide)
    have ih := ih (k + 1) (by omega)
    rw [e127_4]
    by_cases a1 : jm_I N 37 0 k = nI 0
    · have hp : jy_p N x k = false := by unfold jy_p; rw [decide_eq_true a1]; rfl
      rw [jb_cnt_f hp] at ih
      simp only [e127_0, e127_1, e127_2, e127_3, e127_5, e127_6, e127_7, e127_8, e127_9, e127_10, e127_11, e127_12, e127_13, e127_14, e127_15, e127_16, e127_17, e127_18, e127_19, e127_20, e127_21, e127_22, e127_23, e127_24, e127_25, e127_26, e127_27, ys_0 hY, ys_1 hY, ys_2 hY, ys_3 hY, ys_4 hY, ys_5 hY, ys_6 hY, ys_7 hY, ys_8 hY, ys_9 hY, ys_10 hY, ys_11 hY, ys_12 hY, ys_13 hY, ys_14 hY, ys_15 hY, ys_16 hY, ys_17 hY, ys_18 hY, ys_19 hY, ys_20 hY, ys_21 hY, ys_22 hY, ys_23 hY, ys_24 hY, ys_25 hY, ys_26 hY, ys_27 hY, ys_28 hY, ys_29 hY, ys_30 hY, ys_31 hY, ys_32 hY, ys_33 hY, ys_34 hY, ys_35 hY, ys_36 hY, ys_37 hY, ys_38 hY, ys_39 hY, ys_40 hY, ys_41 hY, ys_42 hY, ys_43 hY, ys_44 hY, ys_45 hY, ys_46 hY, ys_47 hY, ys_48 hY, ys_49 hY, ys_50 hY, ys_51 hY, ys_52 hY, ys_53 hY, ys_54 hY, ys_55 hY, ys_56 hY, ys_57 hY, ys_58 hY, ys_59 hY, ys_60 hY, ys_61 hY, ys_62 hY, ys_63 hY, ys_64 hY, ys_65 hY, ys_66 hY, ys_67 hY, ys_68 hY, ys_69 hY, ys_70 hY, ys_71 hY, ys_72 hY, ys_73 hY, ys_74 hY, ys_75 hY, ys_76 hY, ys_77 hY, jb_ix (show k < 32 by omega) (by decide), if_neg c1, a1, if_true, nI_add, Nat.add_zero, ih]
    · by_cases a2 : jm_I N 42 0 k = x
      · have hp : jy_p N x k = true := by unfold jy_p; rw [decide_eq_false a1, decide_eq_true a2]; rfl
        rw [jb_cnt_t hp] at ih
        simp only [e127_0, e127_1, e127_2, e127_3, e127_5, e127_6, e127_7, e127_8, e127_9, e127_10, e127_11, e127_12, e127_13, e127_14, e127_15, e127_16, e127_17, e127_18, e127_19, e127_20, e127_21, e127_22, e127_23, e127_24, e127_25, e127_26, e127_27, ys_0 hY, ys_1 hY, ys_2 hY, ys_3 hY, ys_4 hY, ys_5 hY, ys_6 hY, ys_7 hY, ys_8 hY, ys_9 hY, ys_10 hY, ys_11 hY, ys_12 hY, ys_13 hY, ys_14 hY, ys_15 hY, ys_16 hY, ys_17 hY, ys_18 hY, ys_19 hY, ys_20 hY, ys_21 hY, ys_22 hY, ys_23 hY, ys_24 hY, ys_25 hY, ys_26 hY, ys_27 hY, ys_28 hY, ys_29 hY, ys_30 hY, ys_31 hY, ys_32 hY, ys_33 hY, ys_34 hY, ys_35 hY, ys_36 hY, ys_37 hY, ys_38 hY, ys_39 hY, ys_40 hY, ys_41 hY, ys_42 hY, ys_43 hY, ys_44 hY, ys_45 hY, ys_46 hY, ys_47 hY, ys_48 hY, ys_49 hY, ys_50 hY, ys_51 hY, ys_52 hY, ys_53 hY, ys_54 hY, ys_55 hY, ys_56 hY, ys_57 hY, ys_58 hY, ys_59 hY, ys_60 hY, ys_61 hY, ys_62 hY, ys_63 hY, ys_64 hY, ys_65 hY, ys_66 hY, ys_67 hY, ys_68 hY, ys_69 hY, ys_70 hY, ys_71 hY, ys_72 hY, ys_73 hY, ys_74 hY, ys_75 hY, ys_76 hY, ys_77 hY, jb_ix (show k < 32 by omega) (by decide), if_neg c1, if_neg a1, a2, if_true, nI_add, ih]
      · have hp : jy_p N x k = false := by unfold jy_p; rw [decide_eq_false a1, decide_eq_false a2]; rfl
        rw [jb_cnt_f hp] at ih
        simp only [e127_0, e127_1, e127_2, e127_3, e127_5, e127_6, e127_7, e127_8, e127_9, e127_10, e127_11, e127_12, e127_13, e127_14, e127_15, e127_16, e127_17, e127_18, e127_19, e127_20, e127_21, e127_22, e127_23, e127_24, e127_25, e127_26, e127_27, ys_0 hY, ys_1 hY, ys_2 hY, ys_3 hY, ys_4 hY, ys_5 hY, ys_6 hY, ys_7 hY, ys_8 hY, ys_9 hY, ys_10 hY, ys_11 hY, ys_12 hY, ys_13 hY, ys_14 hY, ys_15 hY, ys_16 hY, ys_17 hY, ys_18 hY, ys_19 hY, ys_20 hY, ys_21 hY, ys_22 hY, ys_23 hY, ys_24 hY, ys_25 hY, ys_26 hY, ys_27 hY, ys_28 hY, ys_29 hY, ys_30 hY, ys_31 hY, ys_32 hY, ys_33 hY, ys_34 hY, ys_35 hY, ys_36 hY, ys_37 hY, ys_38 hY, ys_39 hY, ys_40 hY, ys_41 hY, ys_42 hY, ys_43 hY, ys_44 hY, ys_45 hY, ys_46 hY, ys_47 hY, ys_48 hY, ys_49 hY, ys_50 hY, ys_51 hY, ys_52 hY, ys_53 hY, ys_54 hY, ys_55 hY, ys_56 hY, ys_57 hY, ys_58 hY, ys_59 hY, ys_60 hY, ys_61 hY, ys_62 hY, ys_63 hY, ys_64 hY, ys_65 hY, ys_66 hY, ys_67 hY, ys_68 hY, ys_69 hY, ys_70 hY, ys_71 hY, ys_72 hY, ys_73 hY, ys_74 hY, ys_75 hY, ys_76 hY, ys_77 hY, jb_ix (show k < 32 by omega) (by decide), if_neg c1, if_neg a1, if_neg a2, nI_add, Nat.add_zero, ih]
theorem yMany {d : Nat} {N : jm_M} (hY : jy_S N) (x : Int32) : jm_D d 127 0 [some (.inr (some (31, 0))), some (.inl x), none, none] [] N = some (some (.inl (nI (jb_cnt (jy_p N x) 32))), N) := by
  rw [e127_0, e127_1, e127_2, e127_3]
  exact yMany0 hY x 32 0 (by decide)
theorem jy_p_at (N : jm_M) (i : Nat) : jy_p N (nI (i + 1)) = jy_at N i := rfl
theorem jy_lf_cnt (N : jm_M) (i : Nat) : jb_cnt (jy_p N (nI (i + 1))) 32 = (jy_lf N i).length := by
  rw [jy_p_at]; exact (jb_cnt_filter _ 32).symm
theorem jy_lf_fnd (N : jm_M) (i : Nat) : jb_fnd (jy_p N (nI (i + 1))) 32 0 = ((jy_lf N i)[0]?).getD 32 := by
  rw [jb_fnd_head, jy_p_at]
  show (((List.range' 0 32).filter (jy_at N i)).head?).getD (0 + 32) = _
  rw [← List.range_eq_range', List.head?_eq_getElem?]
  rfl
theorem jy_lf_lt {N : jm_M} {i j k : Nat} (h : (jy_lf N i)[j]? = some k) : k < 32 := by
  have := List.mem_of_getElem? h
  exact List.mem_range.mp (List.mem_filter.mp this).1
/-- the leaf at a place -/
theorem xLeafAt {d q i : Nat} {M : jm_M} (hX : jx_S M) (hq : q < 16) (hi : i < 16) (h : jm_I M 24 0 q = nI i) : jm_D d 44 0 [some (.inr (some (5, 0))), some (.inl (nI q))] [] M = some (some (.inr (some (17, i))), M) := by
  simp only [e44_0, e44_1, e44_2, e44_3, e44_4, e44_5, e44_6, e44_7, xs_0 hX, xs_1 hX, xs_2 hX, xs_3 hX, xs_4 hX, xs_5 hX, xs_6 hX, xs_7 hX, xs_8 hX, xs_9 hX, xs_10 hX, xs_11 hX, xs_12 hX, xs_13 hX, xs_14 hX, xs_15 hX, xs_16 hX, xs_17 hX, xs_18 hX, xs_19 hX, xf_0 hX hi, xf_1 hX hi, xf_2 hX hi, jb_ix hq (by decide), h, jb_ix hi (by decide)]
/-- leaf -/
theorem sm_leaf {d E C : Nat} {M N : jm_M} (h : jr_R E C M N) (x y : Int32) : ∃ r, jm_D (d + 1) 93 0 [some (.inr (some (0, 0))), some (.inl x), some (.inl y), none] [] M = some (some (.inl r), M) ∧ jm_D (d + 1) 143 0 [some (.inr (some (31, 0))), some (.inl x), some (.inl y), none, none] [] N = some (some (.inl r), N) := by
  obtain ⟨hX, hY, hN, -, -, ⟨n, n1, n16, m1, m2, -, hpl, -, hlf, -⟩, -⟩ := h
  rcases jb_case x (show n < 2 ^ 31 by omega) with hx | ⟨q, hq, rfl⟩
  · refine ⟨-1, ?_, ?_⟩
    · by_cases h0 : x < nI 0
      · simp only [e93_0, e93_1, e93_2, e93_3, e93_4, e93_5, e93_6, e93_7, e93_8, e93_9, e93_10, e93_11, e93_12, e93_13, e93_14, e93_15_0, e93_15_1, e93_15_2, e93_15_3, e93_15_d, e93_16, e93_17, e93_18, e93_19, e93_20, e93_21, e93_22, e93_23, e93_24, e93_25, e93_26, e93_27, e93_28, e93_29, e93_30, e93_31, e93_32, e93_33, e93_34, e93_35, e93_36, if_pos h0]
      · have h1 : ¬ x < nI n := Int32.not_lt.mpr (hx.resolve_left h0)
        simp only [e93_0, e93_1, e93_2, e93_3, e93_4, e93_5, e93_6, e93_7, e93_8, e93_9, e93_10, e93_11, e93_12, e93_13, e93_14, e93_15_0, e93_15_1, e93_15_2, e93_15_3, e93_15_d, e93_16, e93_17, e93_18, e93_19, e93_20, e93_21, e93_22, e93_23, e93_24, e93_25, e93_26, e93_27, e93_28, e93_29, e93_30, e93_31, e93_32, e93_33, e93_34, e93_35, e93_36, xs_0 hX, xs_1 hX, xs_2 hX, xs_3 hX, xs_4 hX, xs_5 hX, xs_6 hX, xs_7 hX, xs_8 hX, xs_9 hX, xs_10 hX, xs_11 hX, xs_12 hX, xs_13 hX, xs_14 hX, xs_15 hX, xs_16 hX, xs_17 hX, xs_18 hX, xs_19 hX, m1, if_neg h0, if_neg h1]
    · by_cases h0 : x < nI 0
      · simp only [e143_0, e143_1, e143_2, e143_3, e143_4, e143_5, e143_6, e143_7, e143_8, e143_9, e143_10, e143_11, e143_12, e143_13, e143_14, e143_15, e143_16, e143_17, e143_18, e143_19, e143_20, e143_21, e143_22, e143_23, e143_24, e143_25, e143_26, e143_27, e143_28, e143_29, e143_30, e143_31, e143_32, e143_33, e143_34, e143_35, e143_36, e143_37, e143_38, e143_39, e143_40, e143_41, e143_42, e143_43, e143_44, e143_45, e143_46, e143_47, if_pos h0]
      · simp only [e143_0, e143_1, e143_2, e143_3, e143_4, e143_5, e143_6, e143_7, e143_8, e143_9, e143_10, e143_11, e143_12, e143_13, e143_14, e143_15, e143_16, e143_17, e143_18, e143_19, e143_20, e143_21, e143_22, e143_23, e143_24, e143_25, e143_26, e143_27, e143_28, e143_29, e143_30, e143_31, e143_32, e143_33, e143_34, e143_35, e143_36, e143_37, e143_38, e143_39, e143_40, e143_41, e143_42, e143_43, e143_44, e143_45, e143_46, e143_47, ys_0 hY, ys_1 hY, ys_2 hY, ys_3 hY, ys_4 hY, ys_5 hY, ys_6 hY, ys_7 hY, ys_8 hY, ys_9 hY, ys_10 hY, ys_11 hY, ys_12 hY, ys_13 hY, ys_14 hY, ys_15 hY, ys_16 hY, ys_17 hY, ys_18 hY, ys_19 hY, ys_20 hY, ys_21 hY, ys_22 hY, ys_23 hY, ys_24 hY, ys_25 hY, ys_26 hY, ys_27 hY, ys_28 hY, ys_29 hY, ys_30 hY, ys_31 hY, ys_32 hY, ys_33 hY, ys_34 hY, ys_35 hY, ys_36 hY, ys_37 hY, ys_38 hY, ys_39 hY, ys_40 hY, ys_41 hY, ys_42 hY, ys_43 hY, ys_44 hY, ys_45 hY, ys_46 hY, ys_47 hY, ys_48 hY, ys_49 hY, ys_50 hY, ys_51 hY, ys_52 hY, ys_53 hY, ys_54 hY, ys_55 hY, ys_56 hY, ys_57 hY, ys_58 hY, ys_59 hY, ys_60 hY, ys_61 hY, ys_62 hY, ys_63 hY, ys_64 hY, ys_65 hY, ys_66 hY, ys_67 hY, ys_68 hY, ys_69 hY, ys_70 hY, ys_71 hY, ys_72 hY, ys_73 hY, ys_74 hY, ys_75 hY, ys_76 hY, ys_77 hY, m2, if_neg h0, if_pos (hx.resolve_left h0)]
  · have c1 : ¬ nI q < nI 0 := nI_pos (by omega)
    have c2 : nI q < nI n := nI_lt hq (by omega)
    have c3 : ¬ nI n ≤ nI q := nI_ge hq (by omega)
    obtain ⟨i, hi, p1, p2⟩ := hpl q hq
    obtain ⟨l1, l4, -, ⟨v, -, v1, v2⟩, lk⟩ := hlf i hi
    have hat := xLeafAt (d := d) hX (show q < 16 by omega) (show i < 16 by omega) p1
    rcases jb_case y (show 4 < 2 ^ 31 by decide) with hy | ⟨z, hz, rfl⟩
    · refine ⟨-1, ?_, ?_⟩
      · simp only [e93_0, e93_1, e93_2, e93_3, e93_4, e93_5, e93_6, e93_7, e93_8, e93_9, e93_10, e93_11, e93_12, e93_13, e93_14, e93_15_0, e93_15_1, e93_15_2, e93_15_3, e93_15_d, e93_16, e93_17, e93_18, e93_19, e93_20, e93_21, e93_22, e93_23, e93_24, e93_25, e93_26, e93_27, e93_28, e93_29, e93_30, e93_31, e93_32, e93_33, e93_34, e93_35, e93_36, xs_0 hX, xs_1 hX, xs_2 hX, xs_3 hX, xs_4 hX, xs_5 hX, xs_6 hX, xs_7 hX, xs_8 hX, xs_9 hX, xs_10 hX, xs_11 hX, xs_12 hX, xs_13 hX, xs_14 hX, xs_15 hX, xs_16 hX, xs_17 hX, xs_18 hX, xs_19 hX, m1, if_neg c1, if_pos c2, hat, jb_some, jb_tl, e93_15_d _ _ _ _ _ _ _ _ (jb_out hy)]
      · by_cases h0 : y < nI 0
        · simp only [e143_0, e143_1, e143_2, e143_3, e143_4, e143_5, e143_6, e143_7, e143_8, e143_9, e143_10, e143_11, e143_12, e143_13, e143_14, e143_15, e143_16, e143_17, e143_18, e143_19, e143_20, e143_21, e143_22, e143_23, e143_24, e143_25, e143_26, e143_27, e143_28, e143_29, e143_30, e143_31, e143_32, e143_33, e143_34, e143_35, e143_36, e143_37, e143_38, e143_39, e143_40, e143_41, e143_42, e143_43, e143_44, e143_45, e143_46, e143_47, ys_0 hY, ys_1 hY, ys_2 hY, ys_3 hY, ys_4 hY, ys_5 hY, ys_6 hY, ys_7 hY, ys_8 hY, ys_9 hY, ys_10 hY, ys_11 hY, ys_12 hY, ys_13 hY, ys_14 hY, ys_15 hY, ys_16 hY, ys_17 hY, ys_18 hY, ys_19 hY, ys_20 hY, ys_21 hY, ys_22 hY, ys_23 hY, ys_24 hY, ys_25 hY, ys_26 hY, ys_27 hY, ys_28 hY, ys_29 hY, ys_30 hY, ys_31 hY, ys_32 hY, ys_33 hY, ys_34 hY, ys_35 hY, ys_36 hY, ys_37 hY, ys_38 hY, ys_39 hY, ys_40 hY, ys_41 hY, ys_42 hY, ys_43 hY, ys_44 hY, ys_45 hY, ys_46 hY, ys_47 hY, ys_48 hY, ys_49 hY, ys_50 hY, ys_51 hY, ys_52 hY, ys_53 hY, ys_54 hY, ys_55 hY, ys_56 hY, ys_57 hY, ys_58 hY, ys_59 hY, ys_60 hY, ys_61 hY, ys_62 hY, ys_63 hY, ys_64 hY, ys_65 hY, ys_66 hY, ys_67 hY, ys_68 hY, ys_69 hY, ys_70 hY, ys_71 hY, ys_72 hY, ys_73 hY, ys_74 hY, ys_75 hY, ys_76 hY, ys_77 hY, m2, if_neg c1, if_neg c3, if_pos h0]
        · have h1 : ¬ y ≤ nI 3 := fun z => Int32.not_lt.mpr z (jb_pred (hy.resolve_left h0))
          simp only [e143_0, e143_1, e143_2, e143_3, e143_4, e143_5, e143_6, e143_7, e143_8, e143_9, e143_10, e143_11, e143_12, e143_13, e143_14, e143_15, e143_16, e143_17, e143_18, e143_19, e143_20, e143_21, e143_22, e143_23, e143_24, e143_25, e143_26, e143_27, e143_28, e143_29, e143_30, e143_31, e143_32, e143_33, e143_34, e143_35, e143_36, e143_37, e143_38, e143_39, e143_40, e143_41, e143_42, e143_43, e143_44, e143_45, e143_46, e143_47, ys_0 hY, ys_1 hY, ys_2 hY, ys_3 hY, ys_4 hY, ys_5 hY, ys_6 hY, ys_7 hY, ys_8 hY, ys_9 hY, ys_10 hY, ys_11 hY, ys_12 hY, ys_13 hY, ys_14 hY, ys_15 hY, ys_16 hY, ys_17 hY, ys_18 hY, ys_19 hY, ys_20 hY, ys_21 hY, ys_22 hY, ys_23 hY, ys_24 hY, ys_25 hY, ys_26 hY, ys_27 hY, ys_28 hY, ys_29 hY, ys_30 hY, ys_31 hY, ys_32 hY, ys_33 hY, ys_34 hY, ys_35 hY, ys_36 hY, ys_37 hY, ys_38 hY, ys_39 hY, ys_40 hY, ys_41 hY, ys_42 hY, ys_43 hY, ys_44 hY, ys_45 hY, ys_46 hY, ys_47 hY, ys_48 hY, ys_49 hY, ys_50 hY, ys_51 hY, ys_52 hY, ys_53 hY, ys_54 hY, ys_55 hY, ys_56 hY, ys_57 hY, ys_58 hY, ys_59 hY, ys_60 hY, ys_61 hY, ys_62 hY, ys_63 hY, ys_64 hY, ys_65 hY, ys_66 hY, ys_67 hY, ys_68 hY, ys_69 hY, ys_70 hY, ys_71 hY, ys_72 hY, ys_73 hY, ys_74 hY, ys_75 hY, ys_76 hY, ys_77 hY, m2, if_neg c1, if_neg c3, if_neg h0, if_neg h1]
    · have hlt : ¬ nI z < nI 0 := nI_pos (by omega)
      have hle : nI z ≤ nI 3 := nI_le (by omega) (by decide)
      have hle2 := yLeast (d := d) hY (nI (i + 1))
      have hmn := yMany (d := d) hY (nI (i + 1))
      rw [jy_lf_fnd] at hle2
      rw [jy_lf_cnt] at hmn
      match z, hz with
      | 0, _ =>
        refine ⟨nI (i + 1), ?_, ?_⟩
        · simp only [e93_0, e93_1, e93_2, e93_3, e93_4, e93_5, e93_6, e93_7, e93_8, e93_9, e93_10, e93_11, e93_12, e93_13, e93_14, e93_15_0, e93_15_1, e93_15_2, e93_15_3, e93_15_d, e93_16, e93_17, e93_18, e93_19, e93_20, e93_21, e93_22, e93_23, e93_24, e93_25, e93_26, e93_27, e93_28, e93_29, e93_30, e93_31, e93_32, e93_33, e93_34, e93_35, e93_36, xs_0 hX, xs_1 hX, xs_2 hX, xs_3 hX, xs_4 hX, xs_5 hX, xs_6 hX, xs_7 hX, xs_8 hX, xs_9 hX, xs_10 hX, xs_11 hX, xs_12 hX, xs_13 hX, xs_14 hX, xs_15 hX, xs_16 hX, xs_17 hX, xs_18 hX, xs_19 hX, m1, if_neg c1, if_pos c2, hat, jb_some, jb_tl, hN.2.1 i (by omega)]
        · simp only [e143_0, e143_1, e143_2, e143_3, e143_4, e143_5, e143_6, e143_7, e143_8, e143_9, e143_10, e143_11, e143_12, e143_13, e143_14, e143_15, e143_16, e143_17, e143_18, e143_19, e143_20, e143_21, e143_22, e143_23, e143_24, e143_25, e143_26, e143_27, e143_28, e143_29, e143_30, e143_31, e143_32, e143_33, e143_34, e143_35, e143_36, e143_37, e143_38, e143_39, e143_40, e143_41, e143_42, e143_43, e143_44, e143_45, e143_46, e143_47, ys_0 hY, ys_1 hY, ys_2 hY, ys_3 hY, ys_4 hY, ys_5 hY, ys_6 hY, ys_7 hY, ys_8 hY, ys_9 hY, ys_10 hY, ys_11 hY, ys_12 hY, ys_13 hY, ys_14 hY, ys_15 hY, ys_16 hY, ys_17 hY, ys_18 hY, ys_19 hY, ys_20 hY, ys_21 hY, ys_22 hY, ys_23 hY, ys_24 hY, ys_25 hY, ys_26 hY, ys_27 hY, ys_28 hY, ys_29 hY, ys_30 hY, ys_31 hY, ys_32 hY, ys_33 hY, ys_34 hY, ys_35 hY, ys_36 hY, ys_37 hY, ys_38 hY, ys_39 hY, ys_40 hY, ys_41 hY, ys_42 hY, ys_43 hY, ys_44 hY, ys_45 hY, ys_46 hY, ys_47 hY, ys_48 hY, ys_49 hY, ys_50 hY, ys_51 hY, ys_52 hY, ys_53 hY, ys_54 hY, ys_55 hY, ys_56 hY, ys_57 hY, ys_58 hY, ys_59 hY, ys_60 hY, ys_61 hY, ys_62 hY, ys_63 hY, ys_64 hY, ys_65 hY, ys_66 hY, ys_67 hY, ys_68 hY, ys_69 hY, ys_70 hY, ys_71 hY, ys_72 hY, ys_73 hY, ys_74 hY, ys_75 hY, ys_76 hY, ys_77 hY, m2, if_neg c1, if_neg c3, if_neg hlt, if_pos hle, jb_ix (show q < 40 by omega) (by decide), p2, hle2, jb_some, jb_tl, if_true]
      | 1, _ =>
        refine ⟨nI v, ?_, ?_⟩
        · simp only [e93_0, e93_1, e93_2, e93_3, e93_4, e93_5, e93_6, e93_7, e93_8, e93_9, e93_10, e93_11, e93_12, e93_13, e93_14, e93_15_0, e93_15_1, e93_15_2, e93_15_3, e93_15_d, e93_16, e93_17, e93_18, e93_19, e93_20, e93_21, e93_22, e93_23, e93_24, e93_25, e93_26, e93_27, e93_28, e93_29, e93_30, e93_31, e93_32, e93_33, e93_34, e93_35, e93_36, xs_0 hX, xs_1 hX, xs_2 hX, xs_3 hX, xs_4 hX, xs_5 hX, xs_6 hX, xs_7 hX, xs_8 hX, xs_9 hX, xs_10 hX, xs_11 hX, xs_12 hX, xs_13 hX, xs_14 hX, xs_15 hX, xs_16 hX, xs_17 hX, xs_18 hX, xs_19 hX, m1, if_neg c1, if_pos c2, hat, jb_some, jb_tl, v1]
        · simp only [e143_0, e143_1, e143_2, e143_3, e143_4, e143_5, e143_6, e143_7, e143_8, e143_9, e143_10, e143_11, e143_12, e143_13, e143_14, e143_15, e143_16, e143_17, e143_18, e143_19, e143_20, e143_21, e143_22, e143_23, e143_24, e143_25, e143_26, e143_27, e143_28, e143_29, e143_30, e143_31, e143_32, e143_33, e143_34, e143_35, e143_36, e143_37, e143_38, e143_39, e143_40, e143_41, e143_42, e143_43, e143_44, e143_45, e143_46, e143_47, ys_0 hY, ys_1 hY, ys_2 hY, ys_3 hY, ys_4 hY, ys_5 hY, ys_6 hY, ys_7 hY, ys_8 hY, ys_9 hY, ys_10 hY, ys_11 hY, ys_12 hY, ys_13 hY, ys_14 hY, ys_15 hY, ys_16 hY, ys_17 hY, ys_18 hY, ys_19 hY, ys_20 hY, ys_21 hY, ys_22 hY, ys_23 hY, ys_24 hY, ys_25 hY, ys_26 hY, ys_27 hY, ys_28 hY, ys_29 hY, ys_30 hY, ys_31 hY, ys_32 hY, ys_33 hY, ys_34 hY, ys_35 hY, ys_36 hY, ys_37 hY, ys_38 hY, ys_39 hY, ys_40 hY, ys_41 hY, ys_42 hY, ys_43 hY, ys_44 hY, ys_45 hY, ys_46 hY, ys_47 hY, ys_48 hY, ys_49 hY, ys_50 hY, ys_51 hY, ys_52 hY, ys_53 hY, ys_54 hY, ys_55 hY, ys_56 hY, ys_57 hY, ys_58 hY, ys_59 hY, ys_60 hY, ys_61 hY, ys_62 hY, ys_63 hY, ys_64 hY, ys_65 hY, ys_66 hY, ys_67 hY, ys_68 hY, ys_69 hY, ys_70 hY, ys_71 hY, ys_72 hY, ys_73 hY, ys_74 hY, ys_75 hY, ys_76 hY, ys_77 hY, m2, if_neg c1, if_neg c3, if_neg hlt, if_pos hle, jb_ix (show q < 40 by omega) (by decide), p2, hle2, jb_some, jb_tl, nf_0_1, nf_0_2, nf_0_3, nf_0_4, nf_0_5, nf_0_6, nf_1_0, nf_1_2, nf_1_3, nf_1_4, nf_1_5, nf_1_6, nf_2_0, nf_2_1, nf_2_3, nf_2_4, nf_2_5, nf_2_6, nf_3_0, nf_3_1, nf_3_2, nf_3_4, nf_3_5, nf_3_6, nf_4_0, nf_4_1, nf_4_2, nf_4_3, nf_4_5, nf_4_6, nf_5_0, nf_5_1, nf_5_2, nf_5_3, nf_5_4, nf_5_6, nf_6_0, nf_6_1, nf_6_2, nf_6_3, nf_6_4, nf_6_5, if_false, if_true, jb_ix (show i + 1 < 40 by omega) (by decide), v2]
      | 2, _ =>
        refine ⟨nI (jy_lf N i).length, ?_, ?_⟩
        · simp only [e93_0, e93_1, e93_2, e93_3, e93_4, e93_5, e93_6, e93_7, e93_8, e93_9, e93_10, e93_11, e93_12, e93_13, e93_14, e93_15_0, e93_15_1, e93_15_2, e93_15_3, e93_15_d, e93_16, e93_17, e93_18, e93_19, e93_20, e93_21, e93_22, e93_23, e93_24, e93_25, e93_26, e93_27, e93_28, e93_29, e93_30, e93_31, e93_32, e93_33, e93_34, e93_35, e93_36, xs_0 hX, xs_1 hX, xs_2 hX, xs_3 hX, xs_4 hX, xs_5 hX, xs_6 hX, xs_7 hX, xs_8 hX, xs_9 hX, xs_10 hX, xs_11 hX, xs_12 hX, xs_13 hX, xs_14 hX, xs_15 hX, xs_16 hX, xs_17 hX, xs_18 hX, xs_19 hX, m1, if_neg c1, if_pos c2, hat, jb_some, jb_tl, l1]
        · simp only [e143_0, e143_1, e143_2, e143_3, e143_4, e143_5, e143_6, e143_7, e143_8, e143_9, e143_10, e143_11, e143_12, e143_13, e143_14, e143_15, e143_16, e143_17, e143_18, e143_19, e143_20, e143_21, e143_22, e143_23, e143_24, e143_25, e143_26, e143_27, e143_28, e143_29, e143_30, e143_31, e143_32, e143_33, e143_34, e143_35, e143_36, e143_37, e143_38, e143_39, e143_40, e143_41, e143_42, e143_43, e143_44, e143_45, e143_46, e143_47, ys_0 hY, ys_1 hY, ys_2 hY, ys_3 hY, ys_4 hY, ys_5 hY, ys_6 hY, ys_7 hY, ys_8 hY, ys_9 hY, ys_10 hY, ys_11 hY, ys_12 hY, ys_13 hY, ys_14 hY, ys_15 hY, ys_16 hY, ys_17 hY, ys_18 hY, ys_19 hY, ys_20 hY, ys_21 hY, ys_22 hY, ys_23 hY, ys_24 hY, ys_25 hY, ys_26 hY, ys_27 hY, ys_28 hY, ys_29 hY, ys_30 hY, ys_31 hY, ys_32 hY, ys_33 hY, ys_34 hY, ys_35 hY, ys_36 hY, ys_37 hY, ys_38 hY, ys_39 hY, ys_40 hY, ys_41 hY, ys_42 hY, ys_43 hY, ys_44 hY, ys_45 hY, ys_46 hY, ys_47 hY, ys_48 hY, ys_49 hY, ys_50 hY, ys_51 hY, ys_52 hY, ys_53 hY, ys_54 hY, ys_55 hY, ys_56 hY, ys_57 hY, ys_58 hY, ys_59 hY, ys_60 hY, ys_61 hY, ys_62 hY, ys_63 hY, ys_64 hY, ys_65 hY, ys_66 hY, ys_67 hY, ys_68 hY, ys_69 hY, ys_70 hY, ys_71 hY, ys_72 hY, ys_73 hY, ys_74 hY, ys_75 hY, ys_76 hY, ys_77 hY, m2, if_neg c1, if_neg c3, if_neg hlt, if_pos hle, jb_ix (show q < 40 by omega) (by decide), p2, hle2, hmn, jb_some, jb_tl, nf_0_1, nf_0_2, nf_0_3, nf_0_4, nf_0_5, nf_0_6, nf_1_0, nf_1_2, nf_1_3, nf_1_4, nf_1_5, nf_1_6, nf_2_0, nf_2_1, nf_2_3, nf_2_4, nf_2_5, nf_2_6, nf_3_0, nf_3_1, nf_3_2, nf_3_4, nf_3_5, nf_3_6, nf_4_0, nf_4_1, nf_4_2, nf_4_3, nf_4_5, nf_4_6, nf_5_0, nf_5_1, nf_5_2, nf_5_3, nf_5_4, nf_5_6, nf_6_0, nf_6_1, nf_6_2, nf_6_3, nf_6_4, nf_6_5, if_false, if_true]
      | 3, _ =>
        cases hl : (jy_lf N i)[0]? with
        | none =>
          have hlen : (jy_lf N i).length = 0 := by
            have := List.getElem?_eq_none_iff.mp hl
            omega
          rw [hl] at hle2
          rw [hlen] at l1
          refine ⟨-1, ?_, ?_⟩
          · simp only [e93_0, e93_1, e93_2, e93_3, e93_4, e93_5, e93_6, e93_7, e93_8, e93_9, e93_10, e93_11, e93_12, e93_13, e93_14, e93_15_0, e93_15_1, e93_15_2, e93_15_3, e93_15_d, e93_16, e93_17, e93_18, e93_19, e93_20, e93_21, e93_22, e93_23, e93_24, e93_25, e93_26, e93_27, e93_28, e93_29, e93_30, e93_31, e93_32, e93_33, e93_34, e93_35, e93_36, xs_0 hX, xs_1 hX, xs_2 hX, xs_3 hX, xs_4 hX, xs_5 hX, xs_6 hX, xs_7 hX, xs_8 hX, xs_9 hX, xs_10 hX, xs_11 hX, xs_12 hX, xs_13 hX, xs_14 hX, xs_15 hX, xs_16 hX, xs_17 hX, xs_18 hX, xs_19 hX, m1, if_neg c1, if_pos c2, hat, jb_some, jb_tl, l1, if_true]
          · simp only [e143_0, e143_1, e143_2, e143_3, e143_4, e143_5, e143_6, e143_7, e143_8, e143_9, e143_10, e143_11, e143_12, e143_13, e143_14, e143_15, e143_16, e143_17, e143_18, e143_19, e143_20, e143_21, e143_22, e143_23, e143_24, e143_25, e143_26, e143_27, e143_28, e143_29, e143_30, e143_31, e143_32, e143_33, e143_34, e143_35, e143_36, e143_37, e143_38, e143_39, e143_40, e143_41, e143_42, e143_43, e143_44, e143_45, e143_46, e143_47, ys_0 hY, ys_1 hY, ys_2 hY, ys_3 hY, ys_4 hY, ys_5 hY, ys_6 hY, ys_7 hY, ys_8 hY, ys_9 hY, ys_10 hY, ys_11 hY, ys_12 hY, ys_13 hY, ys_14 hY, ys_15 hY, ys_16 hY, ys_17 hY, ys_18 hY, ys_19 hY, ys_20 hY, ys_21 hY, ys_22 hY, ys_23 hY, ys_24 hY, ys_25 hY, ys_26 hY, ys_27 hY, ys_28 hY, ys_29 hY, ys_30 hY, ys_31 hY, ys_32 hY, ys_33 hY, ys_34 hY, ys_35 hY, ys_36 hY, ys_37 hY, ys_38 hY, ys_39 hY, ys_40 hY, ys_41 hY, ys_42 hY, ys_43 hY, ys_44 hY, ys_45 hY, ys_46 hY, ys_47 hY, ys_48 hY, ys_49 hY, ys_50 hY, ys_51 hY, ys_52 hY, ys_53 hY, ys_54 hY, ys_55 hY, ys_56 hY, ys_57 hY, ys_58 hY, ys_59 hY, ys_60 hY, ys_61 hY, ys_62 hY, ys_63 hY, ys_64 hY, ys_65 hY, ys_66 hY, ys_67 hY, ys_68 hY, ys_69 hY, ys_70 hY, ys_71 hY, ys_72 hY, ys_73 hY, ys_74 hY, ys_75 hY, ys_76 hY, ys_77 hY, m2, if_neg c1, if_neg c3, if_neg hlt, if_pos hle, jb_ix (show q < 40 by omega) (by decide), p2, hle2, jb_some, jb_tl, nf_0_1, nf_0_2, nf_0_3, nf_0_4, nf_0_5, nf_0_6, nf_1_0, nf_1_2, nf_1_3, nf_1_4, nf_1_5, nf_1_6, nf_2_0, nf_2_1, nf_2_3, nf_2_4, nf_2_5, nf_2_6, nf_3_0, nf_3_1, nf_3_2, nf_3_4, nf_3_5, nf_3_6, nf_4_0, nf_4_1, nf_4_2, nf_4_3, nf_4_5, nf_4_6, nf_5_0, nf_5_1, nf_5_2, nf_5_3, nf_5_4, nf_5_6, nf_6_0, nf_6_1, nf_6_2, nf_6_3, nf_6_4, nf_6_5, if_false, if_true, Option.getD_none]
        | some k =>
          have hk := jy_lf_lt hl
          have hi16 : i < 16 := by omega
          have hlen : 0 < (jy_lf N i).length := (List.getElem?_eq_some_iff.mp hl).1
          rw [hl] at hle2
          have h1 : ¬ nI (jy_lf N i).length = nI 0 := nI_ne0 hlen (by omega)
          have h2 : ¬ nI k = nI 32 := fun e => by rw [nI_eq (by omega) (by decide)] at e; omega
          refine ⟨nI k, ?_, ?_⟩
          · simp only [e93_0, e93_1, e93_2, e93_3, e93_4, e93_5, e93_6, e93_7, e93_8, e93_9, e93_10, e93_11, e93_12, e93_13, e93_14, e93_15_0, e93_15_1, e93_15_2, e93_15_3, e93_15_d, e93_16, e93_17, e93_18, e93_19, e93_20, e93_21, e93_22, e93_23, e93_24, e93_25, e93_26, e93_27, e93_28, e93_29, e93_30, e93_31, e93_32, e93_33, e93_34, e93_35, e93_36, xs_0 hX, xs_1 hX, xs_2 hX, xs_3 hX, xs_4 hX, xs_5 hX, xs_6 hX, xs_7 hX, xs_8 hX, xs_9 hX, xs_10 hX, xs_11 hX, xs_12 hX, xs_13 hX, xs_14 hX, xs_15 hX, xs_16 hX, xs_17 hX, xs_18 hX, xs_19 hX, xf_0 hX hi16, xf_1 hX hi16, xf_2 hX hi16, m1, if_neg c1, if_pos c2, hat, jb_some, jb_tl, l1, if_neg h1, jb_ix (show 0 < 5 by decide) (by decide), lk 0 k hl]
          · simp only [e143_0, e143_1, e143_2, e143_3, e143_4, e143_5, e143_6, e143_7, e143_8, e143_9, e143_10, e143_11, e143_12, e143_13, e143_14, e143_15, e143_16, e143_17, e143_18, e143_19, e143_20, e143_21, e143_22, e143_23, e143_24, e143_25, e143_26, e143_27, e143_28, e143_29, e143_30, e143_31, e143_32, e143_33, e143_34, e143_35, e143_36, e143_37, e143_38, e143_39, e143_40, e143_41, e143_42, e143_43, e143_44, e143_45, e143_46, e143_47, ys_0 hY, ys_1 hY, ys_2 hY, ys_3 hY, ys_4 hY, ys_5 hY, ys_6 hY, ys_7 hY, ys_8 hY, ys_9 hY, ys_10 hY, ys_11 hY, ys_12 hY, ys_13 hY, ys_14 hY, ys_15 hY, ys_16 hY, ys_17 hY, ys_18 hY, ys_19 hY, ys_20 hY, ys_21 hY, ys_22 hY, ys_23 hY, ys_24 hY, ys_25 hY, ys_26 hY, ys_27 hY, ys_28 hY, ys_29 hY, ys_30 hY, ys_31 hY, ys_32 hY, ys_33 hY, ys_34 hY, ys_35 hY, ys_36 hY, ys_37 hY, ys_38 hY, ys_39 hY, ys_40 hY, ys_41 hY, ys_42 hY, ys_43 hY, ys_44 hY, ys_45 hY, ys_46 hY, ys_47 hY, ys_48 hY, ys_49 hY, ys_50 hY, ys_51 hY, ys_52 hY, ys_53 hY, ys_54 hY, ys_55 hY, ys_56 hY, ys_57 hY, ys_58 hY, ys_59 hY, ys_60 hY, ys_61 hY, ys_62 hY, ys_63 hY, ys_64 hY, ys_65 hY, ys_66 hY, ys_67 hY, ys_68 hY, ys_69 hY, ys_70 hY, ys_71 hY, ys_72 hY, ys_73 hY, ys_74 hY, ys_75 hY, ys_76 hY, ys_77 hY, m2, if_neg c1, if_neg c3, if_neg hlt, if_pos hle, jb_ix (show q < 40 by omega) (by decide), p2, hle2, jb_some, jb_tl, nf_0_1, nf_0_2, nf_0_3, nf_0_4, nf_0_5, nf_0_6, nf_1_0, nf_1_2, nf_1_3, nf_1_4, nf_1_5, nf_1_6, nf_2_0, nf_2_1, nf_2_3, nf_2_4, nf_2_5, nf_2_6, nf_3_0, nf_3_1, nf_3_2, nf_3_4, nf_3_5, nf_3_6, nf_4_0, nf_4_1, nf_4_2, nf_4_3, nf_4_5, nf_4_6, nf_5_0, nf_5_1, nf_5_2, nf_5_3, nf_5_4, nf_5_6, nf_6_0, nf_6_1, nf_6_2, nf_6_3, nf_6_4, nf_6_5, if_false, if_true, Option.getD_some, if_neg h2]
/-- epoch -/
theorem yDur {d : Nat} {N : jm_M} (hY : jy_S N) : jm_D d 132 0 [some (.inr (some (31, 0))), none, none] [] N = some (some (.inl (jx_min (fun w => jm_I N 62 0 w))), N) := by
  have k0 : ∀ a b : Int32, (if a ≤ b then a else b) = if b < a then b else a := by
    intro a b
    by_cases h : a ≤ b
    · rw [if_pos h, if_neg (Int32.not_lt.mpr h)]
    · rw [if_neg h, if_pos (Int32.not_le.mp h)]
  have k1 : ∀ (a b : Int32) (f : Int32 → jm_Z), (if a ≤ b then f a else f b) = f (if b < a then b else a) := by
    intro a b f
    rw [← k0]
    by_cases h : a ≤ b
    · rw [if_pos h, if_pos h]
    · rw [if_neg h, if_neg h]
  have s : ∀ (w : Nat) (a : Int32), w < 4 → jm_D d 132 7 [some (.inr (some (31, 0))), some (.inl a), some (.inl (nI w))] [] N = jm_D d 132 7 [some (.inr (some (31, 0))), some (.inl (if jm_I N 62 0 w < a then jm_I N 62 0 w else a)), some (.inl (nI (w + 1)))] [] N := by
    intro w a hw
    have c1 : ¬ nI 4 ≤ nI w := nI_ge hw (by decide)
    rw [e132_7]
    simp only [e132_0, e132_1, e132_2, e132_3, e132_4, e132_5, e132_6, e132_8, e132_9, e132_10, e132_11, e132_12, e132_13, e132_14, e132_15, e132_16, e132_17, e132_18, e132_19, e132_20, e132_21, e132_22, e132_23, e132_24, e132_25, e132_26, ys_0 hY, ys_1 hY, ys_2 hY, ys_3 hY, ys_4 hY, ys_5 hY, ys_6 hY, ys_7 hY, ys_8 hY, ys_9 hY, ys_10 hY, ys_11 hY, ys_12 hY, ys_13 hY, ys_14 hY, ys_15 hY, ys_16 hY, ys_17 hY, ys_18 hY, ys_19 hY, ys_20 hY, ys_21 hY, ys_22 hY, ys_23 hY, ys_24 hY, ys_25 hY, ys_26 hY, ys_27 hY, ys_28 hY, ys_29 hY, ys_30 hY, ys_31 hY, ys_32 hY, ys_33 hY, ys_34 hY, ys_35 hY, ys_36 hY, ys_37 hY, ys_38 hY, ys_39 hY, ys_40 hY, ys_41 hY, ys_42 hY, ys_43 hY, ys_44 hY, ys_45 hY, ys_46 hY, ys_47 hY, ys_48 hY, ys_49 hY, ys_50 hY, ys_51 hY, ys_52 hY, ys_53 hY, ys_54 hY, ys_55 hY, ys_56 hY, ys_57 hY, ys_58 hY, ys_59 hY, ys_60 hY, ys_61 hY, ys_62 hY, ys_63 hY, ys_64 hY, ys_65 hY, ys_66 hY, ys_67 hY, ys_68 hY, ys_69 hY, ys_70 hY, ys_71 hY, ys_72 hY, ys_73 hY, ys_74 hY, ys_75 hY, ys_76 hY, ys_77 hY, jb_ix hw (by decide), if_neg c1, nI_add]
    exact k1 a (jm_I N 62 0 w) (fun z => jm_D d 132 7 [some (.inr (some (31, 0))), some (.inl z), some (.inl (nI (w + 1)))] [] N)
  have c4 : nI 4 ≤ nI 4 := Int32.le_refl _
  simp only [e132_0, e132_1, e132_2, e132_3, e132_4, e132_5, e132_6, ys_0 hY, ys_1 hY, ys_2 hY, ys_3 hY, ys_4 hY, ys_5 hY, ys_6 hY, ys_7 hY, ys_8 hY, ys_9 hY, ys_10 hY, ys_11 hY, ys_12 hY, ys_13 hY, ys_14 hY, ys_15 hY, ys_16 hY, ys_17 hY, ys_18 hY, ys_19 hY, ys_20 hY, ys_21 hY, ys_22 hY, ys_23 hY, ys_24 hY, ys_25 hY, ys_26 hY, ys_27 hY, ys_28 hY, ys_29 hY, ys_30 hY, ys_31 hY, ys_32 hY, ys_33 hY, ys_34 hY, ys_35 hY, ys_36 hY, ys_37 hY, ys_38 hY, ys_39 hY, ys_40 hY, ys_41 hY, ys_42 hY, ys_43 hY, ys_44 hY, ys_45 hY, ys_46 hY, ys_47 hY, ys_48 hY, ys_49 hY, ys_50 hY, ys_51 hY, ys_52 hY, ys_53 hY, ys_54 hY, ys_55 hY, ys_56 hY, ys_57 hY, ys_58 hY, ys_59 hY, ys_60 hY, ys_61 hY, ys_62 hY, ys_63 hY, ys_64 hY, ys_65 hY, ys_66 hY, ys_67 hY, ys_68 hY, ys_69 hY, ys_70 hY, ys_71 hY, ys_72 hY, ys_73 hY, ys_74 hY, ys_75 hY, ys_76 hY, ys_77 hY, jb_ix (show 0 < 4 by decide) (by decide)]
  rw [s 1 _ (by decide), s 2 _ (by decide), s 3 _ (by decide)]
  simp only [e132_0, e132_1, e132_2, e132_3, e132_4, e132_5, e132_6, e132_7, e132_8, e132_9, e132_10, e132_11, e132_12, e132_13, e132_14, e132_15, e132_16, e132_17, e132_18, e132_19, e132_20, e132_21, e132_22, e132_23, e132_24, e132_25, e132_26, c4, if_true, jx_min]
theorem jx_min_eq {E : Nat} {M N : jm_M} (h : rE E M N) : jx_min (fun w => jm_I M 15 w 2) = jx_min (fun w => jm_I N 62 0 w) := by
  obtain ⟨e, -, -, -, -, hm⟩ := h
  obtain ⟨a, -, a1, a2⟩ := hm 0 (by decide)
  obtain ⟨b, -, b1, b2⟩ := hm 1 (by decide)
  obtain ⟨c, -, c1, c2⟩ := hm 2 (by decide)
  obtain ⟨f, -, f1, f2⟩ := hm 3 (by decide)
  simp only [jx_min, a1, a2, b1, b2, c1, c2, f1, f2]
theorem xDur {d E C : Nat} {M N : jm_M} (h : jr_R E C M N) : jm_D (d + 1) 70 0 [some (.inr (some (0, 0))), none, none] [] M = some (some (.inl (jx_min (fun w => jm_I N 62 0 w))), M) := by
  rw [jx_dur (xs_2 h.1) (xs_7 h.1) (fun w hw => xw_7 h.1 hw), jx_min_eq h.2.2.2.2.2.2.2.2.2.1]
theorem sm_epoch {d d' E C : Nat} {M N : jm_M} (h : jr_R E C M N) (x : Int32) : ∃ r, jm_D (d + 2) 97 0 [some (.inr (some (0, 0))), some (.inl x)] [] M = some (some (.inl r), M) ∧ jm_D (d' + 1) 148 0 [some (.inr (some (31, 0))), some (.inl x)] [] N = some (some (.inl r), N) := by
  obtain ⟨e, -, -, e1, e2, -⟩ := h.2.2.2.2.2.2.2.2.2.1
  have hX := h.1
  have hY := h.2.1
  by_cases h0 : x = nI 0
  · subst h0
    refine ⟨nI e, ?_, ?_⟩
    · simp only [e97_0, e97_1_0, e97_1_1, e97_1_d, e97_2, e97_3, e97_4, e97_5, e97_6, e97_7, e97_8, e97_9, e1]
    · simp only [e148_0, e148_1, e148_2, e148_3, e148_4, e148_5, e148_6, e148_7, e148_8, e148_9, e148_10, e148_11, e148_12, ys_0 hY, ys_1 hY, ys_2 hY, ys_3 hY, ys_4 hY, ys_5 hY, ys_6 hY, ys_7 hY, ys_8 hY, ys_9 hY, ys_10 hY, ys_11 hY, ys_12 hY, ys_13 hY, ys_14 hY, ys_15 hY, ys_16 hY, ys_17 hY, ys_18 hY, ys_19 hY, ys_20 hY, ys_21 hY, ys_22 hY, ys_23 hY, ys_24 hY, ys_25 hY, ys_26 hY, ys_27 hY, ys_28 hY, ys_29 hY, ys_30 hY, ys_31 hY, ys_32 hY, ys_33 hY, ys_34 hY, ys_35 hY, ys_36 hY, ys_37 hY, ys_38 hY, ys_39 hY, ys_40 hY, ys_41 hY, ys_42 hY, ys_43 hY, ys_44 hY, ys_45 hY, ys_46 hY, ys_47 hY, ys_48 hY, ys_49 hY, ys_50 hY, ys_51 hY, ys_52 hY, ys_53 hY, ys_54 hY, ys_55 hY, ys_56 hY, ys_57 hY, ys_58 hY, ys_59 hY, ys_60 hY, ys_61 hY, ys_62 hY, ys_63 hY, ys_64 hY, ys_65 hY, ys_66 hY, ys_67 hY, ys_68 hY, ys_69 hY, ys_70 hY, ys_71 hY, ys_72 hY, ys_73 hY, ys_74 hY, ys_75 hY, ys_76 hY, ys_77 hY, if_true, e2]
  · by_cases h1 : x = nI 1
    · subst h1
      refine ⟨jx_min (fun w => jm_I N 62 0 w), ?_, ?_⟩
      · simp only [e97_0, e97_1_0, e97_1_1, e97_1_d, e97_2, e97_3, e97_4, e97_5, e97_6, e97_7, e97_8, e97_9, xDur h, jb_some, jb_tl]
      · simp only [e148_0, e148_1, e148_2, e148_3, e148_4, e148_5, e148_6, e148_7, e148_8, e148_9, e148_10, e148_11, e148_12, nf_0_1, nf_0_2, nf_0_3, nf_0_4, nf_0_5, nf_0_6, nf_1_0, nf_1_2, nf_1_3, nf_1_4, nf_1_5, nf_1_6, nf_2_0, nf_2_1, nf_2_3, nf_2_4, nf_2_5, nf_2_6, nf_3_0, nf_3_1, nf_3_2, nf_3_4, nf_3_5, nf_3_6, nf_4_0, nf_4_1, nf_4_2, nf_4_3, nf_4_5, nf_4_6, nf_5_0, nf_5_1, nf_5_2, nf_5_3, nf_5_4, nf_5_6, nf_6_0, nf_6_1, nf_6_2, nf_6_3, nf_6_4, nf_6_5, if_false, if_true, yDur hY, jb_some, jb_tl]
    · refine ⟨-1, ?_, ?_⟩
      · simp only [e97_0, e97_1_0, e97_1_1, e97_1_d, e97_2, e97_3, e97_4, e97_5, e97_6, e97_7, e97_8, e97_9, e97_1_d _ _ _ _ _ h0 h1]
      · simp only [e148_0, e148_1, e148_2, e148_3, e148_4, e148_5, e148_6, e148_7, e148_8, e148_9, e148_10, e148_11, e148_12, if_neg h0, if_neg h1]
