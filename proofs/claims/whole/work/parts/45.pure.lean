/-! Start: the runs. -/
theorem jk_comm {k k' : Nat} (h : k ≠ k') (M : jm_M) (g : Nat → Nat → Int32) (i j : Nat) (x : Int32) : jm_setI (jm_setK M k' g) k i j x = jm_setK (jm_setI M k i j x) k' g := by
  refine Prod.ext ?_ rfl
  funext a b c
  show (if a = k ∧ b = i ∧ c = j then x else if a = k' then g b c else M.1 a b c) = if a = k' then g b c else if a = k ∧ b = i ∧ c = j then x else M.1 a b c
  by_cases h1 : a = k'
  · rw [if_neg (fun e => h (e.1.symm.trans h1)), if_pos h1, if_pos h1]
  · rw [if_neg h1, if_neg h1]
theorem jk_fill {M : jm_M} {K w k n : Nat} {v : Nat → Int32} {g : Nat → Nat → Int32} (h : k < n) : jm_setK M K (fun i j => if i = w ∧ k + 1 ≤ j ∧ j < n then v j else if i = w ∧ j = k then v k else g i j) = jm_setK M K (fun i j => if i = w ∧ k ≤ j ∧ j < n then v j else g i j) := by
  refine jk_ex fun i j => ?_
  by_cases hi : i = w
  · by_cases hj : j = k
    · subst hj
      rw [if_neg (fun e => by omega), if_pos ⟨hi, rfl⟩, if_pos ⟨hi, Nat.le_refl _, h⟩]
    · by_cases hc : k + 1 ≤ j ∧ j < n
      · rw [if_pos ⟨hi, hc⟩, if_pos ⟨hi, by omega, hc.2⟩]
      · rw [if_neg (fun e => hc e.2), if_neg (fun e => hj e.2), if_neg (fun e => hc ⟨by omega, e.2.2⟩)]
  · rw [if_neg (fun e => hi e.1), if_neg (fun e => hi e.1), if_neg (fun e => hi e.1)]
theorem jk_fill0 {M : jm_M} {K w n : Nat} {v : Nat → Int32} {g : Nat → Nat → Int32} : jm_setK M K (fun i j => if i = w ∧ n ≤ j ∧ j < n then v j else g i j) = jm_setK M K g :=
  jk_ex fun i j => if_neg (fun e => by omega)
/-- a row of cells filled -/
def jk_row (w a b : Nat) (v : Nat → Int32) (g : Nat → Nat → Int32) : Nat → Nat → Int32 := fun i j => if i = w ∧ a ≤ j ∧ j < b then v j else g i j
theorem jk_step {M : jm_M} {K w k n : Nat} {v : Nat → Int32} {g : Nat → Nat → Int32} (h : k < n) : jm_setK M K (jk_row w (k + 1) n v (fun i j => if i = w ∧ j = k then v k else g i j)) = jm_setK M K (jk_row w k n v g) := jk_fill h
theorem jk_end {M : jm_M} {K w n : Nat} {v : Nat → Int32} {g : Nat → Nat → Int32} : jm_setK M K (jk_row w n n v g) = jm_setK M K g := jk_fill0
/-- begin -/
theorem xBg1 {d w : Nat} {M : jm_M} (hX : jx_S M) (hw : w < 4) {a b c e : Option jm_V} : ∀ f k g, k + f = 8 → jm_D d 28 8 [some (.inr (some (11, w))), a, b, c, e, some (.inl (nI k))] [] (jm_setK M 12 g) = jm_D d 28 18 [some (.inr (some (11, w))), a, b, c, e, some (.inl (nI 8))] [] (jm_setK M 12 (jk_row w k 8 (fun _ => nI 0) g)) := by
  intro f
  induction f with
  | zero =>
    intro k g hk
    obtain rfl : k = 8 := by omega
    rw [e28_8, jk_end]
    simp only [e28_9, e28_10, Int32.le_refl, if_true]
  | succ f ih =>
    intro k g hk
    have c1 : ¬ nI 8 ≤ nI k := nI_ge (by omega) (by decide)
    have hX' : jx_S (jm_setK M 12 g) := hX
    rw [e28_8]
    simp only [e28_0, e28_1, e28_2, e28_3, e28_4, e28_5, e28_6, e28_7, e28_9, e28_10, e28_11, e28_12, e28_13, e28_14, e28_15, e28_16, e28_17, e28_19, e28_20, e28_21, e28_22, e28_23, e28_24, e28_25, e28_26, e28_27, e28_28, e28_29, e28_30, e28_31, e28_32, e28_33, e28_34, e28_35, e28_36, e28_37, e28_38, e28_39, e28_40, e28_41, e28_42, e28_43, e28_44, e28_45, e28_46, e28_47, e28_48, e28_49, e28_50, e28_51, e28_52, e28_53, e28_54, e28_55, e28_56, e28_57, e28_58, e28_59, e28_60, e28_61, e28_62, e28_63, e28_64, e28_65, e28_66, e28_67, xw_0 hX' hw, xw_1 hX' hw, xw_2 hX' hw, xw_3 hX' hw, xw_4 hX' hw, xw_5 hX' hw, xw_6 hX' hw, xw_7 hX' hw, xw_8 hX' hw, if_neg c1, jb_ix (show k < 8 by omega) (by decide), nI_add, jk_set, ih (k + 1) _ (by omega)]
    rw [jk_step (v := fun _ => nI 0) (show k < 8 by omega)]
theorem xBg2 {d w : Nat} {M : jm_M} (hX : jx_S M) (hw : w < 4) {a b c e : Option jm_V} : ∀ f k g, k + f = 32 → jm_D d 28 30 [some (.inr (some (11, w))), a, b, c, e, some (.inl (nI k))] [] (jm_setK M 13 g) = jm_D d 28 40 [some (.inr (some (11, w))), a, b, c, e, some (.inl (nI 32))] [] (jm_setK M 13 (jk_row w k 32 (fun _ => -1) g)) := by
  intro f
  induction f with
  | zero =>
    intro k g hk
    obtain rfl : k = 32 := by omega
    rw [e28_30, jk_end]
    simp only [e28_31, e28_32, Int32.le_refl, if_true]
  | succ f ih =>
    intro k g hk
    have c1 : ¬ nI 32 ≤ nI k := nI_ge (by omega) (by decide)
    have hX' : jx_S (jm_setK M 13 g) := hX
    rw [e28_30]
    simp only [e28_0, e28_1, e28_2, e28_3, e28_4, e28_5, e28_6, e28_7, e28_8, e28_9, e28_10, e28_11, e28_12, e28_13, e28_14, e28_15, e28_16, e28_17, e28_18, e28_19, e28_20, e28_21, e28_22, e28_23, e28_24, e28_25, e28_26, e28_27, e28_28, e28_29, e28_31, e28_32, e28_33, e28_34, e28_35, e28_36, e28_37, e28_38, e28_39, e28_41, e28_42, e28_43, e28_44, e28_45, e28_46, e28_47, e28_48, e28_49, e28_50, e28_51, e28_52, e28_53, e28_54, e28_55, e28_56, e28_57, e28_58, e28_59, e28_60, e28_61, e28_62, e28_63, e28_64, e28_65, e28_66, e28_67, xw_0 hX' hw, xw_1 hX' hw, xw_2 hX' hw, xw_3 hX' hw, xw_4 hX' hw, xw_5 hX' hw, xw_6 hX' hw, xw_7 hX' hw, xw_8 hX' hw, if_neg c1, jb_ix (show k < 32 by omega) (by decide), nI_add, jk_set, ih (k + 1) _ (by omega)]
    rw [jk_step (v := fun _ => -1) (show k < 32 by omega)]
theorem xBg3 {d w : Nat} {M : jm_M} (hX : jx_S M) (hw : w < 4) {a b c e : Option jm_V} : ∀ f k g, k + f = 16 → jm_D d 28 42 [some (.inr (some (11, w))), a, b, c, e, some (.inl (nI k))] [] (jm_setK M 14 g) = jm_D d 28 52 [some (.inr (some (11, w))), a, b, c, e, some (.inl (nI 16))] [] (jm_setK M 14 (jk_row w k 16 (fun _ => -1) g)) := by
  intro f
  induction f with
  | zero =>
    intro k g hk
    obtain rfl : k = 16 := by omega
    rw [e28_42, jk_end]
    simp only [e28_43, e28_44, Int32.le_refl, if_true]
  | succ f ih =>
    intro k g hk
    have c1 : ¬ nI 16 ≤ nI k := nI_ge (by omega) (by decide)
    have hX' : jx_S (jm_setK M 14 g) := hX
    rw [e28_42]
    simp only [e28_0, e28_1, e28_2, e28_3, e28_4, e28_5, e28_6, e28_7, e28_8, e28_9, e28_10, e28_11, e28_12, e28_13, e28_14, e28_15, e28_16, e28_17, e28_18, e28_19, e28_20, e28_21, e28_22, e28_23, e28_24, e28_25, e28_26, e28_27, e28_28, e28_29, e28_30, e28_31, e28_32, e28_33, e28_34, e28_35, e28_36, e28_37, e28_38, e28_39, e28_40, e28_41, e28_43, e28_44, e28_45, e28_46, e28_47, e28_48, e28_49, e28_50, e28_51, e28_53, e28_54, e28_55, e28_56, e28_57, e28_58, e28_59, e28_60, e28_61, e28_62, e28_63, e28_64, e28_65, e28_66, e28_67, xw_0 hX' hw, xw_1 hX' hw, xw_2 hX' hw, xw_3 hX' hw, xw_4 hX' hw, xw_5 hX' hw, xw_6 hX' hw, xw_7 hX' hw, xw_8 hX' hw, if_neg c1, jb_ix (show k < 16 by omega) (by decide), nI_add, jk_set, ih (k + 1) _ (by omega)]
    rw [jk_step (v := fun _ => -1) (show k < 16 by omega)]
def jx_b1 (M : jm_M) (w T : Nat) (p x y : Int32) : jm_M := jm_setI (jm_setI (jm_setK (jm_setI (jm_setF M 11 w 5 (some (25, T))) 11 w 4 p) 12 (jk_row w 0 8 (fun _ => nI 0) (jm_I M 12))) 12 w 0 x) 12 w 1 y
def jx_b2 (M : jm_M) (w : Nat) : jm_M := jm_setK (jm_setK M 13 (jk_row w 0 32 (fun _ => -1) (jm_I M 13))) 14 (jk_row w 0 16 (fun _ => -1) (jm_I M 14))
def jx_b3 (M : jm_M) (w : Nat) : jm_M := jm_setI (jm_setI (jm_setI (jm_setI (jm_setI M 11 w 9 (nI 0)) 11 w 10 (nI 0)) 11 w 7 (nI 0)) 11 w 8 (nI 0)) 11 w 6 (nI 1)
theorem xBeg {d w T : Nat} {M : jm_M} (hX : jx_S M) (hw : w < 4) (p x y : Int32) : jm_D d 28 0 [some (.inr (some (11, w))), some (.inr (some (25, T))), some (.inl p), some (.inl x), some (.inl y), none] [] M = some (none, jx_b3 (jx_b2 (jx_b1 M w T p x y) w) w) := by
  have hX0 : jx_S (jm_setI (jm_setF M 11 w 5 (some (25, T))) 11 w 4 p) := by
    refine ⟨hX.1, hX.2.1, fun v hv => ?_, hX.2.2.2⟩
    have := hX.2.2.1 v hv
    refine ⟨this.1, ?_, ?_, ?_, this.2.2.2.2⟩
    · exact (jb_Fo (by decide) M 11 w _ 11 v).trans this.2.1
    · exact (jb_Fo (by decide) M 11 w _ 11 v).trans this.2.2.1
    · exact (jb_Fo (by decide) M 11 w _ 11 v).trans this.2.2.2.1
  have z1 := xBg1 (d := d) (a := some (.inr (some (25, T)))) (b := some (.inl p)) (c := some (.inl x)) (e := some (.inl y)) hX0 hw 8 0 (jm_I M 12) rfl
  have q1 : jm_setK (jm_setI (jm_setF M 11 w 5 (some (25, T))) 11 w 4 p) 12 (jm_I M 12) = jm_setI (jm_setF M 11 w 5 (some (25, T))) 11 w 4 p := jk_id _ _
  rw [q1] at z1
  have hX1 : jx_S (jm_setK (jm_setI (jm_setF M 11 w 5 (some (25, T))) 11 w 4 p) 12 (jk_row w 0 8 (fun _ => nI 0) (jm_I M 12))) := hX0
  have hX2 : jx_S (jx_b1 M w T p x y) := hX0
  have z2 := xBg2 (d := d) (a := some (.inr (some (25, T)))) (b := some (.inl p)) (c := some (.inl x)) (e := some (.inl y)) hX2 hw 32 0 (jm_I M 13) rfl
  have q2 : jm_setK (jx_b1 M w T p x y) 13 (jm_I M 13) = jx_b1 M w T p x y := jk_id _ _
  rw [q2] at z2
  have hX3 : jx_S (jm_setK (jx_b1 M w T p x y) 13 (jk_row w 0 32 (fun _ => -1) (jm_I M 13))) := hX0
  have z3 := xBg3 (d := d) (a := some (.inr (some (25, T)))) (b := some (.inl p)) (c := some (.inl x)) (e := some (.inl y)) hX3 hw 16 0 (jm_I M 14) rfl
  have q3 : jm_setK (jm_setK (jx_b1 M w T p x y) 13 (jk_row w 0 32 (fun _ => -1) (jm_I M 13))) 14 (jm_I M 14) = jm_setK (jx_b1 M w T p x y) 13 (jk_row w 0 32 (fun _ => -1) (jm_I M 13)) := jk_id _ _
  rw [q3] at z3
  simp only [e28_0, e28_1, e28_2, e28_3, e28_4, e28_5, e28_6, e28_7]
  rw [z1]
  simp only [e28_18, e28_19, e28_20, e28_21, e28_22, e28_23, e28_24, e28_25, e28_26, e28_27, e28_28, e28_29, jb_nI, jb_FI, xw_0 hX1 hw, xw_1 hX1 hw, xw_2 hX1 hw, xw_3 hX1 hw, xw_4 hX1 hw, xw_5 hX1 hw, xw_6 hX1 hw, xw_7 hX1 hw, xw_8 hX1 hw, jb_ix (show 0 < 8 by decide) (by decide), jb_ix (show 1 < 8 by decide) (by decide)]
  refine Eq.trans z2 ?_
  simp only [e28_40, e28_41]
  rw [z3]
  simp only [e28_52, e28_53, e28_54, e28_55, e28_56, e28_57, e28_58, e28_59, e28_60, e28_61, e28_62, e28_63, e28_64, e28_65, e28_66, e28_67]
  rfl
/-- a new transaction -/
def jx_new (M : jm_M) : jm_M := jm_setI (jm_setI (jm_setF (jm_mk (jm_setF (jm_mk (jm_mk M 25 0 7) 26 32 32) 25 (jm_c M 25) 1 (some (26, jm_c M 26))) 27 32 32) 25 (jm_c M 25) 2 (some (27, jm_c M 27))) 25 (jm_c M 25) 4 (nI 1)) 25 (jm_c M 25) 0 (nI (jm_c M 25 + 1))
theorem xNew {d : Nat} {M : jm_M} : jm_D (d + 1) 8 0 [some (.inr (some (25, jm_c M 25))), some (.inl (nI (jm_c M 25 + 1)))] [] (jm_mk M 25 0 7) = some (none, jx_new M) := by
  simp only [e8_0, e8_1_k25, e8_1_k29, e8_2, e8_3, e8_4, e8_5_k25, e8_5_k29, e8_6, e8_7, e8_8, e8_9_k25, e8_9_k29, e8_10, e8_11, e8_12_k25, e8_12_k29, e8_13, e8_14, e8_15_k25, e8_15_k29, e8_16, jb_ix (show 32 < 10001 by decide) (by decide)]
  rfl
