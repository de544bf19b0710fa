/-! The place of a key. -/
def jr_Z (M M' : jm_M) : Prop := jm_al M' = jm_al M ∧ jm_sl M' = jm_sl M
def jb_last (P : Nat → Bool) : Nat → Nat
  | 0 => 0
  | n + 1 => if P n = true then n else jb_last P n
theorem jb_last_lt (P : Nat → Bool) : ∀ n, 1 ≤ n → jb_last P n < n := by
  intro n
  induction n with
  | zero => intro h; omega
  | succ n ih =>
    intro _
    unfold jb_last
    split
    · omega
    · by_cases h : 1 ≤ n
      · have := ih h; omega
      · have : n = 0 := by omega
        subst this
        unfold jb_last; omega
def jy_fk (N : jm_M) (q : Nat) : Nat := jb_fnd (jy_p N (jm_I N 43 0 q)) 32 0
def jy_pp (N : jm_M) (k q : Nat) : Bool := decide (jy_fk N q ≤ k)
theorem jy_fk_le (N : jm_M) (q : Nat) : jy_fk N q ≤ 32 := by
  have := jb_fnd_le (jy_p N (jm_I N 43 0 q)) 32 0
  unfold jy_fk; omega
theorem yPl0 {d n k : Nat} {N : jm_M} (hY : jy_S N) (hn : n ≤ 16) (hk : k < 32) (hn2 : jm_I N 31 0 11 = nI n) : ∀ f q l, q + f = n → jm_D (d + 1) 117 4 [some (.inr (some (31, 0))), some (.inl (nI k)), some (.inl (nI (jb_last (jy_pp N k) q))), some (.inl (nI q)), l] [] N = some (some (.inl (nI (jb_last (jy_pp N k) n))), N) := by
  intro f
  induction f with
  | zero =>
    intro q l hq
    obtain rfl : q = n := by omega
    rw [e117_4]
    simp only [e117_0, e117_1, e117_2, e117_3, e117_5, e117_6, e117_7, e117_8, e117_9, e117_10, e117_11, e117_12, e117_13, e117_14, e117_15, e117_16, e117_17, e117_18, e117_19, e117_20, e117_21, e117_22, e117_23, e117_24, e117_25, ys_0 hY, ys_1 hY, ys_2 hY, ys_3 hY, ys_4 hY, ys_5 hY, ys_6 hY, ys_7 hY, ys_8 hY, ys_9 hY, ys_10 hY, ys_11 hY, ys_12 hY, ys_13 hY, ys_14 hY, ys_15 hY, ys_16 hY, ys_17 hY, ys_18 hY, ys_19 hY, ys_20 hY, ys_21 hY, ys_22 hY, ys_23 hY, ys_24 hY, ys_25 hY, ys_26 hY, ys_27 hY, ys_28 hY, ys_29 hY, ys_30 hY, ys_31 hY, ys_32 hY, ys_33 hY, ys_34 hY, ys_35 hY, ys_36 hY, ys_37 hY, ys_38 hY, ys_39 hY, ys_40 hY, ys_41 hY, ys_42 hY, ys_43 hY, ys_44 hY, ys_45 hY, ys_46 hY, ys_47 hY, ys_48 hY, ys_49 hY, ys_50 hY, ys_51 hY, ys_52 hY, ys_53 hY, ys_54 hY, ys_55 hY, ys_56 hY, ys_57 hY, ys_58 hY, ys_59 hY, ys_60 hY, ys_61 hY, ys_62 hY, ys_63 hY, ys_64 hY, ys_65 hY, ys_66 hY, ys_67 hY, ys_68 hY, ys_69 hY, ys_70 hY, ys_71 hY, ys_72 hY, ys_73 hY, ys_74 hY, ys_75 hY, ys_76 hY, ys_77 hY, hn2, Int32.le_refl, if_true]
  | succ f ih =>
    intro q l hq
    have c1 : ¬ nI n ≤ nI q := nI_ge (by omega) (by omega)
    have hl := yLeast (d := d) hY (jm_I N 43 0 q)
    have hle := jy_fk_le N q
    have ih := ih (q + 1) (some (.inl (nI (jy_fk N q)))) (by omega)
    rw [e117_4]
    by_cases h : jy_fk N q ≤ k
    · have c2 : ¬ nI k < nI (jy_fk N q) := nI_nlt h (by omega)
      have e : jb_last (jy_pp N k) (q + 1) = q := if_pos (decide_eq_true h)
      rw [e] at ih
      unfold jy_fk at c2 ih
      simp only [e117_0, e117_1, e117_2, e117_3, e117_5, e117_6, e117_7, e117_8, e117_9, e117_10, e117_11, e117_12, e117_13, e117_14, e117_15, e117_16, e117_17, e117_18, e117_19, e117_20, e117_21, e117_22, e117_23, e117_24, e117_25, ys_0 hY, ys_1 hY, ys_2 hY, ys_3 hY, ys_4 hY, ys_5 hY, ys_6 hY, ys_7 hY, ys_8 hY, ys_9 hY, ys_10 hY, ys_11 hY, ys_12 hY, ys_13 hY, ys_14 hY, ys_15 hY, ys_16 hY, ys_17 hY, ys_18 hY, ys_19 hY, ys_20 hY, ys_21 hY, ys_22 hY, ys_23 hY, ys_24 hY, ys_25 hY, ys_26 hY, ys_27 hY, ys_28 hY, ys_29 hY, ys_30 hY, ys_31 hY, ys_32 hY, ys_33 hY, ys_34 hY, ys_35 hY, ys_36 hY, ys_37 hY, ys_38 hY, ys_39 hY, ys_40 hY, ys_41 hY, ys_42 hY, ys_43 hY, ys_44 hY, ys_45 hY, ys_46 hY, ys_47 hY, ys_48 hY, ys_49 hY, ys_50 hY, ys_51 hY, ys_52 hY, ys_53 hY, ys_54 hY, ys_55 hY, ys_56 hY, ys_57 hY, ys_58 hY, ys_59 hY, ys_60 hY, ys_61 hY, ys_62 hY, ys_63 hY, ys_64 hY, ys_65 hY, ys_66 hY, ys_67 hY, ys_68 hY, ys_69 hY, ys_70 hY, ys_71 hY, ys_72 hY, ys_73 hY, ys_74 hY, ys_75 hY, ys_76 hY, ys_77 hY, hn2, if_neg c1, jb_ix (show q < 40 by omega) (by decide), hl, jb_some, jb_tl, if_neg c2, nI_add, ih]
    · have c2 : nI k < nI (jy_fk N q) := nI_lt (by omega) (by omega)
      have e : jb_last (jy_pp N k) (q + 1) = jb_last (jy_pp N k) q := if_neg (by unfold jy_pp; rw [decide_eq_false h]; decide)
      rw [e] at ih
      unfold jy_fk at c2 ih
      simp only [e117_0, e117_1, e117_2, e117_3, e117_5, e117_6, e117_7, e117_8, e117_9, e117_10, e117_11, e117_12, e117_13, e117_14, e117_15, e117_16, e117_17, e117_18, e117_19, e117_20, e117_21, e117_22, e117_23, e117_24, e117_25, ys_0 hY, ys_1 hY, ys_2 hY, ys_3 hY, ys_4 hY, ys_5 hY, ys_6 hY, ys_7 hY, ys_8 hY, ys_9 hY, ys_10 hY, ys_11 hY, ys_12 hY, ys_13 hY, ys_14 hY, ys_15 hY, ys_16 hY, ys_17 hY, ys_18 hY, ys_19 hY, ys_20 hY, ys_21 hY, ys_22 hY, ys_23 hY, ys_24 hY, ys_25 hY, ys_26 hY, ys_27 hY, ys_28 hY, ys_29 hY, ys_30 hY, ys_31 hY, ys_32 hY, ys_33 hY, ys_34 hY, ys_35 hY, ys_36 hY, ys_37 hY, ys_38 hY, ys_39 hY, ys_40 hY, ys_41 hY, ys_42 hY, ys_43 hY, ys_44 hY, ys_45 hY, ys_46 hY, ys_47 hY, ys_48 hY, ys_49 hY, ys_50 hY, ys_51 hY, ys_52 hY, ys_53 hY, ys_54 hY, ys_55 hY, ys_56 hY, ys_57 hY, ys_58 hY, ys_59 hY, ys_60 hY, ys_61 hY, ys_62 hY, ys_63 hY, ys_64 hY, ys_65 hY, ys_66 hY, ys_67 hY, ys_68 hY, ys_69 hY, ys_70 hY, ys_71 hY, ys_72 hY, ys_73 hY, ys_74 hY, ys_75 hY, ys_76 hY, ys_77 hY, hn2, if_neg c1, jb_ix (show q < 40 by omega) (by decide), hl, jb_some, jb_tl, if_pos c2, nI_add, ih]
theorem xPl0 {d n k : Nat} {M N : jm_M} (hX : jx_S M) (hn : n ≤ 16) (hk : k < 32) (hpl : ∀ q, q < n → ∃ i, i < n ∧ jm_I M 24 0 q = nI i ∧ jm_I N 43 0 q = nI (i + 1)) (hlf : ∀ i, i < n → (2 ≤ n → 2 ≤ (jy_lf N i).length) ∧ ∀ j k, (jy_lf N i)[j]? = some k → jm_I M 18 i j = nI k) : ∀ q, q < n → jm_D d 43 5 [some (.inr (some (5, 0))), some (.inl (nI k)), some (.inl (nI q))] [] M = some (some (.inl (nI (jb_last (jy_pp N k) (q + 1)))), M) := by
  intro q
  induction q with
  | zero =>
    intro hq
    have e : jb_last (jy_pp N k) (0 + 1) = 0 := by
      unfold jb_last
      split
      · rfl
      · rfl
    rw [e43_5, e]
    simp only [e43_0, e43_1, e43_2, e43_3, e43_4, e43_6, e43_7, e43_8, e43_9, e43_10, e43_11, e43_12, e43_13, e43_14, e43_15, e43_16, e43_17, e43_18, e43_19, e43_20, e43_21, e43_22, e43_23, e43_24, Int32.le_refl, if_true]
  | succ q ih =>
    intro hq
    have ih := ih (by omega)
    obtain ⟨i, hi, p1, p2⟩ := hpl (q + 1) hq
    obtain ⟨l1, l2⟩ := hlf i hi
    have hi16 : i < 16 := by omega
    have c1 : ¬ nI (q + 1) ≤ nI 0 := nI_ge (by omega) (by omega)
    have h0 : 0 < (jy_lf N i).length := by have := l1 (by omega); omega
    have hg : (jy_lf N i)[0]? = some ((jy_lf N i)[0]) := List.getElem?_eq_getElem h0
    have hf : jy_fk N (q + 1) = (jy_lf N i)[0] := by
      unfold jy_fk
      rw [p2, jy_lf_fnd, hg]
      rfl
    have hv := l2 0 _ hg
    rw [← hf] at hv
    have hle := jy_fk_le N (q + 1)
    rw [e43_5]
    by_cases h : jy_fk N (q + 1) ≤ k
    · have c2 : ¬ nI k < nI (jy_fk N (q + 1)) := nI_nlt h (by omega)
      have e : jb_last (jy_pp N k) (q + 1 + 1) = q + 1 := if_pos (decide_eq_true h)
      rw [e]
      simp only [e43_0, e43_1, e43_2, e43_3, e43_4, e43_6, e43_7, e43_8, e43_9, e43_10, e43_11, e43_12, e43_13, e43_14, e43_15, e43_16, e43_17, e43_18, e43_19, e43_20, e43_21, e43_22, e43_23, e43_24, xs_0 hX, xs_1 hX, xs_2 hX, xs_3 hX, xs_4 hX, xs_5 hX, xs_6 hX, xs_7 hX, xs_8 hX, xs_9 hX, xs_10 hX, xs_11 hX, xs_12 hX, xs_13 hX, xs_14 hX, xs_15 hX, xs_16 hX, xs_17 hX, xs_18 hX, xs_19 hX, xf_0 hX hi16, xf_1 hX hi16, xf_2 hX hi16, if_neg c1, jb_ix (show q + 1 < 16 by omega) (by decide), p1, jb_ix hi16 (by decide), jb_ix (show 0 < 5 by decide) (by decide), hv, if_neg c2]
    · have c2 : nI k < nI (jy_fk N (q + 1)) := nI_lt (by omega) (by omega)
      have e : jb_last (jy_pp N k) (q + 1 + 1) = jb_last (jy_pp N k) (q + 1) := if_neg (by unfold jy_pp; rw [decide_eq_false h]; decide)
      rw [e]
      simp only [e43_0, e43_1, e43_2, e43_3, e43_4, e43_6, e43_7, e43_8, e43_9, e43_10, e43_11, e43_12, e43_13, e43_14, e43_15, e43_16, e43_17, e43_18, e43_19, e43_20, e43_21, e43_22, e43_23, e43_24, xs_0 hX, xs_1 hX, xs_2 hX, xs_3 hX, xs_4 hX, xs_5 hX, xs_6 hX, xs_7 hX, xs_8 hX, xs_9 hX, xs_10 hX, xs_11 hX, xs_12 hX, xs_13 hX, xs_14 hX, xs_15 hX, xs_16 hX, xs_17 hX, xs_18 hX, xs_19 hX, xf_0 hX hi16, xf_1 hX hi16, xf_2 hX hi16, if_neg c1, jb_ix (show q + 1 < 16 by omega) (by decide), p1, jb_ix hi16 (by decide), jb_ix (show 0 < 5 by decide) (by decide), hv, if_pos c2, pk_m1, ih]
/-- both find the place q, and leaf i there -/
theorem sm_place {E C k : Nat} {M N : jm_M} (h : jr_R E C M N) (hk : k < 32) : ∃ n q i, n ≤ 16 ∧ q < n ∧ i < n ∧ q = jb_last (jy_pp N k) n ∧ jm_I M 5 0 6 = nI n ∧ jm_I N 31 0 11 = nI n ∧ jm_I M 24 0 q = nI i ∧ jm_I N 43 0 q = nI (i + 1) ∧ (∀ d, jm_D d 43 0 [some (.inr (some (5, 0))), some (.inl (nI k)), none] [] M = some (some (.inl (nI q)), M)) ∧ (∀ d, jm_D d 44 0 [some (.inr (some (5, 0))), some (.inl (nI q))] [] M = some (some (.inr (some (17, i))), M)) ∧ (∀ d, jm_D (d + 1) 117 0 [some (.inr (some (31, 0))), some (.inl (nI k)), none, none, none] [] N = some (some (.inl (nI q)), N)) ∧ (∀ d, jm_D (d + 2) 116 0 [some (.inr (some (31, 0))), some (.inl (nI k))] [] N = some (some (.inl (nI (i + 1))), N)) := by
  obtain ⟨hX, hY, -, -, -, ⟨n, n1, n16, m1, m2, -, hpl, -, hlf, -⟩, -⟩ := h
  have hq := jb_last_lt (jy_pp N k) n n1
  obtain ⟨i, hi, p1, p2⟩ := hpl _ hq
  have hx : ∀ d, jm_D d 43 0 [some (.inr (some (5, 0))), some (.inl (nI k)), none] [] M = some (some (.inl (nI (jb_last (jy_pp N k) n))), M) := by
    intro d
    have := xPl0 (d := d) hX n16 hk hpl (fun i hi => ⟨(hlf i hi).2.2.1, (hlf i hi).2.2.2.2⟩) (n - 1) (by omega)
    rw [Nat.sub_add_cancel n1] at this
    rw [← this]
    simp only [e43_0, e43_1, e43_2, e43_3, e43_4, m1, pk_sub n1]
  have hy : ∀ d, jm_D (d + 1) 117 0 [some (.inr (some (31, 0))), some (.inl (nI k)), none, none, none] [] N = some (some (.inl (nI (jb_last (jy_pp N k) n))), N) := by
    intro d
    have := yPl0 (d := d) hY n16 hk m2 n 0 none (by omega)
    rw [← this]
    simp only [e117_0, e117_1, e117_2, e117_3]
    rfl
  refine ⟨n, _, i, n16, hq, hi, rfl, m1, m2, p1, p2, hx, fun d => xLeafAt hX (by omega) (by omega) p1, hy, fun d => ?_⟩
  simp only [e116_0, e116_1, e116_2, e116_3, e116_4, e116_5, e116_6, ys_0 hY, ys_1 hY, ys_2 hY, ys_3 hY, ys_4 hY, ys_5 hY, ys_6 hY, ys_7 hY, ys_8 hY, ys_9 hY, ys_10 hY, ys_11 hY, ys_12 hY, ys_13 hY, ys_14 hY, ys_15 hY, ys_16 hY, ys_17 hY, ys_18 hY, ys_19 hY, ys_20 hY, ys_21 hY, ys_22 hY, ys_23 hY, ys_24 hY, ys_25 hY, ys_26 hY, ys_27 hY, ys_28 hY, ys_29 hY, ys_30 hY, ys_31 hY, ys_32 hY, ys_33 hY, ys_34 hY, ys_35 hY, ys_36 hY, ys_37 hY, ys_38 hY, ys_39 hY, ys_40 hY, ys_41 hY, ys_42 hY, ys_43 hY, ys_44 hY, ys_45 hY, ys_46 hY, ys_47 hY, ys_48 hY, ys_49 hY, ys_50 hY, ys_51 hY, ys_52 hY, ys_53 hY, ys_54 hY, ys_55 hY, ys_56 hY, ys_57 hY, ys_58 hY, ys_59 hY, ys_60 hY, ys_61 hY, ys_62 hY, ys_63 hY, ys_64 hY, ys_65 hY, ys_66 hY, ys_67 hY, ys_68 hY, ys_69 hY, ys_70 hY, ys_71 hY, ys_72 hY, ys_73 hY, ys_74 hY, ys_75 hY, ys_76 hY, ys_77 hY, hy, jb_some, jb_tl, jb_ix (show jb_last (jy_pp N k) n < 40 by omega) (by decide), p2]
/-- a leaf kept -/
theorem sm_node {E C w t i n : Nat} {M N : jm_M} (h : jr_W E C M N w t) (hw : w < 4) (hi : i < n) (hn : n ≤ 16) (hn2 : jm_I N 31 0 11 = nI n) : ∃ M' N', (∀ d, jm_D d 45 0 [some (.inr (some (11, w))), some (.inr (some (17, i)))] [] M = some (none, M')) ∧ (∀ d, jm_D d 119 0 [some (.inr (some (31, 0))), some (.inl (nI w)), some (.inl (nI (i + 1)))] [] N = some (none, N')) ∧ jr_W E C M' N' w t ∧ (∀ k, k ≠ 57 → jm_I N' k = jm_I N k) ∧ jr_Z M M' ∧ jr_Z N N' := by
  have h' := h
  obtain ⟨⟨hX, hY, hN, -, -, ⟨n', n1, n16, m1, m2, -, hpl, -, hlf, -⟩, -⟩, -, -, hr⟩ := h
  have en : n' = n := (nI_eq (by omega) (by omega)).mp (m2.symm.trans hn2)
  subst en
  obtain ⟨-, -, -, ⟨v, v0, v1, v2⟩, -⟩ := hlf i hi
  have hcn := jb_cnt_le (fun k => !decide (jm_I N 37 0 k = nI 0)) 32
  obtain ⟨-, -, -, -, -, -, -, -, -, ⟨-, hnd⟩, -⟩ := hr
  obtain ⟨d1, d2⟩ := hnd i (by omega)
  have d1 := d1 (by omega)
  have g0 := hN.2.1 i (by omega)
  have hi16 : i < 16 := by omega
  rcases d2 with d2 | ⟨m, u, -, -, hu, -, d2⟩
  · rw [d2] at d1
    have c1 : ¬ (nI 0 ≤ (-1 : Int32)) := by decide
    refine ⟨_, _, ?_, ?_, jr_node h' hw hi n16 hn2 (show v ≤ 64 by omega) d1, fun k hk => funext fun a => funext fun b => jb_Iz hk _ _ _ _ _ _, ⟨rfl, rfl⟩, rfl, rfl⟩
    · intro d
      have e1 : jm_I (jm_setI M 14 w i (nI v)) 11 w 10 = jm_I M 11 w 10 := rfl
      simp only [e45_0, e45_1, e45_2, e45_3, e45_4, e45_5, e45_6, e45_7, e45_8, e45_9, e45_10, e45_11, e45_12, e45_13, e45_14, e45_15, e45_16, e45_17, e45_18, e45_19, e45_20, e45_21, e45_22, e45_23, e45_24, xw_0 hX hw, xw_1 hX hw, xw_2 hX hw, xw_3 hX hw, xw_4 hX hw, xw_5 hX hw, xw_6 hX hw, xw_7 hX hw, xw_8 hX hw, g0, jb_sub1, jb_ix hi16 (by decide), d1, if_true, v1, e1]
    · intro d
      simp only [e119_0, e119_1, e119_2, e119_3, e119_4, e119_5, e119_6, e119_7, e119_8, e119_9, e119_10, e119_11, e119_12, e119_13, e119_14, e119_15, e119_16, e119_17, e119_18, e119_19, e119_20, e119_21, ys_0 hY, ys_1 hY, ys_2 hY, ys_3 hY, ys_4 hY, ys_5 hY, ys_6 hY, ys_7 hY, ys_8 hY, ys_9 hY, ys_10 hY, ys_11 hY, ys_12 hY, ys_13 hY, ys_14 hY, ys_15 hY, ys_16 hY, ys_17 hY, ys_18 hY, ys_19 hY, ys_20 hY, ys_21 hY, ys_22 hY, ys_23 hY, ys_24 hY, ys_25 hY, ys_26 hY, ys_27 hY, ys_28 hY, ys_29 hY, ys_30 hY, ys_31 hY, ys_32 hY, ys_33 hY, ys_34 hY, ys_35 hY, ys_36 hY, ys_37 hY, ys_38 hY, ys_39 hY, ys_40 hY, ys_41 hY, ys_42 hY, ys_43 hY, ys_44 hY, ys_45 hY, ys_46 hY, ys_47 hY, ys_48 hY, ys_49 hY, ys_50 hY, ys_51 hY, ys_52 hY, ys_53 hY, ys_54 hY, ys_55 hY, ys_56 hY, ys_57 hY, ys_58 hY, ys_59 hY, ys_60 hY, ys_61 hY, ys_62 hY, ys_63 hY, ys_64 hY, ys_65 hY, ys_66 hY, ys_67 hY, ys_68 hY, ys_69 hY, ys_70 hY, ys_71 hY, ys_72 hY, ys_73 hY, ys_74 hY, ys_75 hY, ys_76 hY, ys_77 hY, pk_mul, nI_add, jb_ix (show 40 * w + (i + 1) < 160 by omega) (by decide), d2, if_neg c1, jb_ix (show i + 1 < 40 by omega) (by decide), v2]
  · rw [d2] at d1
    have hns : ¬ nI u = -1 := by
      intro e
      have := congrArg Int32.toInt e
      rw [nI_toInt (by omega)] at this
      have h3 : ((-1 : Int32)).toInt = -1 := by decide
      omega
    have c1 : nI 0 ≤ nI u := nI_le (by omega) (by omega)
    refine ⟨M, N, ?_, ?_, h', fun k _ => rfl, ⟨rfl, rfl⟩, rfl, rfl⟩
    · intro d
      simp only [e45_0, e45_1, e45_2, e45_3, e45_4, e45_5, e45_6, e45_7, e45_8, e45_9, e45_10, e45_11, e45_12, e45_13, e45_14, e45_15, e45_16, e45_17, e45_18, e45_19, e45_20, e45_21, e45_22, e45_23, e45_24, xw_0 hX hw, xw_1 hX hw, xw_2 hX hw, xw_3 hX hw, xw_4 hX hw, xw_5 hX hw, xw_6 hX hw, xw_7 hX hw, xw_8 hX hw, g0, jb_sub1, jb_ix hi16 (by decide), d1, if_neg hns]
    · intro d
      simp only [e119_0, e119_1, e119_2, e119_3, e119_4, e119_5, e119_6, e119_7, e119_8, e119_9, e119_10, e119_11, e119_12, e119_13, e119_14, e119_15, e119_16, e119_17, e119_18, e119_19, e119_20, e119_21, ys_0 hY, ys_1 hY, ys_2 hY, ys_3 hY, ys_4 hY, ys_5 hY, ys_6 hY, ys_7 hY, ys_8 hY, ys_9 hY, ys_10 hY, ys_11 hY, ys_12 hY, ys_13 hY, ys_14 hY, ys_15 hY, ys_16 hY, ys_17 hY, ys_18 hY, ys_19 hY, ys_20 hY, ys_21 hY, ys_22 hY, ys_23 hY, ys_24 hY, ys_25 hY, ys_26 hY, ys_27 hY, ys_28 hY, ys_29 hY, ys_30 hY, ys_31 hY, ys_32 hY, ys_33 hY, ys_34 hY, ys_35 hY, ys_36 hY, ys_37 hY, ys_38 hY, ys_39 hY, ys_40 hY, ys_41 hY, ys_42 hY, ys_43 hY, ys_44 hY, ys_45 hY, ys_46 hY, ys_47 hY, ys_48 hY, ys_49 hY, ys_50 hY, ys_51 hY, ys_52 hY, ys_53 hY, ys_54 hY, ys_55 hY, ys_56 hY, ys_57 hY, ys_58 hY, ys_59 hY, ys_60 hY, ys_61 hY, ys_62 hY, ys_63 hY, ys_64 hY, ys_65 hY, ys_66 hY, ys_67 hY, ys_68 hY, ys_69 hY, ys_70 hY, ys_71 hY, ys_72 hY, ys_73 hY, ys_74 hY, ys_75 hY, ys_76 hY, ys_77 hY, pk_mul, nI_add, jb_ix (show 40 * w + (i + 1) < 160 by omega) (by decide), d2, if_pos c1]
