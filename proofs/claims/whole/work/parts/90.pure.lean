/-! A crash: what is left between the two halves. -/
theorem jb_div {s : Nat} (h : s < 2 ^ 31) : nI s / nI 1024 = nI (s / 1024) := by
  apply Int32.toInt_inj.mp
  rw [Int32.toInt_div, nI_toInt h, nI_toInt (by decide), nI_toInt (by omega)]
  have : (s : Int).tdiv ((1024 : Nat) : Int) = ((s / 1024 : Nat) : Int) := by
    rw [Int.tdiv_eq_ediv_of_nonneg (by omega)]
    rfl
  rw [this]
  apply Int.bmod_eq_of_le <;> omega
def jy_q4 (N : jm_M) (m : Int32) (T : Nat) : jm_M := jm_setI (jm_setI (jm_setI (jm_setI (jm_setK (jm_setK N 64 (jy_ft N m T 0 (jm_I N 64))) 37 (jk_row 0 0 32 (fun _ => nI 0) (jm_I N 37))) 31 0 11 (nI 1)) 31 0 12 (nI 1)) 43 0 0 (nI 1)) 44 0 1 (nI 0)
theorem yCr1 {d T : Nat} {m : Int32} {N : jm_M} (hY : jy_S N) (hT : T ≤ 100) (hTn : jm_I N 31 0 34 = nI T) (hm : m = jx_min (fun w => jm_I N 62 0 w)) : jm_D (d + 1) 138 0 [some (.inr (some (31, 0))), none, none, none, none] [] N = jm_D (d + 1) 138 64 [some (.inr (some (31, 0))), some (.inl m), some (.inl (nI 0)), none, none] [] (jy_q4 N m T) := by
  have h0 := yFt (d := d) (m := m) hY hT hTn T 0 (jm_I N 64) (by omega) (fun _ _ => rfl)
  rw [jk_id] at h0
  have h1 := yTh (d := d + 1) (m := m) (N := jm_setK N 64 (jy_ft N m T 0 (jm_I N 64))) hY 32 0 (jm_I N 37) rfl
  have e : jm_setK (jm_setK N 64 (jy_ft N m T 0 (jm_I N 64))) 37 (jm_I N 37) = jm_setK N 64 (jy_ft N m T 0 (jm_I N 64)) := jk_id _ 37
  rw [e] at h1
  have hD := yDur (d := d) hY
  rw [← hm] at hD
  have p1 : jm_D (d + 1) 138 0 [some (.inr (some (31, 0))), none, none, none, none] [] N = jm_D (d + 1) 138 5 [some (.inr (some (31, 0))), some (.inl m), some (.inl (nI (0 + 1))), none, none] [] N := by
    simp only [e138_0, e138_1, e138_2, e138_3, e138_4, hD, jb_some, jb_tl]
  rw [p1, h0, e138_34, e138_35, h1]
  simp only [e138_46, e138_47, e138_48, e138_49, e138_50, e138_51, e138_52, e138_53, e138_54, e138_55, e138_56, e138_57, e138_58, e138_59, e138_60, e138_61, e138_62, e138_63, jb_FI, jb_nI, jk_F, jk_n, ys_0 hY, ys_1 hY, ys_2 hY, ys_3 hY, ys_4 hY, ys_5 hY, ys_6 hY, ys_7 hY, ys_8 hY, ys_9 hY, ys_10 hY, ys_11 hY, ys_12 hY, ys_13 hY, ys_14 hY, ys_15 hY, ys_16 hY, ys_17 hY, ys_18 hY, ys_19 hY, ys_20 hY, ys_21 hY, ys_22 hY, ys_23 hY, ys_24 hY, ys_25 hY, ys_26 hY, ys_27 hY, ys_28 hY, ys_29 hY, ys_30 hY, ys_31 hY, ys_32 hY, ys_33 hY, ys_34 hY, ys_35 hY, ys_36 hY, ys_37 hY, ys_38 hY, ys_39 hY, ys_40 hY, ys_41 hY, ys_42 hY, ys_43 hY, ys_44 hY, ys_45 hY, ys_46 hY, ys_47 hY, ys_48 hY, ys_49 hY, ys_50 hY, ys_51 hY, ys_52 hY, ys_53 hY, ys_54 hY, ys_55 hY, ys_56 hY, ys_57 hY, ys_58 hY, ys_59 hY, ys_60 hY, ys_61 hY, ys_62 hY, ys_63 hY, ys_64 hY, ys_65 hY, ys_66 hY, ys_67 hY, ys_68 hY, ys_69 hY, ys_70 hY, ys_71 hY, ys_72 hY, ys_73 hY, ys_74 hY, ys_75 hY, ys_76 hY, ys_77 hY, jb_ix (show 0 < 40 by decide) (by decide), jb_ix (show 1 < 40 by decide) (by decide)]
  rfl
theorem jq_64 {N : jm_M} {m : Int32} {T t : Nat} (ht : t < T) : jm_I (jy_q4 N m T) 64 0 (t + 1) = if jc_ls N (jy_kn N m) t = true then nI 5 else jm_I N 64 0 (t + 1) := by
  have e : jm_I (jy_q4 N m T) 64 0 (t + 1) = jy_ft N m T 0 (jm_I N 64) 0 (t + 1) := rfl
  rw [e]
  unfold jy_ft
  rw [Nat.add_sub_cancel]
  by_cases h : jc_ls N (jy_kn N m) t = true
  · rw [if_pos h, if_pos ⟨rfl, by omega, by omega, h⟩]
  · rw [if_neg h, if_neg (fun z => h z.2.2.2)]
theorem jq_lg {N : jm_M} {m : Int32} {T t : Nat} (ht : t < T) : jy_lg (jy_q4 N m T) t ↔ jy_lg N t ∧ jy_kn N m t = true := by
  unfold jy_lg
  rw [jq_64 ht]
  unfold jc_ls
  by_cases h1 : jm_I N 64 0 (t + 1) = nI 1
  · rw [decide_eq_true h1, Bool.true_or, if_pos rfl, h1]
    exact ⟨fun z => by rcases z with z | z <;> exact absurd z (by decide), fun z => by rcases z.1 with z | z <;> exact absurd z (by decide)⟩
  · rw [decide_eq_false h1, Bool.false_or]
    by_cases h2 : jm_I N 64 0 (t + 1) = nI 2 ∨ jm_I N 64 0 (t + 1) = nI 3
    · have hb : (decide (jm_I N 64 0 (t + 1) = nI 2) || decide (jm_I N 64 0 (t + 1) = nI 3)) = true := by
        rcases h2 with h | h
        · rw [decide_eq_true h, Bool.true_or]
        · rw [decide_eq_true h, Bool.or_true]
      rw [hb, Bool.true_and]
      cases hk : jy_kn N m t with
      | true =>
        rw [if_neg (by decide)]
        exact ⟨fun z => ⟨z, rfl⟩, fun z => z.1⟩
      | false =>
        rw [if_pos (show (!false) = true from rfl)]
        exact ⟨fun z => by rcases z with z | z <;> exact absurd z (by decide), fun z => absurd z.2 (by decide)⟩
    · rw [decide_eq_false (fun z => h2 (Or.inl z)), decide_eq_false (fun z => h2 (Or.inr z)), Bool.or_false, Bool.false_and, if_neg (by decide)]
      exact ⟨fun z => absurd z h2, fun z => absurd z.1 h2⟩
theorem jq_n1 {N : jm_M} {m : Int32} {T t : Nat} (ht : t < T) : ¬ jm_I (jy_q4 N m T) 64 0 (t + 1) = nI 1 := by
  rw [jq_64 ht]
  by_cases h : jc_ls N (jy_kn N m) t = true
  · rw [if_pos h]; decide
  · rw [if_neg h]
    intro z
    apply h
    unfold jc_ls
    rw [decide_eq_true z, Bool.true_or]
theorem jq_kl {M N Q : jm_M} {m : Int32} {v : Nat} (hc : jm_c Q 25 = jm_c M 25) : jy_kl (jx_em Q) (jy_q4 N m (jm_c M 25)) v = (jy_kl M N v).filter (jy_kn N m) := by
  have hc' : jm_c (jx_em Q) 25 = jm_c M 25 := hc
  unfold jy_kl
  rw [hc', List.filter_filter]
  refine List.filter_congr (fun t ht => ?_)
  have ht := List.mem_range.mp ht
  have hlg : ∀ (N' : jm_M), (decide (jm_I N' 64 0 (t + 1) = nI 2) || decide (jm_I N' 64 0 (t + 1) = nI 3)) = true ↔ jy_lg N' t := by
    intro N'
    unfold jy_lg
    simp only [Bool.or_eq_true, decide_eq_true_eq]
  have e63 : jm_I (jy_q4 N m (jm_c M 25)) 63 0 (t + 1) = jm_I N 63 0 (t + 1) := rfl
  rw [Bool.eq_iff_iff]
  unfold jy_kp
  rw [e63, Bool.and_eq_true, Bool.and_eq_true, Bool.and_eq_true, hlg, hlg, jq_lg ht]
  exact ⟨fun z => ⟨z.1.2, z.1.1, z.2⟩, fun z => ⟨⟨z.2.1, z.1⟩, z.2.2⟩⟩
theorem jq_un {M N Q : jm_M} (h : rU M N) (hc : jm_c Q 25 = jm_c M 25) {m : Int32} : jr_un (jx_em Q) (jy_q4 N m (jm_c M 25)) := by
  obtain ⟨b, -, -, -, -, h5, -⟩ := h
  intro t u k ht hu hk hne g1 g2 w1 w2
  have ht' : t < jm_c M 25 := by rw [← hc]; exact ht
  have hu' : u < jm_c M 25 := by rw [← hc]; exact hu
  exact h5 t u k ht' hu' hk hne ((jq_lg ht').mp g1).1 ((jq_lg hu').mp g2).1 w1 w2
theorem jq_S {C : Nat} {N Q : jm_M} {m : Int32} {T' : Nat} : rS C (jx_em Q) (jy_q4 N m T') ∧ (∀ j, j < 32 → jm_I (jx_em Q) 22 0 j = nI 0) ∧ ∀ j, j < 32 → jm_I (jy_q4 N m T') 37 0 j = nI 0 := by
  have a : ∀ j, j < 32 → jm_I (jx_em Q) 19 0 j = nI 0 ∧ jm_I (jx_em Q) 20 0 j = nI 0 ∧ jm_I (jx_em Q) 21 0 j = nI 0 ∧ jm_I (jx_em Q) 22 0 j = nI 0 := fun j hj => ⟨(show jk_row 0 0 32 (fun _ => nI 0) (jm_I Q 19) 0 j = nI 0 from jk_in (Nat.zero_le _) hj), (show jk_row 0 0 32 (fun _ => nI 0) (jm_I Q 20) 0 j = nI 0 from jk_in (Nat.zero_le _) hj), (show jk_row 0 0 32 (fun _ => nI 0) (jm_I Q 21) 0 j = nI 0 from jk_in (Nat.zero_le _) hj), (show jk_row 0 0 32 (fun _ => nI 0) (jm_I Q 22) 0 j = nI 0 from jk_in (Nat.zero_le _) hj)⟩
  have b : ∀ j, j < 32 → jm_I (jy_q4 N m T') 37 0 j = nI 0 := fun j hj => (show jk_row 0 0 32 (fun _ => nI 0) (jm_I N 37) 0 j = nI 0 from jk_in (Nat.zero_le _) hj)
  exact ⟨fun j hj => Or.inl ⟨b j hj, a j hj⟩, fun j hj => (a j hj).2.2.2, b⟩
theorem jq_L {N Q : jm_M} {m : Int32} {T' : Nat} : rL (jx_em Q) (jy_q4 N m T') := by
  have b : ∀ j, j < 32 → jm_I (jy_q4 N m T') 37 0 j = nI 0 := (jq_S (C := 0) (Q := Q)).2.2
  have hl : ∀ i, jy_lf (jy_q4 N m T') i = [] := by
    intro i
    unfold jy_lf
    rw [List.filter_eq_nil_iff]
    intro x hx
    rw [jy_at_f0 (b x (List.mem_range.mp hx))]
    decide
  refine ⟨1, by decide, by decide, jb_Is _ _ _ _ _, jb_Is (jm_setK (jm_setK N 64 (jy_ft N m T' 0 (jm_I N 64))) 37 (jk_row 0 0 32 (fun _ => nI 0) (jm_I N 37))) 31 0 11 (nI 1), jb_Is (jm_setI (jm_setK (jm_setK N 64 (jy_ft N m T' 0 (jm_I N 64))) 37 (jk_row 0 0 32 (fun _ => nI 0) (jm_I N 37))) 31 0 11 (nI 1)) 31 0 12 (nI 1), fun q hq => ?_, fun i hi _ => ⟨(show jx_lv (jm_I Q 17) 0 i 2 = nI 0 from if_pos ⟨Nat.zero_le _, hi, Or.inl rfl⟩), (show jx_lv (jm_I Q 17) 0 i 3 = nI 0 from if_pos ⟨Nat.zero_le _, hi, Or.inr rfl⟩)⟩, fun i hi => ?_, fun k hk h => absurd (b k hk) h⟩
  · obtain rfl : q = 0 := by omega
    exact ⟨0, by decide, jb_Is (jm_setK (jm_setK (jm_setK (jm_setK (jm_setK Q 19 (jk_row 0 0 32 (fun _ => nI 0) (jm_I Q 19))) 20 (jk_row 0 0 32 (fun _ => nI 0) (jm_I Q 20))) 21 (jk_row 0 0 32 (fun _ => nI 0) (jm_I Q 21))) 22 (jk_row 0 0 32 (fun _ => nI 0) (jm_I Q 22))) 17 (jx_lv (jm_I Q 17) 0)) 24 0 0 (nI 0), jb_Is (jm_setI (jm_setI (jm_setK (jm_setK N 64 (jy_ft N m T' 0 (jm_I N 64))) 37 (jk_row 0 0 32 (fun _ => nI 0) (jm_I N 37))) 31 0 11 (nI 1)) 31 0 12 (nI 1)) 43 0 0 (nI 1)⟩
  · obtain rfl : i = 0 := by omega
    rw [hl 0]
    exact ⟨(show jx_lv (jm_I Q 17) 0 0 2 = nI 0 from if_pos ⟨Nat.zero_le _, by decide, Or.inl rfl⟩), by decide, fun h => absurd h (by decide), ⟨0, Nat.zero_le _, (show jx_lv (jm_I Q 17) 0 0 3 = nI 0 from if_pos ⟨Nat.zero_le _, by decide, Or.inr rfl⟩), jb_Is _ _ _ _ _⟩, fun j k hj => by cases hj⟩
