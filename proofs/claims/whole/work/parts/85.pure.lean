/-! A crash in the class: the loop over logs and workers. -/
theorem jc_i11 {M : jm_M} {u j : Nat} (h : j = 6 ∨ j = 12) (x : Int32) : jc_F M (jm_setI M 11 u j x) := ⟨⟨rfl, rfl, rfl, rfl⟩, fun _ _ _ _ _ => rfl, fun K i j' h1 _ _ _ => jb_Iz h1 _ _ _ _ _ _, fun w j' h1 h2 => jb_Io (by omega) _ _ _ _ _ _, fun _ _ _ => rfl⟩
theorem jc_kl {M N : jm_M} {u t : Nat} : t ∈ jy_kl M N u ↔ t < jm_c M 25 ∧ jy_lg N t ∧ jm_I N 63 0 (t + 1) = nI u := by
  unfold jy_kl jy_kp jy_lg
  rw [List.mem_filter, List.mem_range]
  simp only [Bool.and_eq_true, Bool.or_eq_true, decide_eq_true_eq]
/-- a transaction that runs is its worker's -/
theorem jc_run {E C t u : Nat} {M N : jm_M} (h : jr_R E C M N) (ht : t < jm_c M 25) (hu : u < 4) (h63 : jm_I N 63 0 (t + 1) = nI u) (h1 : jm_I N 64 0 (t + 1) = nI 1) : ¬ jm_I M 11 u 6 = nI 0 ∧ jm_F M 11 u 5 = some (25, t) := by
  have hT := h.2.2.2.2.2.2.2.1
  have hT1 := hT.1
  obtain ⟨-, -, -, -, -, -, -, d1, -⟩ := hT.2.2.2.2.2 t ht
  obtain ⟨w, w1, w2, w3⟩ := d1 h1
  obtain ⟨s, s4, s6, s45, -, -, hr⟩ := h.2.2.2.2.2.2.1 w w1
  have s0 : s ≠ 0 := by rintro rfl; exact w2 s45
  obtain ⟨t', r1, r2, r3, r4, -⟩ := hr s0
  have et : t' = t := by
    have := (nI_eq (by omega) (by omega)).mp (r3.symm.trans w3)
    omega
  subst et
  have ew : w = u := (nI_eq (by omega) (by omega)).mp (r4.symm.trans h63)
  subst ew
  exact ⟨by rw [s6]; exact fun z => s0 ((nI_eq (by omega) (by decide)).mp z), r2⟩
theorem jc_run2 {E C u : Nat} {M N : jm_M} (h : jr_R E C M N) (hu : u < 4) (h6 : ¬ jm_I M 11 u 6 = nI 0) : ∃ t, t < jm_c M 25 ∧ jm_F M 11 u 5 = some (25, t) ∧ jm_I N 63 0 (t + 1) = nI u ∧ jm_I N 64 0 (t + 1) = nI 1 := by
  obtain ⟨s, s4, s6, s45, -, -, hr⟩ := h.2.2.2.2.2.2.1 u hu
  have s0 : s ≠ 0 := by rintro rfl; exact h6 s6
  obtain ⟨t', r1, r2, r3, r4, r5, -⟩ := hr s0
  exact ⟨t', r1, r2, r4, r5⟩
theorem xCr1 {d E C u : Nat} {M N M' : jm_M} {m : Int32} {kp : Nat → Bool} (h : jr_R E C M N) (hu : u < 4) (hkp : ∀ v t, t ∈ jy_kl M N v → kp t = decide (jm_I M 25 t 6 / nI 1024 ≤ m)) (hI : jc_I M N m kp u M') : ∃ M2, jm_D (d + 4) 81 5 [some (.inr (some (0, 0))), some (.inl m), some (.inl (nI u))] [] M' = jm_D (d + 4) 81 5 [some (.inr (some (0, 0))), some (.inl m), some (.inl (nI (u + 1)))] [] M2 ∧ jc_I M N m kp (u + 1) M2 := by
  have hX := h.1
  have hI' := hI
  obtain ⟨i1, i2, i3, i4, i5⟩ := hI
  obtain ⟨L1, L2, L3⟩ := i3 u hu (Nat.le_refl _)
  obtain ⟨dc, dc1, dc2, -⟩ := (h.2.2.2.2.2.2.2.2.1.1 u hu).2
  have hX' := jc_X i1 hX
  obtain ⟨M3, r1, r2, r3, r4, r5⟩ := xLose (d := d) (w := u) (dc := dc) (m := m) (kp := kp) hX' hu L1 dc1 ((L2 1).trans dc2) (fun t ht => by rw [hkp u t ht, i1.2.2.2.2 t 6 (by decide)])
  have hW1 : jc_W M' (jm_setI M3 15 u 2 m) u := jc_Wt r2 (jc_i15 m)
  have hF1 : jc_F M (jm_setI M3 15 u 2 m) := jc_Ft i1 hW1.1
  have hX1 := jc_X hF1 hX
  have e6 : jm_I (jm_setI M3 15 u 2 m) 11 u 6 = jm_I M 11 u 6 := (hW1.2.2.1 u 6).trans (L3 6)
  have ef : jm_F (jm_setI M3 15 u 2 m) 11 u 5 = jm_F M 11 u 5 := hF1.2.1 11 u 5 (by decide) (by decide)
  have e25 : ∀ t, t < jm_c M 25 → jm_I N 63 0 (t + 1) = nI u → jm_I (jm_setI M3 15 u 2 m) 25 t 4 = if t ∈ jy_kl M N u ∧ kp t = false then nI 5 else jm_I M 25 t 4 := by
    intro t ht h63
    have : jm_I M' 25 t 4 = jm_I M 25 t 4 := by rw [i5 t u ht hu h63, if_neg (fun z => absurd z.1 (Nat.lt_irrefl _))]
    rw [← this]
    exact r5 t
  have e25' : ∀ t, t < jm_c M 25 → ¬ jm_I N 63 0 (t + 1) = nI u → jm_I (jm_setI M3 15 u 2 m) 25 t 4 = jm_I M' 25 t 4 := by
    intro t ht h63
    have := r5 t
    rw [if_neg (fun z => h63 (jc_kl.mp z.1).2.2)] at this
    exact this
  have q1' : ∀ v, v ≠ u → ∀ j, jm_I (jm_setI M3 15 u 2 m) 15 v j = jm_I M' 15 v j ∧ jm_I (jm_setI M3 15 u 2 m) 16 v j = jm_I M' 16 v j := fun v hv j => hW1.2.1 v hv j
  have q2' : ∀ a b j, jm_F M 16 u 0 ≠ some (a, b) → jm_F (jm_setI M3 15 u 2 m) a b j = jm_F M' a b j := by
    intro a b j hab
    refine hW1.2.2.2 a b j ?_
    rw [i1.2.1 16 u 0 (by decide) (by decide)]
    exact hab
  have e15 : ∀ dc', dc' ≤ (jy_kl M N u).length → jm_I M 15 u 1 = nI dc' → jm_I (jm_setI M3 15 u 2 m) 15 u 1 = nI (((jy_kl M N u).take dc').filter kp).length := by
    intro dc' h1 h2
    have hle : (jy_kl M N u).length ≤ 100 := L1.2.1
    have : dc' = dc := (nI_eq (by omega) (by omega)).mp (h2.symm.trans dc2)
    rw [this]
    exact (jb_Io (by decide) _ _ _ _ _ _).trans r4
  have hnt : ¬ nI 4 ≤ nI u := nI_ge hu (by decide)
  by_cases h6 : jm_I M 11 u 6 = nI 0
  · have z := xLr (d := d + 3) (u := u) (t := 0) (M := jm_setI M3 15 u 2 m) (fun q => absurd (e6.trans h6) q)
    rw [e6, decide_eq_true h6] at z
    refine ⟨jx_lr (jm_setI M3 15 u 2 m) u 0 (!true), ?_, ?_⟩
    · rw [e81_5]
      simp only [e81_0, e81_1, e81_2, e81_3, e81_4, e81_6, e81_7, e81_8, e81_9, e81_10, e81_11, e81_12, e81_13, e81_14, e81_15, e81_16, e81_17, e81_18, e81_19, e81_20, e81_21, e81_22, e81_23, e81_24, e81_25, e81_27, e81_28, e81_29, e81_30, e81_31, e81_32, e81_33, e81_34, e81_35, e81_36, e81_37, e81_38, e81_39, e81_40, xs_0 hX', xs_1 hX', xs_2 hX', xs_3 hX', xs_4 hX', xs_5 hX', xs_6 hX', xs_7 hX', xs_8 hX', xs_9 hX', xs_10 hX', xs_11 hX', xs_12 hX', xs_13 hX', xs_14 hX', xs_15 hX', xs_16 hX', xs_17 hX', xs_18 hX', xs_19 hX', xw_0 hX' hu, xw_1 hX' hu, xw_2 hX' hu, xw_3 hX' hu, xw_4 hX' hu, xw_5 hX' hu, xw_6 hX' hu, xw_7 hX' hu, xw_8 hX' hu, if_neg hnt, jb_ix hu (by decide), r1, jb_some, jb_tn, xs_0 hX1, xs_1 hX1, xs_2 hX1, xs_3 hX1, xs_4 hX1, xs_5 hX1, xs_6 hX1, xs_7 hX1, xs_8 hX1, xs_9 hX1, xs_10 hX1, xs_11 hX1, xs_12 hX1, xs_13 hX1, xs_14 hX1, xs_15 hX1, xs_16 hX1, xs_17 hX1, xs_18 hX1, xs_19 hX1, xw_0 hX1 hu, xw_1 hX1 hu, xw_2 hX1 hu, xw_3 hX1 hu, xw_4 hX1 hu, xw_5 hX1 hu, xw_6 hX1 hu, xw_7 hX1 hu, xw_8 hX1 hu, z, nI_add]
    · refine jc_It h hu hI' (jc_Ft hF1 (jc_i11 (Or.inr rfl) _)) r3 (jb_Is M3 15 u 2 m) e15 ((jb_Io (by decide) _ _ _ _ _ _).trans (e6.trans h6)) (jb_Is _ _ _ _ _) (fun v hv j => ⟨(q1' v hv j).1, (q1' v hv j).2, (jb_Ij hv _ _ _ _ _ _).trans (hW1.2.2.1 v j)⟩) q2' (fun t ht h63 => ?_) e25'
      refine (e25 t ht h63).trans ?_
      have hf : ¬ jm_I N 64 0 (t + 1) = nI 1 := fun z => (jc_run h ht hu h63 z).1 h6
      by_cases hq : jc_ls N kp t = true
      · rw [if_pos hq, if_pos]
        unfold jc_ls at hq
        rw [decide_eq_false hf] at hq
        simp only [Bool.false_or, Bool.and_eq_true, Bool.or_eq_true, decide_eq_true_eq, Bool.not_eq_true'] at hq
        exact ⟨jc_kl.mpr ⟨ht, hq.1, h63⟩, hq.2⟩
      · rw [if_neg hq, if_neg]
        rintro ⟨z1, z2⟩
        apply hq
        unfold jc_ls
        have := (jc_kl.mp z1).2.1
        unfold jy_lg at this
        rw [z2]
        rcases this with w | w
        · rw [decide_eq_true w]; simp
        · rw [decide_eq_true w]; simp
  · obtain ⟨t, t1, t2, t3, t4⟩ := jc_run2 h hu h6
    have z := xLr (d := d + 3) (u := u) (t := t) (M := jm_setI M3 15 u 2 m) (fun _ => ef.trans t2)
    rw [e6, decide_eq_false h6] at z
    refine ⟨jx_lr (jm_setI M3 15 u 2 m) u t (!false), ?_, ?_⟩
    · rw [e81_5]
      simp only [e81_0, e81_1, e81_2, e81_3, e81_4, e81_6, e81_7, e81_8, e81_9, e81_10, e81_11, e81_12, e81_13, e81_14, e81_15, e81_16, e81_17, e81_18, e81_19, e81_20, e81_21, e81_22, e81_23, e81_24, e81_25, e81_27, e81_28, e81_29, e81_30, e81_31, e81_32, e81_33, e81_34, e81_35, e81_36, e81_37, e81_38, e81_39, e81_40, xs_0 hX', xs_1 hX', xs_2 hX', xs_3 hX', xs_4 hX', xs_5 hX', xs_6 hX', xs_7 hX', xs_8 hX', xs_9 hX', xs_10 hX', xs_11 hX', xs_12 hX', xs_13 hX', xs_14 hX', xs_15 hX', xs_16 hX', xs_17 hX', xs_18 hX', xs_19 hX', xw_0 hX' hu, xw_1 hX' hu, xw_2 hX' hu, xw_3 hX' hu, xw_4 hX' hu, xw_5 hX' hu, xw_6 hX' hu, xw_7 hX' hu, xw_8 hX' hu, if_neg hnt, jb_ix hu (by decide), r1, jb_some, jb_tn, xs_0 hX1, xs_1 hX1, xs_2 hX1, xs_3 hX1, xs_4 hX1, xs_5 hX1, xs_6 hX1, xs_7 hX1, xs_8 hX1, xs_9 hX1, xs_10 hX1, xs_11 hX1, xs_12 hX1, xs_13 hX1, xs_14 hX1, xs_15 hX1, xs_16 hX1, xs_17 hX1, xs_18 hX1, xs_19 hX1, xw_0 hX1 hu, xw_1 hX1 hu, xw_2 hX1 hu, xw_3 hX1 hu, xw_4 hX1 hu, xw_5 hX1 hu, xw_6 hX1 hu, xw_7 hX1 hu, xw_8 hX1 hu, z, nI_add]
    · refine jc_It h hu hI' (jc_Ft (jc_Ft (jc_Ft hF1 (jc_i25 (w := u) (t := t) (nI 5)).1) (jc_i11 (Or.inl rfl) _)) (jc_i11 (Or.inr rfl) _)) r3 (jb_Is M3 15 u 2 m) e15 ((jb_Io (by decide) _ _ _ _ _ _).trans (jb_Is _ _ _ _ _)) (jb_Is _ _ _ _ _) (fun v hv j => ⟨(q1' v hv j).1, (q1' v hv j).2, (jb_Ij hv _ _ _ _ _ _).trans ((jb_Ij hv _ _ _ _ _ _).trans (hW1.2.2.1 v j))⟩) q2' (fun t' ht h63 => ?_) (fun t' ht h63 => ?_)
      · have eq : jm_I (jx_lr (jm_setI M3 15 u 2 m) u t (!false)) 25 t' 4 = jm_I (jm_setI (jm_setI M3 15 u 2 m) 25 t 4 (nI 5)) 25 t' 4 := rfl
        rw [eq]
        by_cases e : t' = t
        · subst e
          rw [jb_Is, if_pos]
          unfold jc_ls
          rw [decide_eq_true t4, Bool.true_or]
        · rw [jb_Ij e, e25 t' ht h63]
          have hf : ¬ jm_I N 64 0 (t' + 1) = nI 1 := by
            intro z
            have := (jc_run h ht hu h63 z).2
            rw [t2] at this
            have : (25, t) = (25, t') := Option.some.inj this
            exact e (congrArg Prod.snd this).symm
          by_cases hq : jc_ls N kp t' = true
          · rw [if_pos hq, if_pos]
            unfold jc_ls at hq
            rw [decide_eq_false hf] at hq
            simp only [Bool.false_or, Bool.and_eq_true, Bool.or_eq_true, decide_eq_true_eq, Bool.not_eq_true'] at hq
            exact ⟨jc_kl.mpr ⟨ht, hq.1, h63⟩, hq.2⟩
          · rw [if_neg hq, if_neg]
            rintro ⟨z1, z2⟩
            apply hq
            unfold jc_ls
            have := (jc_kl.mp z1).2.1
            unfold jy_lg at this
            rw [z2]
            rcases this with w | w
            · rw [decide_eq_true w]; simp
            · rw [decide_eq_true w]; simp
      · have hne : t' ≠ t := by rintro rfl; exact h63 t3
        have eq : jm_I (jx_lr (jm_setI M3 15 u 2 m) u t (!false)) 25 t' 4 = jm_I (jm_setI (jm_setI M3 15 u 2 m) 25 t 4 (nI 5)) 25 t' 4 := rfl
        rw [eq, jb_Ij hne]
        exact e25' t' ht h63
theorem xCr {d E C : Nat} {M N : jm_M} {m : Int32} {kp : Nat → Bool} (h : jr_R E C M N) (hkp : ∀ v t, t ∈ jy_kl M N v → kp t = decide (jm_I M 25 t 6 / nI 1024 ≤ m)) : ∃ M2, jm_D (d + 4) 81 5 [some (.inr (some (0, 0))), some (.inl m), some (.inl (nI 0))] [] M = jm_D (d + 4) 81 21 [some (.inr (some (0, 0))), some (.inl m), some (.inl (nI 4))] [] M2 ∧ jc_I M N m kp 4 M2 := by
  obtain ⟨M1, a1, b1⟩ := xCr1 (d := d) h (show 0 < 4 by decide) hkp (jc_I0 h)
  obtain ⟨M2, a2, b2⟩ := xCr1 (d := d) h (show 0 + 1 < 4 by decide) hkp b1
  obtain ⟨M3, a3, b3⟩ := xCr1 (d := d) h (show 0 + 1 + 1 < 4 by decide) hkp b2
  obtain ⟨M4, a4, b4⟩ := xCr1 (d := d) h (show 0 + 1 + 1 + 1 < 4 by decide) hkp b3
  refine ⟨M4, ?_, b4⟩
  rw [a1, a2, a3, a4, e81_5, e81_6, e81_7, if_pos (show nI 4 ≤ nI (0 + 1 + 1 + 1 + 1) by decide)]
