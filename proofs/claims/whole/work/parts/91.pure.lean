/-! A crash: transactions and logs that are left. -/
theorem jq_T4 {E C : Nat} {M N Q : jm_M} {m : Int32} (h : jr_R E C M N) (hI : jc_I M N m (jy_kn N m) 4 Q) : rT C (jx_em Q) (jy_q4 N m (jm_c M 25)) := by
  obtain ⟨⟨⟨j1, j2, j3, j4⟩, jF, jI, j11, j25⟩, i2, i3, i4, i5⟩ := hI
  have hG := h.2.2.2.2.2.2.2.2.1
  obtain ⟨T1, T2, T3, T4, T5, T6⟩ := h.2.2.2.2.2.2.2.1
  have hc : ∀ K, jm_c (jx_em Q) K = jm_c M K := fun K => congrFun j2 K
  refine ⟨by rw [hc]; exact T1, by rw [hc, hc]; exact T2, by rw [hc, hc]; exact T3, by rw [hc]; exact T4, ?_, fun t ht => ?_⟩
  · rw [hc]
    refine jx_Lw (M := M) T5 (jI 4 0 1 (by decide) (by decide) (by decide) (by decide)) (jF 4 0 0 (by decide) (by decide)) j1 j2 (fun a b hab hF j => i4 a b j (fun v hv z => ?_))
    have := hG.2.2 v hv (a, b) z hF
    have : a = 74 := congrArg Prod.fst this
    omega
  · rw [hc] at ht
    obtain ⟨a1, a2, a3, a4, a5, ⟨f, b1, b2, b3, b4⟩, ⟨w, c1, c2⟩, -, d2⟩ := T6 t ht
    have e4 : jm_I (jx_em Q) 25 t 4 = if jc_ls N (jy_kn N m) t = true then nI 5 else jm_I M 25 t 4 := by
      have := i5 t w ht c1 c2
      by_cases hq : jc_ls N (jy_kn N m) t = true
      · rw [if_pos hq]
        rw [if_pos ⟨c1, hq⟩] at this
        exact this
      · rw [if_neg hq]
        rw [if_neg (fun z => hq z.2)] at this
        exact this
    have n26 : jm_n (jx_em Q) 26 (t + 4) = jm_n M 26 (t + 4) := congrFun (congrFun j1 26) (t + 4)
    have n27 : jm_n (jx_em Q) 27 (t + 4) = jm_n M 27 (t + 4) := congrFun (congrFun j1 27) (t + 4)
    refine ⟨(j25 t 0 (by decide)).trans a1, (jF 25 t 1 (by decide) (by decide)).trans a2, (jF 25 t 2 (by decide) (by decide)).trans a3, n26.trans a4, n27.trans a5, ?_, ⟨w, c1, c2⟩, fun z => absurd z (jq_n1 ht), fun z => ?_⟩
    · rw [e4, jq_64 ht]
      by_cases hq : jc_ls N (jy_kn N m) t = true
      · rw [if_pos hq, if_pos hq]
        exact ⟨5, by decide, by decide, rfl, rfl⟩
      · rw [if_neg hq, if_neg hq]
        exact ⟨f, b1, b2, b3, b4⟩
    · obtain ⟨⟨s, s1, s2, s3⟩, s4, s5⟩ := d2 ((jq_lg ht).mp z).1
      refine ⟨⟨s, s1, (j25 t 6 (by decide)).trans s2, s3⟩, (j25 t 5 (by decide)).trans s4, fun k hk => ?_⟩
      exact rWr_cg (s5 k hk) (jI 26 (t + 4) k (by decide) (by decide) (by decide) (by decide)) (jI 27 (t + 4) k (by decide) (by decide) (by decide) (by decide)) rfl rfl rfl
theorem jq_G4 {E C : Nat} {M N Q : jm_M} {m : Int32} (h : jr_R E C M N) (hI : jc_I M N m (jy_kn N m) 4 Q) : rG (jx_em Q) (jy_q4 N m (jm_c M 25)) := by
  obtain ⟨⟨⟨j1, j2, j3, j4⟩, jF, jI, j11, j25⟩, i2, i3, i4, i5⟩ := hI
  have hG := h.2.2.2.2.2.2.2.2.1
  have f16 : ∀ v, jm_F (jx_em Q) 16 v 0 = jm_F M 16 v 0 := fun v => jF 16 v 0 (by decide) (by decide)
  have f4 : jm_F (jx_em Q) 4 0 0 = jm_F M 4 0 0 := jF 4 0 0 (by decide) (by decide)
  refine ⟨fun w hw => ?_, fun w v hw hv hne q h1 h2 => ?_, fun w hw q h1 h2 => ?_⟩
  · rw [jq_kl (congrFun j2 25)]
    obtain ⟨x1, x2, x3, -⟩ := i2 w hw hw
    obtain ⟨-, dc, dc1, dc2, dc3⟩ := hG.1 w hw
    have hsplit : (jy_kl M N w).filter (jy_kn N m) = ((jy_kl M N w).take dc).filter (jy_kn N m) ++ ((jy_kl M N w).drop dc).filter (jy_kn N m) := by
      rw [← List.filter_append, List.take_append_drop]
    refine ⟨x1, (((jy_kl M N w).take dc).filter (jy_kn N m)).length, ?_, x3 dc dc1 dc2, fun j t hj => ?_⟩
    · rw [hsplit, List.length_append]
      omega
    · have e67 : jm_I (jy_q4 N m (jm_c M 25)) 67 0 (t + 1) = jm_I N 67 0 (t + 1) := rfl
      rw [e67]
      rw [hsplit] at hj
      by_cases hlt : j < (((jy_kl M N w).take dc).filter (jy_kn N m)).length
      · rw [if_pos hlt]
        rw [List.getElem?_append_left hlt] at hj
        have hm := (List.mem_filter.mp (List.mem_of_getElem? hj)).1
        obtain ⟨i, hi⟩ := List.mem_iff_getElem?.mp hm
        have hi2 : i < dc := by
          have := (List.getElem?_eq_some_iff.mp hi).1
          rw [List.length_take] at this
          omega
        rw [List.getElem?_take_of_lt hi2] at hi
        rw [dc3 i t hi, if_pos hi2]
      · rw [if_neg hlt]
        rw [List.getElem?_append_right (by omega)] at hj
        have hm := (List.mem_filter.mp (List.mem_of_getElem? hj)).1
        obtain ⟨i, hi⟩ := List.mem_iff_getElem?.mp hm
        rw [List.getElem?_drop] at hi
        rw [dc3 (dc + i) t hi, if_neg (by omega)]
  · rw [f16] at h1 h2
    exact hG.2.1 w v hw hv hne q h1 h2
  · rw [f16] at h1
    rw [f4] at h2
    exact hG.2.2 w hw q h1 h2
theorem jx_min_in {E : Nat} {M N : jm_M} (h : rE E M N) : ∃ x, x < E ∧ jx_min (fun w => jm_I N 62 0 w) = nI x := by
  obtain ⟨e, -, -, -, -, hm⟩ := h
  obtain ⟨m0, a0, -, c0⟩ := hm 0 (by decide)
  obtain ⟨m1, a1, -, c1⟩ := hm 1 (by decide)
  obtain ⟨m2, a2, -, c2⟩ := hm 2 (by decide)
  obtain ⟨m3, a3, -, c3⟩ := hm 3 (by decide)
  simp only [jx_min, c0, c1, c2, c3]
  repeat' split
  all_goals first | exact ⟨m0, a0, rfl⟩ | exact ⟨m1, a1, rfl⟩ | exact ⟨m2, a2, rfl⟩ | exact ⟨m3, a3, rfl⟩
def jy_wk (N : jm_M) (m : Int32) : jm_M := jm_setK (jm_setK (jm_setK (jm_setK N 45 (jk_row 0 0 4 (fun _ => nI 0) (jm_I N 45))) 46 (jk_row 0 0 4 (fun _ => nI 0) (jm_I N 46))) 61 (jk_row 0 0 4 (fun _ => nI 0) (jm_I N 61))) 62 (jk_row 0 0 4 (fun _ => m) (jm_I N 62))
theorem jr_crash {E C mm : Nat} {M N Q M5 N5 : jm_M} (h : jr_R E C M N) (hC : C < 2 ^ 31) (hE2 : E < 2 ^ 20) (hmm : mm < E) (hI : jc_I M N (nI mm) (jy_kn N (nI mm)) 4 Q) (hfr : jc_fr (jx_em Q) (jy_q4 N (nI mm) (jm_c M 25)) M5 N5) (hL : rL M5 N5) (hS : rS C M5 N5) (h22 : ∀ j, j < 32 → jm_I M5 22 0 j = nI 0) : jr_R E C (jm_setI M5 0 0 5 (nI (mm + 1))) (jm_setI (jy_wk N5 (nI mm)) 31 0 33 (nI (mm + 1))) := by
  have hT4 := jq_T4 h hI
  have hG4 := jq_G4 h hI
  have hXQ : jx_S Q := jc_X hI.1 h.1
  have hX4 : jx_S (jx_em Q) := hXQ
  have hY4 : jy_S (jy_q4 N (nI mm) (jm_c M 25)) := h.2.1
  obtain ⟨f1, f2, f3, f4, f5⟩ := jc_frT (C := C) hfr
  have hT5 := f3 hT4
  have hG5 := f4 hG4
  obtain ⟨⟨p1, p2⟩, pI, p17, qI, q31⟩ := hfr
  obtain ⟨⟨⟨j1, j2, j3, j4⟩, jF, jI, j11, j25⟩, i2, i3, i4, i5⟩ := hI
  obtain ⟨-, -, ⟨N1, N2, N3, N4⟩, hP, -, -, hW, hT, hG, hE, hU⟩ := h
  have mI : ∀ K i j, K ≠ 5 → K ≠ 17 → K ≠ 18 → K ≠ 19 → K ≠ 20 → K ≠ 21 → K ≠ 22 → K ≠ 24 → jm_I M5 K i j = jm_I Q K i j := by
    intro K i j a b c d e f g x
    rw [pI K i j a b c d e f g x]
    exact (jb_Iz a _ _ _ _ _ _).trans ((jb_Iz x _ _ _ _ _ _).trans ((jk_z b _ _ _ _).trans ((jk_z g _ _ _ _).trans ((jk_z f _ _ _ _).trans ((jk_z e _ _ _ _).trans (jk_z d _ _ _ _))))))
  have nI' : ∀ K i j, K ≠ 31 → (K < 37 ∨ 44 < K) → K ≠ 64 → jm_I N5 K i j = jm_I N K i j := by
    intro K i j a b c
    rw [qI K i j a b]
    exact (jb_Iz (by omega) _ _ _ _ _ _).trans ((jb_Iz (by omega) _ _ _ _ _ _).trans ((jb_Iz a _ _ _ _ _ _).trans ((jb_Iz a _ _ _ _ _ _).trans ((jk_z (by omega) _ _ _ _).trans (jk_z c _ _ _ _)))))
  have hn5 : jm_n M5 = jm_n M := by
    have : jm_n M5 = jm_n (jx_em Q) := congrArg (fun z => z.2.1) p1
    rw [this]
    exact j1
  have hc5 : jm_c M5 25 = jm_c M 25 := by
    have : jm_c M5 = jm_c (jx_em Q) := congrArg (fun z => z.2.2.1) p1
    rw [this]
    exact congrFun j2 25
  have row : ∀ (K : Nat) (v : Int32) (g : Nat → Nat → Int32) (w : Nat), w < 4 → jk_row 0 0 4 (fun _ => v) g 0 w = v := fun K v g w hw => jk_in (Nat.zero_le _) hw
  have w45 : ∀ w, w < 4 → jm_I (jm_setI (jy_wk N5 (nI mm)) 31 0 33 (nI (mm + 1))) 45 0 w = nI 0 := fun w hw => row 45 (nI 0) (jm_I N5 45) w hw
  have w46 : ∀ w, w < 4 → jm_I (jm_setI (jy_wk N5 (nI mm)) 31 0 33 (nI (mm + 1))) 46 0 w = nI 0 := fun w hw => row 46 (nI 0) (jm_I N5 46) w hw
  have w61 : ∀ w, w < 4 → jm_I (jm_setI (jy_wk N5 (nI mm)) 31 0 33 (nI (mm + 1))) 61 0 w = nI 0 := fun w hw => row 61 (nI 0) (jm_I N5 61) w hw
  have w62 : ∀ w, w < 4 → jm_I (jm_setI (jy_wk N5 (nI mm)) 31 0 33 (nI (mm + 1))) 62 0 w = nI mm := fun w hw => row 62 (nI mm) (jm_I N5 62) w hw
  have hlg5 : ∀ t, jy_lg (jm_setI (jy_wk N5 (nI mm)) 31 0 33 (nI (mm + 1))) t ↔ jy_lg (jy_q4 N (nI mm) (jm_c M 25)) t := by
    intro t
    unfold jy_lg
    have e : jm_I (jm_setI (jy_wk N5 (nI mm)) 31 0 33 (nI (mm + 1))) 64 0 (t + 1) = jm_I (jy_q4 N (nI mm) (jm_c M 25)) 64 0 (t + 1) := qI 64 0 (t + 1) (by decide) (by decide)
    rw [e]
  have no3 : ∀ w, w < 4 → ¬ (jm_I (jm_setI (jy_wk N5 (nI mm)) 31 0 33 (nI (mm + 1))) 45 0 w = nI 3) := fun w hw => by rw [w45 w hw]; decide
  have no4 : ∀ w, w < 4 → ¬ (jm_I (jm_setI (jy_wk N5 (nI mm)) 31 0 33 (nI (mm + 1))) 45 0 w = nI 4) := fun w hw => by rw [w45 w hw]; decide
  refine ⟨f1 hX4, f2 hY4, ⟨fun w hw => ?_, fun i hi => ?_, fun j hj => ?_, ?_⟩, fun p hp => ?_, hS, ?_, fun w hw => ?_, ⟨hT5.1, hT5.2.1, hT5.2.2.1, ?_, hT5.2.2.2.2.1, fun t ht => ?_⟩, hG5, ?_, ?_⟩
  · exact ((mI 11 w 0 (by decide) (by decide) (by decide) (by decide) (by decide) (by decide) (by decide) (by decide)).trans (j11 w 0 (by decide) (by decide))).trans (N1 w hw)
  · have e : jm_I (jx_em Q) 17 i 0 = jm_I Q 17 i 0 := if_neg (by omega)
    exact ((p17 i).trans e).trans ((jI 17 i 0 (by decide) (by decide) (by decide) (by decide)).trans (N2 i hi))
  · obtain ⟨y1, y2, y3⟩ := N3 j hj
    exact ⟨((mI 71 0 j (by decide) (by decide) (by decide) (by decide) (by decide) (by decide) (by decide) (by decide)).trans (jI 71 0 j (by decide) (by decide) (by decide) (by decide))).trans y1, ((mI 72 0 j (by decide) (by decide) (by decide) (by decide) (by decide) (by decide) (by decide) (by decide)).trans (jI 72 0 j (by decide) (by decide) (by decide) (by decide))).trans y2, ((mI 73 0 j (by decide) (by decide) (by decide) (by decide) (by decide) (by decide) (by decide) (by decide)).trans (jI 73 0 j (by decide) (by decide) (by decide) (by decide))).trans y3⟩
  · rw [jb_nI, hn5]
    exact N4
  · have eM : ∀ K, K = 6 ∨ K = 7 ∨ K = 8 ∨ K = 9 ∨ K = 10 → ∀ i j, jm_I (jm_setI M5 0 0 5 (nI (mm + 1))) K i j = jm_I M K i j := by
      intro K hK i j
      exact (jb_Iz (by omega) _ _ _ _ _ _).trans ((mI K i j (by omega) (by omega) (by omega) (by omega) (by omega) (by omega) (by omega) (by omega)).trans (jI K i j (by omega) (by omega) (by omega) (by omega)))
    have eN : ∀ K, 32 ≤ K → K ≤ 36 → ∀ i j, jm_I (jm_setI (jy_wk N5 (nI mm)) 31 0 33 (nI (mm + 1))) K i j = jm_I N K i j := by
      intro K h1 h2 i j
      exact (jb_Iz (by omega) _ _ _ _ _ _).trans ((jk_z (by omega) _ _ _ _).trans ((jk_z (by omega) _ _ _ _).trans ((jk_z (by omega) _ _ _ _).trans ((jk_z (by omega) _ _ _ _).trans (nI' K i j (by omega) (by omega) (by omega))))))
    have hPp := hP p hp
    simp only [eM 6 (by decide), eM 7 (by decide), eM 8 (by decide), eM 9 (by decide), eM 10 (by decide), eN 32 (by decide) (by decide), eN 33 (by decide) (by decide), eN 34 (by decide) (by decide), eN 35 (by decide) (by decide), eN 36 (by decide) (by decide)]
    exact hPp
  · obtain ⟨n, l1, l2, l3, l4, l5, l6, l7, l8, l9⟩ := hL
    exact ⟨n, l1, l2, l3, (jb_Io (by decide) _ _ _ _ _ _).trans l4, (jb_Io (by decide) _ _ _ _ _ _).trans l5, l6, l7, l8, l9⟩
  · obtain ⟨-, -, -, x4, x5⟩ := i2 w hw hw
    refine ⟨0, by decide, (mI 11 w 6 (by decide) (by decide) (by decide) (by decide) (by decide) (by decide) (by decide) (by decide)).trans x4, w45 w hw, ⟨0, Nat.zero_le _, w61 w hw, fun _ => (mI 11 w 12 (by decide) (by decide) (by decide) (by decide) (by decide) (by decide) (by decide) (by decide)).trans x5⟩, fun _ => ⟨w46 w hw, fun k hk => ?_⟩, fun z => absurd rfl z⟩
    have e : jm_I (jm_setI M5 0 0 5 (nI (mm + 1))) 22 0 k = nI 0 := h22 k hk
    rw [e]
    exact fun z => absurd ((nI_eq (by decide) (by omega)).mp z) (by omega)
  · exact (jb_Io (by decide) _ _ _ _ _ _).trans hT5.2.2.2.1
  · obtain ⟨a1, a2, a3, a4, a5, a6, a7, -, a9⟩ := hT5.2.2.2.2.2 t ht
    refine ⟨a1, a2, a3, a4, a5, a6, a7, fun z => absurd z ?_, a9⟩
    have e : jm_I (jm_setI (jy_wk N5 (nI mm)) 31 0 33 (nI (mm + 1))) 64 0 (t + 1) = jm_I (jy_q4 N (nI mm) (jm_c M 25)) 64 0 (t + 1) := qI 64 0 (t + 1) (by decide) (by decide)
    rw [e]
    have ht' : t < jm_c M 25 := by rw [← hc5]; exact ht
    exact jq_n1 ht'
  · refine ⟨mm + 1, by omega, by omega, jb_Is _ _ _ _ _, jb_Is _ _ _ _ _, fun w hw => ⟨mm, hmm, (mI 15 w 2 (by decide) (by decide) (by decide) (by decide) (by decide) (by decide) (by decide) (by decide)).trans (i2 w hw hw).2.1, w62 w hw⟩⟩
  · refine ⟨mm + 1, ⟨mm + 1, by omega, Nat.le_refl _, jb_Is _ _ _ _ _⟩, fun w hw z => ?_, fun t k ht hk hg hw => ?_, fun w k hw hk z _ => absurd z (no4 w hw), fun t u k ht hu hk hne g1 g2 w1 w2 => ?_, fun w t k hw _ _ z => absurd z (no4 w hw), fun w v k hw hv hk hne z => absurd z (no4 w hw)⟩
    · rcases z with z | z
      · exact absurd z (no3 w hw)
      · exact absurd z (no4 w hw)
    · have ht' : t < jm_c M 25 := by rw [← hc5]; exact ht
      obtain ⟨g1, g2⟩ := (jq_lg ht').mp ((hlg5 t).mp hg)
      obtain ⟨⟨s, s1, s2, s3⟩, -⟩ := (hT.2.2.2.2.2 t ht').2.2.2.2.2.2.2.2 g1
      refine ⟨s, by omega, (nI' 65 0 (t + 1) (by decide) (by decide) (by decide)).trans s3, Or.inl ?_⟩
      unfold jy_kn at g2
      rw [s3, jb_div (by omega)] at g2
      have := (nI_leI (by omega) (by omega)).mp (of_decide_eq_true g2)
      omega
    · have ht' : t < jm_c M 25 := by rw [← hc5]; exact ht
      have hu' : u < jm_c M 25 := by rw [← hc5]; exact hu
      have hun := f5 (jq_un (Q := Q) hU (congrFun j2 25))
      exact hun t u k ht hu hk hne g1 g2 w1 w2
