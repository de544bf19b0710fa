/-! A key recovered. -/
theorem sm_place0 {k : Nat} {M N : jm_M} (hX : jx_S M) (hY : jy_S N) (hL : rL M N) (hk : k < 32) : ∃ n q i, n ≤ 16 ∧ q < n ∧ i < n ∧ jm_I M 5 0 6 = nI n ∧ jm_I N 31 0 11 = nI n ∧ jm_I M 24 0 q = nI i ∧ jm_I N 43 0 q = nI (i + 1) ∧ (∀ d, jm_D d 43 0 [some (.inr (some (5, 0))), some (.inl (nI k)), none] [] M = some (some (.inl (nI q)), M)) ∧ (∀ d, jm_D d 44 0 [some (.inr (some (5, 0))), some (.inl (nI q))] [] M = some (some (.inr (some (17, i))), M)) ∧ (∀ d, jm_D (d + 1) 117 0 [some (.inr (some (31, 0))), some (.inl (nI k)), none, none, none] [] N = some (some (.inl (nI q)), N)) := by
  obtain ⟨n, n1, n16, m1, m2, -, hpl, -, hlf, -⟩ := hL
  have hq := jb_last_lt (jy_pp N k) n n1
  obtain ⟨i, hi, p1, p2⟩ := hpl _ hq
  have hx : ∀ d, jm_D d 43 0 [some (.inr (some (5, 0))), some (.inl (nI k)), none] [] M = some (some (.inl (nI (jb_last (jy_pp N k) n))), M) := by
    intro d
    have := xPl0 (d := d) hX n16 hk hpl (fun i hi => ⟨(hlf i hi).2.2.1, (hlf i hi).2.2.2.2⟩) (n - 1) (by omega)
    rw [Nat.sub_add_cancel n1] at this
    rw [← this]
    simp only [e43_0, e43_1, e43_2, e43_3, e43_4, m1, pk_sub n1]
  have hy : ∀ d, jm_D (d + 1) 117 0 [some (.inr (some (31, 0))), some (.inl (nI k)), none, none, none] [] N = some (some (.inl (nI (jb_last (jy_pp N k) n))), N) := by
    intro d
    have := yPl0 (d := d) hY n16 hk m2 n 0 none (by omega)
    rw [← this]
    simp only [e117_0, e117_1, e117_2, e117_3]
    rfl
  exact ⟨n, _, i, n16, hq, hi, m1, m2, p1, p2, hx, fun d => xLeafAt hX (by omega) (by omega) p1, hy⟩
/-- a record added: runs, changes, leaves -/
theorem sm_new {d d' k : Nat} {M N : jm_M} (hX : jx_S M) (hY : jy_S N) (hL : rL M N) (hk : k < 32) (h0 : jm_I N 37 0 k = nI 0) : ∃ T U y n n', jm_D (d + 1) 59 0 [some (.inr (some (5, 0))), some (.inl (nI k)), none, none] [] M = some (none, T) ∧ jm_D (d' + 2) 126 0 [some (.inr (some (31, 0))), some (.inl (nI k)), none, none, none, none] [] N = some (some (.inl y), U) ∧ ¬ y < nI 0 ∧ jq_D M N T U k n n' ∧ rL T U := by
  obtain ⟨n, q, i, n16, hq, hi, m5, n11, p1, p2, z43, z44, z117⟩ := sm_place0 hX hY hL hk
  have hn := jr_lt16 hL hk h0 n11 n16
  have hL' := hL
  obtain ⟨n', n1, nn16, -, m2, m3, -, hz, hlf, -⟩ := hL'
  have en : n' = n := (nI_eq (by omega) (by omega)).mp (m2.symm.trans n11)
  subst en
  obtain ⟨l1, l2, -, ⟨v, v0, v1, v2⟩, l5⟩ := hlf i hi
  have h31 := jb_c31 hk h0
  have hvb : v ≤ 62 := by omega
  obtain ⟨a, b, g1, g2, g3, g4⟩ := jy_a1_li (v := v) h0 hk (show i < 100 by omega)
  rw [g1, List.length_append] at l1 l2
  have hl5 : ∀ j x, (a ++ b)[j]? = some x → jm_I M 18 i j = nI x := fun j x hj => l5 j x (by rw [g1]; exact hj)
  have hcc : jb_cnt (jy_at (jy_a1 N k i v) i) 32 = a.length + b.length + 1 := by
    have := congrArg List.length g2
    unfold jy_lf at this
    rw [jb_cnt_filter] at this
    rw [this]
    simp only [List.length_append, List.length_cons]
    omega
  have r59 := xAdd (d := d) hX hi hn hq hk l2 g3 g4 hl5 l1 v1 m5 z43 z44
  rcases yAdd (d := d') hY hi hn hq hk v2 p2 n11 m3 hcc (by omega) z117 with ⟨c5, r126⟩ | ⟨c5, K, hK, r126⟩
  · rw [if_neg (by omega)] at r59
    exact ⟨_, _, _, n', n', r59, r126, by decide, jq_D1 n11 n16, rL_1 hL hk h0 n11 n16 hi v1 (by omega) g1 g2 (show a.length + b.length < 4 by omega)⟩
  · rw [if_pos (by omega)] at r59
    exact ⟨_, _, _, n', n' + 1, r59, r126, nI_nlt (by omega) (by omega), jq_D2 (K := K) n11 hn, rL_2 hL hk h0 n11 hn hi hq v1 (by omega) g1 g2 (show a.length + b.length = 4 by omega) hK⟩
def jc_fr (M N M' N' : jm_M) : Prop := (M'.2 = M.2 ∧ N'.2 = N.2) ∧ (∀ K i j, K ≠ 5 → K ≠ 17 → K ≠ 18 → K ≠ 19 → K ≠ 20 → K ≠ 21 → K ≠ 22 → K ≠ 24 → jm_I M' K i j = jm_I M K i j) ∧ (∀ i, jm_I M' 17 i 0 = jm_I M 17 i 0) ∧ (∀ K i j, K ≠ 31 → (K < 37 ∨ 44 < K) → jm_I N' K i j = jm_I N K i j) ∧ (∀ j, j ≠ 11 → j ≠ 12 → jm_I N' 31 0 j = jm_I N 31 0 j)
theorem jc_fr0 (M N : jm_M) : jc_fr M N M N := ⟨⟨rfl, rfl⟩, fun _ _ _ _ _ _ _ _ _ _ _ => rfl, fun _ => rfl, fun _ _ _ _ _ => rfl, fun _ _ _ => rfl⟩
theorem jc_frt {M N M1 N1 M2 N2 : jm_M} (h : jc_fr M N M1 N1) (h' : jc_fr M1 N1 M2 N2) : jc_fr M N M2 N2 := by
  obtain ⟨⟨a1, a2⟩, b, c, d, e⟩ := h
  obtain ⟨⟨p1, p2⟩, q, r, s, t⟩ := h'
  exact ⟨⟨p1.trans a1, p2.trans a2⟩, fun K i j x1 x2 x3 x4 x5 x6 x7 x8 => (q K i j x1 x2 x3 x4 x5 x6 x7 x8).trans (b K i j x1 x2 x3 x4 x5 x6 x7 x8), fun i => (r i).trans (c i), fun K i j x y => (s K i j x y).trans (d K i j x y), fun j x y => (t j x y).trans (e j x y)⟩
theorem jk_8 {T M : jm_M} (h2 : T.2 = M.2) (h : ∀ K i j, K ≠ 5 → K ≠ 17 → K ≠ 18 → K ≠ 19 → K ≠ 20 → K ≠ 21 → K ≠ 22 → K ≠ 24 → jm_I T K i j = jm_I M K i j) : ∃ g0 g1 g2 g3 g4 g5 g6 g7, T = jm_setK (jm_setK (jm_setK (jm_setK (jm_setK (jm_setK (jm_setK (jm_setK M 5 g0) 17 g1) 18 g2) 19 g3) 20 g4) 21 g5) 22 g6) 24 g7 := by
  refine ⟨jm_I T 5, jm_I T 17, jm_I T 18, jm_I T 19, jm_I T 20, jm_I T 21, jm_I T 22, jm_I T 24, Prod.ext ?_ h2⟩
  funext K i j
  show jm_I T K i j = if K = 24 then jm_I T 24 i j else if K = 22 then jm_I T 22 i j else if K = 21 then jm_I T 21 i j else if K = 20 then jm_I T 20 i j else if K = 19 then jm_I T 19 i j else if K = 18 then jm_I T 18 i j else if K = 17 then jm_I T 17 i j else if K = 5 then jm_I T 5 i j else jm_I M K i j
  by_cases a : K = 24
  · rw [if_pos a, a]
  rw [if_neg a]
  by_cases b : K = 22
  · rw [if_pos b, b]
  rw [if_neg b]
  by_cases c : K = 21
  · rw [if_pos c, c]
  rw [if_neg c]
  by_cases e : K = 20
  · rw [if_pos e, e]
  rw [if_neg e]
  by_cases f : K = 19
  · rw [if_pos f, f]
  rw [if_neg f]
  by_cases a1 : K = 18
  · rw [if_pos a1, a1]
  rw [if_neg a1]
  by_cases a2 : K = 17
  · rw [if_pos a2, a2]
  rw [if_neg a2]
  by_cases a3 : K = 5
  · rw [if_pos a3, a3]
  rw [if_neg a3]
  exact h K i j a3 a2 a1 f e c b a
theorem jc_frT {C : Nat} {M N M' N' : jm_M} (h : jc_fr M N M' N') : (jx_S M → jx_S M') ∧ (jy_S N → jy_S N') ∧ (rT C M N → rT C M' N') ∧ (rG M N → rG M' N') ∧ (jr_un M N → jr_un M' N') := by
  obtain ⟨⟨a1, a2⟩, b, c, d, e⟩ := h
  obtain ⟨g0, g1, g2, g3, g4, g5, g6, g7, rfl⟩ := jk_8 a1 b
  obtain ⟨f0, f1, f2, f3, f4, f5, f6, f7, f8, rfl⟩ := jk_9 a2 d
  refine ⟨fun h => h, fun h => h, fun h => ?_, fun h => h, fun h => h⟩
  exact ⟨h.1, h.2.1, h.2.2.1, (e 34 (by decide) (by decide)).trans h.2.2.2.1, h.2.2.2.2.1, h.2.2.2.2.2⟩
theorem jc_frD {M N T U : jm_M} {k n n' : Nat} (h : jq_D M N T U k n n') : jc_fr M N T U := ⟨h.1, fun K i j a b c d _ _ _ e => h.2.1 K i j a b c d e, h.2.2.1, h.2.2.2.2.1, h.2.2.2.2.2.1⟩
theorem sm_rec1 {d d' C k : Nat} {m : Int32} {l3 l4 : Option jm_V} {M N : jm_M} (hX : jx_S M) (hY : jy_S N) (hC : C < 2 ^ 31) (hT : rT C M N) (hG : rG M N) (hU : jr_un M N) (hL : rL M N) (hS : rS C M N) (h22 : ∀ j, j < 32 → jm_I M 22 0 j = nI 0) (hk : k < 32) (h0 : jm_I N 37 0 k = nI 0) : ∃ M' N' l3' l4', jm_D (d + 3) 88 0 [some (.inr (some (0, 0))), some (.inl (nI k)), none, none, none, none, none, none, none] [] M = some (none, M') ∧ jm_D (d' + 3) 138 64 [some (.inr (some (31, 0))), some (.inl m), some (.inl (nI k)), l3, l4] [] N = jm_D (d' + 3) 138 64 [some (.inr (some (31, 0))), some (.inl m), some (.inl (nI (k + 1))), l3', l4'] [] N' ∧ jc_fr M N M' N' ∧ rL M' N' ∧ rS C M' N' ∧ (∀ j, j < 32 → jm_I M' 22 0 j = nI 0) ∧ ∀ j, j ≠ k → jm_I N' 37 0 j = jm_I N 37 0 j := by
  obtain ⟨o, l7, l8, r1, r2, r3⟩ := sm_last (d := d) (d' := d' + 1) hX hY hC hT hG hU hk
  have c1 : ¬ nI 32 ≤ nI k := nI_ge hk (by decide)
  have hT1 := hT.1
  cases o with
  | none =>
    have p1 : jx_o2 M k none = nI 0 := rfl
    have p2 : jy_o none = nI 0 := rfl
    refine ⟨M, N, some (.inl (nI 0)), l4, ?_, ?_, jc_fr0 M N, hL, hS, h22, fun _ _ => rfl⟩
    · rw [r1]
      simp only [e88_60, e88_61, p1, if_true, e88_73]
    · rw [e138_64]
      simp only [e138_65, e138_66, if_neg c1, e138_67, e138_68, e138_69, r2, p2, jb_some, jb_tl, e138_70, e138_71, e138_72, Int32.le_refl, if_true, e138_115, e138_116, nI_add]
  | some t =>
    obtain ⟨t1, t2, t3⟩ := r3 t rfl
    obtain ⟨-, -, -, -, -, -, -, -, b9⟩ := hT.2.2.2.2.2 t t1
    obtain ⟨⟨s, s1, s2, s3⟩, -, b10⟩ := b9 t2
    have p2 : jy_o (some t) = nI (t + 1) := rfl
    have c2 : ¬ nI (t + 1) ≤ nI 0 := nI_ge (by omega) (by omega)
    have hb : 32 * (t + 1) + k < 3232 := by omega
    rcases b10 k hk with ⟨-, w2⟩ | ⟨w1, ⟨w2, w3⟩ | ⟨w2, w3, -⟩, w4⟩
    · exact absurd w2 t3
    · obtain ⟨T, U, y, n, n', z1, z2, zy, z3, z4⟩ := sm_new (d := d + 1) (d' := d') hX hY hL hk h0
      have hfr := jc_frD z3
      obtain ⟨hXf, hYf, -⟩ := jc_frT (C := C) hfr
      have hX1 := hXf hX
      have hY1 := hYf hY
      have p1 : jx_o2 M k (some t) = nI 1 := if_pos w3
      have p3 : jx_o3 M k (some t) = jm_I N 70 0 (32 * (t + 1) + k) := w4
      have p4 : jx_o4 M (some t) = nI s := s2
      have n1 : ¬ nI 1 = nI 0 := by decide
      have e70 : jm_I (jm_setI U 38 0 k (nI 1)) 70 0 (32 * (t + 1) + k) = jm_I N 70 0 (32 * (t + 1) + k) := (z3.2.2.2.2.1 70 0 _ (by decide) (by decide))
      have e65 : jm_I (jm_setI (jm_setI U 38 0 k (nI 1)) 39 0 k (jm_I N 70 0 (32 * (t + 1) + k))) 65 0 (t + 1) = nI s := (z3.2.2.2.2.1 65 0 _ (by decide) (by decide)).trans s3
      generalize jm_I N 70 0 (32 * (t + 1) + k) = v at p3 e70 e65
      refine ⟨jx_in T k 2 v (nI s), jm_setI (jm_setI (jm_setI U 38 0 k (nI 1)) 39 0 k v) 40 0 k (nI s), some (.inl (nI (t + 1))), some (.inl y), ?_, ?_, jc_frt hfr ⟨⟨rfl, rfl⟩, fun K i j _ _ _ x4 x5 x6 x7 _ => (jb_Iz x7 _ _ _ _ _ _).trans ((jb_Iz x6 _ _ _ _ _ _).trans ((jb_Iz x5 _ _ _ _ _ _).trans (jb_Iz x4 _ _ _ _ _ _))), fun i => rfl, fun K i j _ x => (jb_Iz (by omega) _ _ _ _ _ _).trans ((jb_Iz (by omega) _ _ _ _ _ _).trans (jb_Iz (by omega) _ _ _ _ _ _)), fun _ _ _ => rfl⟩, z4, fun j hj => ?_, fun j hj => ?_, fun j hj => ?_⟩
      · rw [r1]
        simp only [e88_0, e88_1, e88_2, e88_3, e88_4, e88_5, e88_6, e88_7, e88_8, e88_9, e88_11, e88_12, e88_13, e88_14, e88_16, e88_17, e88_18, e88_19, e88_20, e88_21, e88_22, e88_23, e88_24, e88_25, e88_26, e88_27, e88_28, e88_29, e88_30, e88_31, e88_32, e88_33, e88_34, e88_35, e88_36, e88_37, e88_38, e88_39, e88_40, e88_41, e88_42, e88_43, e88_44, e88_45, e88_46, e88_47, e88_48, e88_49, e88_50, e88_51, e88_52, e88_53, e88_54, e88_55, e88_56, e88_57, e88_58, e88_59, e88_60, e88_61, e88_62, e88_63, e88_64, e88_65, e88_66, e88_67, e88_68, e88_69, e88_70, e88_71, e88_72, e88_73, e68_0, e68_1, e68_2, e68_3, e68_4, e68_5, e68_6, e68_7, e68_8, e68_9, e68_10, e68_11, e68_12, e68_13, e68_14, e68_15, e68_16, e68_17, e68_18, e68_19, e68_20, e68_21, e68_22, e68_23, e68_24, e68_25, e68_26, e68_27, e68_28, p1, p3, p4, if_neg n1, xs_0 hX, xs_1 hX, xs_2 hX, xs_3 hX, xs_4 hX, xs_5 hX, xs_6 hX, xs_7 hX, xs_8 hX, xs_9 hX, xs_10 hX, xs_11 hX, xs_12 hX, xs_13 hX, xs_14 hX, xs_15 hX, xs_16 hX, xs_17 hX, xs_18 hX, xs_19 hX, xs_0 hX1, xs_1 hX1, xs_2 hX1, xs_3 hX1, xs_4 hX1, xs_5 hX1, xs_6 hX1, xs_7 hX1, xs_8 hX1, xs_9 hX1, xs_10 hX1, xs_11 hX1, xs_12 hX1, xs_13 hX1, xs_14 hX1, xs_15 hX1, xs_16 hX1, xs_17 hX1, xs_18 hX1, xs_19 hX1, z1, jb_some, jb_tn, jb_FI, jb_nI, jb_ix hk (by decide)]
        rfl
      · rw [e138_64]
        simp only [e138_65, e138_66, if_neg c1, e138_67, e138_68, e138_69, r2, p2, jb_some, jb_tl, e138_70, e138_71, e138_72, if_neg c2, e138_73, e138_74, e138_75, e138_76, e138_77, e138_78, e138_79, e138_80, e138_81, ys_0 hY, ys_1 hY, ys_2 hY, ys_3 hY, ys_4 hY, ys_5 hY, ys_6 hY, ys_7 hY, ys_8 hY, ys_9 hY, ys_10 hY, ys_11 hY, ys_12 hY, ys_13 hY, ys_14 hY, ys_15 hY, ys_16 hY, ys_17 hY, ys_18 hY, ys_19 hY, ys_20 hY, ys_21 hY, ys_22 hY, ys_23 hY, ys_24 hY, ys_25 hY, ys_26 hY, ys_27 hY, ys_28 hY, ys_29 hY, ys_30 hY, ys_31 hY, ys_32 hY, ys_33 hY, ys_34 hY, ys_35 hY, ys_36 hY, ys_37 hY, ys_38 hY, ys_39 hY, ys_40 hY, ys_41 hY, ys_42 hY, ys_43 hY, ys_44 hY, ys_45 hY, ys_46 hY, ys_47 hY, ys_48 hY, ys_49 hY, ys_50 hY, ys_51 hY, ys_52 hY, ys_53 hY, ys_54 hY, ys_55 hY, ys_56 hY, ys_57 hY, ys_58 hY, ys_59 hY, ys_60 hY, ys_61 hY, ys_62 hY, ys_63 hY, ys_64 hY, ys_65 hY, ys_66 hY, ys_67 hY, ys_68 hY, ys_69 hY, ys_70 hY, ys_71 hY, ys_72 hY, ys_73 hY, ys_74 hY, ys_75 hY, ys_76 hY, ys_77 hY, pk_mul, nI_add, jb_ix hb (by decide), w2, if_true, e138_82, e138_83, e138_84, z2, e138_85, e138_86, e138_87, e138_88, e138_89, e138_90, if_neg zy, e138_91, e138_92, e138_94, e138_95, e138_96, e138_97, e138_98, e138_99, e138_100, e138_101, e138_102, e138_103, e138_104, e138_105, e138_106, e138_107, e138_108, e138_109, e138_110, e138_111, e138_112, e138_113, e138_114, e138_115, e138_116, ys_0 hY1, ys_1 hY1, ys_2 hY1, ys_3 hY1, ys_4 hY1, ys_5 hY1, ys_6 hY1, ys_7 hY1, ys_8 hY1, ys_9 hY1, ys_10 hY1, ys_11 hY1, ys_12 hY1, ys_13 hY1, ys_14 hY1, ys_15 hY1, ys_16 hY1, ys_17 hY1, ys_18 hY1, ys_19 hY1, ys_20 hY1, ys_21 hY1, ys_22 hY1, ys_23 hY1, ys_24 hY1, ys_25 hY1, ys_26 hY1, ys_27 hY1, ys_28 hY1, ys_29 hY1, ys_30 hY1, ys_31 hY1, ys_32 hY1, ys_33 hY1, ys_34 hY1, ys_35 hY1, ys_36 hY1, ys_37 hY1, ys_38 hY1, ys_39 hY1, ys_40 hY1, ys_41 hY1, ys_42 hY1, ys_43 hY1, ys_44 hY1, ys_45 hY1, ys_46 hY1, ys_47 hY1, ys_48 hY1, ys_49 hY1, ys_50 hY1, ys_51 hY1, ys_52 hY1, ys_53 hY1, ys_54 hY1, ys_55 hY1, ys_56 hY1, ys_57 hY1, ys_58 hY1, ys_59 hY1, ys_60 hY1, ys_61 hY1, ys_62 hY1, ys_63 hY1, ys_64 hY1, ys_65 hY1, ys_66 hY1, ys_67 hY1, ys_68 hY1, ys_69 hY1, ys_70 hY1, ys_71 hY1, ys_72 hY1, ys_73 hY1, ys_74 hY1, ys_75 hY1, ys_76 hY1, ys_77 hY1, jb_FI, jb_nI, jb_ix hk (by decide), jb_nb, e70, jb_ix (show t + 1 < 101 by omega) (by decide), e65]
      · by_cases e : j = k
        · subst e
          refine Or.inr ⟨z3.2.2.2.2.2.2.1.1, Or.inl ⟨jb_Is U 38 0 j (nI 1), jb_Is T 19 0 j (nI 2)⟩, Eq.trans (jb_Is (jm_setI T 19 0 j (nI 2)) 20 0 j v) (jb_Is (jm_setI U 38 0 j (nI 1)) 39 0 j v).symm, ⟨s, s1, jb_Is (jm_setI (jm_setI T 19 0 j (nI 2)) 20 0 j v) 21 0 j (nI s), jb_Is _ _ _ _ _⟩, ⟨0, Nat.zero_le _, jb_Is _ _ _ _ _, z3.2.2.2.2.2.2.1.2.2.2.2⟩⟩
        · have hSj := hS j hj
          obtain ⟨u37, u38, u39, u40, u41⟩ := z3.2.2.2.2.2.2.2.1 j e
          have a19 : jm_I (jx_in T k 2 v (nI s)) 19 0 j = jm_I M 19 0 j := (jb_Io e T 19 0 (nI 2) 19 0).trans (z3.2.2.2.1.2 j e)
          have a20 : jm_I (jx_in T k 2 v (nI s)) 20 0 j = jm_I M 20 0 j := (jb_Io e (jm_setI T 19 0 k (nI 2)) 20 0 v 20 0).trans (z3.2.1 20 0 j (by decide) (by decide) (by decide) (by decide) (by decide))
          have a21 : jm_I (jx_in T k 2 v (nI s)) 21 0 j = jm_I M 21 0 j := (jb_Io e (jm_setI (jm_setI T 19 0 k (nI 2)) 20 0 k v) 21 0 (nI s) 21 0).trans (z3.2.1 21 0 j (by decide) (by decide) (by decide) (by decide) (by decide))
          have a22 : jm_I (jx_in T k 2 v (nI s)) 22 0 j = jm_I M 22 0 j := (jb_Io e _ 22 0 (nI 0) 22 0).trans (z3.2.1 22 0 j (by decide) (by decide) (by decide) (by decide) (by decide))
          have b37 : jm_I (jm_setI (jm_setI (jm_setI U 38 0 k (nI 1)) 39 0 k v) 40 0 k (nI s)) 37 0 j = jm_I N 37 0 j := u37
          have b38 : jm_I (jm_setI (jm_setI (jm_setI U 38 0 k (nI 1)) 39 0 k v) 40 0 k (nI s)) 38 0 j = jm_I N 38 0 j := (jb_Io e U 38 0 (nI 1) 38 0).trans u38
          have b39 : jm_I (jm_setI (jm_setI (jm_setI U 38 0 k (nI 1)) 39 0 k v) 40 0 k (nI s)) 39 0 j = jm_I N 39 0 j := (jb_Io e (jm_setI U 38 0 k (nI 1)) 39 0 v 39 0).trans u39
          have b40 : jm_I (jm_setI (jm_setI (jm_setI U 38 0 k (nI 1)) 39 0 k v) 40 0 k (nI s)) 40 0 j = jm_I N 40 0 j := (jb_Io e _ 40 0 (nI s) 40 0).trans u40
          have b41 : jm_I (jm_setI (jm_setI (jm_setI U 38 0 k (nI 1)) 39 0 k v) 40 0 k (nI s)) 41 0 j = jm_I N 41 0 j := u41
          unfold rSk at hSj ⊢
          rw [a19, a20, a21, a22, b37, b38, b39, b40, b41]
          exact hSj
      · by_cases e : j = k
        · subst e
          exact jb_Is _ _ _ _ _
        · exact ((jb_Io e _ 22 0 (nI 0) 22 0).trans (z3.2.1 22 0 j (by decide) (by decide) (by decide) (by decide) (by decide))).trans (h22 j hj)
      · exact (z3.2.2.2.2.2.2.2.1 j hj).1
    · have p1 : jx_o2 M k (some t) = nI 0 := if_neg (by rw [w3]; decide)
      have c4 : ¬ nI 1 = nI 0 := by decide
      refine ⟨M, N, some (.inl (nI (t + 1))), l4, ?_, ?_, jc_fr0 M N, hL, hS, h22, fun _ _ => rfl⟩
      · rw [r1]
        simp only [e88_60, e88_61, p1, if_true, e88_73]
      · rw [e138_64]
        simp only [e138_65, e138_66, if_neg c1, e138_67, e138_68, e138_69, r2, p2, jb_some, jb_tl, e138_70, e138_71, e138_72, if_neg c2, e138_73, e138_74, e138_75, e138_76, e138_77, e138_78, e138_79, e138_80, e138_81, ys_0 hY, ys_1 hY, ys_2 hY, ys_3 hY, ys_4 hY, ys_5 hY, ys_6 hY, ys_7 hY, ys_8 hY, ys_9 hY, ys_10 hY, ys_11 hY, ys_12 hY, ys_13 hY, ys_14 hY, ys_15 hY, ys_16 hY, ys_17 hY, ys_18 hY, ys_19 hY, ys_20 hY, ys_21 hY, ys_22 hY, ys_23 hY, ys_24 hY, ys_25 hY, ys_26 hY, ys_27 hY, ys_28 hY, ys_29 hY, ys_30 hY, ys_31 hY, ys_32 hY, ys_33 hY, ys_34 hY, ys_35 hY, ys_36 hY, ys_37 hY, ys_38 hY, ys_39 hY, ys_40 hY, ys_41 hY, ys_42 hY, ys_43 hY, ys_44 hY, ys_45 hY, ys_46 hY, ys_47 hY, ys_48 hY, ys_49 hY, ys_50 hY, ys_51 hY, ys_52 hY, ys_53 hY, ys_54 hY, ys_55 hY, ys_56 hY, ys_57 hY, ys_58 hY, ys_59 hY, ys_60 hY, ys_61 hY, ys_62 hY, ys_63 hY, ys_64 hY, ys_65 hY, ys_66 hY, ys_67 hY, ys_68 hY, ys_69 hY, ys_70 hY, ys_71 hY, ys_72 hY, ys_73 hY, ys_74 hY, ys_75 hY, ys_76 hY, ys_77 hY, pk_mul, nI_add, jb_ix hb (by decide), w2, if_neg c4, e138_115, e138_116]
theorem sm_rec {d d' C : Nat} {m : Int32} {M1 N1 : jm_M} (hX : jx_S M1) (hY : jy_S N1) (hC : C < 2 ^ 31) (hT : rT C M1 N1) (hG : rG M1 N1) (hU : jr_un M1 N1) : ∀ f k M N l3 l4, k + f = 32 → jc_fr M1 N1 M N → rL M N → rS C M N → (∀ j, j < 32 → jm_I M 22 0 j = nI 0) → (∀ j, k ≤ j → j < 32 → jm_I N 37 0 j = nI 0) → ∃ M' N' l3' l4', jm_D (d + 4) 81 26 [some (.inr (some (0, 0))), some (.inl m), some (.inl (nI k))] [] M = jm_D (d + 4) 81 34 [some (.inr (some (0, 0))), some (.inl m), some (.inl (nI 32))] [] M' ∧ jm_D (d' + 3) 138 64 [some (.inr (some (31, 0))), some (.inl m), some (.inl (nI k)), l3, l4] [] N = jm_D (d' + 3) 138 117 [some (.inr (some (31, 0))), some (.inl m), some (.inl (nI 32)), l3', l4'] [] N' ∧ jc_fr M1 N1 M' N' ∧ rL M' N' ∧ rS C M' N' ∧ ∀ j, j < 32 → jm_I M' 22 0 j = nI 0 := by
  intro f
  induction f with
  | zero =>
    intro k M N l3 l4 hk hfr hL hS h22 _
    obtain rfl : k = 32 := by omega
    refine ⟨M, N, l3, l4, ?_, ?_, hfr, hL, hS, h22⟩
    · rw [e81_26]
      simp only [e81_27, e81_28, Int32.le_refl, if_true]
    · rw [e138_64]
      simp only [e138_65, e138_66, Int32.le_refl, if_true]
  | succ f ih =>
    intro k M N l3 l4 hk hfr hL hS h22 h37
    have hk32 : k < 32 := by omega
    have c1 : ¬ nI 32 ≤ nI k := nI_ge hk32 (by decide)
    obtain ⟨f1, f2, f3, f4, f5⟩ := jc_frT (C := C) hfr
    obtain ⟨M', N', l3', l4', r1, r2, r3, r4, r5, r6, r7⟩ := sm_rec1 (d := d) (d' := d') (m := m) (l3 := l3) (l4 := l4) (f1 hX) (f2 hY) hC (f3 hT) (f4 hG) (f5 hU) hL hS h22 hk32 (h37 k (Nat.le_refl _) hk32)
    obtain ⟨M2, N2, l5, l6, q1, q2, q3⟩ := ih (k + 1) M' N' l3' l4' (by omega) (jc_frt hfr r3) r4 r5 r6 (fun j h1 h2 => (r7 j (by omega)).trans (h37 j (by omega) h2))
    refine ⟨M2, N2, l5, l6, ?_, r2.trans q2, q3⟩
    rw [← q1, e81_26]
    simp only [e81_27, e81_28, if_neg c1, e81_29, e81_30, e81_31, r1, jb_some, jb_tn, e81_32, e81_33, nI_add]
