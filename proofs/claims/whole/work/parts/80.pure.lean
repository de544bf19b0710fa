/-! A record added: joined. -/
theorem jb_c31 {N : jm_M} {k : Nat} (hk : k < 32) (h0 : jm_I N 37 0 k = nI 0) : jb_cnt (fun x => !decide (jm_I N 37 0 x = nI 0)) 32 ≤ 31 := by
  have hup : jb_cnt (fun x => !decide (jm_I N 37 0 x = nI 0) || decide (x = k)) 32 = jb_cnt (fun x => !decide (jm_I N 37 0 x = nI 0)) 32 + 1 := by
    refine jb_cnt_up 32 hk ?_ ?_ (fun x hx he => ?_)
    · rw [h0]; rfl
    · rw [decide_eq_true (rfl : k = k), Bool.or_true]
    · rw [decide_eq_false he, Bool.or_false]
  have := jb_cnt_le (fun x => !decide (jm_I N 37 0 x = nI 0) || decide (x = k)) 32
  omega
theorem jq_D1 {M N : jm_M} {k i v n : Nat} {a b : List Nat} (hn : jm_I N 31 0 11 = nI n) (hn2 : n ≤ 16) : jq_D M N (jx_a1 M i k a b v) (jy_a1 N k i v) k n n := by
  refine ⟨⟨rfl, rfl⟩, fun K i' j h1 h2 h3 h4 h5 => ?_, fun i' => ?_, ⟨jb_Is _ _ _ _ _, fun j hj => jb_Io hj _ _ _ _ _ _⟩, fun K i' j h1 h2 => ?_, fun j _ _ => rfl, ⟨jb_Is N 37 0 k (nI 1), jb_Is (jm_setI N 37 0 k (nI 1)) 38 0 k (nI 0), jb_Is (jm_setI (jm_setI N 37 0 k (nI 1)) 38 0 k (nI 0)) 39 0 k (nI 0), jb_Is (jm_setI (jm_setI (jm_setI N 37 0 k (nI 1)) 38 0 k (nI 0)) 39 0 k (nI 0)) 40 0 k (nI 0), jb_Is (jm_setI (jm_setI (jm_setI (jm_setI N 37 0 k (nI 1)) 38 0 k (nI 0)) 39 0 k (nI 0)) 40 0 k (nI 0)) 41 0 k (nI 0)⟩, fun j hj => ⟨jb_Io hj N 37 0 (nI 1) 37 0, jb_Io hj (jm_setI N 37 0 k (nI 1)) 38 0 (nI 0) 38 0, jb_Io hj (jm_setI (jm_setI N 37 0 k (nI 1)) 38 0 k (nI 0)) 39 0 (nI 0) 39 0, jb_Io hj (jm_setI (jm_setI (jm_setI N 37 0 k (nI 1)) 38 0 k (nI 0)) 39 0 k (nI 0)) 40 0 (nI 0) 40 0, jb_Io hj (jm_setI (jm_setI (jm_setI (jm_setI N 37 0 k (nI 1)) 38 0 k (nI 0)) 39 0 k (nI 0)) 40 0 k (nI 0)) 41 0 (nI 0) 41 0⟩, ⟨hn, hn, Nat.le_refl _, hn2⟩⟩
  · exact (jb_Iz h4 _ _ _ _ _ _).trans ((jb_Iz h2 _ _ _ _ _ _).trans ((jb_Iz h2 _ _ _ _ _ _).trans (jk_z h3 _ _ _ _)))
  · exact (jb_Io (show 0 ≠ 3 by decide) (jm_setI (jm_setK M 18 (jx_kx M i k a.length (a.length + b.length))) 17 i 2 (nI (a.length + b.length + 1))) 17 i (nI (v + 1)) 17 i').trans (jb_Io (show 0 ≠ 2 by decide) (jm_setK M 18 (jx_kx M i k a.length (a.length + b.length))) 17 i (nI (a.length + b.length + 1)) 17 i')
  · exact (jb_Iz (by omega) _ _ _ _ _ _).trans ((jb_Iz (by omega) _ _ _ _ _ _).trans ((jb_Iz (by omega) _ _ _ _ _ _).trans ((jb_Iz (by omega) _ _ _ _ _ _).trans ((jb_Iz (by omega) _ _ _ _ _ _).trans ((jb_Iz (by omega) _ _ _ _ _ _).trans (jb_Iz (by omega) _ _ _ _ _ _))))))
theorem jq_D2 {M N : jm_M} {k i v n q K : Nat} {a b : List Nat} (hn : jm_I N 31 0 11 = nI n) (hn2 : n < 16) : jq_D M N (jx_a3 M i k a b v q n) (jy_a3 N k i v q n K) k n (n + 1) := by
  obtain ⟨-, d2, d3, d4, d5, d6, d7, d8, d9⟩ := jq_D1 (M := M) (N := N) (k := k) (i := i) (v := v) (a := a) (b := b) hn (show n ≤ 16 by omega)
  refine ⟨⟨rfl, rfl⟩, fun K i' j h1 h2 h3 h4 h5 => ?_, fun i' => ?_, d4, fun K i' j h1 h2 => ?_, fun j h1 h2 => ?_, d7, d8, ⟨hn, ?_, by omega, by omega⟩⟩
  · refine (jb_Iz h2 _ _ _ _ _ _).trans ((jb_Iz h2 _ _ _ _ _ _).trans ((jb_Iz h2 _ _ _ _ _ _).trans ((jb_Iz h3 _ _ _ _ _ _).trans ((jb_Iz h3 _ _ _ _ _ _).trans ((jb_Iz h1 _ _ _ _ _ _).trans ((jk_z h5 _ _ _ _).trans (d2 K i' j h1 h2 h3 h4 h5)))))))
  · have e : jm_I (jx_a3 M i k a b v q n) 17 i' 0 = jm_I (jx_a1 M i k a b v) 17 i' 0 := (jb_Io (show 0 ≠ 3 by decide) _ 17 i _ 17 i').trans ((jb_Io (show 0 ≠ 2 by decide) _ 17 i _ 17 i').trans ((jb_Io (show 0 ≠ 2 by decide) _ 17 n _ 17 i').trans rfl))
    exact e.trans (d3 i')
  · refine (jk_z (by omega) _ _ _ _).trans ((jb_Iz h1 _ _ _ _ _ _).trans ((jb_Iz (by omega) _ _ _ _ _ _).trans ((jk_z (by omega) _ _ _ _).trans ((jb_Iz h1 _ _ _ _ _ _).trans ((jb_Iz (by omega) _ _ _ _ _ _).trans (d5 K i' j h1 h2))))))
  · exact (jb_Io h1 (jm_setI (jm_setK (jm_setI (jm_setI (jy_a1 N k i v) 44 0 (i + 1) (nI (v + 1 + 1))) 31 0 12 (nI (n + 1))) 43 (jk_op (jm_I N 43) (q + 1) n (nI (n + 1)))) 44 0 (n + 1) (nI 0)) 31 0 (nI (n + 1)) 31 0).trans ((jb_Io h2 (jm_setI (jy_a1 N k i v) 44 0 (i + 1) (nI (v + 1 + 1))) 31 0 (nI (n + 1)) 31 0).trans (d6 j h1 h2))
  · exact jb_Is (jm_setI (jm_setK (jm_setI (jm_setI (jy_a1 N k i v) 44 0 (i + 1) (nI (v + 1 + 1))) 31 0 12 (nI (n + 1))) 43 (jk_op (jm_I N 43) (q + 1) n (nI (n + 1)))) 44 0 (n + 1) (nI 0)) 31 0 11 (nI (n + 1))
theorem sm_add {d d' E C w : Nat} {M N : jm_M} (h : jr_R E C M N) (hw : w < 4) : jh_add E C w d d' M N := by
  intro t k hV hk h0 h26 e
  have hX := h.1
  have hY := h.2.1
  have hL := h.2.2.2.2.2.1
  obtain ⟨n, q, i, n16, hq, hi, -, m5, n11, p1, p2, z43, z44, z117, z116⟩ := sm_place h hk
  have hn := jr_lt16 hL hk h0 n11 n16
  have hL' := hL
  obtain ⟨n', n1, nn16, -, m2, m3, -, hz, hlf, -⟩ := hL'
  have en : n' = n := (nI_eq (by omega) (by omega)).mp (m2.symm.trans n11)
  subst en
  obtain ⟨l1, l2, -, ⟨v, v0, v1, v2⟩, l5⟩ := hlf i hi
  have h31 := jb_c31 hk h0
  have hvb : v ≤ 62 := by omega
  obtain ⟨a, b, g1, g2, g3, g4⟩ := jy_a1_li (v := v) h0 hk (show i < 100 by omega)
  rw [g1, List.length_append] at l1 l2
  have hl5 : ∀ j x, (a ++ b)[j]? = some x → jm_I M 18 i j = nI x := fun j x hj => l5 j x (by rw [g1]; exact hj)
  have hcc : jb_cnt (jy_at (jy_a1 N k i v) i) 32 = a.length + b.length + 1 := by
    have := congrArg List.length g2
    unfold jy_lf at this
    rw [jb_cnt_filter] at this
    rw [this]
    simp only [List.length_append, List.length_cons]
    omega
  have r59 := xAdd (d := d + 4) hX hi hn hq hk l2 g3 g4 hl5 l1 v1 m5 z43 z44
  have h22 : jm_I M 22 0 k = nI 0 := by
    rcases h.2.2.2.2.1 k hk with ⟨-, -, -, -, z⟩ | ⟨z, -⟩
    · exact z
    · rw [h0] at z; exact absurd z (by decide)
  have n1n : ¬ nI 1 = nI 0 := by decide
  rcases yAdd (d := d' + 5) hY hi hn hq hk v2 p2 n11 m3 hcc (by omega) z117 with ⟨c5, r126⟩ | ⟨c5, K, hK, r126⟩
  · rw [if_neg (by omega)] at r59
    have hD := jq_D1 (M := M) (N := N) (k := k) (i := i) (v := v) (a := a) (b := b) n11 n16
    have hL1 := rL_1 hL hk h0 n11 n16 hi v1 (by omega) g1 g2 (show a.length + b.length < 4 by omega)
    have hR1 := jr_addR h hk h0 hD hL1
    have hV1 : jr_V E C (jx_a1 M i k a b v) (jy_a1 N k i v) w 2 t := ⟨hR1, hV.2.1, hV.2.2.1, rRun_D hV.2.2.2 hD n16⟩
    exact sm_add2 (d := d) (d' := d') (q := q) (n' := n') (v := v) (v' := v + 1) (y := 0) hV hV1 ⟨rfl, rfl⟩ ⟨rfl, rfl⟩ hw hk (by rw [hD.2.2.2.2.2.2.1.1]; exact n1n) h22 h26 hi hn z43 z44 z116 r59 r126 (Or.inl ⟨rfl, rfl⟩) m5 v1 v2 (by omega) m5 n11 (jb_Is _ 17 i 3 _) (jb_Is _ 44 0 (i + 1) _) (by omega) (fun z => by omega) rfl e
  · rw [if_pos (by omega)] at r59
    have hD := jq_D2 (M := M) (N := N) (k := k) (i := i) (v := v) (q := q) (K := K) (a := a) (b := b) n11 hn
    have hL1 := rL_2 hL hk h0 n11 hn hi hq v1 (by omega) g1 g2 (show a.length + b.length = 4 by omega) hK
    have hR1 := jr_addR h hk h0 hD hL1
    have hV1 : jr_V E C (jx_a3 M i k a b v q n') (jy_a3 N k i v q n' K) w 2 t := ⟨hR1, hV.2.1, hV.2.2.1, rRun_D hV.2.2.2 hD n16⟩
    have hni : n' ≠ i := by omega
    obtain ⟨w1, w2⟩ := hz n' hn (Nat.le_refl _)
    have x14 : jm_I M 14 w n' = -1 := by
      obtain ⟨y1, y2⟩ := hV.2.2.2.2.2.2.2.2.2.2.2.2.1.2 n' (by omega)
      rw [y1 hn]
      rcases y2 with y2 | ⟨m, u, y3, y4, -, y5, -⟩
      · exact y2
      · have := (nI_eq (by omega) (by omega)).mp (y5.symm.trans n11)
        omega
    refine sm_add2 (d := d) (d' := d') (q := q) (n' := n' + 1) (v := v) (v' := v + 1 + 1) (y := n' + 1) hV hV1 ⟨rfl, rfl⟩ ⟨rfl, rfl⟩ hw hk (by rw [hD.2.2.2.2.2.2.1.1]; exact n1n) h22 h26 hi hn z43 z44 z116 r59 r126 (Or.inr ⟨rfl, rfl⟩) m5 v1 v2 (by omega) ?_ hD.2.2.2.2.2.2.2.2.2.1 (jb_Is _ 17 i 3 _) ?_ (by omega) (fun _ => ⟨?_, jb_Is _ 44 0 (n' + 1) _, x14⟩) rfl e
    · exact jb_Is (jm_setK (jx_a1 M i k a b v) 24 (jk_op (jm_I (jx_a1 M i k a b v) 24) (q + 1) n' (nI n'))) 5 0 6 (nI (n' + 1))
    · exact (jb_Io (show i + 1 ≠ n' + 1 by omega) _ 44 0 _ 44 0).trans (jb_Is _ 44 0 (i + 1) _)
    · exact (jb_Ij hni _ 17 3 _ 17 3).trans ((jb_Ij hni _ 17 2 _ 17 3).trans ((jb_Io (show 3 ≠ 2 by decide) _ 17 n' _ 17 n').trans ((jb_Ij hni _ 17 3 _ 17 3).trans ((jb_Ij hni _ 17 2 _ 17 3).trans w2))))
