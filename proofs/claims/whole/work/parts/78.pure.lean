/-! A record added: a leaf cut in two. -/
def jy_a3 (N : jm_M) (k i v q n K : Nat) : jm_M := jm_setK (jy_a2 N k i v q n) 42 (jy_mv (jy_a2 N k i v q n) i n K)
theorem jy_a3_m {N : jm_M} {k i v q n K i' x : Nat} (hx : x < 32) (hK : K ≤ x) (hi' : i' < 100) (hn : n < 100) (h : jy_at (jy_a1 N k i v) i x = true) : jy_at (jy_a3 N k i v q n K) i' x = decide (i' = n) := by
  have e37 : jm_I (jy_a3 N k i v q n K) 37 0 x = jm_I (jy_a1 N k i v) 37 0 x := rfl
  have e42 : jm_I (jy_a3 N k i v q n K) 42 0 x = nI (n + 1) := (jk_I _ _ _ _ _).trans (if_pos ⟨rfl, hK, hx, h⟩)
  unfold jy_at
  rw [e37, e42, decide_eq_false (jy_at_in h).1]
  by_cases e : i' = n
  · subst e
    rw [decide_eq_true (rfl : nI (i' + 1) = nI (i' + 1)), decide_eq_true (rfl : i' = i')]
    rfl
  · have q2 : ¬ nI (n + 1) = nI (i' + 1) := fun z => e (by have := (nI_eq (by omega) (by omega)).mp z; omega)
    rw [decide_eq_false e, decide_eq_false q2, Bool.and_false]
theorem jy_a3_s {N : jm_M} {k i v q n K i' x : Nat} (h : ¬ (K ≤ x ∧ jy_at (jy_a1 N k i v) i x = true)) : jy_at (jy_a3 N k i v q n K) i' x = jy_at (jy_a1 N k i v) i' x := by
  have e37 : jm_I (jy_a3 N k i v q n K) 37 0 x = jm_I (jy_a1 N k i v) 37 0 x := rfl
  have e42 : jm_I (jy_a3 N k i v q n K) 42 0 x = jm_I (jy_a1 N k i v) 42 0 x := (jk_I _ _ _ _ _).trans (if_neg (fun z => h ⟨z.2.1, z.2.2.2⟩))
  unfold jy_at
  rw [e37, e42]
theorem jy_a3_i {N : jm_M} {k i v q n K : Nat} (hi : i < n) (hn : n < 100) : jy_lf (jy_a3 N k i v q n K) i = (List.range 32).filter (fun x => jy_at (jy_a1 N k i v) i x && decide (x < K)) := by
  refine List.filter_congr (fun x hx => ?_)
  have hx := List.mem_range.mp hx
  by_cases h1 : jy_at (jy_a1 N k i v) i x = true
  · by_cases h2 : K ≤ x
    · rw [jy_a3_m hx h2 (by omega) hn h1, decide_eq_false (show ¬ i = n by omega), decide_eq_false (show ¬ x < K by omega), Bool.and_false]
    · rw [jy_a3_s (fun z => h2 z.1), decide_eq_true (show x < K by omega), Bool.and_true]
  · rw [jy_a3_s (fun z => h1 z.2), Bool.eq_false_iff.mpr h1, Bool.false_and]
theorem jy_a3_n {N : jm_M} {k i v q n K : Nat} (hi : i < n) (hn : n < 100) (hno : ∀ x, x < 32 → jy_at (jy_a1 N k i v) n x = false) : jy_lf (jy_a3 N k i v q n K) n = (List.range 32).filter (fun x => jy_at (jy_a1 N k i v) i x && decide (K ≤ x)) := by
  refine List.filter_congr (fun x hx => ?_)
  have hx := List.mem_range.mp hx
  by_cases h1 : jy_at (jy_a1 N k i v) i x = true
  · by_cases h2 : K ≤ x
    · rw [jy_a3_m hx h2 hn hn h1, decide_eq_true (rfl : n = n), h1, decide_eq_true h2, Bool.and_true]
    · rw [jy_a3_s (fun z => h2 z.1), decide_eq_false h2, Bool.and_false, hno x hx]
  · rw [jy_a3_s (fun z => h1 z.2), Bool.eq_false_iff.mpr h1, Bool.false_and, hno x hx]
theorem jy_a3_o {N : jm_M} {k i v q n K j : Nat} (h0 : jm_I N 37 0 k = nI 0) (hi : i < n) (hn : n < 100) (hj : j < 100) (hji : j ≠ i) (hjn : j ≠ n) : jy_lf (jy_a3 N k i v q n K) j = jy_lf N j := by
  rw [← jy_a1_lo (v := v) h0 (show i < 100 by omega) hj hji]
  refine List.filter_congr (fun x hx => ?_)
  have hx := List.mem_range.mp hx
  by_cases h1 : K ≤ x ∧ jy_at (jy_a1 N k i v) i x = true
  · rw [jy_a3_m hx h1.1 hj hn h1.2, decide_eq_false hjn]
    symm
    refine jy_at_f1 (fun z => ?_)
    have := (nI_eq (by omega) (by omega)).mp (z.symm.trans (jy_at_in h1.2).2)
    omega
  · rw [jy_a3_s h1]
theorem rL_2 {M N : jm_M} {k i v q n K : Nat} {a b : List Nat} (h : rL M N) (hk : k < 32) (h0 : jm_I N 37 0 k = nI 0) (hn : jm_I N 31 0 11 = nI n) (hn2 : n < 16) (hi : i < n) (hq : q < n) (hv : jm_I M 17 i 3 = nI v) (hvb : v ≤ 64) (hl : jy_lf N i = a ++ b) (hl2 : jy_lf (jy_a1 N k i v) i = a ++ k :: b) (h4 : a.length + b.length = 4) (hK : jy_u (jy_at (jy_a2 N k i v q n) i) K = 2) : rL (jx_a3 M i k a b v q n) (jy_a3 N k i v q n K) := by
  obtain ⟨n', n1, n16, m1, m2, m3, hpl, hz, hlf, hth⟩ := h
  have en : n' = n := (nI_eq (by omega) (by omega)).mp (m2.symm.trans hn)
  subst en
  have hni : n' ≠ i := by omega
  have hcn : jb_cnt (fun x => !decide (jm_I (jy_a3 N k i v q n' K) 37 0 x = nI 0)) 32 = jb_cnt (fun x => !decide (jm_I N 37 0 x = nI 0)) 32 + 1 := by
    refine jb_cnt_up 32 hk ?_ ?_ (fun x hx he => ?_)
    · rw [h0]; rfl
    · have : jm_I (jy_a3 N k i v q n' K) 37 0 k = nI 1 := jb_Is N 37 0 k (nI 1)
      rw [this]; rfl
    · have : jm_I (jy_a3 N k i v q n' K) 37 0 x = jm_I N 37 0 x := jb_Io he N 37 0 (nI 1) 37 0
      rw [this]
  have cle := jb_cnt_le (fun x => !decide (jm_I N 37 0 x = nI 0)) 32
  have hno : ∀ x, x < 32 → jy_at (jy_a1 N k i v) n' x = false := by
    intro x hx
    rw [jy_a1_at h0 (by omega) (by omega)]
    by_cases e : x = k
    · rw [if_pos e, decide_eq_false hni]
    · rw [if_neg e, Bool.eq_false_iff]
      intro z
      obtain ⟨z1, z2⟩ := jy_at_in z
      obtain ⟨j, j1, j2⟩ := hth x hx z1
      have := (nI_eq (by omega) (by omega)).mp (j2.symm.trans z2)
      omega
  have hLi := jy_a3_i (N := N) (k := k) (v := v) (q := q) (K := K) hi (show n' < 100 by omega)
  have hLn := jy_a3_n (N := N) (k := k) (v := v) (q := q) (K := K) hi (show n' < 100 by omega) hno
  have hsum : a ++ k :: b = jy_lf (jy_a3 N k i v q n' K) i ++ jy_lf (jy_a3 N k i v q n' K) n' := by
    rw [← hl2, hLi, hLn]
    exact jb_cut 32
  have hlenn : (jy_lf (jy_a3 N k i v q n' K) n').length = 2 := by
    rw [hLn, jb_cnt_filter]
    exact hK
  have hleni : (jy_lf (jy_a3 N k i v q n' K) i).length = 3 := by
    have := congrArg List.length hsum
    simp only [List.length_append, List.length_cons] at this
    omega
  have hkx : ∀ j x, (a ++ k :: b)[j]? = some x → jm_I (jx_a1 M i k a b v) 18 i j = nI x := fun j x hj => jx_kx_at (M := M) (i := i) (k := k) (fun m x hm => (hlf i hi).2.2.2.2 m x (by rw [hl]; exact hm)) j x hj
  refine ⟨n' + 1, by omega, by omega, jb_Is (jm_setK (jx_a1 M i k a b v) 24 (jk_op (jm_I (jx_a1 M i k a b v) 24) (q + 1) n' (nI n'))) 5 0 6 (nI (n' + 1)), jb_Is (jm_setI (jm_setK (jm_setI (jm_setI (jy_a1 N k i v) 44 0 (i + 1) (nI (v + 1 + 1))) 31 0 12 (nI (n' + 1))) 43 (jk_op (jm_I N 43) (q + 1) n' (nI (n' + 1)))) 44 0 (n' + 1) (nI 0)) 31 0 11 (nI (n' + 1)), ?_, fun r hr => ?_, fun j hj hnj => ?_, fun j hj => ?_, fun x hx hp => ?_⟩
  · exact (jb_Io (show 12 ≠ 11 by decide) (jm_setI (jm_setK (jm_setI (jm_setI (jy_a1 N k i v) 44 0 (i + 1) (nI (v + 1 + 1))) 31 0 12 (nI (n' + 1))) 43 (jk_op (jm_I N 43) (q + 1) n' (nI (n' + 1)))) 44 0 (n' + 1) (nI 0)) 31 0 (nI (n' + 1)) 31 0).trans (jb_Is (jm_setI (jy_a1 N k i v) 44 0 (i + 1) (nI (v + 1 + 1))) 31 0 12 (nI (n' + 1)))
  · have t24 : jm_I (jx_a3 M i k a b v q n') 24 0 r = jk_op (jm_I M 24) (q + 1) n' (nI n') 0 r := rfl
    have u43 : jm_I (jy_a3 N k i v q n' K) 43 0 r = jk_op (jm_I N 43) (q + 1) n' (nI (n' + 1)) 0 r := rfl
    rw [t24, u43]
    unfold jk_op
    by_cases r1 : r = q + 1
    · rw [if_pos ⟨rfl, r1⟩, if_pos ⟨rfl, r1⟩]
      exact ⟨n', by omega, rfl, rfl⟩
    · rw [if_neg (fun z => r1 z.2), if_neg (fun z => r1 z.2)]
      by_cases r2 : r ≤ q + 1
      · rw [jk_sh_lo r2, jk_sh_lo r2]
        obtain ⟨j, j1, j2, j3⟩ := hpl r (by omega)
        exact ⟨j, by omega, j2, j3⟩
      · rw [jk_sh_hi (by omega) (by omega), jk_sh_hi (by omega) (by omega)]
        obtain ⟨j, j1, j2, j3⟩ := hpl (r - 1) (by omega)
        exact ⟨j, by omega, j2, j3⟩
  · obtain ⟨z1, z2⟩ := hz j hj (by omega)
    have hne : j ≠ i := by omega
    have hne2 : j ≠ n' := by omega
    exact ⟨(jb_Ij hne _ 17 3 _ 17 2).trans ((jb_Ij hne _ 17 2 _ 17 2).trans ((jb_Ij hne2 _ 17 2 _ 17 2).trans ((jb_Ij hne _ 17 3 _ 17 2).trans ((jb_Ij hne _ 17 2 _ 17 2).trans z1)))), (jb_Ij hne _ 17 3 _ 17 3).trans ((jb_Ij hne _ 17 2 _ 17 3).trans ((jb_Ij hne2 _ 17 2 _ 17 3).trans ((jb_Ij hne _ 17 3 _ 17 3).trans ((jb_Ij hne _ 17 2 _ 17 3).trans z2))))⟩
  · rw [hcn]
    by_cases hjn : j = n'
    · subst hjn
      rw [hlenn]
      obtain ⟨z1, z2⟩ := hz j (by omega) (Nat.le_refl _)
      refine ⟨(jb_Ij hni _ 17 3 _ 17 2).trans ((jb_Ij hni _ 17 2 _ 17 2).trans (jb_Is _ 17 j 2 _)), by decide, fun _ => by decide, ⟨0, Nat.zero_le _, (jb_Ij hni _ 17 3 _ 17 3).trans ((jb_Ij hni _ 17 2 _ 17 3).trans ((jb_Io (show 3 ≠ 2 by decide) _ 17 j _ 17 j).trans ((jb_Ij hni _ 17 3 _ 17 3).trans ((jb_Ij hni _ 17 2 _ 17 3).trans z2)))), jb_Is _ 44 0 (j + 1) _⟩, fun m x hm => ?_⟩
      have hm2 : m < 2 := by
        rw [← hlenn]
        exact (List.getElem?_eq_some_iff.mp hm).1
      have hg : (a ++ k :: b)[m + 3]? = some x := by
        rw [hsum, List.getElem?_append_right (by omega), hleni, Nat.add_sub_cancel]
        exact hm
      have hx := hkx _ _ hg
      rcases (show m = 0 ∨ m = 1 by omega) with rfl | rfl
      · exact ((jb_Io (show 0 ≠ 1 by decide) _ 18 j _ 18 j).trans (jb_Is _ 18 j 0 _)).trans hx
      · exact (jb_Is _ 18 j 1 _).trans hx
    · have hj' : j < n' := by omega
      obtain ⟨z1, z2, z3, ⟨u, u1, u2, u3⟩, z5⟩ := hlf j hj'
      by_cases hne : j = i
      · subst hne
        have huv : u = v := (nI_eq (by omega) (by omega)).mp (u2.symm.trans hv)
        rw [hleni]
        refine ⟨(jb_Io (show 2 ≠ 3 by decide) _ 17 j _ 17 j).trans (jb_Is _ 17 j 2 _), by decide, fun _ => by decide, ⟨v + 1 + 1, by omega, jb_Is _ 17 j 3 _, (jb_Io (show j + 1 ≠ n' + 1 by omega) _ 44 0 _ 44 0).trans (jb_Is _ 44 0 (j + 1) _)⟩, fun m x hm => ?_⟩
        have hm2 : m < (jy_lf (jy_a3 N k j v q n' K) j).length := (List.getElem?_eq_some_iff.mp hm).1
        have hg : (a ++ k :: b)[m]? = some x := by
          rw [hsum, List.getElem?_append_left hm2]
          exact hm
        exact ((jb_Ij hjn _ 18 1 _ 18 m).trans (jb_Ij hjn _ 18 0 _ 18 m)).trans (hkx _ _ hg)
      · rw [jy_a3_o h0 hi (by omega) (by omega) hne hjn]
        refine ⟨(jb_Ij hne _ 17 3 _ 17 2).trans ((jb_Ij hne _ 17 2 _ 17 2).trans ((jb_Ij hjn _ 17 2 _ 17 2).trans ((jb_Ij hne _ 17 3 _ 17 2).trans ((jb_Ij hne _ 17 2 _ 17 2).trans z1)))), z2, fun _ => z3 (by omega), ⟨u, by omega, (jb_Ij hne _ 17 3 _ 17 3).trans ((jb_Ij hne _ 17 2 _ 17 3).trans ((jb_Ij hjn _ 17 2 _ 17 3).trans ((jb_Ij hne _ 17 3 _ 17 3).trans ((jb_Ij hne _ 17 2 _ 17 3).trans u2)))), (jb_Io (show j + 1 ≠ n' + 1 by omega) _ 44 0 _ 44 0).trans ((jb_Io (show j + 1 ≠ i + 1 by omega) _ 44 0 _ 44 0).trans ((jb_Io (show j + 1 ≠ i + 1 by omega) _ 44 0 _ 44 0).trans u3))⟩, fun m x hm => ?_⟩
        exact ((jb_Ij hjn _ 18 1 _ 18 m).trans (jb_Ij hjn _ 18 0 _ 18 m)).trans ((jx_kx_ow hne m).trans (z5 m x hm))
  · have e42 : jm_I (jy_a3 N k i v q n' K) 42 0 x = nI (n' + 1) ∨ jm_I (jy_a3 N k i v q n' K) 42 0 x = jm_I (jy_a1 N k i v) 42 0 x := by
      have e : jm_I (jy_a3 N k i v q n' K) 42 0 x = jy_mv (jy_a2 N k i v q n') i n' K 0 x := jk_I _ _ _ _ _
      rw [e]
      unfold jy_mv
      split
      · exact Or.inl rfl
      · exact Or.inr rfl
    rcases e42 with e42 | e42
    · exact ⟨n', by omega, e42⟩
    · rw [e42]
      by_cases e : x = k
      · subst e
        exact ⟨i, by omega, jb_Is _ 42 0 x (nI (i + 1))⟩
      · have e37 : jm_I (jy_a3 N k i v q n' K) 37 0 x = jm_I N 37 0 x := jb_Io e N 37 0 (nI 1) 37 0
        have e42 : jm_I (jy_a1 N k i v) 42 0 x = jm_I N 42 0 x := jb_Io e _ 42 0 (nI (i + 1)) 42 0
        rw [e37] at hp
        rw [e42]
        obtain ⟨j, j1, j2⟩ := hth x hx hp
        exact ⟨j, by omega, j2⟩
