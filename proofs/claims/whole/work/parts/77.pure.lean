/-! A record added: the leaves. -/
theorem jb_cnt_or {p q : Nat → Bool} : ∀ m, (∀ x, x < m → p x = true → q x = true → False) → jb_cnt (fun x => p x || q x) m = jb_cnt p m + jb_cnt q m := by
  intro m
  induction m with
  | zero => intro _; rfl
  | succ m ih =>
    intro h
    have ih := ih (fun x hx => h x (by omega))
    have hm := h m (by omega)
    show jb_cnt (fun x => p x || q x) m + (if (p m || q m) = true then 1 else 0) = (jb_cnt p m + (if p m = true then 1 else 0)) + (jb_cnt q m + (if q m = true then 1 else 0))
    rw [ih]
    cases hp : p m <;> cases hq : q m
    · simp
    · simp
      omega
    · simp
      omega
    · exact absurd (hm hp hq) id
def jy_un (N : jm_M) : Nat → Nat → Bool
  | 0 => fun _ => false
  | n + 1 => fun x => jy_un N n x || jy_at N n x
theorem jy_un_ex {N : jm_M} : ∀ n x, jy_un N n x = true → ∃ i : Nat, i < n ∧ jy_at N i x = true := by
  intro n
  induction n with
  | zero => intro x h; exact absurd h (by unfold jy_un; decide)
  | succ n ih =>
    intro x h
    unfold jy_un at h
    rcases (Bool.or_eq_true _ _).mp h with h | h
    · obtain ⟨i, h1, h2⟩ := ih x h
      exact ⟨i, by omega, h2⟩
    · exact ⟨n, by omega, h⟩
theorem jy_at_in {N : jm_M} {i x : Nat} (h : jy_at N i x = true) : ¬ jm_I N 37 0 x = nI 0 ∧ jm_I N 42 0 x = nI (i + 1) := by
  unfold jy_at at h
  simp only [Bool.and_eq_true, Bool.not_eq_true', decide_eq_false_iff_not, decide_eq_true_eq] at h
  exact h
theorem jy_at_t {N : jm_M} {i x : Nat} (h1 : ¬ jm_I N 37 0 x = nI 0) (h2 : jm_I N 42 0 x = nI (i + 1)) : jy_at N i x = true := by
  unfold jy_at
  rw [decide_eq_false h1, decide_eq_true h2]
  rfl
theorem jy_at_f0 {N : jm_M} {i x : Nat} (h1 : jm_I N 37 0 x = nI 0) : jy_at N i x = false := by
  unfold jy_at
  rw [decide_eq_true h1]
  rfl
theorem jy_at_f1 {N : jm_M} {i x : Nat} (h1 : ¬ jm_I N 42 0 x = nI (i + 1)) : jy_at N i x = false := by
  unfold jy_at
  rw [decide_eq_false h1, Bool.and_false]
theorem jy_un_cnt {N : jm_M} : ∀ n, n ≤ 16 → (∀ i, i < n → 2 ≤ (jy_lf N i).length) → 2 * n ≤ jb_cnt (jy_un N n) 32 := by
  intro n
  induction n with
  | zero => intro _ _; omega
  | succ n ih =>
    intro hn h
    have ih := ih (by omega) (fun i hi => h i (by omega))
    have hl := h n (by omega)
    unfold jy_lf at hl
    rw [jb_cnt_filter] at hl
    have : jb_cnt (jy_un N (n + 1)) 32 = jb_cnt (jy_un N n) 32 + jb_cnt (jy_at N n) 32 := by
      refine jb_cnt_or 32 (fun x _ h1 h2 => ?_)
      obtain ⟨i, h3, h4⟩ := jy_un_ex n x h1
      have e := (jy_at_in h4).2.symm.trans (jy_at_in h2).2
      have := (nI_eq (by omega) (by omega)).mp e
      omega
    omega
/-- with a record still to add there are fewer than 16 leaves -/
theorem jr_lt16 {M N : jm_M} {n k : Nat} (h : rL M N) (hk : k < 32) (h0 : jm_I N 37 0 k = nI 0) (hn : jm_I N 31 0 11 = nI n) (hn2 : n ≤ 16) : n < 16 := by
  obtain ⟨n', n1, n16, m1, m2, -, -, -, hlf, -⟩ := h
  have en : n' = n := (nI_eq (by omega) (by omega)).mp (m2.symm.trans hn)
  subst en
  by_cases h2 : 2 ≤ n'
  · have hc := jy_un_cnt n' n16 (fun i hi => (hlf i hi).2.2.1 h2)
    have hup : jb_cnt (fun x => jy_un N n' x || decide (x = k)) 32 = jb_cnt (jy_un N n') 32 + 1 := by
      refine jb_cnt_up 32 hk ?_ ?_ (fun x hx he => ?_)
      · rw [Bool.eq_false_iff]
        intro z
        obtain ⟨i, -, z2⟩ := jy_un_ex n' k z
        exact (jy_at_in z2).1 h0
      · rw [decide_eq_true (rfl : k = k), Bool.or_true]
      · rw [decide_eq_false he, Bool.or_false]
    have := jb_cnt_le (fun x => jy_un N n' x || decide (x = k)) 32
    omega
  · omega
/-- the row of leaf i' after the first writes -/
theorem jy_a1_at {N : jm_M} {k i v i' x : Nat} (h0 : jm_I N 37 0 k = nI 0) (hi : i < 100) (hi' : i' < 100) : jy_at (jy_a1 N k i v) i' x = if x = k then decide (i' = i) else jy_at N i' x := by
  by_cases e : x = k
  · subst e
    have e37 : jm_I (jy_a1 N x i v) 37 0 x = nI 1 := jb_Is N 37 0 x (nI 1)
    have e42 : jm_I (jy_a1 N x i v) 42 0 x = nI (i + 1) := jb_Is _ 42 0 x (nI (i + 1))
    rw [if_pos rfl]
    unfold jy_at
    rw [e37, e42]
    by_cases q : i' = i
    · subst q
      rw [decide_eq_true (rfl : nI (i' + 1) = nI (i' + 1)), decide_eq_true (rfl : i' = i')]
      decide
    · have q2 : ¬ nI (i + 1) = nI (i' + 1) := fun z => q (by have := (nI_eq (by omega) (by omega)).mp z; omega)
      rw [decide_eq_false q, decide_eq_false q2, Bool.and_false]
  · have e37 : jm_I (jy_a1 N k i v) 37 0 x = jm_I N 37 0 x := jb_Io e N 37 0 (nI 1) 37 0
    have e42 : jm_I (jy_a1 N k i v) 42 0 x = jm_I N 42 0 x := jb_Io e _ 42 0 (nI (i + 1)) 42 0
    rw [if_neg e]
    unfold jy_at
    rw [e37, e42]
theorem jy_a1_lo {N : jm_M} {k i v i' : Nat} (h0 : jm_I N 37 0 k = nI 0) (hi : i < 100) (hi' : i' < 100) (hne : i' ≠ i) : jy_lf (jy_a1 N k i v) i' = jy_lf N i' := by
  refine List.filter_congr (fun x _ => ?_)
  rw [jy_a1_at h0 hi hi']
  by_cases e : x = k
  · subst e
    rw [if_pos rfl, decide_eq_false hne, jy_at_f0 h0]
  · rw [if_neg e]
theorem jy_a1_li {N : jm_M} {k i v : Nat} (h0 : jm_I N 37 0 k = nI 0) (hk : k < 32) (hi : i < 100) : ∃ a b, jy_lf N i = a ++ b ∧ jy_lf (jy_a1 N k i v) i = a ++ k :: b ∧ (∀ x ∈ a, x < k) ∧ ∀ x ∈ b, k < x ∧ x < 32 := by
  obtain ⟨a, b, h1, h2, h3, h4⟩ := jb_ins (p := jy_at N i) (p' := jy_at (jy_a1 N k i v) i) (k := k) (jy_at_f0 h0) (by rw [jy_a1_at h0 hi hi, if_pos rfl]; exact decide_eq_true rfl) 32 hk (fun j hj he => by rw [jy_a1_at h0 hi hi, if_neg he])
  refine ⟨a, b, h1, h2, h3, fun x hx => ⟨h4 x hx, ?_⟩⟩
  have : x ∈ (List.range 32).filter (jy_at N i) := by rw [h1]; exact List.mem_append_right _ hx
  exact List.mem_range.mp (List.mem_filter.mp this).1
/-- leaves, no cut -/
theorem rL_1 {M N : jm_M} {k i v n : Nat} {a b : List Nat} (h : rL M N) (hk : k < 32) (h0 : jm_I N 37 0 k = nI 0) (hn : jm_I N 31 0 11 = nI n) (hn2 : n ≤ 16) (hi : i < n) (hv : jm_I M 17 i 3 = nI v) (hvb : v ≤ 64) (hl : jy_lf N i = a ++ b) (hl2 : jy_lf (jy_a1 N k i v) i = a ++ k :: b) (h4 : a.length + b.length < 4) : rL (jx_a1 M i k a b v) (jy_a1 N k i v) := by
  obtain ⟨n', n1, n16, m1, m2, m3, hpl, hz, hlf, hth⟩ := h
  have en : n' = n := (nI_eq (by omega) (by omega)).mp (m2.symm.trans hn)
  subst en
  have hcn : jb_cnt (fun x => !decide (jm_I (jy_a1 N k i v) 37 0 x = nI 0)) 32 = jb_cnt (fun x => !decide (jm_I N 37 0 x = nI 0)) 32 + 1 := by
    refine jb_cnt_up 32 hk ?_ ?_ (fun x hx he => ?_)
    · rw [h0]; rfl
    · have : jm_I (jy_a1 N k i v) 37 0 k = nI 1 := jb_Is N 37 0 k (nI 1)
      rw [this]; rfl
    · have : jm_I (jy_a1 N k i v) 37 0 x = jm_I N 37 0 x := jb_Io he N 37 0 (nI 1) 37 0
      rw [this]
  have cle := jb_cnt_le (fun x => !decide (jm_I N 37 0 x = nI 0)) 32
  refine ⟨n', n1, n16, m1, m2, m3, hpl, fun j hj hnj => ?_, fun j hj => ?_, fun x hx hp => ?_⟩
  · obtain ⟨z1, z2⟩ := hz j hj hnj
    have hne : j ≠ i := by omega
    exact ⟨(jb_Ij hne _ 17 3 _ 17 2).trans ((jb_Ij hne _ 17 2 _ 17 2).trans z1), (jb_Ij hne _ 17 3 _ 17 3).trans ((jb_Ij hne _ 17 2 _ 17 3).trans z2)⟩
  · obtain ⟨z1, z2, z3, ⟨u, u1, u2, u3⟩, z5⟩ := hlf j hj
    rw [hcn]
    by_cases hne : j = i
    · subst hne
      have huv : u = v := (nI_eq (by omega) (by omega)).mp (u2.symm.trans hv)
      rw [hl2]
      rw [hl] at z1 z2 z3
      simp only [List.length_append, List.length_cons] at z1 z2 z3 ⊢
      refine ⟨?_, by omega, fun _ => by omega, ⟨v + 1, by omega, jb_Is _ 17 j 3 _, jb_Is _ 44 0 (j + 1) _⟩, fun m x hm => ?_⟩
      · exact (jb_Io (show 2 ≠ 3 by decide) _ 17 j _ 17 j).trans ((jb_Is _ 17 j 2 _).trans (by rw [Nat.add_assoc]))
      · exact jx_kx_at (M := M) (i := j) (k := k) (fun m x hm => z5 m x (by rw [hl]; exact hm)) m x hm
    · rw [jy_a1_lo h0 (by omega) (by omega) hne]
      refine ⟨(jb_Ij hne _ 17 3 _ 17 2).trans ((jb_Ij hne _ 17 2 _ 17 2).trans z1), z2, z3, ⟨u, by omega, (jb_Ij hne _ 17 3 _ 17 3).trans ((jb_Ij hne _ 17 2 _ 17 3).trans u2), (jb_Io (show j + 1 ≠ i + 1 by omega) _ 44 0 _ 44 0).trans u3⟩, fun m x hm => ?_⟩
      exact (jx_kx_ow hne m).trans (z5 m x hm)
  · by_cases e : x = k
    · subst e
      exact ⟨i, hi, jb_Is _ 42 0 x (nI (i + 1))⟩
    · have e37 : jm_I (jy_a1 N k i v) 37 0 x = jm_I N 37 0 x := jb_Io e N 37 0 (nI 1) 37 0
      have e42 : jm_I (jy_a1 N k i v) 42 0 x = jm_I N 42 0 x := jb_Io e _ 42 0 (nI (i + 1)) 42 0
      rw [e37] at hp
      rw [e42]
      exact hth x hx hp
