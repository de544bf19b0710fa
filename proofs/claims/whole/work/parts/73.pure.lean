/-! A key put into a sorted row; a row cut; a shift. -/
theorem jb_ins {p p' : Nat → Bool} {k : Nat} (h0 : p k = false) (h1 : p' k = true) : ∀ n, k < n → (∀ j, j < n → j ≠ k → p' j = p j) → ∃ a b, (List.range n).filter p = a ++ b ∧ (List.range n).filter p' = a ++ k :: b ∧ (∀ x ∈ a, x < k) ∧ ∀ x ∈ b, k < x := by
  intro n
  induction n with
  | zero => intro h; omega
  | succ n ih =>
    intro hk hj
    by_cases e : k = n
    · subst e
      have hc : (List.range k).filter p' = (List.range k).filter p := List.filter_congr (fun x hx => hj x (by have := List.mem_range.mp hx; omega) (by have := List.mem_range.mp hx; omega))
      refine ⟨(List.range k).filter p, [], ?_, ?_, ?_, ?_⟩
      · rw [List.range_succ, List.filter_append]
        simp [h0]
      · rw [List.range_succ, List.filter_append, hc]
        simp [h1]
      · intro x hx
        exact List.mem_range.mp (List.mem_filter.mp hx).1
      · intro x hx; cases hx
    · obtain ⟨a, b, i1, i2, i3, i4⟩ := ih (by omega) (fun j h1 h2 => hj j (by omega) h2)
      refine ⟨a, b ++ [n].filter p, ?_, ?_, i3, ?_⟩
      · rw [List.range_succ, List.filter_append, i1, List.append_assoc]
      · have : [n].filter p' = [n].filter p := List.filter_congr (fun x hx => by
          have : x = n := List.mem_singleton.mp hx
          subst this
          exact hj x (by omega) (by omega))
        rw [List.range_succ, List.filter_append, i2, this]
        simp
      · intro x hx
        rcases List.mem_append.mp hx with h | h
        · exact i4 x h
        · have := List.mem_singleton.mp (List.mem_filter.mp h).1
          omega
theorem jb_cut0 {p : Nat → Bool} {K : Nat} : ∀ n, n ≤ K → (List.range n).filter (fun x => p x && decide (K ≤ x)) = [] := by
  intro n h
  rw [List.filter_eq_nil_iff]
  intro x hx
  have := List.mem_range.mp hx
  rw [decide_eq_false (show ¬ K ≤ x by omega)]
  simp
theorem jb_cut {p : Nat → Bool} {K : Nat} : ∀ n, (List.range n).filter p = (List.range n).filter (fun x => p x && decide (x < K)) ++ (List.range n).filter (fun x => p x && decide (K ≤ x)) := by
  intro n
  induction n with
  | zero => rfl
  | succ n ih =>
    by_cases e : n < K
    · rw [jb_cut0 (n + 1) (by omega), List.append_nil]
      refine List.filter_congr (fun x hx => ?_)
      have := List.mem_range.mp hx
      rw [decide_eq_true (show x < K by omega), Bool.and_true]
    · rw [List.range_succ, List.filter_append, List.filter_append, List.filter_append, ih, List.append_assoc, List.append_assoc]
      congr 1
      have z1 : [n].filter (fun x => p x && decide (x < K)) = [] := by
        rw [List.filter_eq_nil_iff]
        intro x hx
        have := List.mem_singleton.mp hx
        subst this
        rw [decide_eq_false e]
        simp
      have z2 : [n].filter (fun x => p x && decide (K ≤ x)) = [n].filter p := by
        refine List.filter_congr (fun x hx => ?_)
        have := List.mem_singleton.mp hx
        subst this
        rw [decide_eq_true (show K ≤ x by omega), Bool.and_true]
      rw [z1, z2, List.nil_append]
def jk_sh (g : Nat → Nat → Int32) (w e n : Nat) : Nat → Nat → Int32 := fun i j => if i = w ∧ e < j ∧ j ≤ n then g w (j - 1) else g i j
theorem jk_sh0 {M : jm_M} {K w n : Nat} {g : Nat → Nat → Int32} : jm_setK M K (jk_sh g w n n) = jm_setK M K g := by
  refine jk_ex (fun i j => ?_)
  unfold jk_sh
  rw [if_neg (by omega)]
theorem jk_sh1 {M : jm_M} {K w e n : Nat} {g : Nat → Nat → Int32} (h : e < n) : jm_setK M K (fun b c => if b = w ∧ c = e + 1 then g w e else jk_sh g w (e + 1) n b c) = jm_setK M K (jk_sh g w e n) := by
  refine jk_ex (fun i j => ?_)
  unfold jk_sh
  by_cases h1 : i = w ∧ j = e + 1
  · rw [if_pos h1, if_pos ⟨h1.1, by omega, by omega⟩, h1.2]
    rfl
  · rw [if_neg h1]
    by_cases h2 : i = w ∧ e + 1 < j ∧ j ≤ n
    · rw [if_pos h2, if_pos ⟨h2.1, by omega, h2.2.2⟩]
    · rw [if_neg h2, if_neg (by omega)]
theorem jk_sh_lo {w e n i j : Nat} {g : Nat → Nat → Int32} (h : j ≤ e) : jk_sh g w e n i j = g i j := if_neg (by omega)
theorem jk_sh_ow {w e n i j : Nat} {g : Nat → Nat → Int32} (h : i ≠ w) : jk_sh g w e n i j = g i j := if_neg (fun z => h z.1)
theorem jk_sh_hi {w e n j : Nat} {g : Nat → Nat → Int32} (h1 : e < j) (h2 : j ≤ n) : jk_sh g w e n w j = g w (j - 1) := if_pos ⟨rfl, h1, h2⟩
/-- the rows of leaf i: the loop of insert -/
theorem xIns0 {d i k : Nat} {M : jm_M} {a b : List Nat} (hX : jx_S M) (hi : i < 16) (hk : k < 32) (hab : a.length + b.length ≤ 4) (ha : ∀ x ∈ a, x < k) (hb : ∀ x ∈ b, k < x ∧ x < 32) (hl : ∀ j x, (a ++ b)[j]? = some x → jm_I M 18 i j = nI x) : ∀ f, f ≤ b.length → jm_D d 60 3 [some (.inr (some (17, i))), some (.inl (nI k)), some (.inl (nI (a.length + f)))] [] (jm_setK M 18 (jk_sh (jm_I M 18) i (a.length + f) (a.length + b.length))) = jm_D d 60 25 [some (.inr (some (17, i))), some (.inl (nI k)), some (.inl (nI a.length))] [] (jm_setK M 18 (jk_sh (jm_I M 18) i a.length (a.length + b.length))) := by
  intro f
  induction f with
  | zero =>
    intro _
    rw [e60_3, Nat.add_zero]
    by_cases h0 : a.length = 0
    · have c1 : nI a.length ≤ nI 0 := nI_le (by omega) (by decide)
      simp only [e60_4, if_pos c1]
    · have c1 : ¬ nI a.length ≤ nI 0 := nI_ge (by omega) (by omega)
      have hg : (a ++ b)[a.length - 1]? = some (a[a.length - 1]'(by omega)) := by
        rw [List.getElem?_append_left (by omega), List.getElem?_eq_getElem]
      have hm := hl _ _ hg
      have hlt := ha _ (List.getElem_mem (show a.length - 1 < a.length by omega))
      have e1 : jm_I (jm_setK M 18 (jk_sh (jm_I M 18) i a.length (a.length + b.length))) 18 i (a.length - 1) = nI (a[a.length - 1]'(by omega)) := (jk_I _ _ _ _ _).trans ((jk_sh_lo (by omega)).trans hm)
      have c2 : nI (a[a.length - 1]'(by omega)) ≤ nI k := nI_le (by omega) (by omega)
      simp only [e60_4, if_neg c1, e60_5, e60_6, e60_7, e60_8, e60_9, e60_10, e60_11, e60_12, jk_F, jk_n, xf_0 hX hi, xf_1 hX hi, xf_2 hX hi, pk_sub (show 1 ≤ a.length by omega), jb_ix (show a.length - 1 < 5 by omega) (by decide), e1, if_pos c2]
  | succ f ih =>
    intro hf
    have ih := ih (by omega)
    have c1 : ¬ nI (a.length + f + 1) ≤ nI 0 := nI_ge (by omega) (by omega)
    have hg : (a ++ b)[a.length + f]? = some (b[f]'(by omega)) := by
      rw [List.getElem?_append_right (by omega), Nat.add_sub_cancel_left, List.getElem?_eq_getElem]
    have hm := hl _ _ hg
    have hlt := hb _ (List.getElem_mem (show f < b.length by omega))
    have e1 : jm_I (jm_setK M 18 (jk_sh (jm_I M 18) i (a.length + f + 1) (a.length + b.length))) 18 i (a.length + f) = nI (b[f]'(by omega)) := (jk_I _ _ _ _ _).trans ((jk_sh_lo (by omega)).trans hm)
    have c2 : ¬ nI (b[f]'(by omega)) ≤ nI k := nI_ge (by omega) (by omega)
    have ee := jk_sh1 (M := M) (K := 18) (w := i) (e := a.length + f) (n := a.length + b.length) (g := jm_I M 18) (by omega)
    rw [hm] at ee
    rw [show a.length + (f + 1) = a.length + f + 1 from rfl, e60_3]
    simp only [e60_4, if_neg c1, e60_5, e60_6, e60_7, e60_8, e60_9, e60_10, e60_11, e60_12, e60_13, e60_14, e60_15, e60_16, e60_17, e60_18, e60_19, e60_20, e60_21, e60_22, e60_23, e60_24, jk_F, jk_n, xf_0 hX hi, xf_1 hX hi, xf_2 hX hi, jb_sub1, jb_ix (show a.length + f < 5 by omega) (by decide), jb_ix (show a.length + f + 1 < 5 by omega) (by decide), e1, if_neg c2, jk_set, pk_m1, ee, ih]
def jx_kx (M : jm_M) (i k q c : Nat) : Nat → Nat → Int32 := fun b j => if b = i ∧ j = q then nI k else jk_sh (jm_I M 18) i q c b j
/-- insert -/
theorem xIns {d i k v : Nat} {M : jm_M} {a b : List Nat} (hX : jx_S M) (hi : i < 16) (hk : k < 32) (hab : a.length + b.length ≤ 4) (ha : ∀ x ∈ a, x < k) (hb : ∀ x ∈ b, k < x ∧ x < 32) (hl : ∀ j x, (a ++ b)[j]? = some x → jm_I M 18 i j = nI x) (hc : jm_I M 17 i 2 = nI (a.length + b.length)) (hv : jm_I M 17 i 3 = nI v) : jm_D d 60 0 [some (.inr (some (17, i))), some (.inl (nI k)), none] [] M = some (none, jm_setI (jm_setI (jm_setK M 18 (jx_kx M i k a.length (a.length + b.length))) 17 i 2 (nI (a.length + b.length + 1))) 17 i 3 (nI (v + 1))) := by
  have h0 := xIns0 (d := d) hX hi hk hab ha hb hl b.length (Nat.le_refl _)
  rw [jk_sh0, jk_id] at h0
  simp only [e60_0, e60_1, e60_2, hc, h0]
  have e1 : jm_I (jm_setK M 18 (jx_kx M i k a.length (a.length + b.length))) 17 i 2 = nI (a.length + b.length) := hc
  have e2 : jm_I (jm_setI (jm_setK M 18 (jx_kx M i k a.length (a.length + b.length))) 17 i 2 (nI (a.length + b.length + 1))) 17 i 3 = nI v := (jb_Io (by decide) _ _ _ _ _ _).trans hv
  have e3 : jm_setI (jm_setK M 18 (jk_sh (jm_I M 18) i a.length (a.length + b.length))) 18 i a.length (nI k) = jm_setK M 18 (jx_kx M i k a.length (a.length + b.length)) := jk_set _ _ _ _ _ _
  simp only [e60_25, e60_26, e60_27, e60_28, e60_29, e60_30, e60_31, e60_32, e60_33, e60_34, e60_35, e60_36, e60_37, e60_38, e60_39, e60_40, e60_41, e60_42, jk_F, jk_n, xf_0 hX hi, xf_1 hX hi, xf_2 hX hi, jb_ix (show a.length < 5 by omega) (by decide), e3, e1, nI_add, e2]
theorem jx_kx_at {M : jm_M} {i k : Nat} {a b : List Nat} (hl : ∀ j x, (a ++ b)[j]? = some x → jm_I M 18 i j = nI x) : ∀ j x, (a ++ k :: b)[j]? = some x → jx_kx M i k a.length (a.length + b.length) i j = nI x := by
  intro j x h
  unfold jx_kx
  by_cases h1 : j < a.length
  · rw [if_neg (by omega), jk_sh_lo (by omega)]
    apply hl
    rw [List.getElem?_append_left h1] at h ⊢
    exact h
  · by_cases h2 : j = a.length
    · subst h2
      rw [if_pos ⟨rfl, rfl⟩]
      rw [List.getElem?_append_right (Nat.le_refl _), Nat.sub_self] at h
      cases h
      rfl
    · obtain ⟨m, rfl⟩ : ∃ m, j = a.length + m + 1 := ⟨j - a.length - 1, by omega⟩
      rw [List.getElem?_append_right (by omega), show a.length + m + 1 - a.length = m + 1 by omega, List.getElem?_cons_succ] at h
      have hm : m < b.length := by
        rw [List.getElem?_eq_some_iff] at h
        exact h.1
      rw [if_neg (by omega), jk_sh_hi (by omega) (by omega), show a.length + m + 1 - 1 = a.length + m from rfl]
      apply hl
      rw [List.getElem?_append_right (by omega), Nat.add_sub_cancel_left]
      exact h
theorem jx_kx_ow {M : jm_M} {i k q c b : Nat} (h : b ≠ i) (j : Nat) : jx_kx M i k q c b j = jm_I M 18 b j := by
  unfold jx_kx
  rw [if_neg (fun z => h z.1), jk_sh_ow h]
