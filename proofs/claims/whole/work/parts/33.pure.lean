/-! The relation between the class's memory M and the reference's memory N. -/
def jb_cnt (p : Nat → Bool) : Nat → Nat
  | 0 => 0
  | n + 1 => jb_cnt p n + (if p n = true then 1 else 0)
theorem jb_cnt_le (p : Nat → Bool) (n : Nat) : jb_cnt p n ≤ n := by
  induction n with
  | zero => exact Nat.le_refl _
  | succ n ih => unfold jb_cnt; split <;> omega
theorem jb_cnt_congr {p q : Nat → Bool} {n : Nat} (h : ∀ k, k < n → p k = q k) : jb_cnt p n = jb_cnt q n := by
  induction n with
  | zero => rfl
  | succ n ih => unfold jb_cnt; rw [ih (fun k hk => h k (by omega)), h n (by omega)]
theorem jb_cnt_filter (p : Nat → Bool) (n : Nat) : ((List.range n).filter p).length = jb_cnt p n := by
  induction n with
  | zero => rfl
  | succ n ih =>
    rw [List.range_succ, List.filter_append, List.length_append, ih]
    show _ = jb_cnt p n + (if p n = true then 1 else 0)
    cases h : p n <;> simp [h]
/-- procedures -/
def rP (M N : jm_M) : Prop := ∀ p, p < 4 → ∃ n, n ≤ 16 ∧ jm_I M 6 p 4 = nI n ∧ jm_I N 32 0 p = nI n ∧ (∀ j, j < 16 → jm_I M 7 p j = jm_I N 33 0 (16 * p + j) ∧ jm_I M 8 p j = jm_I N 34 0 (16 * p + j) ∧ jm_I M 9 p j = jm_I N 35 0 (16 * p + j) ∧ jm_I M 10 p j = jm_I N 36 0 (16 * p + j)) ∧ ∀ j, j < n → ∃ o a, o < 12 ∧ a < 8 ∧ jm_I M 7 p j = nI o ∧ jm_I M 8 p j = nI a ∧ ((o = 1 ∨ o = 2 ∨ o = 3 ∨ o = 4 ∨ o = 6 ∨ o = 7 ∨ o = 9) → ∃ b, b < 8 ∧ jm_I M 9 p j = nI b) ∧ ((o = 1 ∨ o = 2 ∨ o = 3 ∨ o = 4 ∨ o = 9) → ∃ c, c < 8 ∧ jm_I M 10 p j = nI c) ∧ (o = 5 → ∃ b, b < 16 ∧ jm_I M 9 p j = nI b) ∧ ((o = 6 ∨ o = 9) → a < 7)
/-- one record -/
def rSk (C : Nat) (M N : jm_M) (k : Nat) : Prop :=
  (jm_I N 37 0 k = nI 0 ∧ jm_I M 19 0 k = nI 0 ∧ jm_I M 20 0 k = nI 0 ∧ jm_I M 21 0 k = nI 0 ∧ jm_I M 22 0 k = nI 0) ∨
  (jm_I N 37 0 k = nI 1 ∧ ((jm_I N 38 0 k = nI 1 ∧ jm_I M 19 0 k = nI 2) ∨ (jm_I N 38 0 k = nI 0 ∧ jm_I M 19 0 k = nI 1 ∧ jm_I N 39 0 k = nI 0)) ∧ jm_I M 20 0 k = jm_I N 39 0 k ∧ (∃ s, s ≤ C ∧ jm_I M 21 0 k = nI s ∧ jm_I N 40 0 k = nI s) ∧ (∃ l, l ≤ 4 ∧ jm_I M 22 0 k = nI l ∧ jm_I N 41 0 k = nI l))
def rS (C : Nat) (M N : jm_M) : Prop := ∀ k, k < 32 → rSk C M N k
/-- leaves: leaf i holds the keys that are there with home i + 1, in their order -/
def jy_at (N : jm_M) (i k : Nat) : Bool := !decide (jm_I N 37 0 k = nI 0) && decide (jm_I N 42 0 k = nI (i + 1))
def jy_lf (N : jm_M) (i : Nat) : List Nat := (List.range 32).filter (jy_at N i)
def rL (M N : jm_M) : Prop := ∃ n, 1 ≤ n ∧ n ≤ 16 ∧ jm_I M 5 0 6 = nI n ∧ jm_I N 31 0 11 = nI n ∧ jm_I N 31 0 12 = nI n ∧ (∀ q, q < n → ∃ i, i < n ∧ jm_I M 24 0 q = nI i ∧ jm_I N 43 0 q = nI (i + 1)) ∧
  (∀ i, i < 16 → n ≤ i → jm_I M 17 i 2 = nI 0 ∧ jm_I M 17 i 3 = nI 0) ∧
  (∀ i, i < n → jm_I M 17 i 2 = nI (jy_lf N i).length ∧ (jy_lf N i).length ≤ 4 ∧ (2 ≤ n → 2 ≤ (jy_lf N i).length) ∧ (∃ v, v ≤ 2 * jb_cnt (fun k => !decide (jm_I N 37 0 k = nI 0)) 32 ∧ jm_I M 17 i 3 = nI v ∧ jm_I N 44 0 (i + 1) = nI v) ∧ ∀ j k, (jy_lf N i)[j]? = some k → jm_I M 18 i j = nI k) ∧
  (∀ k, k < 32 → ¬ jm_I N 37 0 k = nI 0 → ∃ i, i < n ∧ jm_I N 42 0 k = nI (i + 1))
/-- a write of a transaction: kinds and values against the flags -/
def rWr (M N : jm_M) (t k a b c m : Nat) : Prop :=
  (jm_I N a 0 m = nI 0 ∧ jm_I M 26 (t + 4) k = nI 0) ∨ (jm_I N a 0 m = nI 1 ∧ ((jm_I N b 0 m = nI 0 ∧ jm_I M 26 (t + 4) k = nI 1) ∨ (jm_I N b 0 m = nI 1 ∧ jm_I M 26 (t + 4) k = nI 2 ∧ jm_I N c 0 m = nI 0)) ∧ jm_I M 27 (t + 4) k = jm_I N c 0 m)
/-- a worker that has a run: t is the run's transaction, s its state -/
def rRun (E C : Nat) (M N : jm_M) (w s t : Nat) : Prop :=
  t < jm_c M 25 ∧ jm_F M 11 w 5 = some (25, t) ∧ jm_I N 46 0 w = nI (t + 1) ∧ jm_I N 63 0 (t + 1) = nI w ∧ jm_I N 64 0 (t + 1) = nI 1 ∧ (∀ u, u < jm_c M 25 → jm_I N 63 0 (u + 1) = nI w → u ≤ t) ∧
  (∃ p, p < 4 ∧ jm_I M 11 w 4 = nI p ∧ jm_I N 47 0 w = nI p) ∧
  (∀ r, r < 8 → jm_I M 12 w r = jm_I N 50 0 (8 * w + r)) ∧
  (∀ k, k < 32 → jm_I M 13 w k = jm_I N 56 0 (32 * w + k) ∧ (jm_I M 13 w k = -1 ∨ ∃ x, x ≤ C ∧ jm_I M 13 w k = nI x ∧ ¬ jm_I N 37 0 k = nI 0)) ∧
  (jm_I N 57 0 (40 * w) = -1 ∧ ∀ n, n < 39 → (n < 16 → jm_I M 14 w n = jm_I N 57 0 (40 * w + (n + 1))) ∧ (jm_I N 57 0 (40 * w + (n + 1)) = -1 ∨ ∃ m v, m ≤ 16 ∧ n < m ∧ v ≤ 64 ∧ jm_I N 31 0 11 = nI m ∧ jm_I N 57 0 (40 * w + (n + 1)) = nI v)) ∧
  (∀ k, k < 32 → rWr M N t k 51 52 53 (32 * w + k)) ∧
  jm_I M 25 t 3 = nI (jb_cnt (fun k => !decide (jm_I M 26 (t + 4) k = nI 0)) 32) ∧
  jm_I M 11 w 9 = nI (jb_cnt (fun k => !decide (jm_I M 13 w k = -1)) 32) ∧
  jm_I M 11 w 10 = nI (jb_cnt (fun k => !decide (jm_I M 14 w k = -1)) 16) ∧
  (s = 1 → (∃ x, x ≤ 16 ∧ jm_I M 11 w 7 = nI x ∧ jm_I N 48 0 w = nI x) ∧ (∃ x, x ≤ 60 ∧ jm_I M 11 w 8 = nI x ∧ jm_I N 49 0 w = nI x) ∧ ∀ k, k < 32 → jm_I N 54 0 (32 * w + k) = nI 0 ∧ ¬ jm_I M 22 0 k = nI (w + 1)) ∧
  (2 ≤ s → jm_I M 25 t 5 = jm_I N 58 0 w) ∧
  (s = 2 → ∀ k, k < 32 → (jm_I N 54 0 (32 * w + k) = nI 0 ∧ ¬ jm_I M 22 0 k = nI (w + 1)) ∨ (jm_I N 54 0 (32 * w + k) = nI 1 ∧ jm_I M 22 0 k = nI (w + 1) ∧ ¬ jm_I M 26 (t + 4) k = nI 0)) ∧
  (3 ≤ s → ∃ f, 1 ≤ f ∧ f ≤ E ∧ jm_I M 11 w 11 = nI f ∧ jm_I N 59 0 w = nI f) ∧
  (s = 3 → ∀ k, k < 32 → (jm_I M 22 0 k = nI (w + 1) ↔ ¬ jm_I M 26 (t + 4) k = nI 0)) ∧
  (s ≤ 3 → ∀ k, k < 32 → jm_I N 55 0 (32 * w + k) = nI 0) ∧
  (s = 4 → (∃ o, o ≤ C ∧ jm_I M 25 t 6 = nI o ∧ jm_I M 11 w 12 = nI o ∧ jm_I N 60 0 w = nI o) ∧ ∀ k, k < 32 → (jm_I N 55 0 (32 * w + k) = nI 0 ∨ (jm_I N 55 0 (32 * w + k) = nI 1 ∧ ¬ jm_I M 26 (t + 4) k = nI 0)) ∧ (jm_I M 22 0 k = nI (w + 1) ↔ ¬ jm_I M 26 (t + 4) k = nI 0 ∧ jm_I N 55 0 (32 * w + k) = nI 0))
def rW (E C : Nat) (M N : jm_M) (w : Nat) : Prop := ∃ s, s ≤ 4 ∧ jm_I M 11 w 6 = nI s ∧ jm_I N 45 0 w = nI s ∧ (∃ x, x ≤ C ∧ jm_I N 61 0 w = nI x ∧ (s ≠ 4 → jm_I M 11 w 12 = nI x)) ∧ (s = 0 → jm_I N 46 0 w = nI 0 ∧ ∀ k, k < 32 → ¬ jm_I M 22 0 k = nI (w + 1)) ∧ (s ≠ 0 → ∃ t, rRun E C M N w s t)
/-- one transaction -/
def jy_lg (N : jm_M) (t : Nat) : Prop := jm_I N 64 0 (t + 1) = nI 2 ∨ jm_I N 64 0 (t + 1) = nI 3
def rTt (C : Nat) (M N : jm_M) (t : Nat) : Prop :=
  jm_I M 25 t 0 = nI (t + 1) ∧ jm_F M 25 t 1 = some (26, t + 4) ∧ jm_F M 25 t 2 = some (27, t + 4) ∧ jm_n M 26 (t + 4) = 32 ∧ jm_n M 27 (t + 4) = 32 ∧
  (∃ f, 1 ≤ f ∧ f ≤ 5 ∧ jm_I M 25 t 4 = nI f ∧ jm_I N 64 0 (t + 1) = nI f) ∧ (∃ w, w < 4 ∧ jm_I N 63 0 (t + 1) = nI w) ∧
  (jm_I N 64 0 (t + 1) = nI 1 → ∃ w, w < 4 ∧ ¬ jm_I N 45 0 w = nI 0 ∧ jm_I N 46 0 w = nI (t + 1)) ∧
  (jy_lg N t → (∃ s, s ≤ C ∧ jm_I M 25 t 6 = nI s ∧ jm_I N 65 0 (t + 1) = nI s) ∧ jm_I M 25 t 5 = jm_I N 66 0 (t + 1) ∧ ∀ k, k < 32 → rWr M N t k 68 69 70 (32 * (t + 1) + k))
/-- a list of transactions -/
def jx_L (M : jm_M) (k i : Nat) (l : List Nat) : Prop := jm_I M k i 1 = nI l.length ∧ l.length ≤ 100 ∧ ((l = [] ∧ jm_F M k i 0 = some (74, 0)) ∨ ∃ a b, (a = 28 ∨ a = 30) ∧ b < jm_c M a ∧ jm_F M k i 0 = some (a, b) ∧ l.length ≤ jm_n M a b ∧ 10 ≤ jm_n M a b ∧ jm_n M a b ≤ 150 ∧ ∀ j t, l[j]? = some t → jm_F M a b j = some (25, t))
def rT (C : Nat) (M N : jm_M) : Prop := jm_c M 25 ≤ 100 ∧ jm_c M 26 = jm_c M 25 + 4 ∧ jm_c M 27 = jm_c M 25 + 4 ∧ jm_I N 31 0 34 = nI (jm_c M 25) ∧ jx_L M 4 0 (List.range (jm_c M 25)) ∧ ∀ t, t < jm_c M 25 → rTt C M N t
/-- a worker's log -/
def jy_kp (N : jm_M) (w t : Nat) : Bool := (decide (jm_I N 64 0 (t + 1) = nI 2) || decide (jm_I N 64 0 (t + 1) = nI 3)) && decide (jm_I N 63 0 (t + 1) = nI w)
def jy_kl (M N : jm_M) (w : Nat) : List Nat := (List.range (jm_c M 25)).filter (jy_kp N w)
def rG (M N : jm_M) : Prop := (∀ w, w < 4 → jx_L M 16 w (jy_kl M N w) ∧ ∃ d, d ≤ (jy_kl M N w).length ∧ jm_I M 15 w 1 = nI d ∧ ∀ j t, (jy_kl M N w)[j]? = some t → jm_I N 67 0 (t + 1) = if j < d then nI 1 else nI 0) ∧
  (∀ w v, w < 4 → v < 4 → w ≠ v → ∀ q, jm_F M 16 w 0 = some q → jm_F M 16 v 0 = some q → q = (74, 0)) ∧ (∀ w, w < 4 → ∀ q, jm_F M 16 w 0 = some q → jm_F M 4 0 0 = some q → q = (74, 0))
/-- epochs and marks; what never changes in the class -/
def rE (E : Nat) (M N : jm_M) : Prop := (∃ e, 1 ≤ e ∧ e ≤ E ∧ jm_I M 0 0 5 = nI e ∧ jm_I N 31 0 33 = nI e ∧ ∀ w, w < 4 → ∃ m, m < E ∧ jm_I M 15 w 2 = nI m ∧ jm_I N 62 0 w = nI m)
def rN (M : jm_M) : Prop := (∀ w, w < 4 → jm_I M 11 w 0 = nI (w + 1)) ∧ (∀ i, i < 16 → jm_I M 17 i 0 = nI (i + 1)) ∧ (∀ j, j < 12 → jm_I M 71 0 j = nI (jl_A.getD j 0) ∧ jm_I M 72 0 j = nI (jl_B.getD j 0) ∧ jm_I M 73 0 j = nI (jl_C.getD j 0)) ∧ jm_n M 71 0 = 12 ∧ jm_n M 72 0 = 12 ∧ jm_n M 73 0 = 12 ∧ jm_n M 74 0 = 0
/-- stamps: of those that wrote a key no two are the same -/
def rU (M N : jm_M) : Prop := ∃ b, (∃ e, e < 2 ^ 31 ∧ b ≤ e ∧ jm_I N 31 0 33 = nI e) ∧
  (∀ w, w < 4 → (jm_I N 45 0 w = nI 3 ∨ jm_I N 45 0 w = nI 4) → ∃ f, f < 2 ^ 31 ∧ b ≤ f ∧ jm_I N 59 0 w = nI f) ∧
  (∀ t k, t < jm_c M 25 → k < 32 → jy_lg N t → ¬ jm_I N 68 0 (32 * (t + 1) + k) = nI 0 → ∃ s, s < 2 ^ 31 ∧ jm_I N 65 0 (t + 1) = nI s ∧ (s < 1024 * b ∨ (¬ jm_I N 37 0 k = nI 0 ∧ ∃ x, x < 2 ^ 31 ∧ jm_I N 40 0 k = nI x ∧ s ≤ x))) ∧
  (∀ w k, w < 4 → k < 32 → jm_I N 45 0 w = nI 4 → ¬ jm_I N 51 0 (32 * w + k) = nI 0 → ∃ o x, o < 2 ^ 31 ∧ x < 2 ^ 31 ∧ jm_I N 60 0 w = nI o ∧ jm_I N 40 0 k = nI x ∧ 1024 * b ≤ o ∧ ¬ jm_I N 37 0 k = nI 0 ∧ (jm_I N 55 0 (32 * w + k) = nI 0 → x < o) ∧ (¬ jm_I N 55 0 (32 * w + k) = nI 0 → o ≤ x)) ∧
  (∀ t u k, t < jm_c M 25 → u < jm_c M 25 → k < 32 → t ≠ u → jy_lg N t → jy_lg N u → ¬ jm_I N 68 0 (32 * (t + 1) + k) = nI 0 → ¬ jm_I N 68 0 (32 * (u + 1) + k) = nI 0 → ¬ jm_I N 65 0 (t + 1) = jm_I N 65 0 (u + 1)) ∧
  (∀ w t k, w < 4 → t < jm_c M 25 → k < 32 → jm_I N 45 0 w = nI 4 → ¬ jm_I N 55 0 (32 * w + k) = nI 0 → jy_lg N t → ¬ jm_I N 68 0 (32 * (t + 1) + k) = nI 0 → ¬ jm_I N 65 0 (t + 1) = jm_I N 60 0 w) ∧
  (∀ w v k, w < 4 → v < 4 → k < 32 → w ≠ v → jm_I N 45 0 w = nI 4 → jm_I N 45 0 v = nI 4 → ¬ jm_I N 55 0 (32 * w + k) = nI 0 → ¬ jm_I N 55 0 (32 * v + k) = nI 0 → ¬ jm_I N 60 0 w = jm_I N 60 0 v)
def jr_R (E C : Nat) (M N : jm_M) : Prop := jx_S M ∧ jy_S N ∧ rN M ∧ rP M N ∧ rS C M N ∧ rL M N ∧ (∀ w, w < 4 → rW E C M N w) ∧ rT C M N ∧ rG M N ∧ rE E M N ∧ rU M N
theorem jb_case {n : Nat} (x : Int32) (hn : n < 2 ^ 31) : (x < 0 ∨ nI n ≤ x) ∨ ∃ j, j < n ∧ x = nI j := by
  rcases pk_ix x hn with h | h | h
  · exact Or.inl (Or.inl h)
  · exact Or.inl (Or.inr h)
  · exact Or.inr h
theorem jb_out {n : Nat} {x : Int32} (h : x < 0 ∨ nI (n + 1) ≤ x) (hn : n + 1 < 2 ^ 31 := by decide) : x.toInt < 0 ∨ (n : Int) < x.toInt := by
  rcases h with h | h
  · left; rw [Int32.lt_iff_toInt_lt] at h; simpa using h
  · right; rw [Int32.le_iff_toInt_le, nI_toInt (by omega)] at h; omega
theorem jb_bad {n : Nat} {x : Int32} (h : x < 0 ∨ nI (n + 1) ≤ x) (hn : n + 1 < 2 ^ 31 := by decide) : ∀ j, j ≤ n → ¬ x = nI j := by
  intro j hj e
  subst e
  rcases h with h | h
  · exact nI_pos (by omega) h
  · rw [jb_le (by omega) (by omega)] at h; omega
theorem nf_0_1 : (nI 0 = nI 1) = False := eq_false (by decide)
theorem nf_0_2 : (nI 0 = nI 2) = False := eq_false (by decide)
theorem nf_0_3 : (nI 0 = nI 3) = False := eq_false (by decide)
theorem nf_0_4 : (nI 0 = nI 4) = False := eq_false (by decide)
theorem nf_0_5 : (nI 0 = nI 5) = False := eq_false (by decide)
theorem nf_0_6 : (nI 0 = nI 6) = False := eq_false (by decide)
theorem nf_0_7 : (nI 0 = nI 7) = False := eq_false (by decide)
theorem nf_0_8 : (nI 0 = nI 8) = False := eq_false (by decide)
theorem nf_0_9 : (nI 0 = nI 9) = False := eq_false (by decide)
theorem nf_0_10 : (nI 0 = nI 10) = False := eq_false (by decide)
theorem nf_0_11 : (nI 0 = nI 11) = False := eq_false (by decide)
theorem nf_1_0 : (nI 1 = nI 0) = False := eq_false (by decide)
theorem nf_1_2 : (nI 1 = nI 2) = False := eq_false (by decide)
theorem nf_1_3 : (nI 1 = nI 3) = False := eq_false (by decide)
theorem nf_1_4 : (nI 1 = nI 4) = False := eq_false (by decide)
theorem nf_1_5 : (nI 1 = nI 5) = False := eq_false (by decide)
theorem nf_1_6 : (nI 1 = nI 6) = False := eq_false (by decide)
theorem nf_1_7 : (nI 1 = nI 7) = False := eq_false (by decide)
theorem nf_1_8 : (nI 1 = nI 8) = False := eq_false (by decide)
theorem nf_1_9 : (nI 1 = nI 9) = False := eq_false (by decide)
theorem nf_1_10 : (nI 1 = nI 10) = False := eq_false (by decide)
theorem nf_1_11 : (nI 1 = nI 11) = False := eq_false (by decide)
theorem nf_2_0 : (nI 2 = nI 0) = False := eq_false (by decide)
theorem nf_2_1 : (nI 2 = nI 1) = False := eq_false (by decide)
theorem nf_2_3 : (nI 2 = nI 3) = False := eq_false (by decide)
theorem nf_2_4 : (nI 2 = nI 4) = False := eq_false (by decide)
theorem nf_2_5 : (nI 2 = nI 5) = False := eq_false (by decide)
theorem nf_2_6 : (nI 2 = nI 6) = False := eq_false (by decide)
theorem nf_2_7 : (nI 2 = nI 7) = False := eq_false (by decide)
theorem nf_2_8 : (nI 2 = nI 8) = False := eq_false (by decide)
theorem nf_2_9 : (nI 2 = nI 9) = False := eq_false (by decide)
theorem nf_2_10 : (nI 2 = nI 10) = False := eq_false (by decide)
theorem nf_2_11 : (nI 2 = nI 11) = False := eq_false (by decide)
theorem nf_3_0 : (nI 3 = nI 0) = False := eq_false (by decide)
theorem nf_3_1 : (nI 3 = nI 1) = False := eq_false (by decide)
theorem nf_3_2 : (nI 3 = nI 2) = False := eq_false (by decide)
theorem nf_3_4 : (nI 3 = nI 4) = False := eq_false (by decide)
theorem nf_3_5 : (nI 3 = nI 5) = False := eq_false (by decide)
theorem nf_3_6 : (nI 3 = nI 6) = False := eq_false (by decide)
theorem nf_3_7 : (nI 3 = nI 7) = False := eq_false (by decide)
theorem nf_3_8 : (nI 3 = nI 8) = False := eq_false (by decide)
theorem nf_3_9 : (nI 3 = nI 9) = False := eq_false (by decide)
theorem nf_3_10 : (nI 3 = nI 10) = False := eq_false (by decide)
theorem nf_3_11 : (nI 3 = nI 11) = False := eq_false (by decide)
theorem nf_4_0 : (nI 4 = nI 0) = False := eq_false (by decide)
theorem nf_4_1 : (nI 4 = nI 1) = False := eq_false (by decide)
theorem nf_4_2 : (nI 4 = nI 2) = False := eq_false (by decide)
theorem nf_4_3 : (nI 4 = nI 3) = False := eq_false (by decide)
theorem nf_4_5 : (nI 4 = nI 5) = False := eq_false (by decide)
theorem nf_4_6 : (nI 4 = nI 6) = False := eq_false (by decide)
theorem nf_4_7 : (nI 4 = nI 7) = False := eq_false (by decide)
theorem nf_4_8 : (nI 4 = nI 8) = False := eq_false (by decide)
theorem nf_4_9 : (nI 4 = nI 9) = False := eq_false (by decide)
theorem nf_4_10 : (nI 4 = nI 10) = False := eq_false (by decide)
theorem nf_4_11 : (nI 4 = nI 11) = False := eq_false (by decide)
theorem nf_5_0 : (nI 5 = nI 0) = False := eq_false (by decide)
theorem nf_5_1 : (nI 5 = nI 1) = False := eq_false (by decide)
theorem nf_5_2 : (nI 5 = nI 2) = False := eq_false (by decide)
theorem nf_5_3 : (nI 5 = nI 3) = False := eq_false (by decide)
theorem nf_5_4 : (nI 5 = nI 4) = False := eq_false (by decide)
theorem nf_5_6 : (nI 5 = nI 6) = False := eq_false (by decide)
theorem nf_5_7 : (nI 5 = nI 7) = False := eq_false (by decide)
theorem nf_5_8 : (nI 5 = nI 8) = False := eq_false (by decide)
theorem nf_5_9 : (nI 5 = nI 9) = False := eq_false (by decide)
theorem nf_5_10 : (nI 5 = nI 10) = False := eq_false (by decide)
theorem nf_5_11 : (nI 5 = nI 11) = False := eq_false (by decide)
theorem nf_6_0 : (nI 6 = nI 0) = False := eq_false (by decide)
theorem nf_6_1 : (nI 6 = nI 1) = False := eq_false (by decide)
theorem nf_6_2 : (nI 6 = nI 2) = False := eq_false (by decide)
theorem nf_6_3 : (nI 6 = nI 3) = False := eq_false (by decide)
theorem nf_6_4 : (nI 6 = nI 4) = False := eq_false (by decide)
theorem nf_6_5 : (nI 6 = nI 5) = False := eq_false (by decide)
theorem nf_6_7 : (nI 6 = nI 7) = False := eq_false (by decide)
theorem nf_6_8 : (nI 6 = nI 8) = False := eq_false (by decide)
theorem nf_6_9 : (nI 6 = nI 9) = False := eq_false (by decide)
theorem nf_6_10 : (nI 6 = nI 10) = False := eq_false (by decide)
theorem nf_6_11 : (nI 6 = nI 11) = False := eq_false (by decide)
theorem nf_7_0 : (nI 7 = nI 0) = False := eq_false (by decide)
theorem nf_7_1 : (nI 7 = nI 1) = False := eq_false (by decide)
theorem nf_7_2 : (nI 7 = nI 2) = False := eq_false (by decide)
theorem nf_7_3 : (nI 7 = nI 3) = False := eq_false (by decide)
theorem nf_7_4 : (nI 7 = nI 4) = False := eq_false (by decide)
theorem nf_7_5 : (nI 7 = nI 5) = False := eq_false (by decide)
theorem nf_7_6 : (nI 7 = nI 6) = False := eq_false (by decide)
theorem nf_7_8 : (nI 7 = nI 8) = False := eq_false (by decide)
theorem nf_7_9 : (nI 7 = nI 9) = False := eq_false (by decide)
theorem nf_7_10 : (nI 7 = nI 10) = False := eq_false (by decide)
theorem nf_7_11 : (nI 7 = nI 11) = False := eq_false (by decide)
theorem nf_8_0 : (nI 8 = nI 0) = False := eq_false (by decide)
theorem nf_8_1 : (nI 8 = nI 1) = False := eq_false (by decide)
theorem nf_8_2 : (nI 8 = nI 2) = False := eq_false (by decide)
theorem nf_8_3 : (nI 8 = nI 3) = False := eq_false (by decide)
theorem nf_8_4 : (nI 8 = nI 4) = False := eq_false (by decide)
theorem nf_8_5 : (nI 8 = nI 5) = False := eq_false (by decide)
theorem nf_8_6 : (nI 8 = nI 6) = False := eq_false (by decide)
theorem nf_8_7 : (nI 8 = nI 7) = False := eq_false (by decide)
theorem nf_8_9 : (nI 8 = nI 9) = False := eq_false (by decide)
theorem nf_8_10 : (nI 8 = nI 10) = False := eq_false (by decide)
theorem nf_8_11 : (nI 8 = nI 11) = False := eq_false (by decide)
theorem nf_9_0 : (nI 9 = nI 0) = False := eq_false (by decide)
theorem nf_9_1 : (nI 9 = nI 1) = False := eq_false (by decide)
theorem nf_9_2 : (nI 9 = nI 2) = False := eq_false (by decide)
theorem nf_9_3 : (nI 9 = nI 3) = False := eq_false (by decide)
theorem nf_9_4 : (nI 9 = nI 4) = False := eq_false (by decide)
theorem nf_9_5 : (nI 9 = nI 5) = False := eq_false (by decide)
theorem nf_9_6 : (nI 9 = nI 6) = False := eq_false (by decide)
theorem nf_9_7 : (nI 9 = nI 7) = False := eq_false (by decide)
theorem nf_9_8 : (nI 9 = nI 8) = False := eq_false (by decide)
theorem nf_9_10 : (nI 9 = nI 10) = False := eq_false (by decide)
theorem nf_9_11 : (nI 9 = nI 11) = False := eq_false (by decide)
theorem nf_10_0 : (nI 10 = nI 0) = False := eq_false (by decide)
theorem nf_10_1 : (nI 10 = nI 1) = False := eq_false (by decide)
theorem nf_10_2 : (nI 10 = nI 2) = False := eq_false (by decide)
theorem nf_10_3 : (nI 10 = nI 3) = False := eq_false (by decide)
theorem nf_10_4 : (nI 10 = nI 4) = False := eq_false (by decide)
theorem nf_10_5 : (nI 10 = nI 5) = False := eq_false (by decide)
theorem nf_10_6 : (nI 10 = nI 6) = False := eq_false (by decide)
theorem nf_10_7 : (nI 10 = nI 7) = False := eq_false (by decide)
theorem nf_10_8 : (nI 10 = nI 8) = False := eq_false (by decide)
theorem nf_10_9 : (nI 10 = nI 9) = False := eq_false (by decide)
theorem nf_10_11 : (nI 10 = nI 11) = False := eq_false (by decide)
theorem nf_11_0 : (nI 11 = nI 0) = False := eq_false (by decide)
theorem nf_11_1 : (nI 11 = nI 1) = False := eq_false (by decide)
theorem nf_11_2 : (nI 11 = nI 2) = False := eq_false (by decide)
theorem nf_11_3 : (nI 11 = nI 3) = False := eq_false (by decide)
theorem nf_11_4 : (nI 11 = nI 4) = False := eq_false (by decide)
theorem nf_11_5 : (nI 11 = nI 5) = False := eq_false (by decide)
theorem nf_11_6 : (nI 11 = nI 6) = False := eq_false (by decide)
theorem nf_11_7 : (nI 11 = nI 7) = False := eq_false (by decide)
theorem nf_11_8 : (nI 11 = nI 8) = False := eq_false (by decide)
theorem nf_11_9 : (nI 11 = nI 9) = False := eq_false (by decide)
theorem nf_11_10 : (nI 11 = nI 10) = False := eq_false (by decide)
theorem nm_0 : (nI 0 = -1) = False := eq_false (by decide)
theorem nm_1 : (nI 1 = -1) = False := eq_false (by decide)
theorem nm_2 : (nI 2 = -1) = False := eq_false (by decide)
theorem nm_3 : (nI 3 = -1) = False := eq_false (by decide)
theorem nm_4 : (nI 4 = -1) = False := eq_false (by decide)
theorem nm_5 : (nI 5 = -1) = False := eq_false (by decide)
theorem nm_6 : (nI 6 = -1) = False := eq_false (by decide)
theorem nm_7 : (nI 7 = -1) = False := eq_false (by decide)
theorem nm_8 : (nI 8 = -1) = False := eq_false (by decide)
theorem nm_9 : (nI 9 = -1) = False := eq_false (by decide)
theorem nm_10 : (nI 10 = -1) = False := eq_false (by decide)
theorem nm_11 : (nI 11 = -1) = False := eq_false (by decide)
/-- entry -/
theorem sm_entry {d E C : Nat} {M N : jm_M} (h : jr_R E C M N) (x y : Int32) : ∃ r, jm_D (d + 1) 92 0 [some (.inr (some (0, 0))), some (.inl x), some (.inl y)] [] M = some (some (.inl r), M) ∧ jm_D (d + 1) 142 0 [some (.inr (some (31, 0))), some (.inl x), some (.inl y)] [] N = some (some (.inl r), N) := by
  obtain ⟨hX, hY, -, -, hS, -⟩ := h
  have n1 : ¬ (nI 1 = nI 0) := by decide
  have n2 : ¬ (nI 2 = nI 0) := by decide
  have n3 : ¬ (nI 3 = nI 0) := by decide
  have n4 : ¬ (nI 2 = nI 1) := by decide
  have n5 : ¬ (nI 3 = nI 1) := by decide
  have n6 : ¬ (nI 3 = nI 2) := by decide
  rcases jb_case x (show 32 < 2 ^ 31 by decide) with hx | ⟨k, hk, rfl⟩
  · refine ⟨-1, ?_, ?_⟩
    · simp only [e92_0, e92_1, e92_2, e92_3, e92_4, e92_5, e92_6_0, e92_6_1, e92_6_2, e92_6_3, e92_6_d, e92_7, e92_8, e92_9, e92_10, e92_11, e92_12, e92_13, e92_14, e92_15, e92_16, e92_17, e92_18, e92_19, e92_20, e92_21, e92_22, e92_23, e92_24, e92_25, e92_26, e92_27, e92_28, e92_29, e92_30, e92_31, e92_32, xK_f _ _ hx, jb_some, jb_tl, if_true]
    · simp only [e142_0, e142_1, e142_2, e142_3, e142_4, e142_5, e142_6, e142_7, e142_8, e142_9, e142_10, e142_11, e142_12, e142_13, e142_14, e142_15, e142_16, e142_17, e142_18, e142_19, e142_20, e142_21, e142_22, e142_23, e142_24, e142_25, e142_26, e142_27, e142_28, e142_29, e142_30, e142_31, e142_32, e142_33, e142_34, e142_35, e142_36, e142_37, e142_38, e142_39, e142_40, e142_41, e142_42, e142_43, e142_44, e142_45, e142_46, e142_47, e142_48, e142_49, e142_50, e142_51, e142_52, e142_53, e142_54, e142_55, yK_f _ _ hx, jb_some, jb_tl, if_true]
  · rcases jb_case y (show 4 < 2 ^ 31 by decide) with hy | ⟨q, hq, rfl⟩
    · refine ⟨-1, ?_, ?_⟩
      · simp only [e92_0, e92_1, e92_2, e92_3, e92_4, e92_5, e92_6_0, e92_6_1, e92_6_2, e92_6_3, e92_6_d, e92_7, e92_8, e92_9, e92_10, e92_11, e92_12, e92_13, e92_14, e92_15, e92_16, e92_17, e92_18, e92_19, e92_20, e92_21, e92_22, e92_23, e92_24, e92_25, e92_26, e92_27, e92_28, e92_29, e92_30, e92_31, e92_32, xK_t _ _ hk, jb_some, jb_tl, if_neg n1, e92_6_d _ _ _ _ _ _ _ (jb_out hy)]
      · by_cases h0 : y < nI 0
        · simp only [e142_0, e142_1, e142_2, e142_3, e142_4, e142_5, e142_6, e142_7, e142_8, e142_9, e142_10, e142_11, e142_12, e142_13, e142_14, e142_15, e142_16, e142_17, e142_18, e142_19, e142_20, e142_21, e142_22, e142_23, e142_24, e142_25, e142_26, e142_27, e142_28, e142_29, e142_30, e142_31, e142_32, e142_33, e142_34, e142_35, e142_36, e142_37, e142_38, e142_39, e142_40, e142_41, e142_42, e142_43, e142_44, e142_45, e142_46, e142_47, e142_48, e142_49, e142_50, e142_51, e142_52, e142_53, e142_54, e142_55, yK_t _ _ hk, jb_some, jb_tl, if_neg n1, if_pos h0]
        · have h1 : ¬ y ≤ nI 3 := fun z => Int32.not_lt.mpr z (jb_pred (hy.resolve_left h0))
          simp only [e142_0, e142_1, e142_2, e142_3, e142_4, e142_5, e142_6, e142_7, e142_8, e142_9, e142_10, e142_11, e142_12, e142_13, e142_14, e142_15, e142_16, e142_17, e142_18, e142_19, e142_20, e142_21, e142_22, e142_23, e142_24, e142_25, e142_26, e142_27, e142_28, e142_29, e142_30, e142_31, e142_32, e142_33, e142_34, e142_35, e142_36, e142_37, e142_38, e142_39, e142_40, e142_41, e142_42, e142_43, e142_44, e142_45, e142_46, e142_47, e142_48, e142_49, e142_50, e142_51, e142_52, e142_53, e142_54, e142_55, yK_t _ _ hk, jb_some, jb_tl, if_neg n1, if_neg h0, if_neg h1]
    · have hlt : ¬ nI q < nI 0 := nI_pos (by omega)
      have hle : nI q ≤ nI 3 := nI_le (by omega) (by decide)
      rcases hS k hk with ⟨a1, a2, a3, a4, a5⟩ | ⟨a1, a2, a3, ⟨s, -, a4, a5⟩, ⟨l, -, a6, a7⟩⟩
      · refine ⟨nI 0, ?_, ?_⟩
        · match q, hq with
          | 0, _ => simp only [e92_0, e92_1, e92_2, e92_3, e92_4, e92_5, e92_6_0, e92_6_1, e92_6_2, e92_6_3, e92_6_d, e92_7, e92_8, e92_9, e92_10, e92_11, e92_12, e92_13, e92_14, e92_15, e92_16, e92_17, e92_18, e92_19, e92_20, e92_21, e92_22, e92_23, e92_24, e92_25, e92_26, e92_27, e92_28, e92_29, e92_30, e92_31, e92_32, xs_0 hX, xs_1 hX, xs_2 hX, xs_3 hX, xs_4 hX, xs_5 hX, xs_6 hX, xs_7 hX, xs_8 hX, xs_9 hX, xs_10 hX, xs_11 hX, xs_12 hX, xs_13 hX, xs_14 hX, xs_15 hX, xs_16 hX, xs_17 hX, xs_18 hX, xs_19 hX, xK_t _ _ hk, jb_some, jb_tl, if_neg n1, jb_ix hk (by decide), a2]
          | 1, _ => simp only [e92_0, e92_1, e92_2, e92_3, e92_4, e92_5, e92_6_0, e92_6_1, e92_6_2, e92_6_3, e92_6_d, e92_7, e92_8, e92_9, e92_10, e92_11, e92_12, e92_13, e92_14, e92_15, e92_16, e92_17, e92_18, e92_19, e92_20, e92_21, e92_22, e92_23, e92_24, e92_25, e92_26, e92_27, e92_28, e92_29, e92_30, e92_31, e92_32, xs_0 hX, xs_1 hX, xs_2 hX, xs_3 hX, xs_4 hX, xs_5 hX, xs_6 hX, xs_7 hX, xs_8 hX, xs_9 hX, xs_10 hX, xs_11 hX, xs_12 hX, xs_13 hX, xs_14 hX, xs_15 hX, xs_16 hX, xs_17 hX, xs_18 hX, xs_19 hX, xK_t _ _ hk, jb_some, jb_tl, if_neg n1, jb_ix hk (by decide), a3]
          | 2, _ => simp only [e92_0, e92_1, e92_2, e92_3, e92_4, e92_5, e92_6_0, e92_6_1, e92_6_2, e92_6_3, e92_6_d, e92_7, e92_8, e92_9, e92_10, e92_11, e92_12, e92_13, e92_14, e92_15, e92_16, e92_17, e92_18, e92_19, e92_20, e92_21, e92_22, e92_23, e92_24, e92_25, e92_26, e92_27, e92_28, e92_29, e92_30, e92_31, e92_32, xs_0 hX, xs_1 hX, xs_2 hX, xs_3 hX, xs_4 hX, xs_5 hX, xs_6 hX, xs_7 hX, xs_8 hX, xs_9 hX, xs_10 hX, xs_11 hX, xs_12 hX, xs_13 hX, xs_14 hX, xs_15 hX, xs_16 hX, xs_17 hX, xs_18 hX, xs_19 hX, xK_t _ _ hk, jb_some, jb_tl, if_neg n1, jb_ix hk (by decide), a4]
          | 3, _ => simp only [e92_0, e92_1, e92_2, e92_3, e92_4, e92_5, e92_6_0, e92_6_1, e92_6_2, e92_6_3, e92_6_d, e92_7, e92_8, e92_9, e92_10, e92_11, e92_12, e92_13, e92_14, e92_15, e92_16, e92_17, e92_18, e92_19, e92_20, e92_21, e92_22, e92_23, e92_24, e92_25, e92_26, e92_27, e92_28, e92_29, e92_30, e92_31, e92_32, xs_0 hX, xs_1 hX, xs_2 hX, xs_3 hX, xs_4 hX, xs_5 hX, xs_6 hX, xs_7 hX, xs_8 hX, xs_9 hX, xs_10 hX, xs_11 hX, xs_12 hX, xs_13 hX, xs_14 hX, xs_15 hX, xs_16 hX, xs_17 hX, xs_18 hX, xs_19 hX, xK_t _ _ hk, jb_some, jb_tl, if_neg n1, jb_ix hk (by decide), a5]
        · simp only [e142_0, e142_1, e142_2, e142_3, e142_4, e142_5, e142_6, e142_7, e142_8, e142_9, e142_10, e142_11, e142_12, e142_13, e142_14, e142_15, e142_16, e142_17, e142_18, e142_19, e142_20, e142_21, e142_22, e142_23, e142_24, e142_25, e142_26, e142_27, e142_28, e142_29, e142_30, e142_31, e142_32, e142_33, e142_34, e142_35, e142_36, e142_37, e142_38, e142_39, e142_40, e142_41, e142_42, e142_43, e142_44, e142_45, e142_46, e142_47, e142_48, e142_49, e142_50, e142_51, e142_52, e142_53, e142_54, e142_55, ys_0 hY, ys_1 hY, ys_2 hY, ys_3 hY, ys_4 hY, ys_5 hY, ys_6 hY, ys_7 hY, ys_8 hY, ys_9 hY, ys_10 hY, ys_11 hY, ys_12 hY, ys_13 hY, ys_14 hY, ys_15 hY, ys_16 hY, ys_17 hY, ys_18 hY, ys_19 hY, ys_20 hY, ys_21 hY, ys_22 hY, ys_23 hY, ys_24 hY, ys_25 hY, ys_26 hY, ys_27 hY, ys_28 hY, ys_29 hY, ys_30 hY, ys_31 hY, ys_32 hY, ys_33 hY, ys_34 hY, ys_35 hY, ys_36 hY, ys_37 hY, ys_38 hY, ys_39 hY, ys_40 hY, ys_41 hY, ys_42 hY, ys_43 hY, ys_44 hY, ys_45 hY, ys_46 hY, ys_47 hY, ys_48 hY, ys_49 hY, ys_50 hY, ys_51 hY, ys_52 hY, ys_53 hY, ys_54 hY, ys_55 hY, ys_56 hY, ys_57 hY, ys_58 hY, ys_59 hY, ys_60 hY, ys_61 hY, ys_62 hY, ys_63 hY, ys_64 hY, ys_65 hY, ys_66 hY, ys_67 hY, ys_68 hY, ys_69 hY, ys_70 hY, ys_71 hY, ys_72 hY, ys_73 hY, ys_74 hY, ys_75 hY, ys_76 hY, ys_77 hY, yK_t _ _ hk, jb_some, jb_tl, if_neg n1, if_neg hlt, if_pos hle, jb_ix hk (by decide), a1, if_true]
      · have hb : ¬ jm_I N 37 0 k = nI 0 := by rw [a1]; exact n1
        match q, hq with
        | 0, _ =>
          rcases a2 with ⟨b1, b2⟩ | ⟨b1, b2, b3⟩
          · refine ⟨nI 2, ?_, ?_⟩
            · simp only [e92_0, e92_1, e92_2, e92_3, e92_4, e92_5, e92_6_0, e92_6_1, e92_6_2, e92_6_3, e92_6_d, e92_7, e92_8, e92_9, e92_10, e92_11, e92_12, e92_13, e92_14, e92_15, e92_16, e92_17, e92_18, e92_19, e92_20, e92_21, e92_22, e92_23, e92_24, e92_25, e92_26, e92_27, e92_28, e92_29, e92_30, e92_31, e92_32, xs_0 hX, xs_1 hX, xs_2 hX, xs_3 hX, xs_4 hX, xs_5 hX, xs_6 hX, xs_7 hX, xs_8 hX, xs_9 hX, xs_10 hX, xs_11 hX, xs_12 hX, xs_13 hX, xs_14 hX, xs_15 hX, xs_16 hX, xs_17 hX, xs_18 hX, xs_19 hX, xK_t _ _ hk, jb_some, jb_tl, if_neg n1, jb_ix hk (by decide), b2]
            · simp only [e142_0, e142_1, e142_2, e142_3, e142_4, e142_5, e142_6, e142_7, e142_8, e142_9, e142_10, e142_11, e142_12, e142_13, e142_14, e142_15, e142_16, e142_17, e142_18, e142_19, e142_20, e142_21, e142_22, e142_23, e142_24, e142_25, e142_26, e142_27, e142_28, e142_29, e142_30, e142_31, e142_32, e142_33, e142_34, e142_35, e142_36, e142_37, e142_38, e142_39, e142_40, e142_41, e142_42, e142_43, e142_44, e142_45, e142_46, e142_47, e142_48, e142_49, e142_50, e142_51, e142_52, e142_53, e142_54, e142_55, ys_0 hY, ys_1 hY, ys_2 hY, ys_3 hY, ys_4 hY, ys_5 hY, ys_6 hY, ys_7 hY, ys_8 hY, ys_9 hY, ys_10 hY, ys_11 hY, ys_12 hY, ys_13 hY, ys_14 hY, ys_15 hY, ys_16 hY, ys_17 hY, ys_18 hY, ys_19 hY, ys_20 hY, ys_21 hY, ys_22 hY, ys_23 hY, ys_24 hY, ys_25 hY, ys_26 hY, ys_27 hY, ys_28 hY, ys_29 hY, ys_30 hY, ys_31 hY, ys_32 hY, ys_33 hY, ys_34 hY, ys_35 hY, ys_36 hY, ys_37 hY, ys_38 hY, ys_39 hY, ys_40 hY, ys_41 hY, ys_42 hY, ys_43 hY, ys_44 hY, ys_45 hY, ys_46 hY, ys_47 hY, ys_48 hY, ys_49 hY, ys_50 hY, ys_51 hY, ys_52 hY, ys_53 hY, ys_54 hY, ys_55 hY, ys_56 hY, ys_57 hY, ys_58 hY, ys_59 hY, ys_60 hY, ys_61 hY, ys_62 hY, ys_63 hY, ys_64 hY, ys_65 hY, ys_66 hY, ys_67 hY, ys_68 hY, ys_69 hY, ys_70 hY, ys_71 hY, ys_72 hY, ys_73 hY, ys_74 hY, ys_75 hY, ys_76 hY, ys_77 hY, yK_t _ _ hk, jb_some, jb_tl, if_neg n1, if_neg hlt, if_pos hle, jb_ix hk (by decide), a1, b1, if_true]
          · refine ⟨nI 1, ?_, ?_⟩
            · simp only [e92_0, e92_1, e92_2, e92_3, e92_4, e92_5, e92_6_0, e92_6_1, e92_6_2, e92_6_3, e92_6_d, e92_7, e92_8, e92_9, e92_10, e92_11, e92_12, e92_13, e92_14, e92_15, e92_16, e92_17, e92_18, e92_19, e92_20, e92_21, e92_22, e92_23, e92_24, e92_25, e92_26, e92_27, e92_28, e92_29, e92_30, e92_31, e92_32, xs_0 hX, xs_1 hX, xs_2 hX, xs_3 hX, xs_4 hX, xs_5 hX, xs_6 hX, xs_7 hX, xs_8 hX, xs_9 hX, xs_10 hX, xs_11 hX, xs_12 hX, xs_13 hX, xs_14 hX, xs_15 hX, xs_16 hX, xs_17 hX, xs_18 hX, xs_19 hX, xK_t _ _ hk, jb_some, jb_tl, if_neg n1, jb_ix hk (by decide), b2]
            · simp only [e142_0, e142_1, e142_2, e142_3, e142_4, e142_5, e142_6, e142_7, e142_8, e142_9, e142_10, e142_11, e142_12, e142_13, e142_14, e142_15, e142_16, e142_17, e142_18, e142_19, e142_20, e142_21, e142_22, e142_23, e142_24, e142_25, e142_26, e142_27, e142_28, e142_29, e142_30, e142_31, e142_32, e142_33, e142_34, e142_35, e142_36, e142_37, e142_38, e142_39, e142_40, e142_41, e142_42, e142_43, e142_44, e142_45, e142_46, e142_47, e142_48, e142_49, e142_50, e142_51, e142_52, e142_53, e142_54, e142_55, ys_0 hY, ys_1 hY, ys_2 hY, ys_3 hY, ys_4 hY, ys_5 hY, ys_6 hY, ys_7 hY, ys_8 hY, ys_9 hY, ys_10 hY, ys_11 hY, ys_12 hY, ys_13 hY, ys_14 hY, ys_15 hY, ys_16 hY, ys_17 hY, ys_18 hY, ys_19 hY, ys_20 hY, ys_21 hY, ys_22 hY, ys_23 hY, ys_24 hY, ys_25 hY, ys_26 hY, ys_27 hY, ys_28 hY, ys_29 hY, ys_30 hY, ys_31 hY, ys_32 hY, ys_33 hY, ys_34 hY, ys_35 hY, ys_36 hY, ys_37 hY, ys_38 hY, ys_39 hY, ys_40 hY, ys_41 hY, ys_42 hY, ys_43 hY, ys_44 hY, ys_45 hY, ys_46 hY, ys_47 hY, ys_48 hY, ys_49 hY, ys_50 hY, ys_51 hY, ys_52 hY, ys_53 hY, ys_54 hY, ys_55 hY, ys_56 hY, ys_57 hY, ys_58 hY, ys_59 hY, ys_60 hY, ys_61 hY, ys_62 hY, ys_63 hY, ys_64 hY, ys_65 hY, ys_66 hY, ys_67 hY, ys_68 hY, ys_69 hY, ys_70 hY, ys_71 hY, ys_72 hY, ys_73 hY, ys_74 hY, ys_75 hY, ys_76 hY, ys_77 hY, yK_t _ _ hk, jb_some, jb_tl, if_neg n1, if_neg hlt, if_pos hle, jb_ix hk (by decide), a1, b1, if_true]
        | 1, _ =>
          refine ⟨jm_I N 39 0 k, ?_, ?_⟩
          · simp only [e92_0, e92_1, e92_2, e92_3, e92_4, e92_5, e92_6_0, e92_6_1, e92_6_2, e92_6_3, e92_6_d, e92_7, e92_8, e92_9, e92_10, e92_11, e92_12, e92_13, e92_14, e92_15, e92_16, e92_17, e92_18, e92_19, e92_20, e92_21, e92_22, e92_23, e92_24, e92_25, e92_26, e92_27, e92_28, e92_29, e92_30, e92_31, e92_32, xs_0 hX, xs_1 hX, xs_2 hX, xs_3 hX, xs_4 hX, xs_5 hX, xs_6 hX, xs_7 hX, xs_8 hX, xs_9 hX, xs_10 hX, xs_11 hX, xs_12 hX, xs_13 hX, xs_14 hX, xs_15 hX, xs_16 hX, xs_17 hX, xs_18 hX, xs_19 hX, xK_t _ _ hk, jb_some, jb_tl, if_neg n1, jb_ix hk (by decide), a3]
          · rcases a2 with ⟨b1, b2⟩ | ⟨b1, b2, b3⟩
            · simp only [e142_0, e142_1, e142_2, e142_3, e142_4, e142_5, e142_6, e142_7, e142_8, e142_9, e142_10, e142_11, e142_12, e142_13, e142_14, e142_15, e142_16, e142_17, e142_18, e142_19, e142_20, e142_21, e142_22, e142_23, e142_24, e142_25, e142_26, e142_27, e142_28, e142_29, e142_30, e142_31, e142_32, e142_33, e142_34, e142_35, e142_36, e142_37, e142_38, e142_39, e142_40, e142_41, e142_42, e142_43, e142_44, e142_45, e142_46, e142_47, e142_48, e142_49, e142_50, e142_51, e142_52, e142_53, e142_54, e142_55, ys_0 hY, ys_1 hY, ys_2 hY, ys_3 hY, ys_4 hY, ys_5 hY, ys_6 hY, ys_7 hY, ys_8 hY, ys_9 hY, ys_10 hY, ys_11 hY, ys_12 hY, ys_13 hY, ys_14 hY, ys_15 hY, ys_16 hY, ys_17 hY, ys_18 hY, ys_19 hY, ys_20 hY, ys_21 hY, ys_22 hY, ys_23 hY, ys_24 hY, ys_25 hY, ys_26 hY, ys_27 hY, ys_28 hY, ys_29 hY, ys_30 hY, ys_31 hY, ys_32 hY, ys_33 hY, ys_34 hY, ys_35 hY, ys_36 hY, ys_37 hY, ys_38 hY, ys_39 hY, ys_40 hY, ys_41 hY, ys_42 hY, ys_43 hY, ys_44 hY, ys_45 hY, ys_46 hY, ys_47 hY, ys_48 hY, ys_49 hY, ys_50 hY, ys_51 hY, ys_52 hY, ys_53 hY, ys_54 hY, ys_55 hY, ys_56 hY, ys_57 hY, ys_58 hY, ys_59 hY, ys_60 hY, ys_61 hY, ys_62 hY, ys_63 hY, ys_64 hY, ys_65 hY, ys_66 hY, ys_67 hY, ys_68 hY, ys_69 hY, ys_70 hY, ys_71 hY, ys_72 hY, ys_73 hY, ys_74 hY, ys_75 hY, ys_76 hY, ys_77 hY, yK_t _ _ hk, jb_some, jb_tl, if_neg n1, if_neg hlt, if_pos hle, jb_ix hk (by decide), a1, b1, if_true]
            · simp only [e142_0, e142_1, e142_2, e142_3, e142_4, e142_5, e142_6, e142_7, e142_8, e142_9, e142_10, e142_11, e142_12, e142_13, e142_14, e142_15, e142_16, e142_17, e142_18, e142_19, e142_20, e142_21, e142_22, e142_23, e142_24, e142_25, e142_26, e142_27, e142_28, e142_29, e142_30, e142_31, e142_32, e142_33, e142_34, e142_35, e142_36, e142_37, e142_38, e142_39, e142_40, e142_41, e142_42, e142_43, e142_44, e142_45, e142_46, e142_47, e142_48, e142_49, e142_50, e142_51, e142_52, e142_53, e142_54, e142_55, ys_0 hY, ys_1 hY, ys_2 hY, ys_3 hY, ys_4 hY, ys_5 hY, ys_6 hY, ys_7 hY, ys_8 hY, ys_9 hY, ys_10 hY, ys_11 hY, ys_12 hY, ys_13 hY, ys_14 hY, ys_15 hY, ys_16 hY, ys_17 hY, ys_18 hY, ys_19 hY, ys_20 hY, ys_21 hY, ys_22 hY, ys_23 hY, ys_24 hY, ys_25 hY, ys_26 hY, ys_27 hY, ys_28 hY, ys_29 hY, ys_30 hY, ys_31 hY, ys_32 hY, ys_33 hY, ys_34 hY, ys_35 hY, ys_36 hY, ys_37 hY, ys_38 hY, ys_39 hY, ys_40 hY, ys_41 hY, ys_42 hY, ys_43 hY, ys_44 hY, ys_45 hY, ys_46 hY, ys_47 hY, ys_48 hY, ys_49 hY, ys_50 hY, ys_51 hY, ys_52 hY, ys_53 hY, ys_54 hY, ys_55 hY, ys_56 hY, ys_57 hY, ys_58 hY, ys_59 hY, ys_60 hY, ys_61 hY, ys_62 hY, ys_63 hY, ys_64 hY, ys_65 hY, ys_66 hY, ys_67 hY, ys_68 hY, ys_69 hY, ys_70 hY, ys_71 hY, ys_72 hY, ys_73 hY, ys_74 hY, ys_75 hY, ys_76 hY, ys_77 hY, yK_t _ _ hk, jb_some, jb_tl, if_neg n1, if_neg hlt, if_pos hle, jb_ix hk (by decide), a1, b1, b3, if_true]
        | 2, _ =>
          refine ⟨nI s, ?_, ?_⟩
          · simp only [e92_0, e92_1, e92_2, e92_3, e92_4, e92_5, e92_6_0, e92_6_1, e92_6_2, e92_6_3, e92_6_d, e92_7, e92_8, e92_9, e92_10, e92_11, e92_12, e92_13, e92_14, e92_15, e92_16, e92_17, e92_18, e92_19, e92_20, e92_21, e92_22, e92_23, e92_24, e92_25, e92_26, e92_27, e92_28, e92_29, e92_30, e92_31, e92_32, xs_0 hX, xs_1 hX, xs_2 hX, xs_3 hX, xs_4 hX, xs_5 hX, xs_6 hX, xs_7 hX, xs_8 hX, xs_9 hX, xs_10 hX, xs_11 hX, xs_12 hX, xs_13 hX, xs_14 hX, xs_15 hX, xs_16 hX, xs_17 hX, xs_18 hX, xs_19 hX, xK_t _ _ hk, jb_some, jb_tl, if_neg n1, jb_ix hk (by decide), a4]
          · simp only [e142_0, e142_1, e142_2, e142_3, e142_4, e142_5, e142_6, e142_7, e142_8, e142_9, e142_10, e142_11, e142_12, e142_13, e142_14, e142_15, e142_16, e142_17, e142_18, e142_19, e142_20, e142_21, e142_22, e142_23, e142_24, e142_25, e142_26, e142_27, e142_28, e142_29, e142_30, e142_31, e142_32, e142_33, e142_34, e142_35, e142_36, e142_37, e142_38, e142_39, e142_40, e142_41, e142_42, e142_43, e142_44, e142_45, e142_46, e142_47, e142_48, e142_49, e142_50, e142_51, e142_52, e142_53, e142_54, e142_55, ys_0 hY, ys_1 hY, ys_2 hY, ys_3 hY, ys_4 hY, ys_5 hY, ys_6 hY, ys_7 hY, ys_8 hY, ys_9 hY, ys_10 hY, ys_11 hY, ys_12 hY, ys_13 hY, ys_14 hY, ys_15 hY, ys_16 hY, ys_17 hY, ys_18 hY, ys_19 hY, ys_20 hY, ys_21 hY, ys_22 hY, ys_23 hY, ys_24 hY, ys_25 hY, ys_26 hY, ys_27 hY, ys_28 hY, ys_29 hY, ys_30 hY, ys_31 hY, ys_32 hY, ys_33 hY, ys_34 hY, ys_35 hY, ys_36 hY, ys_37 hY, ys_38 hY, ys_39 hY, ys_40 hY, ys_41 hY, ys_42 hY, ys_43 hY, ys_44 hY, ys_45 hY, ys_46 hY, ys_47 hY, ys_48 hY, ys_49 hY, ys_50 hY, ys_51 hY, ys_52 hY, ys_53 hY, ys_54 hY, ys_55 hY, ys_56 hY, ys_57 hY, ys_58 hY, ys_59 hY, ys_60 hY, ys_61 hY, ys_62 hY, ys_63 hY, ys_64 hY, ys_65 hY, ys_66 hY, ys_67 hY, ys_68 hY, ys_69 hY, ys_70 hY, ys_71 hY, ys_72 hY, ys_73 hY, ys_74 hY, ys_75 hY, ys_76 hY, ys_77 hY, yK_t _ _ hk, jb_some, jb_tl, if_neg n1, if_neg n2, if_neg n4, if_neg hlt, if_pos hle, jb_ix hk (by decide), a1, a5, if_true]
        | 3, _ =>
          refine ⟨nI l, ?_, ?_⟩
          · simp only [e92_0, e92_1, e92_2, e92_3, e92_4, e92_5, e92_6_0, e92_6_1, e92_6_2, e92_6_3, e92_6_d, e92_7, e92_8, e92_9, e92_10, e92_11, e92_12, e92_13, e92_14, e92_15, e92_16, e92_17, e92_18, e92_19, e92_20, e92_21, e92_22, e92_23, e92_24, e92_25, e92_26, e92_27, e92_28, e92_29, e92_30, e92_31, e92_32, xs_0 hX, xs_1 hX, xs_2 hX, xs_3 hX, xs_4 hX, xs_5 hX, xs_6 hX, xs_7 hX, xs_8 hX, xs_9 hX, xs_10 hX, xs_11 hX, xs_12 hX, xs_13 hX, xs_14 hX, xs_15 hX, xs_16 hX, xs_17 hX, xs_18 hX, xs_19 hX, xK_t _ _ hk, jb_some, jb_tl, if_neg n1, jb_ix hk (by decide), a6]
          · simp only [e142_0, e142_1, e142_2, e142_3, e142_4, e142_5, e142_6, e142_7, e142_8, e142_9, e142_10, e142_11, e142_12, e142_13, e142_14, e142_15, e142_16, e142_17, e142_18, e142_19, e142_20, e142_21, e142_22, e142_23, e142_24, e142_25, e142_26, e142_27, e142_28, e142_29, e142_30, e142_31, e142_32, e142_33, e142_34, e142_35, e142_36, e142_37, e142_38, e142_39, e142_40, e142_41, e142_42, e142_43, e142_44, e142_45, e142_46, e142_47, e142_48, e142_49, e142_50, e142_51, e142_52, e142_53, e142_54, e142_55, ys_0 hY, ys_1 hY, ys_2 hY, ys_3 hY, ys_4 hY, ys_5 hY, ys_6 hY, ys_7 hY, ys_8 hY, ys_9 hY, ys_10 hY, ys_11 hY, ys_12 hY, ys_13 hY, ys_14 hY, ys_15 hY, ys_16 hY, ys_17 hY, ys_18 hY, ys_19 hY, ys_20 hY, ys_21 hY, ys_22 hY, ys_23 hY, ys_24 hY, ys_25 hY, ys_26 hY, ys_27 hY, ys_28 hY, ys_29 hY, ys_30 hY, ys_31 hY, ys_32 hY, ys_33 hY, ys_34 hY, ys_35 hY, ys_36 hY, ys_37 hY, ys_38 hY, ys_39 hY, ys_40 hY, ys_41 hY, ys_42 hY, ys_43 hY, ys_44 hY, ys_45 hY, ys_46 hY, ys_47 hY, ys_48 hY, ys_49 hY, ys_50 hY, ys_51 hY, ys_52 hY, ys_53 hY, ys_54 hY, ys_55 hY, ys_56 hY, ys_57 hY, ys_58 hY, ys_59 hY, ys_60 hY, ys_61 hY, ys_62 hY, ys_63 hY, ys_64 hY, ys_65 hY, ys_66 hY, ys_67 hY, ys_68 hY, ys_69 hY, ys_70 hY, ys_71 hY, ys_72 hY, ys_73 hY, ys_74 hY, ys_75 hY, ys_76 hY, ys_77 hY, yK_t _ _ hk, jb_some, jb_tl, if_neg n1, if_neg n3, if_neg n5, if_neg n6, if_neg hlt, if_pos hle, jb_ix hk (by decide), a1, a7, if_true]
