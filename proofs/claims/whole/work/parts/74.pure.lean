/-! A record added to the class's store: a place opened, a leaf cut in two. -/
theorem xOp0 {d n at' : Nat} {M : jm_M} {l2 : Option jm_V} (hX : jx_S M) (hn : n < 16) (h1 : 1 ≤ at') : ∀ f, at' + f ≤ n → jm_D d 61 9 [some (.inr (some (5, 0))), some (.inl (nI at')), l2, some (.inl (nI (at' + f)))] [] (jm_setK M 24 (jk_sh (jm_I M 24) 0 (at' + f) n)) = jm_D d 61 24 [some (.inr (some (5, 0))), some (.inl (nI at')), l2, some (.inl (nI at'))] [] (jm_setK M 24 (jk_sh (jm_I M 24) 0 at' n)) := by
  intro f
  induction f with
  | zero =>
    intro _
    rw [Nat.add_zero, e61_9]
    simp only [e61_10, e61_11, Int32.le_refl, if_true]
  | succ f ih =>
    intro hf
    have ih := ih (by omega)
    rw [show at' + (f + 1) = at' + f + 1 from rfl, e61_9]
    have c1 : ¬ nI (at' + f + 1) ≤ nI at' := nI_ge (by omega) (by omega)
    have e1 : jm_I (jm_setK M 24 (jk_sh (jm_I M 24) 0 (at' + f + 1) n)) 24 0 (at' + f) = jm_I M 24 0 (at' + f) := (jk_I _ _ _ _ _).trans (jk_sh_lo (by omega))
    have ee := jk_sh1 (M := M) (K := 24) (w := 0) (e := at' + f) (n := n) (g := jm_I M 24) (by omega)
    simp only [e61_10, e61_11, if_neg c1, e61_12, e61_13, e61_14, e61_15, e61_16, e61_17, e61_18, e61_19, e61_20, e61_21, e61_22, e61_23, jk_F, jk_n, xs_0 hX, xs_1 hX, xs_2 hX, xs_3 hX, xs_4 hX, xs_5 hX, xs_6 hX, xs_7 hX, xs_8 hX, xs_9 hX, xs_10 hX, xs_11 hX, xs_12 hX, xs_13 hX, xs_14 hX, xs_15 hX, xs_16 hX, xs_17 hX, xs_18 hX, xs_19 hX, jb_sub1, jb_ix (show at' + f < 16 by omega) (by decide), jb_ix (show at' + f + 1 < 16 by omega) (by decide), e1, jk_set, ee, pk_m1, ih]
def jk_op (g : Nat → Nat → Int32) (at' n : Nat) (x : Int32) : Nat → Nat → Int32 := fun b j => if b = 0 ∧ j = at' then x else jk_sh g 0 at' n b j
def jx_op (M : jm_M) (at' n : Nat) : jm_M := jm_setI (jm_setK M 24 (jk_op (jm_I M 24) at' n (nI n))) 5 0 6 (nI (n + 1))
theorem xOp {d n at' : Nat} {M : jm_M} (hX : jx_S M) (hn : n < 16) (h1 : 1 ≤ at') (h2 : at' ≤ n) (h6 : jm_I M 5 0 6 = nI n) : jm_D d 61 0 [some (.inr (some (5, 0))), some (.inl (nI at')), none, none] [] M = some (some (.inr (some (17, n))), jx_op M at' n) := by
  have h0 := xOp0 (d := d) (l2 := some (.inr (some (17, n)))) hX hn h1 (n - at') (by omega)
  rw [show at' + (n - at') = n by omega, jk_sh0, jk_id] at h0
  have e1 : jm_I (jm_setK M 24 (jk_sh (jm_I M 24) 0 at' n)) 5 0 6 = nI n := h6
  have e2 : jm_I (jm_setK M 24 (jk_op (jm_I M 24) at' n (nI n))) 5 0 6 = nI n := h6
  have e3 : jm_setI (jm_setK M 24 (jk_sh (jm_I M 24) 0 at' n)) 24 0 at' (nI n) = jm_setK M 24 (jk_op (jm_I M 24) at' n (nI n)) := jk_set _ _ _ _ _ _
  simp only [e61_0, e61_1, e61_2, e61_3, e61_4, e61_5, e61_6, e61_7, e61_8, xs_0 hX, xs_1 hX, xs_2 hX, xs_3 hX, xs_4 hX, xs_5 hX, xs_6 hX, xs_7 hX, xs_8 hX, xs_9 hX, xs_10 hX, xs_11 hX, xs_12 hX, xs_13 hX, xs_14 hX, xs_15 hX, xs_16 hX, xs_17 hX, xs_18 hX, xs_19 hX, xf_0 hX hn, xf_1 hX hn, xf_2 hX hn, h6, jb_ix hn (by decide), h0, e61_24, e61_25, e61_26, e61_27, e61_28, e61_29, e61_30, e61_31, e61_32, e61_33, e61_34, e61_35, e61_36, e61_37, jk_F, jk_n, e1, jb_ix (show at' < 16 by omega) (by decide), e3, e2, nI_add]
  rfl
def jx_ct (M : jm_M) (i n : Nat) (x y : Int32) (v : Nat) : jm_M := jm_setI (jm_setI (jm_setI (jm_setI (jm_setI M 18 n 0 x) 18 n 1 y) 17 n 2 (nI 2)) 17 i 2 (nI 3)) 17 i 3 (nI (v + 1))
theorem xCt {d i n v : Nat} {M : jm_M} (hX : jx_S M) (hi : i < 16) (hn : n < 16) (hin : i ≠ n) (h2 : jm_I M 17 i 2 = nI 5) (h3 : jm_I M 17 i 3 = nI v) : jm_D d 62 0 [some (.inr (some (17, i))), some (.inr (some (17, n))), none, none] [] M = some (none, jx_ct M i n (jm_I M 18 i 3) (jm_I M 18 i 4) v) := by
  have c0 : ¬ nI 2 ≤ nI 0 := by decide
  have c1 : ¬ nI 2 ≤ nI 1 := by decide
  have s0 : nI 5 - nI 2 = nI 3 := by decide
  have s1 : nI 3 + nI 0 = nI 3 := by decide
  have s2 : nI 3 + nI 1 = nI 4 := by decide
  have s3 : nI 0 + nI 1 = nI 1 := by decide
  have s4 : nI 1 + nI 1 = nI 2 := by decide
  have s5 : nI v + nI 1 = nI (v + 1) := nI_add v 1
  have e1 : jm_I (jm_setI M 18 n 0 (jm_I M 18 i 3)) 18 i 4 = jm_I M 18 i 4 := jb_Ij hin _ _ _ _ _ _
  have e2 : jm_I (jm_setI (jm_setI (jm_setI (jm_setI M 18 n 0 (jm_I M 18 i 3)) 18 n 1 (jm_I M 18 i 4)) 17 n 2 (nI 2)) 17 i 2 (nI 3)) 17 i 3 = nI v := (jb_Io (by decide) _ _ _ _ _ _).trans ((jb_Io (by decide) _ _ _ _ _ _).trans h3)
  simp only [e62_0, e62_1, e62_2, e62_3, e62_4, e62_5, e62_6, e62_8, e62_9, e62_10, e62_11, e62_12, e62_13, e62_14, e62_15, e62_16, e62_17, e62_18, e62_19, e62_20, e62_21, e62_22, e62_23, e62_24, e62_25, e62_26, e62_27, e62_28, e62_29, e62_30, e62_31, e62_32, e62_33, e62_34, h2, s0]
  rw [e62_7]
  simp only [e62_0, e62_1, e62_2, e62_3, e62_4, e62_5, e62_6, e62_8, e62_9, e62_10, e62_11, e62_12, e62_13, e62_14, e62_15, e62_16, e62_17, e62_18, e62_19, e62_20, e62_21, e62_22, e62_23, e62_24, e62_25, e62_26, e62_27, e62_28, e62_29, e62_30, e62_31, e62_32, e62_33, e62_34, jb_FI, jb_nI, xf_0 hX hi, xf_1 hX hi, xf_2 hX hi, xf_0 hX hn, xf_1 hX hn, xf_2 hX hn, if_neg c0, if_neg c1, s1, s2, s3, s4, jb_ix (show 3 < 5 by decide) (by decide), jb_ix (show 4 < 5 by decide) (by decide), jb_ix (show 0 < 5 by decide) (by decide), jb_ix (show 1 < 5 by decide) (by decide), e1, Int32.le_refl, if_true, e2, s5]
  rw [e62_7]
  simp only [e62_0, e62_1, e62_2, e62_3, e62_4, e62_5, e62_6, e62_8, e62_9, e62_10, e62_11, e62_12, e62_13, e62_14, e62_15, e62_16, e62_17, e62_18, e62_19, e62_20, e62_21, e62_22, e62_23, e62_24, e62_25, e62_26, e62_27, e62_28, e62_29, e62_30, e62_31, e62_32, e62_33, e62_34, jb_FI, jb_nI, xf_0 hX hi, xf_1 hX hi, xf_2 hX hi, xf_0 hX hn, xf_1 hX hn, xf_2 hX hn, if_neg c0, if_neg c1, s1, s2, s3, s4, jb_ix (show 3 < 5 by decide) (by decide), jb_ix (show 4 < 5 by decide) (by decide), jb_ix (show 0 < 5 by decide) (by decide), jb_ix (show 1 < 5 by decide) (by decide), e1, Int32.le_refl, if_true, e2, s5]
  rw [e62_7]
  simp only [e62_0, e62_1, e62_2, e62_3, e62_4, e62_5, e62_6, e62_8, e62_9, e62_10, e62_11, e62_12, e62_13, e62_14, e62_15, e62_16, e62_17, e62_18, e62_19, e62_20, e62_21, e62_22, e62_23, e62_24, e62_25, e62_26, e62_27, e62_28, e62_29, e62_30, e62_31, e62_32, e62_33, e62_34, jb_FI, jb_nI, xf_0 hX hi, xf_1 hX hi, xf_2 hX hi, xf_0 hX hn, xf_1 hX hn, xf_2 hX hn, if_neg c0, if_neg c1, s1, s2, s3, s4, jb_ix (show 3 < 5 by decide) (by decide), jb_ix (show 4 < 5 by decide) (by decide), jb_ix (show 0 < 5 by decide) (by decide), jb_ix (show 1 < 5 by decide) (by decide), e1, Int32.le_refl, if_true, e2, s5]
  rfl
def jx_a1 (M : jm_M) (i k : Nat) (a b : List Nat) (v : Nat) : jm_M := jm_setI (jm_setI (jm_setI (jm_setK M 18 (jx_kx M i k a.length (a.length + b.length))) 17 i 2 (nI (a.length + b.length + 1))) 17 i 3 (nI (v + 1))) 19 0 k (nI 1)
def jx_a3 (M : jm_M) (i k : Nat) (a b : List Nat) (v q n : Nat) : jm_M := jx_ct (jx_op (jx_a1 M i k a b v) (q + 1) n) i n (jm_I (jx_a1 M i k a b v) 18 i 3) (jm_I (jx_a1 M i k a b v) 18 i 4) (v + 1)
theorem xAdd {d i k v q n : Nat} {M : jm_M} {a b : List Nat} (hX : jx_S M) (hi : i < n) (hn : n < 16) (hq : q < n) (hk : k < 32) (hab : a.length + b.length ≤ 4) (ha : ∀ x ∈ a, x < k) (hb : ∀ x ∈ b, k < x ∧ x < 32) (hl : ∀ j x, (a ++ b)[j]? = some x → jm_I M 18 i j = nI x) (hc : jm_I M 17 i 2 = nI (a.length + b.length)) (hv : jm_I M 17 i 3 = nI v) (h6 : jm_I M 5 0 6 = nI n) (z1 : ∀ d, jm_D d 43 0 [some (.inr (some (5, 0))), some (.inl (nI k)), none] [] M = some (some (.inl (nI q)), M)) (z2 : ∀ d, jm_D d 44 0 [some (.inr (some (5, 0))), some (.inl (nI q))] [] M = some (some (.inr (some (17, i))), M)) : jm_D (d + 1) 59 0 [some (.inr (some (5, 0))), some (.inl (nI k)), none, none] [] M = some (none, if a.length + b.length = 4 then jx_a3 M i k a b v q n else jx_a1 M i k a b v) := by
  have hi16 : i < 16 := by omega
  have hI := xIns (d := d) hX hi16 hk hab ha hb hl hc hv
  have e1 : jm_I (jx_a1 M i k a b v) 17 i 2 = nI (a.length + b.length + 1) := (jb_Io (show 2 ≠ 3 by decide) _ 17 i _ 17 i).trans (jb_Is _ _ _ _ _)
  have e2 : jm_I (jx_a1 M i k a b v) 17 i 3 = nI (v + 1) := jb_Is _ 17 i 3 _
  have e3 : jm_setI (jm_setI (jm_setI (jm_setK M 18 (jx_kx M i k a.length (a.length + b.length))) 17 i 2 (nI (a.length + b.length + 1))) 17 i 3 (nI (v + 1))) 19 0 k (nI 1) = jx_a1 M i k a b v := rfl
  simp only [e59_0, e59_1, e59_2, e59_3, e59_4, e59_5, e59_6, e59_7, e59_8, e59_9, e59_10, e59_11, e59_12, e59_13, e59_14, e59_15, e59_16, e59_17, e59_18, z1, z2, hI, jb_some, jb_tl, jb_tn, jb_FI, jb_nI, jk_F, jk_n, xs_0 hX, xs_1 hX, xs_2 hX, xs_3 hX, xs_4 hX, xs_5 hX, xs_6 hX, xs_7 hX, xs_8 hX, xs_9 hX, xs_10 hX, xs_11 hX, xs_12 hX, xs_13 hX, xs_14 hX, xs_15 hX, xs_16 hX, xs_17 hX, xs_18 hX, xs_19 hX, jb_ix hk (by decide), e3, e1]
  by_cases h4 : a.length + b.length = 4
  · have c1 : ¬ nI (a.length + b.length + 1) < nI 5 := nI_nlt (by omega) (by omega)
    have c2 : ¬ nI 16 ≤ nI n := nI_ge (by omega) (by omega)
    have h6' : jm_I (jx_a1 M i k a b v) 5 0 6 = nI n := h6
    have hX1 : jx_S (jx_a1 M i k a b v) := hX
    have hX2 : jx_S (jx_op (jx_a1 M i k a b v) (q + 1) n) := hX
    have hO := xOp (d := d) hX1 hn (show 1 ≤ q + 1 by omega) (show q + 1 ≤ n by omega) h6'
    have e4 : jm_I (jx_op (jx_a1 M i k a b v) (q + 1) n) 17 i 2 = nI 5 := e1.trans (by rw [h4])
    have e5 : jm_I (jx_op (jx_a1 M i k a b v) (q + 1) n) 17 i 3 = nI (v + 1) := e2
    have hC := xCt (d := d) hX2 hi16 hn (show i ≠ n by omega) e4 e5
    rw [if_pos h4, e59_19, if_neg c1]
    simp only [e59_20, e59_21, e59_22, e59_23, if_neg c2, e59_24, e59_25, e59_26, e59_27, e59_28, e59_29, e59_30, e59_31, h6', nI_add, hO, hC, jb_some, jb_tl, jb_tn]
    rfl
  · have c1 : nI (a.length + b.length + 1) < nI 5 := nI_lt (by omega) (by omega)
    rw [if_neg h4, e59_19, if_pos c1, e59_31]
