/-! The class's constructor. -/
theorem xN5 {d q i x : Nat} {Z : jm_M} (h : jm_c Z 18 = i) : jm_D (d + 1) 5 0 [some (.inr (some (17, q))), some (.inl (nI x))] [] Z = some (none, jn_m [(1, 17, q, 0, x, none), (2, 17, q, 1, 0, some (18, i)), (0, 18, 5, 5, 0, none)] Z) := by
  simp only [e5_0, e5_1, e5_2, e5_3, e5_4, e5_5, e5_6, e5_7, e5_8, e5_9, jb_ix (show 5 < 10001 by decide) (by decide), h]
  rfl
def jn_lf (i : Nat) : List jn_op := [(2, 23, 0, i, 0, some (17, i)), (1, 17, i, 0, i + 1, none), (2, 17, i, 1, 0, some (18, i)), (0, 18, 5, 5, 0, none), (0, 17, 0, 4, 0, none)]
def jn_lv : Nat → Nat → List jn_op
  | _, 0 => []
  | i, f + 1 => jn_lv (i + 1) f ++ jn_lf i
theorem xNlv {d : Nat} : ∀ f i Z, i + f = 16 → jm_F Z 5 0 4 = some (23, 0) → jm_n Z 23 0 = 16 → jm_c Z 17 = i → jm_c Z 18 = i → jm_D (d + 2) 4 31 [some (.inr (some (5, 0))), some (.inl (nI i))] [] Z = some (none, jn_m (jn_lv i f) Z) := by
  intro f
  induction f with
  | zero =>
    intro i Z hi h1 h2 h3 h4
    obtain rfl : i = 16 := by omega
    rw [e4_31]
    simp only [e4_32, e4_33, Int32.le_refl, if_true, e4_46]
    rfl
  | succ f ih =>
    intro i Z hi h1 h2 h3 h4
    have c1 : ¬ nI 16 ≤ nI i := nI_ge (by omega) (by decide)
    have h5 := xN5 (d := d) (q := i) (i := i) (x := i + 1) (Z := jm_mk Z 17 0 4) h4
    have e2 : jm_n (jn_m [(1, 17, i, 0, i + 1, none), (2, 17, i, 1, 0, some (18, i)), (0, 18, 5, 5, 0, none)] (jm_mk Z 17 0 4)) 23 0 = 16 := h2
    have ih := ih (i + 1) (jn_m (jn_lf i) Z) (by omega) h1 h2 (show jm_c Z 17 + 1 = i + 1 by rw [h3]) (show jm_c Z 18 + 1 = i + 1 by rw [h4])
    have ea : jn_m (jn_lv i (f + 1)) Z = jn_m (jn_lv (i + 1) f) (jn_m (jn_lf i) Z) := jn_app _ _ _
    rw [ea, ← ih, e4_31]
    simp only [e4_32, e4_33, if_neg c1, e4_34, e4_35, e4_36, e4_37, e4_38, e4_39, e4_40, e4_41, e4_42, e4_43, e4_44, e4_45, h1, h3, nI_add, h5, jb_some, jb_tn, e2, jb_ix (show i < 16 by omega) (by decide)]
    rfl
def jn_st : List jn_op := jn_lv 0 16 ++ [(1, 5, 0, 6, 1, none), (2, 5, 0, 5, 0, some (24, 0)), (0, 24, 16, 16, 0, none), (2, 5, 0, 4, 0, some (23, 0)), (0, 23, 16, 16, 0, none), (2, 5, 0, 3, 0, some (22, 0)), (0, 22, 32, 32, 0, none), (2, 5, 0, 2, 0, some (21, 0)), (0, 21, 32, 32, 0, none), (2, 5, 0, 1, 0, some (20, 0)), (0, 20, 32, 32, 0, none), (2, 5, 0, 0, 0, some (19, 0)), (0, 19, 32, 32, 0, none)]
theorem xNst {d : Nat} {Z : jm_M} (h : ∀ k, 16 < k → k < 25 → jm_c Z k = 0) : jm_D (d + 2) 4 0 [some (.inr (some (5, 0))), none] [] Z = some (none, jn_m jn_st Z) := by
  unfold jn_st
  rw [jn_app]
  have c23 : jm_c Z 23 = 0 := h 23 (by decide) (by decide)
  have l := xNlv (d := d) 16 0 (jn_m [(1, 5, 0, 6, 1, none), (2, 5, 0, 5, 0, some (24, 0)), (0, 24, 16, 16, 0, none), (2, 5, 0, 4, 0, some (23, 0)), (0, 23, 16, 16, 0, none), (2, 5, 0, 3, 0, some (22, 0)), (0, 22, 32, 32, 0, none), (2, 5, 0, 2, 0, some (21, 0)), (0, 21, 32, 32, 0, none), (2, 5, 0, 1, 0, some (20, 0)), (0, 20, 32, 32, 0, none), (2, 5, 0, 0, 0, some (19, 0)), (0, 19, 32, 32, 0, none)] Z) (by omega) rfl (by rw [jn_n_ok c23]; rfl) (h 17 (by decide) (by decide)) (h 18 (by decide) (by decide))
  rw [← l]
  simp (decide := true) only [e4_0, e4_1, e4_2, e4_3, e4_4, e4_5, e4_6, e4_7, e4_8, e4_9, e4_10, e4_11, e4_12, e4_13, e4_14, e4_15, e4_16, e4_17, e4_18, e4_19, e4_20, e4_21, e4_22, e4_23, e4_24, e4_25, e4_26, e4_27, e4_28, e4_29, e4_30, e4_32, e4_33, e4_34, e4_35, e4_36, e4_37, e4_38, e4_39, e4_40, e4_41, e4_42, e4_43, e4_44, e4_45, e4_46, jb_ix (show 32 < 10001 by decide) (by decide), jb_ix (show 16 < 10001 by decide) (by decide), jb_cm, jb_cF, jb_cI, h 19 (by decide) (by decide), h 20 (by decide) (by decide), h 21 (by decide) (by decide), h 22 (by decide) (by decide), h 23 (by decide) (by decide), h 24 (by decide) (by decide)]
  rfl
theorem xN6 {d p : Nat} {Z : jm_M} (h7 : jm_c Z 7 = p) (h8 : jm_c Z 8 = p) (h9 : jm_c Z 9 = p) (h10 : jm_c Z 10 = p) : jm_D (d + 1) 6 0 [some (.inr (some (6, p)))] [] Z = some (none, jn_m [(2, 6, p, 3, 0, some (10, p)), (0, 10, 16, 16, 0, none), (2, 6, p, 2, 0, some (9, p)), (0, 9, 16, 16, 0, none), (2, 6, p, 1, 0, some (8, p)), (0, 8, 16, 16, 0, none), (2, 6, p, 0, 0, some (7, p)), (0, 7, 16, 16, 0, none)] Z) := by
  simp (decide := true) only [e6_0, e6_1, e6_2, e6_3, e6_4, e6_5, e6_6, e6_7, e6_8, e6_9, e6_10, e6_11, e6_12, e6_13, e6_14, e6_15, e6_16, e6_17, e6_18, jb_ix (show 16 < 10001 by decide) (by decide), jb_cm, jb_cF, h7, h8, h9, h10]
  rfl
def jn_pr (p : Nat) : List jn_op := [(2, 1, 0, p, 0, some (6, p)), (2, 6, p, 3, 0, some (10, p)), (0, 10, 16, 16, 0, none), (2, 6, p, 2, 0, some (9, p)), (0, 9, 16, 16, 0, none), (2, 6, p, 1, 0, some (8, p)), (0, 8, 16, 16, 0, none), (2, 6, p, 0, 0, some (7, p)), (0, 7, 16, 16, 0, none), (0, 6, 0, 5, 0, none)]
def jn_pv : Nat → Nat → List jn_op
  | _, 0 => []
  | i, f + 1 => jn_pv (i + 1) f ++ jn_pr i
theorem xNpv {d : Nat} : ∀ f p Z, p + f = 4 → jm_F Z 0 0 0 = some (1, 0) → jm_n Z 1 0 = 4 → jm_c Z 6 = p → jm_c Z 7 = p → jm_c Z 8 = p → jm_c Z 9 = p → jm_c Z 10 = p → jm_D (d + 2) 0 29 [some (.inr (some (0, 0))), some (.inl (nI p))] [] Z = jm_D (d + 2) 0 41 [some (.inr (some (0, 0))), some (.inl (nI 4))] [] (jn_m (jn_pv p f) Z) := by
  intro f
  induction f with
  | zero =>
    intro p Z hp h1 h2 h3 h4 h5 h6 h7
    obtain rfl : p = 4 := by omega
    rw [e0_29]
    simp only [e0_30, e0_31, Int32.le_refl, if_true]
    rfl
  | succ f ih =>
    intro p Z hp h1 h2 h3 h4 h5 h6 h7
    have c1 : ¬ nI 4 ≤ nI p := nI_ge (by omega) (by decide)
    have q := xN6 (d := d) (p := p) (Z := jm_mk Z 6 0 5) h4 h5 h6 h7
    have e2 : jm_n (jn_m [(2, 6, p, 3, 0, some (10, p)), (0, 10, 16, 16, 0, none), (2, 6, p, 2, 0, some (9, p)), (0, 9, 16, 16, 0, none), (2, 6, p, 1, 0, some (8, p)), (0, 8, 16, 16, 0, none), (2, 6, p, 0, 0, some (7, p)), (0, 7, 16, 16, 0, none)] (jm_mk Z 6 0 5)) 1 0 = 4 := h2
    have ih := ih (p + 1) (jn_m (jn_pr p) Z) (by omega) h1 h2 (show jm_c Z 6 + 1 = p + 1 by rw [h3]) (show jm_c Z 7 + 1 = p + 1 by rw [h4]) (show jm_c Z 8 + 1 = p + 1 by rw [h5]) (show jm_c Z 9 + 1 = p + 1 by rw [h6]) (show jm_c Z 10 + 1 = p + 1 by rw [h7])
    have ea : jn_m (jn_pv p (f + 1)) Z = jn_m (jn_pv (p + 1) f) (jn_m (jn_pr p) Z) := jn_app _ _ _
    rw [ea, ← ih, e0_29]
    simp only [e0_30, e0_31, if_neg c1, e0_32, e0_33, e0_34, e0_35, e0_36, e0_37, e0_38, e0_39, e0_40, h1, h3, q, jb_some, jb_tn, e2, jb_ix (show p < 4 by omega) (by decide), nI_add]
    rfl
theorem xN8 {d w : Nat} {Z : jm_M} (h26 : jm_c Z 26 = w) (h27 : jm_c Z 27 = w) : jm_D (d + 1) 8 0 [some (.inr (some (29, w))), some (.inl (nI 0))] [] Z = some (none, jn_m [(1, 29, w, 0, 0, none), (1, 29, w, 4, 1, none), (2, 29, w, 2, 0, some (27, w)), (0, 27, 32, 32, 0, none), (2, 29, w, 1, 0, some (26, w)), (0, 26, 32, 32, 0, none)] Z) := by
  simp (decide := true) only [e8_0, e8_1_k25, e8_1_k29, e8_2, e8_3, e8_4, e8_5_k25, e8_5_k29, e8_6, e8_7, e8_8, e8_9_k25, e8_9_k29, e8_10, e8_11, e8_12_k25, e8_12_k29, e8_13, e8_14, e8_15_k25, e8_15_k29, e8_16, jb_ix (show 32 < 10001 by decide) (by decide), jb_cm, jb_cF, h26, h27]
  rfl
def jn_wa (w : Nat) : List jn_op := [(2, 11, w, 3, 0, some (14, w)), (0, 14, 16, 16, 0, none), (2, 11, w, 2, 0, some (13, w)), (0, 13, 32, 32, 0, none), (2, 11, w, 1, 0, some (12, w)), (0, 12, 8, 8, 0, none)]
def jn_wb (w : Nat) : List jn_op := [(1, 11, w, 0, w + 1, none), (1, 11, w, 6, 0, none), (2, 11, w, 5, 0, some (29, w)), (1, 29, w, 0, 0, none), (1, 29, w, 4, 1, none), (2, 29, w, 2, 0, some (27, w)), (0, 27, 32, 32, 0, none), (2, 29, w, 1, 0, some (26, w)), (0, 26, 32, 32, 0, none), (0, 29, 0, 7, 0, none)]
theorem xN7 {d w : Nat} {Z : jm_M} (h12 : jm_c Z 12 = w) (h13 : jm_c Z 13 = w) (h14 : jm_c Z 14 = w) (h29 : jm_c Z 29 = w) (h26 : jm_c Z 26 = w) (h27 : jm_c Z 27 = w) : jm_D (d + 2) 7 0 [some (.inr (some (11, w))), some (.inl (nI (w + 1)))] [] Z = some (none, jn_m (jn_wb w ++ jn_wa w) Z) := by
  have q := xN8 (d := d) (w := w) (Z := jm_mk (jn_m (jn_wa w) Z) 29 0 7) h26 h27
  have p1 : jm_D (d + 2) 7 0 [some (.inr (some (11, w))), some (.inl (nI (w + 1)))] [] Z = jm_D (d + 2) 7 14 [some (.inr (some (11, w))), some (.inl (nI (w + 1)))] [] (jn_m (jn_wa w) Z) := by
    simp (decide := true) only [e7_0, e7_1, e7_2, e7_3, e7_4, e7_5, e7_6, e7_7, e7_8, e7_9, e7_10, e7_11, e7_12, e7_13, jb_ix (show 8 < 10001 by decide) (by decide), jb_ix (show 32 < 10001 by decide) (by decide), jb_ix (show 16 < 10001 by decide) (by decide), jb_cm, jb_cF, h12, h13, h14]
    rfl
  have h29' : jm_c (jn_m (jn_wa w) Z) 29 = w := h29
  rw [p1, jn_app]
  simp only [e7_14, e7_15, e7_16, e7_17, e7_18, e7_19, e7_20, e7_21, e7_22, e7_23, e7_24, e7_25, e7_26, h29', q, jb_some, jb_tn]
  rfl
theorem xN9 {d w : Nat} {Z : jm_M} (h16 : jm_c Z 16 = w) : jm_D (d + 4) 9 0 [some (.inr (some (15, w)))] [] Z = some (none, jn_m [(2, 15, w, 0, 0, some (16, w)), (2, 16, w, 0, 0, some (74, 0)), (1, 16, w, 2, 0, none), (0, 16, 0, 3, 0, none)] Z) := by
  simp only [e9_0, e9_1, e9_2, e9_3, e9_4, e9_5, e9_6, e9_7, e1_0, e1_1_k4, e1_1_k16, e1_2, e1_3, e1_4_k4, e1_4_k16, e1_5, e2_0, e2_1_k4, e2_1_k16, e2_2, e2_3, e2_4_k4, e2_4_k16, e2_5, e3_0, e3_1_k4, e3_1_k16, e3_2, h16, jb_some, jb_tn]
  rfl
def jn_wo (w : Nat) : List jn_op := [(2, 3, 0, w, 0, some (15, w)), (2, 15, w, 0, 0, some (16, w)), (2, 16, w, 0, 0, some (74, 0)), (1, 16, w, 2, 0, none), (0, 16, 0, 3, 0, none), (0, 15, 0, 3, 0, none), (2, 2, 0, w, 0, some (11, w))] ++ (jn_wb w ++ jn_wa w) ++ [(0, 11, 0, 13, 0, none)]
def jn_wv : Nat → Nat → List jn_op
  | _, 0 => []
  | i, f + 1 => jn_wv (i + 1) f ++ jn_wo i
theorem xNwv {d : Nat} : ∀ f w Z, w + f = 4 → jm_F Z 0 0 1 = some (2, 0) → jm_n Z 2 0 = 4 → jm_F Z 0 0 2 = some (3, 0) → jm_n Z 3 0 = 4 → (jm_c Z 11 = w ∧ jm_c Z 12 = w ∧ jm_c Z 13 = w ∧ jm_c Z 14 = w ∧ jm_c Z 15 = w ∧ jm_c Z 16 = w ∧ jm_c Z 26 = w ∧ jm_c Z 27 = w ∧ jm_c Z 29 = w) → jm_D (d + 5) 0 43 [some (.inr (some (0, 0))), some (.inl (nI w))] [] Z = some (none, jn_m (jn_wv w f) Z) := by
  intro f
  induction f with
  | zero =>
    intro w Z hw h1 h2 h3 h4 _
    obtain rfl : w = 4 := by omega
    rw [e0_43]
    simp only [e0_44, e0_45, Int32.le_refl, if_true, e0_65]
    rfl
  | succ f ih =>
    intro w Z hw h1 h2 h3 h4 ⟨k1, k2, k3, k4, k5, k6, k7, k8, k9⟩
    have c1 : ¬ nI 4 ≤ nI w := nI_ge (by omega) (by decide)
    have q7 := xN7 (d := d + 2) (w := w) (Z := jm_mk Z 11 0 13) k2 k3 k4 k9 k7 k8
    have e2 : jm_n (jn_m (jn_wb w ++ jn_wa w) (jm_mk Z 11 0 13)) 2 0 = 4 := h2
    have e3 : jm_F (jm_setF (jn_m (jn_wb w ++ jn_wa w) (jm_mk Z 11 0 13)) 2 0 w (some (11, w))) 0 0 2 = some (3, 0) := h3
    have e4 : jm_c (jm_setF (jn_m (jn_wb w ++ jn_wa w) (jm_mk Z 11 0 13)) 2 0 w (some (11, w))) 15 = w := k5
    have q9 := xN9 (d := d) (w := w) (Z := jm_mk (jm_setF (jn_m (jn_wb w ++ jn_wa w) (jm_mk Z 11 0 13)) 2 0 w (some (11, w))) 15 0 3) k6
    have e5 : jm_n (jn_m [(2, 15, w, 0, 0, some (16, w)), (2, 16, w, 0, 0, some (74, 0)), (1, 16, w, 2, 0, none), (0, 16, 0, 3, 0, none)] (jm_mk (jm_setF (jn_m (jn_wb w ++ jn_wa w) (jm_mk Z 11 0 13)) 2 0 w (some (11, w))) 15 0 3)) 3 0 = 4 := h4
    have ih := ih (w + 1) (jn_m (jn_wo w) Z) (by omega) h1 h2 h3 h4 ⟨show jm_c Z 11 + 1 = w + 1 by rw [k1], show jm_c Z 12 + 1 = w + 1 by rw [k2], show jm_c Z 13 + 1 = w + 1 by rw [k3], show jm_c Z 14 + 1 = w + 1 by rw [k4], show jm_c Z 15 + 1 = w + 1 by rw [k5], show jm_c Z 16 + 1 = w + 1 by rw [k6], show jm_c Z 26 + 1 = w + 1 by rw [k7], show jm_c Z 27 + 1 = w + 1 by rw [k8], show jm_c Z 29 + 1 = w + 1 by rw [k9]⟩
    have ea : jn_m (jn_wv w (f + 1)) Z = jn_m (jn_wv (w + 1) f) (jn_m (jn_wo w) Z) := jn_app _ _ _
    rw [ea, ← ih, e0_43]
    simp only [e0_44, e0_45, if_neg c1, e0_46, e0_47, e0_48, e0_49, e0_50, e0_51, e0_52, e0_53, e0_54, e0_55, e0_56, e0_57, e0_58, e0_59, e0_60, e0_61, e0_62, e0_63, e0_64, h1, k1, nI_add, q7, jb_some, jb_tn, e2, jb_ix (show w < 4 by omega) (by decide), e3, e4, q9, e5]
    rfl
def jn_x1 : List jn_op := [(0, 5, 0, 7, 0, none), (2, 0, 0, 3, 0, some (4, 0)), (2, 4, 0, 0, 0, some (74, 0)), (1, 4, 0, 2, 0, none), (0, 4, 0, 3, 0, none), (2, 0, 0, 2, 0, some (3, 0)), (0, 3, 4, 4, 0, none), (2, 0, 0, 1, 0, some (2, 0)), (0, 2, 4, 4, 0, none), (2, 0, 0, 0, 0, some (1, 0)), (0, 1, 4, 4, 0, none)]
def jn_x2 : List jn_op := [(1, 0, 0, 5, 1, none), (2, 0, 0, 4, 0, some (5, 0))]
def jn_X : List jn_op := jn_wv 0 4 ++ (jn_pv 0 4 ++ (jn_x2 ++ (jn_st ++ jn_x1)))
set_option maxRecDepth 20000 in
theorem xNew0 {d : Nat} {Z : jm_M} (h : ∀ k, 0 < k → k < 31 → jm_c Z k = 0) : jm_D (d + 5) 0 0 [some (.inr (some (0, 0))), none] [] Z = some (none, jn_m jn_X Z) := by
  have hc : ∀ k, 0 < k → k < 31 → ∀ l, jm_c (jn_m l Z) k = jn_c k l := fun k h1 h2 l => jn_c_ok (h k h1 h2) l
  have hs := xNst (d := d + 2) (Z := jn_m jn_x1 Z) (fun k h1 h2 => by
    rw [hc k (by omega) (by omega)]
    exact (show ∀ k, k < 25 → 16 < k → jn_c k jn_x1 = 0 by decide) k h2 h1)
  have p1 : jm_D (d + 5) 0 0 [some (.inr (some (0, 0))), none] [] Z = jm_D (d + 5) 0 29 [some (.inr (some (0, 0))), some (.inl (nI 0))] [] (jn_m (jn_x2 ++ (jn_st ++ jn_x1)) Z) := by
    have a1 : jm_D (d + 5) 0 0 [some (.inr (some (0, 0))), none] [] Z = jm_D (d + 5) 0 22 [some (.inr (some (0, 0))), none] [.inr (some (5, 0)), .inr (some (5, 0)), .inr (some (0, 0))] (jn_m jn_x1 Z) := by
      simp (decide := true) only [e0_0, e0_1, e0_2, e0_3, e0_4, e0_5, e0_6, e0_7, e0_8, e0_9, e0_10, e0_11, e0_12, e0_13, e0_14, e0_15, e0_16, e0_17, e0_18, e0_19, e0_20, e0_21, e1_0, e1_1_k4, e1_1_k16, e1_2, e1_3, e1_4_k4, e1_4_k16, e1_5, e2_0, e2_1_k4, e2_1_k16, e2_2, e2_3, e2_4_k4, e2_4_k16, e2_5, e3_0, e3_1_k4, e3_1_k16, e3_2, jb_ix (show 4 < 10001 by decide) (by decide), jb_cm, jb_cF, jb_cI, h 1 (by decide) (by decide), h 2 (by decide) (by decide), h 3 (by decide) (by decide), h 4 (by decide) (by decide), h 5 (by decide) (by decide), jb_some, jb_tn]
      rfl
    rw [a1, jn_app, jn_app]
    simp only [e0_22, hs, jb_some, jb_tn, e0_23, e0_24, e0_25, e0_26, e0_27, e0_28]
    rfl
  have hn : ∀ k i l, 0 < k → k < 31 → jm_n (jn_m l Z) k i = (jn_n k i l).getD (jm_n Z k i) := fun k i l h1 h2 => jn_n_ok (h k h1 h2) i l
  have p2 := xNpv (d := d + 3) 4 0 (jn_m (jn_x2 ++ (jn_st ++ jn_x1)) Z) (by omega) rfl (by rw [hn 1 0 _ (by decide) (by decide)]; rfl) (by rw [hc 6 (by decide) (by decide)]; decide) (by rw [hc 7 (by decide) (by decide)]; decide) (by rw [hc 8 (by decide) (by decide)]; decide) (by rw [hc 9 (by decide) (by decide)]; decide) (by rw [hc 10 (by decide) (by decide)]; decide)
  rw [← jn_app] at p2
  have p3 := xNwv (d := d) 4 0 (jn_m (jn_pv 0 4 ++ (jn_x2 ++ (jn_st ++ jn_x1))) Z) (by omega) rfl (by rw [hn 2 0 _ (by decide) (by decide)]; rfl) rfl (by rw [hn 3 0 _ (by decide) (by decide)]; rfl) (by
    rw [hc 11 (by decide) (by decide), hc 12 (by decide) (by decide), hc 13 (by decide) (by decide), hc 14 (by decide) (by decide), hc 15 (by decide) (by decide), hc 16 (by decide) (by decide), hc 26 (by decide) (by decide), hc 27 (by decide) (by decide), hc 29 (by decide) (by decide)]
    decide)
  rw [← jn_app] at p3
  rw [p1, p2, e0_41, e0_42, p3]
  rfl
