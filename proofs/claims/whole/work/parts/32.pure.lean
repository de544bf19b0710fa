theorem jb_pred {n : Nat} {x : Int32} (h : nI (n + 1) ≤ x) (hn : n + 1 < 2 ^ 31 := by decide) : nI n < x := by
  rw [Int32.le_iff_toInt_le, nI_toInt (by omega)] at h
  rw [Int32.lt_iff_toInt_lt, nI_toInt (by omega)]
  omega
/-! The two memories: how their cells hang together. -/
def jx_S (M : jm_M) : Prop := (jm_F M 0 0 0 = some (1, 0) ∧ jm_F M 0 0 1 = some (2, 0) ∧ jm_F M 0 0 2 = some (3, 0) ∧ jm_F M 0 0 3 = some (4, 0) ∧ jm_F M 0 0 4 = some (5, 0) ∧ jm_n M 1 0 = 4 ∧ jm_n M 2 0 = 4 ∧ jm_n M 3 0 = 4 ∧ jm_F M 5 0 0 = some (19, 0) ∧ jm_F M 5 0 1 = some (20, 0) ∧ jm_F M 5 0 2 = some (21, 0) ∧ jm_F M 5 0 3 = some (22, 0) ∧ jm_F M 5 0 4 = some (23, 0) ∧ jm_F M 5 0 5 = some (24, 0) ∧ jm_n M 19 0 = 32 ∧ jm_n M 20 0 = 32 ∧ jm_n M 21 0 = 32 ∧ jm_n M 22 0 = 32 ∧ jm_n M 23 0 = 16 ∧ jm_n M 24 0 = 16) ∧ (∀ p, p < 4 → jm_F M 1 0 p = some (6, p) ∧ jm_F M 6 p 0 = some (7, p) ∧ jm_F M 6 p 1 = some (8, p) ∧ jm_F M 6 p 2 = some (9, p) ∧ jm_F M 6 p 3 = some (10, p) ∧ jm_n M 7 p = 16 ∧ jm_n M 8 p = 16 ∧ jm_n M 9 p = 16 ∧ jm_n M 10 p = 16) ∧ (∀ w, w < 4 → jm_F M 2 0 w = some (11, w) ∧ jm_F M 11 w 1 = some (12, w) ∧ jm_F M 11 w 2 = some (13, w) ∧ jm_F M 11 w 3 = some (14, w) ∧ jm_n M 12 w = 8 ∧ jm_n M 13 w = 32 ∧ jm_n M 14 w = 16 ∧ jm_F M 3 0 w = some (15, w) ∧ jm_F M 15 w 0 = some (16, w)) ∧ (∀ i, i < 16 → jm_F M 23 0 i = some (17, i) ∧ jm_F M 17 i 1 = some (18, i) ∧ jm_n M 18 i = 5)
theorem xs_0 {M : jm_M} (h : jx_S M) : jm_F M 0 0 0 = some (1, 0) := h.1.1
theorem xs_1 {M : jm_M} (h : jx_S M) : jm_F M 0 0 1 = some (2, 0) := h.1.2.1
theorem xs_2 {M : jm_M} (h : jx_S M) : jm_F M 0 0 2 = some (3, 0) := h.1.2.2.1
theorem xs_3 {M : jm_M} (h : jx_S M) : jm_F M 0 0 3 = some (4, 0) := h.1.2.2.2.1
theorem xs_4 {M : jm_M} (h : jx_S M) : jm_F M 0 0 4 = some (5, 0) := h.1.2.2.2.2.1
theorem xs_5 {M : jm_M} (h : jx_S M) : jm_n M 1 0 = 4 := h.1.2.2.2.2.2.1
theorem xs_6 {M : jm_M} (h : jx_S M) : jm_n M 2 0 = 4 := h.1.2.2.2.2.2.2.1
theorem xs_7 {M : jm_M} (h : jx_S M) : jm_n M 3 0 = 4 := h.1.2.2.2.2.2.2.2.1
theorem xs_8 {M : jm_M} (h : jx_S M) : jm_F M 5 0 0 = some (19, 0) := h.1.2.2.2.2.2.2.2.2.1
theorem xs_9 {M : jm_M} (h : jx_S M) : jm_F M 5 0 1 = some (20, 0) := h.1.2.2.2.2.2.2.2.2.2.1
theorem xs_10 {M : jm_M} (h : jx_S M) : jm_F M 5 0 2 = some (21, 0) := h.1.2.2.2.2.2.2.2.2.2.2.1
theorem xs_11 {M : jm_M} (h : jx_S M) : jm_F M 5 0 3 = some (22, 0) := h.1.2.2.2.2.2.2.2.2.2.2.2.1
theorem xs_12 {M : jm_M} (h : jx_S M) : jm_F M 5 0 4 = some (23, 0) := h.1.2.2.2.2.2.2.2.2.2.2.2.2.1
theorem xs_13 {M : jm_M} (h : jx_S M) : jm_F M 5 0 5 = some (24, 0) := h.1.2.2.2.2.2.2.2.2.2.2.2.2.2.1
theorem xs_14 {M : jm_M} (h : jx_S M) : jm_n M 19 0 = 32 := h.1.2.2.2.2.2.2.2.2.2.2.2.2.2.2.1
theorem xs_15 {M : jm_M} (h : jx_S M) : jm_n M 20 0 = 32 := h.1.2.2.2.2.2.2.2.2.2.2.2.2.2.2.2.1
theorem xs_16 {M : jm_M} (h : jx_S M) : jm_n M 21 0 = 32 := h.1.2.2.2.2.2.2.2.2.2.2.2.2.2.2.2.2.1
theorem xs_17 {M : jm_M} (h : jx_S M) : jm_n M 22 0 = 32 := h.1.2.2.2.2.2.2.2.2.2.2.2.2.2.2.2.2.2.1
theorem xs_18 {M : jm_M} (h : jx_S M) : jm_n M 23 0 = 16 := h.1.2.2.2.2.2.2.2.2.2.2.2.2.2.2.2.2.2.2.1
theorem xs_19 {M : jm_M} (h : jx_S M) : jm_n M 24 0 = 16 := h.1.2.2.2.2.2.2.2.2.2.2.2.2.2.2.2.2.2.2.2
theorem xp_0 {M : jm_M} (h : jx_S M) {p : Nat} (hp : p < 4) : jm_F M 1 0 p = some (6, p) := (h.2.1 p hp).1
theorem xp_1 {M : jm_M} (h : jx_S M) {p : Nat} (hp : p < 4) : jm_F M 6 p 0 = some (7, p) := (h.2.1 p hp).2.1
theorem xp_2 {M : jm_M} (h : jx_S M) {p : Nat} (hp : p < 4) : jm_F M 6 p 1 = some (8, p) := (h.2.1 p hp).2.2.1
theorem xp_3 {M : jm_M} (h : jx_S M) {p : Nat} (hp : p < 4) : jm_F M 6 p 2 = some (9, p) := (h.2.1 p hp).2.2.2.1
theorem xp_4 {M : jm_M} (h : jx_S M) {p : Nat} (hp : p < 4) : jm_F M 6 p 3 = some (10, p) := (h.2.1 p hp).2.2.2.2.1
theorem xp_5 {M : jm_M} (h : jx_S M) {p : Nat} (hp : p < 4) : jm_n M 7 p = 16 := (h.2.1 p hp).2.2.2.2.2.1
theorem xp_6 {M : jm_M} (h : jx_S M) {p : Nat} (hp : p < 4) : jm_n M 8 p = 16 := (h.2.1 p hp).2.2.2.2.2.2.1
theorem xp_7 {M : jm_M} (h : jx_S M) {p : Nat} (hp : p < 4) : jm_n M 9 p = 16 := (h.2.1 p hp).2.2.2.2.2.2.2.1
theorem xp_8 {M : jm_M} (h : jx_S M) {p : Nat} (hp : p < 4) : jm_n M 10 p = 16 := (h.2.1 p hp).2.2.2.2.2.2.2.2
theorem xw_0 {M : jm_M} (h : jx_S M) {w : Nat} (hw : w < 4) : jm_F M 2 0 w = some (11, w) := (h.2.2.1 w hw).1
theorem xw_1 {M : jm_M} (h : jx_S M) {w : Nat} (hw : w < 4) : jm_F M 11 w 1 = some (12, w) := (h.2.2.1 w hw).2.1
theorem xw_2 {M : jm_M} (h : jx_S M) {w : Nat} (hw : w < 4) : jm_F M 11 w 2 = some (13, w) := (h.2.2.1 w hw).2.2.1
theorem xw_3 {M : jm_M} (h : jx_S M) {w : Nat} (hw : w < 4) : jm_F M 11 w 3 = some (14, w) := (h.2.2.1 w hw).2.2.2.1
theorem xw_4 {M : jm_M} (h : jx_S M) {w : Nat} (hw : w < 4) : jm_n M 12 w = 8 := (h.2.2.1 w hw).2.2.2.2.1
theorem xw_5 {M : jm_M} (h : jx_S M) {w : Nat} (hw : w < 4) : jm_n M 13 w = 32 := (h.2.2.1 w hw).2.2.2.2.2.1
theorem xw_6 {M : jm_M} (h : jx_S M) {w : Nat} (hw : w < 4) : jm_n M 14 w = 16 := (h.2.2.1 w hw).2.2.2.2.2.2.1
theorem xw_7 {M : jm_M} (h : jx_S M) {w : Nat} (hw : w < 4) : jm_F M 3 0 w = some (15, w) := (h.2.2.1 w hw).2.2.2.2.2.2.2.1
theorem xw_8 {M : jm_M} (h : jx_S M) {w : Nat} (hw : w < 4) : jm_F M 15 w 0 = some (16, w) := (h.2.2.1 w hw).2.2.2.2.2.2.2.2
theorem xf_0 {M : jm_M} (h : jx_S M) {i : Nat} (hi : i < 16) : jm_F M 23 0 i = some (17, i) := (h.2.2.2 i hi).1
theorem xf_1 {M : jm_M} (h : jx_S M) {i : Nat} (hi : i < 16) : jm_F M 17 i 1 = some (18, i) := (h.2.2.2 i hi).2.1
theorem xf_2 {M : jm_M} (h : jx_S M) {i : Nat} (hi : i < 16) : jm_n M 18 i = 5 := (h.2.2.2 i hi).2.2
def jy_S (M : jm_M) : Prop := jm_F M 31 0 0 = some (32, 0) ∧ jm_F M 31 0 1 = some (33, 0) ∧ jm_F M 31 0 2 = some (34, 0) ∧ jm_F M 31 0 3 = some (35, 0) ∧ jm_F M 31 0 4 = some (36, 0) ∧ jm_F M 31 0 5 = some (37, 0) ∧ jm_F M 31 0 6 = some (38, 0) ∧ jm_F M 31 0 7 = some (39, 0) ∧ jm_F M 31 0 8 = some (40, 0) ∧ jm_F M 31 0 9 = some (41, 0) ∧ jm_F M 31 0 10 = some (42, 0) ∧ jm_F M 31 0 13 = some (43, 0) ∧ jm_F M 31 0 14 = some (44, 0) ∧ jm_F M 31 0 15 = some (45, 0) ∧ jm_F M 31 0 16 = some (46, 0) ∧ jm_F M 31 0 17 = some (47, 0) ∧ jm_F M 31 0 18 = some (48, 0) ∧ jm_F M 31 0 19 = some (49, 0) ∧ jm_F M 31 0 20 = some (50, 0) ∧ jm_F M 31 0 21 = some (51, 0) ∧ jm_F M 31 0 22 = some (52, 0) ∧ jm_F M 31 0 23 = some (53, 0) ∧ jm_F M 31 0 24 = some (54, 0) ∧ jm_F M 31 0 25 = some (55, 0) ∧ jm_F M 31 0 26 = some (56, 0) ∧ jm_F M 31 0 27 = some (57, 0) ∧ jm_F M 31 0 28 = some (58, 0) ∧ jm_F M 31 0 29 = some (59, 0) ∧ jm_F M 31 0 30 = some (60, 0) ∧ jm_F M 31 0 31 = some (61, 0) ∧ jm_F M 31 0 32 = some (62, 0) ∧ jm_F M 31 0 35 = some (63, 0) ∧ jm_F M 31 0 36 = some (64, 0) ∧ jm_F M 31 0 37 = some (65, 0) ∧ jm_F M 31 0 38 = some (66, 0) ∧ jm_F M 31 0 39 = some (67, 0) ∧ jm_F M 31 0 40 = some (68, 0) ∧ jm_F M 31 0 41 = some (69, 0) ∧ jm_F M 31 0 42 = some (70, 0) ∧ jm_n M 32 0 = 4 ∧ jm_n M 33 0 = 64 ∧ jm_n M 34 0 = 64 ∧ jm_n M 35 0 = 64 ∧ jm_n M 36 0 = 64 ∧ jm_n M 37 0 = 32 ∧ jm_n M 38 0 = 32 ∧ jm_n M 39 0 = 32 ∧ jm_n M 40 0 = 32 ∧ jm_n M 41 0 = 32 ∧ jm_n M 42 0 = 32 ∧ jm_n M 43 0 = 40 ∧ jm_n M 44 0 = 40 ∧ jm_n M 45 0 = 4 ∧ jm_n M 46 0 = 4 ∧ jm_n M 47 0 = 4 ∧ jm_n M 48 0 = 4 ∧ jm_n M 49 0 = 4 ∧ jm_n M 50 0 = 32 ∧ jm_n M 51 0 = 128 ∧ jm_n M 52 0 = 128 ∧ jm_n M 53 0 = 128 ∧ jm_n M 54 0 = 128 ∧ jm_n M 55 0 = 128 ∧ jm_n M 56 0 = 128 ∧ jm_n M 57 0 = 160 ∧ jm_n M 58 0 = 4 ∧ jm_n M 59 0 = 4 ∧ jm_n M 60 0 = 4 ∧ jm_n M 61 0 = 4 ∧ jm_n M 62 0 = 4 ∧ jm_n M 63 0 = 101 ∧ jm_n M 64 0 = 101 ∧ jm_n M 65 0 = 101 ∧ jm_n M 66 0 = 101 ∧ jm_n M 67 0 = 101 ∧ jm_n M 68 0 = 3232 ∧ jm_n M 69 0 = 3232 ∧ jm_n M 70 0 = 3232
theorem ys_0 {M : jm_M} (h : jy_S M) : jm_F M 31 0 0 = some (32, 0) := h.1
theorem ys_1 {M : jm_M} (h : jy_S M) : jm_F M 31 0 1 = some (33, 0) := h.2.1
theorem ys_2 {M : jm_M} (h : jy_S M) : jm_F M 31 0 2 = some (34, 0) := h.2.2.1
theorem ys_3 {M : jm_M} (h : jy_S M) : jm_F M 31 0 3 = some (35, 0) := h.2.2.2.1
theorem ys_4 {M : jm_M} (h : jy_S M) : jm_F M 31 0 4 = some (36, 0) := h.2.2.2.2.1
theorem ys_5 {M : jm_M} (h : jy_S M) : jm_F M 31 0 5 = some (37, 0) := h.2.2.2.2.2.1
theorem ys_6 {M : jm_M} (h : jy_S M) : jm_F M 31 0 6 = some (38, 0) := h.2.2.2.2.2.2.1
theorem ys_7 {M : jm_M} (h : jy_S M) : jm_F M 31 0 7 = some (39, 0) := h.2.2.2.2.2.2.2.1
theorem ys_8 {M : jm_M} (h : jy_S M) : jm_F M 31 0 8 = some (40, 0) := h.2.2.2.2.2.2.2.2.1
theorem ys_9 {M : jm_M} (h : jy_S M) : jm_F M 31 0 9 = some (41, 0) := h.2.2.2.2.2.2.2.2.2.1
theorem ys_10 {M : jm_M} (h : jy_S M) : jm_F M 31 0 10 = some (42, 0) := h.2.2.2.2.2.2.2.2.2.2.1
theorem ys_11 {M : jm_M} (h : jy_S M) : jm_F M 31 0 13 = some (43, 0) := h.2.2.2.2.2.2.2.2.2.2.2.1
theorem ys_12 {M : jm_M} (h : jy_S M) : jm_F M 31 0 14 = some (44, 0) := h.2.2.2.2.2.2.2.2.2.2.2.2.1
theorem ys_13 {M : jm_M} (h : jy_S M) : jm_F M 31 0 15 = some (45, 0) := h.2.2.2.2.2.2.2.2.2.2.2.2.2.1
theorem ys_14 {M : jm_M} (h : jy_S M) : jm_F M 31 0 16 = some (46, 0) := h.2.2.2.2.2.2.2.2.2.2.2.2.2.2.1
theorem ys_15 {M : jm_M} (h : jy_S M) : jm_F M 31 0 17 = some (47, 0) := h.2.2.2.2.2.2.2.2.2.2.2.2.2.2.2.1
theorem ys_16 {M : jm_M} (h : jy_S M) : jm_F M 31 0 18 = some (48, 0) := h.2.2.2.2.2.2.2.2.2.2.2.2.2.2.2.2.1
theorem ys_17 {M : jm_M} (h : jy_S M) : jm_F M 31 0 19 = some (49, 0) := h.2.2.2.2.2.2.2.2.2.2.2.2.2.2.2.2.2.1
theorem ys_18 {M : jm_M} (h : jy_S M) : jm_F M 31 0 20 = some (50, 0) := h.2.2.2.2.2.2.2.2.2.2.2.2.2.2.2.2.2.2.1
theorem ys_19 {M : jm_M} (h : jy_S M) : jm_F M 31 0 21 = some (51, 0) := h.2.2.2.2.2.2.2.2.2.2.2.2.2.2.2.2.2.2.2.1
theorem ys_20 {M : jm_M} (h : jy_S M) : jm_F M 31 0 22 = some (52, 0) := h.2.2.2.2.2.2.2.2.2.2.2.2.2.2.2.2.2.2.2.2.1
theorem ys_21 {M : jm_M} (h : jy_S M) : jm_F M 31 0 23 = some (53, 0) := h.2.2.2.2.2.2.2.2.2.2.2.2.2.2.2.2.2.2.2.2.2.1
theorem ys_22 {M : jm_M} (h : jy_S M) : jm_F M 31 0 24 = some (54, 0) := h.2.2.2.2.2.2.2.2.2.2.2.2.2.2.2.2.2.2.2.2.2.2.1
theorem ys_23 {M : jm_M} (h : jy_S M) : jm_F M 31 0 25 = some (55, 0) := h.2.2.2.2.2.2.2.2.2.2.2.2.2.2.2.2.2.2.2.2.2.2.2.1
theorem ys_24 {M : jm_M} (h : jy_S M) : jm_F M 31 0 26 = some (56, 0) := h.2.2.2.2.2.2.2.2.2.2.2.2.2.2.2.2.2.2.2.2.2.2.2.2.1
theorem ys_25 {M : jm_M} (h : jy_S M) : jm_F M 31 0 27 = some (57, 0) := h.2.2.2.2.2.2.2.2.2.2.2.2.2.2.2.2.2.2.2.2.2.2.2.2.2.1
theorem ys_26 {M : jm_M} (h : jy_S M) : jm_F M 31 0 28 = some (58, 0) := h.2.2.2.2.2.2.2.2.2.2.2.2.2.2.2.2.2.2.2.2.2.2.2.2.2.2.1
theorem ys_27 {M : jm_M} (h : jy_S M) : jm_F M 31 0 29 = some (59, 0) := h.2.2.2.2.2.2.2.2.2.2.2.2.2.2.2.2.2.2.2.2.2.2.2.2.2.2.2.1
theorem ys_28 {M : jm_M} (h : jy_S M) : jm_F M 31 0 30 = some (60, 0) := h.2.2.2.2.2.2.2.2.2.2.2.2.2.2.2.2.2.2.2.2.2.2.2.2.2.2.2.2.1
theorem ys_29 {M : jm_M} (h : jy_S M) : jm_F M 31 0 31 = some (61, 0) := h.2.2.2.2.2.2.2.2.2.2.2.2.2.2.2.2.2.2.2.2.2.2.2.2.2.2.2.2.2.1
theorem ys_30 {M : jm_M} (h : jy_S M) : jm_F M 31 0 32 = some (62, 0) := h.2.2.2.2.2.2.2.2.2.2.2.2.2.2.2.2.2.2.2.2.2.2.2.2.2.2.2.2.2.2.1
theorem ys_31 {M : jm_M} (h : jy_S M) : jm_F M 31 0 35 = some (63, 0) := h.2.2.2.2.2.2.2.2.2.2.2.2.2.2.2.2.2.2.2.2.2.2.2.2.2.2.2.2.2.2.2.1
theorem ys_32 {M : jm_M} (h : jy_S M) : jm_F M 31 0 36 = some (64, 0) := h.2.2.2.2.2.2.2.2.2.2.2.2.2.2.2.2.2.2.2.2.2.2.2.2.2.2.2.2.2.2.2.2.1
theorem ys_33 {M : jm_M} (h : jy_S M) : jm_F M 31 0 37 = some (65, 0) := h.2.2.2.2.2.2.2.2.2.2.2.2.2.2.2.2.2.2.2.2.2.2.2.2.2.2.2.2.2.2.2.2.2.1
theorem ys_34 {M : jm_M} (h : jy_S M) : jm_F M 31 0 38 = some (66, 0) := h.2.2.2.2.2.2.2.2.2.2.2.2.2.2.2.2.2.2.2.2.2.2.2.2.2.2.2.2.2.2.2.2.2.2.1
theorem ys_35 {M : jm_M} (h : jy_S M) : jm_F M 31 0 39 = some (67, 0) := h.2.2.2.2.2.2.2.2.2.2.2.2.2.2.2.2.2.2.2.2.2.2.2.2.2.2.2.2.2.2.2.2.2.2.2.1
theorem ys_36 {M : jm_M} (h : jy_S M) : jm_F M 31 0 40 = some (68, 0) := h.2.2.2.2.2.2.2.2.2.2.2.2.2.2.2.2.2.2.2.2.2.2.2.2.2.2.2.2.2.2.2.2.2.2.2.2.1
theorem ys_37 {M : jm_M} (h : jy_S M) : jm_F M 31 0 41 = some (69, 0) := h.2.2.2.2.2.2.2.2.2.2.2.2.2.2.2.2.2.2.2.2.2.2.2.2.2.2.2.2.2.2.2.2.2.2.2.2.2.1
theorem ys_38 {M : jm_M} (h : jy_S M) : jm_F M 31 0 42 = some (70, 0) := h.2.2.2.2.2.2.2.2.2.2.2.2.2.2.2.2.2.2.2.2.2.2.2.2.2.2.2.2.2.2.2.2.2.2.2.2.2.2.1
theorem ys_39 {M : jm_M} (h : jy_S M) : jm_n M 32 0 = 4 := h.2.2.2.2.2.2.2.2.2.2.2.2.2.2.2.2.2.2.2.2.2.2.2.2.2.2.2.2.2.2.2.2.2.2.2.2.2.2.2.1
theorem ys_40 {M : jm_M} (h : jy_S M) : jm_n M 33 0 = 64 := h.2.2.2.2.2.2.2.2.2.2.2.2.2.2.2.2.2.2.2.2.2.2.2.2.2.2.2.2.2.2.2.2.2.2.2.2.2.2.2.2.1
theorem ys_41 {M : jm_M} (h : jy_S M) : jm_n M 34 0 = 64 := h.2.2.2.2.2.2.2.2.2.2.2.2.2.2.2.2.2.2.2.2.2.2.2.2.2.2.2.2.2.2.2.2.2.2.2.2.2.2.2.2.2.1
theorem ys_42 {M : jm_M} (h : jy_S M) : jm_n M 35 0 = 64 := h.2.2.2.2.2.2.2.2.2.2.2.2.2.2.2.2.2.2.2.2.2.2.2.2.2.2.2.2.2.2.2.2.2.2.2.2.2.2.2.2.2.2.1
theorem ys_43 {M : jm_M} (h : jy_S M) : jm_n M 36 0 = 64 := h.2.2.2.2.2.2.2.2.2.2.2.2.2.2.2.2.2.2.2.2.2.2.2.2.2.2.2.2.2.2.2.2.2.2.2.2.2.2.2.2.2.2.2.1
theorem ys_44 {M : jm_M} (h : jy_S M) : jm_n M 37 0 = 32 := h.2.2.2.2.2.2.2.2.2.2.2.2.2.2.2.2.2.2.2.2.2.2.2.2.2.2.2.2.2.2.2.2.2.2.2.2.2.2.2.2.2.2.2.2.1
theorem ys_45 {M : jm_M} (h : jy_S M) : jm_n M 38 0 = 32 := h.2.2.2.2.2.2.2.2.2.2.2.2.2.2.2.2.2.2.2.2.2.2.2.2.2.2.2.2.2.2.2.2.2.2.2.2.2.2.2.2.2.2.2.2.2.1
theorem ys_46 {M : jm_M} (h : jy_S M) : jm_n M 39 0 = 32 := h.2.2.2.2.2.2.2.2.2.2.2.2.2.2.2.2.2.2.2.2.2.2.2.2.2.2.2.2.2.2.2.2.2.2.2.2.2.2.2.2.2.2.2.2.2.2.1
theorem ys_47 {M : jm_M} (h : jy_S M) : jm_n M 40 0 = 32 := h.2.2.2.2.2.2.2.2.2.2.2.2.2.2.2.2.2.2.2.2.2.2.2.2.2.2.2.2.2.2.2.2.2.2.2.2.2.2.2.2.2.2.2.2.2.2.2.1
theorem ys_48 {M : jm_M} (h : jy_S M) : jm_n M 41 0 = 32 := h.2.2.2.2.2.2.2.2.2.2.2.2.2.2.2.2.2.2.2.2.2.2.2.2.2.2.2.2.2.2.2.2.2.2.2.2.2.2.2.2.2.2.2.2.2.2.2.2.1
theorem ys_49 {M : jm_M} (h : jy_S M) : jm_n M 42 0 = 32 := h.2.2.2.2.2.2.2.2.2.2.2.2.2.2.2.2.2.2.2.2.2.2.2.2.2.2.2.2.2.2.2.2.2.2.2.2.2.2.2.2.2.2.2.2.2.2.2.2.2.1
theorem ys_50 {M : jm_M} (h : jy_S M) : jm_n M 43 0 = 40 := h.2.2.2.2.2.2.2.2.2.2.2.2.2.2.2.2.2.2.2.2.2.2.2.2.2.2.2.2.2.2.2.2.2.2.2.2.2.2.2.2.2.2.2.2.2.2.2.2.2.2.1
theorem ys_51 {M : jm_M} (h : jy_S M) : jm_n M 44 0 = 40 := h.2.2.2.2.2.2.2.2.2.2.2.2.2.2.2.2.2.2.2.2.2.2.2.2.2.2.2.2.2.2.2.2.2.2.2.2.2.2.2.2.2.2.2.2.2.2.2.2.2.2.2.1
theorem ys_52 {M : jm_M} (h : jy_S M) : jm_n M 45 0 = 4 := h.2.2.2.2.2.2.2.2.2.2.2.2.2.2.2.2.2.2.2.2.2.2.2.2.2.2.2.2.2.2.2.2.2.2.2.2.2.2.2.2.2.2.2.2.2.2.2.2.2.2.2.2.1
theorem ys_53 {M : jm_M} (h : jy_S M) : jm_n M 46 0 = 4 := h.2.2.2.2.2.2.2.2.2.2.2.2.2.2.2.2.2.2.2.2.2.2.2.2.2.2.2.2.2.2.2.2.2.2.2.2.2.2.2.2.2.2.2.2.2.2.2.2.2.2.2.2.2.1
theorem ys_54 {M : jm_M} (h : jy_S M) : jm_n M 47 0 = 4 := h.2.2.2.2.2.2.2.2.2.2.2.2.2.2.2.2.2.2.2.2.2.2.2.2.2.2.2.2.2.2.2.2.2.2.2.2.2.2.2.2.2.2.2.2.2.2.2.2.2.2.2.2.2.2.1
theorem ys_55 {M : jm_M} (h : jy_S M) : jm_n M 48 0 = 4 := h.2.2.2.2.2.2.2.2.2.2.2.2.2.2.2.2.2.2.2.2.2.2.2.2.2.2.2.2.2.2.2.2.2.2.2.2.2.2.2.2.2.2.2.2.2.2.2.2.2.2.2.2.2.2.2.1
theorem ys_56 {M : jm_M} (h : jy_S M) : jm_n M 49 0 = 4 := h.2.2.2.2.2.2.2.2.2.2.2.2.2.2.2.2.2.2.2.2.2.2.2.2.2.2.2.2.2.2.2.2.2.2.2.2.2.2.2.2.2.2.2.2.2.2.2.2.2.2.2.2.2.2.2.2.1
theorem ys_57 {M : jm_M} (h : jy_S M) : jm_n M 50 0 = 32 := h.2.2.2.2.2.2.2.2.2.2.2.2.2.2.2.2.2.2.2.2.2.2.2.2.2.2.2.2.2.2.2.2.2.2.2.2.2.2.2.2.2.2.2.2.2.2.2.2.2.2.2.2.2.2.2.2.2.1
theorem ys_58 {M : jm_M} (h : jy_S M) : jm_n M 51 0 = 128 := h.2.2.2.2.2.2.2.2.2.2.2.2.2.2.2.2.2.2.2.2.2.2.2.2.2.2.2.2.2.2.2.2.2.2.2.2.2.2.2.2.2.2.2.2.2.2.2.2.2.2.2.2.2.2.2.2.2.2.1
theorem ys_59 {M : jm_M} (h : jy_S M) : jm_n M 52 0 = 128 := h.2.2.2.2.2.2.2.2.2.2.2.2.2.2.2.2.2.2.2.2.2.2.2.2.2.2.2.2.2.2.2.2.2.2.2.2.2.2.2.2.2.2.2.2.2.2.2.2.2.2.2.2.2.2.2.2.2.2.2.1
theorem ys_60 {M : jm_M} (h : jy_S M) : jm_n M 53 0 = 128 := h.2.2.2.2.2.2.2.2.2.2.2.2.2.2.2.2.2.2.2.2.2.2.2.2.2.2.2.2.2.2.2.2.2.2.2.2.2.2.2.2.2.2.2.2.2.2.2.2.2.2.2.2.2.2.2.2.2.2.2.2.1
theorem ys_61 {M : jm_M} (h : jy_S M) : jm_n M 54 0 = 128 := h.2.2.2.2.2.2.2.2.2.2.2.2.2.2.2.2.2.2.2.2.2.2.2.2.2.2.2.2.2.2.2.2.2.2.2.2.2.2.2.2.2.2.2.2.2.2.2.2.2.2.2.2.2.2.2.2.2.2.2.2.2.1
theorem ys_62 {M : jm_M} (h : jy_S M) : jm_n M 55 0 = 128 := h.2.2.2.2.2.2.2.2.2.2.2.2.2.2.2.2.2.2.2.2.2.2.2.2.2.2.2.2.2.2.2.2.2.2.2.2.2.2.2.2.2.2.2.2.2.2.2.2.2.2.2.2.2.2.2.2.2.2.2.2.2.2.1
theorem ys_63 {M : jm_M} (h : jy_S M) : jm_n M 56 0 = 128 := h.2.2.2.2.2.2.2.2.2.2.2.2.2.2.2.2.2.2.2.2.2.2.2.2.2.2.2.2.2.2.2.2.2.2.2.2.2.2.2.2.2.2.2.2.2.2.2.2.2.2.2.2.2.2.2.2.2.2.2.2.2.2.2.1
theorem ys_64 {M : jm_M} (h : jy_S M) : jm_n M 57 0 = 160 := h.2.2.2.2.2.2.2.2.2.2.2.2.2.2.2.2.2.2.2.2.2.2.2.2.2.2.2.2.2.2.2.2.2.2.2.2.2.2.2.2.2.2.2.2.2.2.2.2.2.2.2.2.2.2.2.2.2.2.2.2.2.2.2.2.1
theorem ys_65 {M : jm_M} (h : jy_S M) : jm_n M 58 0 = 4 := h.2.2.2.2.2.2.2.2.2.2.2.2.2.2.2.2.2.2.2.2.2.2.2.2.2.2.2.2.2.2.2.2.2.2.2.2.2.2.2.2.2.2.2.2.2.2.2.2.2.2.2.2.2.2.2.2.2.2.2.2.2.2.2.2.2.1
theorem ys_66 {M : jm_M} (h : jy_S M) : jm_n M 59 0 = 4 := h.2.2.2.2.2.2.2.2.2.2.2.2.2.2.2.2.2.2.2.2.2.2.2.2.2.2.2.2.2.2.2.2.2.2.2.2.2.2.2.2.2.2.2.2.2.2.2.2.2.2.2.2.2.2.2.2.2.2.2.2.2.2.2.2.2.2.1
theorem ys_67 {M : jm_M} (h : jy_S M) : jm_n M 60 0 = 4 := h.2.2.2.2.2.2.2.2.2.2.2.2.2.2.2.2.2.2.2.2.2.2.2.2.2.2.2.2.2.2.2.2.2.2.2.2.2.2.2.2.2.2.2.2.2.2.2.2.2.2.2.2.2.2.2.2.2.2.2.2.2.2.2.2.2.2.2.1
theorem ys_68 {M : jm_M} (h : jy_S M) : jm_n M 61 0 = 4 := h.2.2.2.2.2.2.2.2.2.2.2.2.2.2.2.2.2.2.2.2.2.2.2.2.2.2.2.2.2.2.2.2.2.2.2.2.2.2.2.2.2.2.2.2.2.2.2.2.2.2.2.2.2.2.2.2.2.2.2.2.2.2.2.2.2.2.2.2.1
theorem ys_69 {M : jm_M} (h : jy_S M) : jm_n M 62 0 = 4 := h.2.2.2.2.2.2.2.2.2.2.2.2.2.2.2.2.2.2.2.2.2.2.2.2.2.2.2.2.2.2.2.2.2.2.2.2.2.2.2.2.2.2.2.2.2.2.2.2.2.2.2.2.2.2.2.2.2.2.2.2.2.2.2.2.2.2.2.2.2.1
theorem ys_70 {M : jm_M} (h : jy_S M) : jm_n M 63 0 = 101 := h.2.2.2.2.2.2.2.2.2.2.2.2.2.2.2.2.2.2.2.2.2.2.2.2.2.2.2.2.2.2.2.2.2.2.2.2.2.2.2.2.2.2.2.2.2.2.2.2.2.2.2.2.2.2.2.2.2.2.2.2.2.2.2.2.2.2.2.2.2.2.1
theorem ys_71 {M : jm_M} (h : jy_S M) : jm_n M 64 0 = 101 := h.2.2.2.2.2.2.2.2.2.2.2.2.2.2.2.2.2.2.2.2.2.2.2.2.2.2.2.2.2.2.2.2.2.2.2.2.2.2.2.2.2.2.2.2.2.2.2.2.2.2.2.2.2.2.2.2.2.2.2.2.2.2.2.2.2.2.2.2.2.2.2.1
theorem ys_72 {M : jm_M} (h : jy_S M) : jm_n M 65 0 = 101 := h.2.2.2.2.2.2.2.2.2.2.2.2.2.2.2.2.2.2.2.2.2.2.2.2.2.2.2.2.2.2.2.2.2.2.2.2.2.2.2.2.2.2.2.2.2.2.2.2.2.2.2.2.2.2.2.2.2.2.2.2.2.2.2.2.2.2.2.2.2.2.2.2.1
theorem ys_73 {M : jm_M} (h : jy_S M) : jm_n M 66 0 = 101 := h.2.2.2.2.2.2.2.2.2.2.2.2.2.2.2.2.2.2.2.2.2.2.2.2.2.2.2.2.2.2.2.2.2.2.2.2.2.2.2.2.2.2.2.2.2.2.2.2.2.2.2.2.2.2.2.2.2.2.2.2.2.2.2.2.2.2.2.2.2.2.2.2.2.1
theorem ys_74 {M : jm_M} (h : jy_S M) : jm_n M 67 0 = 101 := h.2.2.2.2.2.2.2.2.2.2.2.2.2.2.2.2.2.2.2.2.2.2.2.2.2.2.2.2.2.2.2.2.2.2.2.2.2.2.2.2.2.2.2.2.2.2.2.2.2.2.2.2.2.2.2.2.2.2.2.2.2.2.2.2.2.2.2.2.2.2.2.2.2.2.1
theorem ys_75 {M : jm_M} (h : jy_S M) : jm_n M 68 0 = 3232 := h.2.2.2.2.2.2.2.2.2.2.2.2.2.2.2.2.2.2.2.2.2.2.2.2.2.2.2.2.2.2.2.2.2.2.2.2.2.2.2.2.2.2.2.2.2.2.2.2.2.2.2.2.2.2.2.2.2.2.2.2.2.2.2.2.2.2.2.2.2.2.2.2.2.2.2.1
theorem ys_76 {M : jm_M} (h : jy_S M) : jm_n M 69 0 = 3232 := h.2.2.2.2.2.2.2.2.2.2.2.2.2.2.2.2.2.2.2.2.2.2.2.2.2.2.2.2.2.2.2.2.2.2.2.2.2.2.2.2.2.2.2.2.2.2.2.2.2.2.2.2.2.2.2.2.2.2.2.2.2.2.2.2.2.2.2.2.2.2.2.2.2.2.2.2.1
theorem ys_77 {M : jm_M} (h : jy_S M) : jm_n M 70 0 = 3232 := h.2.2.2.2.2.2.2.2.2.2.2.2.2.2.2.2.2.2.2.2.2.2.2.2.2.2.2.2.2.2.2.2.2.2.2.2.2.2.2.2.2.2.2.2.2.2.2.2.2.2.2.2.2.2.2.2.2.2.2.2.2.2.2.2.2.2.2.2.2.2.2.2.2.2.2.2.2
theorem jx_S_I {M : jm_M} {k i j : Nat} {x : Int32} (h : jx_S M) : jx_S (jm_setI M k i j x) := h
theorem jy_S_I {M : jm_M} {k i j : Nat} {x : Int32} (h : jy_S M) : jy_S (jm_setI M k i j x) := h
theorem xK_t (d : Nat) (M : jm_M) {k : Nat} (h : k < 32) : jm_D d 37 0 [some (.inl (nI k))] [] M = some (some (.inl (nI 1)), M) := by
  simp only [e37_0, e37_1, e37_2, e37_3, e37_4, e37_5, e37_6, e37_7, e37_8_0, e37_8_1, jb_lt (show k < 2 ^ 31 by omega) (show 0 < 2 ^ 31 by decide), Nat.not_lt_zero, if_false, jb_le (show 32 < 2 ^ 31 by decide) (show k < 2 ^ 31 by omega), if_neg (show ¬ 32 ≤ k by omega)]
theorem xK_f (d : Nat) (M : jm_M) {x : Int32} (h : x < 0 ∨ nI 32 ≤ x) : jm_D d 37 0 [some (.inl x)] [] M = some (some (.inl (nI 0)), M) := by
  by_cases h0 : x < nI 0
  · simp only [e37_0, e37_1, e37_2, e37_3, e37_4, e37_5, e37_6, e37_7, e37_8_0, e37_8_1, if_pos h0]
  · have h1 : nI 32 ≤ x := h.resolve_left h0
    simp only [e37_0, e37_1, e37_2, e37_3, e37_4, e37_5, e37_6, e37_7, e37_8_0, e37_8_1, if_neg h0, if_pos h1]
theorem xW_t (d : Nat) (M : jm_M) {k : Nat} (h : k < 4) : jm_D d 18 0 [some (.inl (nI k))] [] M = some (some (.inl (nI 1)), M) := by
  simp only [e18_0, e18_1, e18_2, e18_3, e18_4, e18_5, e18_6, e18_7, e18_8_0, e18_8_1, jb_lt (show k < 2 ^ 31 by omega) (show 0 < 2 ^ 31 by decide), Nat.not_lt_zero, if_false, jb_le (show 4 < 2 ^ 31 by decide) (show k < 2 ^ 31 by omega), if_neg (show ¬ 4 ≤ k by omega)]
theorem xW_f (d : Nat) (M : jm_M) {x : Int32} (h : x < 0 ∨ nI 4 ≤ x) : jm_D d 18 0 [some (.inl x)] [] M = some (some (.inl (nI 0)), M) := by
  by_cases h0 : x < nI 0
  · simp only [e18_0, e18_1, e18_2, e18_3, e18_4, e18_5, e18_6, e18_7, e18_8_0, e18_8_1, if_pos h0]
  · have h1 : nI 4 ≤ x := h.resolve_left h0
    simp only [e18_0, e18_1, e18_2, e18_3, e18_4, e18_5, e18_6, e18_7, e18_8_0, e18_8_1, if_neg h0, if_pos h1]
theorem xP_t (d : Nat) (M : jm_M) {k : Nat} (h : k < 4) : jm_D d 11 0 [some (.inl (nI k))] [] M = some (some (.inl (nI 1)), M) := by
  simp only [e11_0, e11_1, e11_2, e11_3, e11_4, e11_5, e11_6, e11_7, e11_8_0, e11_8_1, jb_lt (show k < 2 ^ 31 by omega) (show 0 < 2 ^ 31 by decide), Nat.not_lt_zero, if_false, jb_le (show 4 < 2 ^ 31 by decide) (show k < 2 ^ 31 by omega), if_neg (show ¬ 4 ≤ k by omega)]
theorem xP_f (d : Nat) (M : jm_M) {x : Int32} (h : x < 0 ∨ nI 4 ≤ x) : jm_D d 11 0 [some (.inl x)] [] M = some (some (.inl (nI 0)), M) := by
  by_cases h0 : x < nI 0
  · simp only [e11_0, e11_1, e11_2, e11_3, e11_4, e11_5, e11_6, e11_7, e11_8_0, e11_8_1, if_pos h0]
  · have h1 : nI 4 ≤ x := h.resolve_left h0
    simp only [e11_0, e11_1, e11_2, e11_3, e11_4, e11_5, e11_6, e11_7, e11_8_0, e11_8_1, if_neg h0, if_pos h1]
theorem yK_t (d : Nat) (M : jm_M) {k : Nat} (h : k < 32) : jm_D d 112 0 [some (.inl (nI k))] [] M = some (some (.inl (nI 1)), M) := by
  simp only [e112_0, e112_1, e112_2, e112_3, e112_4, e112_5, e112_6, e112_7, e112_8_0, e112_8_1, jb_lt (show k < 2 ^ 31 by omega) (show 0 < 2 ^ 31 by decide), Nat.not_lt_zero, if_false, jb_lt (show 31 < 2 ^ 31 by decide) (show k < 2 ^ 31 by omega), if_neg (show ¬ 31 < k by omega)]
theorem yK_f (d : Nat) (M : jm_M) {x : Int32} (h : x < 0 ∨ nI 32 ≤ x) : jm_D d 112 0 [some (.inl x)] [] M = some (some (.inl (nI 0)), M) := by
  by_cases h0 : x < nI 0
  · simp only [e112_0, e112_1, e112_2, e112_3, e112_4, e112_5, e112_6, e112_7, e112_8_0, e112_8_1, if_pos h0]
  · have h1 : nI 32 ≤ x := h.resolve_left h0
    have h2 : nI 31 < x := jb_pred h1
    simp only [e112_0, e112_1, e112_2, e112_3, e112_4, e112_5, e112_6, e112_7, e112_8_0, e112_8_1, if_neg h0, if_pos h2]
theorem yW_t (d : Nat) (M : jm_M) {k : Nat} (h : k < 4) : jm_D d 105 0 [some (.inl (nI k))] [] M = some (some (.inl (nI 1)), M) := by
  simp only [e105_0, e105_1, e105_2, e105_3, e105_4, e105_5, e105_6, e105_7, e105_8_0, e105_8_1, jb_lt (show k < 2 ^ 31 by omega) (show 0 < 2 ^ 31 by decide), Nat.not_lt_zero, if_false, jb_lt (show 3 < 2 ^ 31 by decide) (show k < 2 ^ 31 by omega), if_neg (show ¬ 3 < k by omega)]
theorem yW_f (d : Nat) (M : jm_M) {x : Int32} (h : x < 0 ∨ nI 4 ≤ x) : jm_D d 105 0 [some (.inl x)] [] M = some (some (.inl (nI 0)), M) := by
  by_cases h0 : x < nI 0
  · simp only [e105_0, e105_1, e105_2, e105_3, e105_4, e105_5, e105_6, e105_7, e105_8_0, e105_8_1, if_pos h0]
  · have h1 : nI 4 ≤ x := h.resolve_left h0
    have h2 : nI 3 < x := jb_pred h1
    simp only [e105_0, e105_1, e105_2, e105_3, e105_4, e105_5, e105_6, e105_7, e105_8_0, e105_8_1, if_neg h0, if_pos h2]
theorem yP_t (d : Nat) (M : jm_M) {k : Nat} (h : k < 4) : jm_D d 100 0 [some (.inl (nI k))] [] M = some (some (.inl (nI 1)), M) := by
  simp only [e100_0, e100_1, e100_2, e100_3, e100_4, e100_5, e100_6, e100_7, e100_8_0, e100_8_1, jb_lt (show k < 2 ^ 31 by omega) (show 0 < 2 ^ 31 by decide), Nat.not_lt_zero, if_false, jb_lt (show 3 < 2 ^ 31 by decide) (show k < 2 ^ 31 by omega), if_neg (show ¬ 3 < k by omega)]
theorem yP_f (d : Nat) (M : jm_M) {x : Int32} (h : x < 0 ∨ nI 4 ≤ x) : jm_D d 100 0 [some (.inl x)] [] M = some (some (.inl (nI 0)), M) := by
  by_cases h0 : x < nI 0
  · simp only [e100_0, e100_1, e100_2, e100_3, e100_4, e100_5, e100_6, e100_7, e100_8_0, e100_8_1, if_pos h0]
  · have h1 : nI 4 ≤ x := h.resolve_left h0
    have h2 : nI 3 < x := jb_pred h1
    simp only [e100_0, e100_1, e100_2, e100_3, e100_4, e100_5, e100_6, e100_7, e100_8_0, e100_8_1, if_neg h0, if_pos h2]
theorem yR_t (d : Nat) (M : jm_M) {k : Nat} (h : k < 8) : jm_D d 102 0 [some (.inl (nI k))] [] M = some (some (.inl (nI 1)), M) := by
  simp only [e102_0, e102_1, e102_2, e102_3, e102_4, e102_5, e102_6, e102_7, e102_8_0, e102_8_1, jb_lt (show k < 2 ^ 31 by omega) (show 0 < 2 ^ 31 by decide), Nat.not_lt_zero, if_false, jb_lt (show 7 < 2 ^ 31 by decide) (show k < 2 ^ 31 by omega), if_neg (show ¬ 7 < k by omega)]
theorem yR_f (d : Nat) (M : jm_M) {x : Int32} (h : x < 0 ∨ nI 8 ≤ x) : jm_D d 102 0 [some (.inl x)] [] M = some (some (.inl (nI 0)), M) := by
  by_cases h0 : x < nI 0
  · simp only [e102_0, e102_1, e102_2, e102_3, e102_4, e102_5, e102_6, e102_7, e102_8_0, e102_8_1, if_pos h0]
  · have h1 : nI 8 ≤ x := h.resolve_left h0
    have h2 : nI 7 < x := jb_pred h1
    simp only [e102_0, e102_1, e102_2, e102_3, e102_4, e102_5, e102_6, e102_7, e102_8_0, e102_8_1, if_neg h0, if_pos h2]
