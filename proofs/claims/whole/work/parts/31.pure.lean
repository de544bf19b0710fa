/-! Rows for the limit: small numbers, calls, places; the memory read and written. -/
theorem jb_some (r : Option jm_V) (M : jm_M) (f : Option jm_V → jm_M → jm_Z) : jm_bind (some (r, M)) f = f r M := rfl
theorem jb_tl (v : jm_V) (S : List jm_V) : (some v).toList ++ S = v :: S := rfl
theorem jb_tn (S : List jm_V) : (none : Option jm_V).toList ++ S = S := rfl
theorem jb_in {m n : Nat} (h : m < n) (hn : n ≤ 2 ^ 31) : jm_in (nI m) n = true := by
  unfold jm_in
  rw [nI_clamp (by omega)]
  rw [Bool.and_eq_true, Bool.not_eq_true', decide_eq_false_iff_not]
  exact ⟨nI_pos (by omega), Nat.ble_eq_true_of_le h⟩
theorem jb_ix {m n : Nat} (h : m < n) (hn : n ≤ 2 ^ 31) (f : Nat → jm_Z) : jm_ix (nI m) n f = f m := by
  unfold jm_ix
  rw [jb_in h hn, nI_clamp (by omega)]
  rfl
theorem jb_lt {a b : Nat} (ha : a < 2 ^ 31) (hb : b < 2 ^ 31) : (nI a < nI b) = (a < b) := propext (nI_ltI ha hb)
theorem jb_le {a b : Nat} (ha : a < 2 ^ 31) (hb : b < 2 ^ 31) : (nI a ≤ nI b) = (a ≤ b) := propext (nI_leI ha hb)
theorem jb_eq {a b : Nat} (ha : a < 2 ^ 31) (hb : b < 2 ^ 31) : (nI a = nI b) = (a = b) := propext (nI_eq ha hb)
theorem jb_0 : (0 : Int32) = nI 0 := rfl
theorem jb_II (M : jm_M) (k i j : Nat) (x : Int32) (k' i' j' : Nat) : jm_I (jm_setI M k i j x) k' i' j' = if k' = k ∧ i' = i ∧ j' = j then x else jm_I M k' i' j' := rfl
theorem jb_FI (M : jm_M) (k i j : Nat) (x : Int32) : jm_F (jm_setI M k i j x) = jm_F M := rfl
theorem jb_nI (M : jm_M) (k i j : Nat) (x : Int32) : jm_n (jm_setI M k i j x) = jm_n M := rfl
theorem jb_cI (M : jm_M) (k i j : Nat) (x : Int32) : jm_c (jm_setI M k i j x) = jm_c M := rfl
theorem jb_IF (M : jm_M) (k i j : Nat) (x : jm_R) : jm_I (jm_setF M k i j x) = jm_I M := rfl
theorem jb_FF (M : jm_M) (k i j : Nat) (x : jm_R) (k' i' j' : Nat) : jm_F (jm_setF M k i j x) k' i' j' = if k' = k ∧ i' = i ∧ j' = j then x else jm_F M k' i' j' := rfl
theorem jb_nF (M : jm_M) (k i j : Nat) (x : jm_R) : jm_n (jm_setF M k i j x) = jm_n M := rfl
theorem jb_cF (M : jm_M) (k i j : Nat) (x : jm_R) : jm_c (jm_setF M k i j x) = jm_c M := rfl
theorem jb_Ik {k k' : Nat} (h : k' ≠ k) (M : jm_M) (i j : Nat) (x : Int32) : jm_I (jm_setI M k i j x) k' = jm_I M k' := by
  funext a b
  exact if_neg (fun e => h e.1)
theorem jb_Fk {k k' : Nat} (h : k' ≠ k) (M : jm_M) (i j : Nat) (x : jm_R) : jm_F (jm_setF M k i j x) k' = jm_F M k' := by
  funext a b
  exact if_neg (fun e => h e.1)
theorem jb_Ii {i i' : Nat} (h : i' ≠ i) (M : jm_M) (k j : Nat) (x : Int32) : jm_I (jm_setI M k i j x) k i' = jm_I M k i' := by
  funext b
  exact if_neg (fun e => h e.2.1)
/-- the least of the marks -/
def jx_min (m : Nat → Int32) : Int32 := if m 3 < (if m 2 < (if m 1 < m 0 then m 1 else m 0) then m 2 else (if m 1 < m 0 then m 1 else m 0)) then m 3 else (if m 2 < (if m 1 < m 0 then m 1 else m 0) then m 2 else (if m 1 < m 0 then m 1 else m 0))
theorem jx_dur {d : Nat} {M : jm_M} (h1 : jm_F M 0 0 2 = some (3, 0)) (h2 : jm_n M 3 0 = 4) (h3 : ∀ w, w < 4 → jm_F M 3 0 w = some (15, w)) : jm_D (d + 1) 70 0 [some (.inr (some (0, 0))), none, none] [] M = some (some (.inl (jx_min (fun w => jm_I M 15 w 2))), M) := by
  have a0 := h3 0 (by decide)
  have a1 := h3 1 (by decide)
  have a2 := h3 2 (by decide)
  have a3 := h3 3 (by decide)
  simp only [e70_0, e70_1, e70_2, e70_3, e70_4, e70_5, e70_6, e70_7, e70_8, e70_9, e70_10, e70_11, e70_12, e70_13, e70_14, e70_15, e70_16, e70_17, e70_18, e70_19, e70_20, e70_21, e70_22, h1, h2, a0, a1, a2, a3, jb_ix (show 0 < 4 by decide) (by decide), jb_ix (show 1 < 4 by decide) (by decide), jb_ix (show 2 < 4 by decide) (by decide), jb_ix (show 3 < 4 by decide) (by decide), nI_add, Nat.reduceAdd, jb_le (show 4 < 2 ^ 31 by decide) (show 1 < 2 ^ 31 by decide), jb_le (show 4 < 2 ^ 31 by decide) (show 2 < 2 ^ 31 by decide), jb_le (show 4 < 2 ^ 31 by decide) (show 3 < 2 ^ 31 by decide), jb_le (show 4 < 2 ^ 31 by decide) (show 4 < 2 ^ 31 by decide), Nat.reduceLeDiff, if_false, if_true, jx_min]
