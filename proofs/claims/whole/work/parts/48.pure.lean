/-! Start: the relation afterwards, put together. -/
theorem jr_ow {w i : Nat} (h : i ≠ w) (M : jm_M) (k a b : Nat) (v : Nat → Int32) (g : Nat → Nat → Int32) (j : Nat) : jm_I (jm_setK M k (jk_row w a b v g)) k i j = g i j := (jk_I _ _ _ _ _).trans (jk_ow h)
theorem jr_out {w a b j : Nat} (h : ¬ (a ≤ j ∧ j < b)) (M : jm_M) (k : Nat) (v : Nat → Int32) (g : Nat → Nat → Int32) (i : Nat) : jm_I (jm_setK M k (jk_row w a b v g)) k i j = g i j := (jk_I _ _ _ _ _).trans (jk_out h)
theorem jr_in {a b j : Nat} (h1 : a ≤ j) (h2 : j < b) (M : jm_M) (k w : Nat) (v : Nat → Int32) (g : Nat → Nat → Int32) : jm_I (jm_setK M k (jk_row w a b v g)) k w j = v j := (jk_I _ _ _ _ _).trans (jk_in h1 h2)
def jx_st (M Q : jm_M) (w p : Nat) (x y : Int32) : jm_M := jx_b3 (jx_b2 (jx_b1 (jm_rep (jx_new M) Q 4) w (jm_c M 25) (nI p) x y) w) w
def jy_st (N : jm_M) (T w p : Nat) (x y : Int32) : jm_M := jy_b2 (jy_b1 N w T (nI p)) w x y
theorem sx_11 {M Q : jm_M} {w p : Nat} {x y : Int32} {v : Nat} (hv : v ≠ w) (j : Nat) : jm_I (jx_st M Q w p x y) 11 v j = jm_I M 11 v j := by
  refine (jb_Ij hv _ _ _ _ _ _).trans ((jb_Ij hv _ _ _ _ _ _).trans ((jb_Ij hv _ _ _ _ _ _).trans ((jb_Ij hv _ _ _ _ _ _).trans ((jb_Ij hv _ _ _ _ _ _).trans ?_))))
  exact jb_Ij hv M 11 4 (nI p) 11 j
theorem sx_11w (M Q : jm_M) (w p : Nat) (x y : Int32) : (∀ j, j = 0 ∨ j = 11 ∨ j = 12 → jm_I (jx_st M Q w p x y) 11 w j = jm_I M 11 w j) ∧ jm_I (jx_st M Q w p x y) 11 w 4 = nI p ∧ jm_I (jx_st M Q w p x y) 11 w 6 = nI 1 ∧ jm_I (jx_st M Q w p x y) 11 w 7 = nI 0 ∧ jm_I (jx_st M Q w p x y) 11 w 8 = nI 0 ∧ jm_I (jx_st M Q w p x y) 11 w 9 = nI 0 ∧ jm_I (jx_st M Q w p x y) 11 w 10 = nI 0 := by
  refine ⟨fun j hj => ?_, ?_, ?_, ?_, ?_, ?_, ?_⟩
  · refine (jb_Io (by omega) _ _ _ _ _ _).trans ((jb_Io (by omega) _ _ _ _ _ _).trans ((jb_Io (by omega) _ _ _ _ _ _).trans ((jb_Io (by omega) _ _ _ _ _ _).trans ((jb_Io (by omega) _ _ _ _ _ _).trans ?_))))
    exact jb_Io (show j ≠ 4 by omega) M 11 w (nI p) 11 w
  · refine (jb_Io (by omega) _ _ _ _ _ _).trans ((jb_Io (by omega) _ _ _ _ _ _).trans ((jb_Io (by omega) _ _ _ _ _ _).trans ((jb_Io (by omega) _ _ _ _ _ _).trans ((jb_Io (by omega) _ _ _ _ _ _).trans ?_))))
    exact jb_Is M 11 w 4 (nI p)
  · exact jb_Is _ _ _ _ _
  · exact (jb_Io (by omega) _ _ _ _ _ _).trans ((jb_Io (by omega) _ _ _ _ _ _).trans (jb_Is _ _ _ _ _))
  · exact (jb_Io (by omega) _ _ _ _ _ _).trans (jb_Is _ _ _ _ _)
  · exact (jb_Io (by omega) _ _ _ _ _ _).trans ((jb_Io (by omega) _ _ _ _ _ _).trans ((jb_Io (by omega) _ _ _ _ _ _).trans ((jb_Io (by omega) _ _ _ _ _ _).trans (jb_Is _ _ _ _ _))))
  · exact (jb_Io (by omega) _ _ _ _ _ _).trans ((jb_Io (by omega) _ _ _ _ _ _).trans ((jb_Io (by omega) _ _ _ _ _ _).trans (jb_Is _ _ _ _ _)))
theorem sx_12 {M Q : jm_M} {w p : Nat} {x y : Int32} {v : Nat} (hv : v ≠ w) (j : Nat) : jm_I (jx_st M Q w p x y) 12 v j = jm_I M 12 v j :=
  (jb_Ij hv (jm_setI (jm_setK M 12 (jk_row w 0 8 (fun _ => nI 0) (jm_I M 12))) 12 w 0 x) 12 1 y 12 j).trans ((jb_Ij hv (jm_setK M 12 (jk_row w 0 8 (fun _ => nI 0) (jm_I M 12))) 12 0 x 12 j).trans (jr_ow hv M 12 0 8 (fun _ => nI 0) (jm_I M 12) j))
theorem sx_12w {M Q : jm_M} {w p : Nat} {x y : Int32} {r : Nat} (hr : r < 8) : jm_I (jx_st M Q w p x y) 12 w r = jy_rv w x y (8 * w + r) := by
  unfold jy_rv
  by_cases h1 : r = 1
  · subst h1
    rw [if_neg (by omega), if_pos rfl]
    exact jb_Is (jm_setI (jm_setK M 12 (jk_row w 0 8 (fun _ => nI 0) (jm_I M 12))) 12 w 0 x) 12 w 1 y
  · refine (jb_Io h1 (jm_setI (jm_setK M 12 (jk_row w 0 8 (fun _ => nI 0) (jm_I M 12))) 12 w 0 x) 12 w y 12 w).trans ?_
    by_cases h0 : r = 0
    · subst h0
      rw [if_pos (show 8 * w + 0 = 8 * w from rfl)]
      exact jb_Is _ _ _ _ _
    · rw [if_neg (by omega), if_neg (by omega)]
      refine (jb_Io h0 (jm_setK M 12 (jk_row w 0 8 (fun _ => nI 0) (jm_I M 12))) 12 w x 12 w).trans ?_
      exact jr_in (Nat.zero_le _) hr M 12 w (fun _ => nI 0) (jm_I M 12)
/-- what of the reference's cells another worker keeps -/
theorem sy_A {M Q N : jm_M} {T w p : Nat} {x y : Int32} {v : Nat} (hv : v ≠ w) : jq_A M N (jx_st M Q w p x y) (jy_st N T w p x y) v := by
  refine ⟨fun j => sx_11 hv j, jb_Fj hv M 11 5 (some (25, jm_c M 25)) 11 5, fun k hk => ?_, fun r hr => ⟨sx_12 hv r, ?_⟩, fun m k h1 h2 hk => ?_, fun n hn => ?_, fun k hk => jr_ow hv M 13 0 32 (fun _ => -1) (jm_I M 13) k, fun k hk => jr_ow hv M 14 0 16 (fun _ => -1) (jm_I M 14) k⟩
  · rcases hk with rfl | rfl | rfl | rfl | rfl | rfl | rfl | rfl | rfl
    · exact jb_Io hv N 45 0 (nI 1) 45 0
    · exact jb_Io hv N 46 0 (nI (T + 1)) 46 0
    · exact jb_Io hv N 47 0 (nI p) 47 0
    · exact jb_Io hv N 48 0 (nI 0) 48 0
    · exact jb_Io hv N 49 0 (nI 0) 49 0
    · exact jb_Io hv N 58 0 (nI 0) 58 0
    · rfl
    · rfl
    · rfl
  · exact jr_out (show ¬ (8 * w ≤ 8 * v + r ∧ 8 * v + r < 8 * w + 8) by omega) N 50 (jy_rv w x y) (jm_I N 50) 0
  · have hr : ¬ (32 * w ≤ 32 * v + k ∧ 32 * v + k < 32 * w + 32) := by omega
    rcases (show m = 51 ∨ m = 52 ∨ m = 53 ∨ m = 54 ∨ m = 55 ∨ m = 56 by omega) with rfl | rfl | rfl | rfl | rfl | rfl
    · exact jr_out hr N 51 (fun _ => nI 0) (jm_I N 51) 0
    · rfl
    · rfl
    · exact jr_out hr N 54 (fun _ => nI 0) (jm_I N 54) 0
    · exact jr_out hr N 55 (fun _ => nI 0) (jm_I N 55) 0
    · exact jr_out hr N 56 (fun _ => -1) (jm_I N 56) 0
  · exact jr_out (show ¬ (40 * w ≤ 40 * v + n ∧ 40 * v + n < 40 * w + 40) by omega) N 57 (fun _ => -1) (jm_I N 57) 0
