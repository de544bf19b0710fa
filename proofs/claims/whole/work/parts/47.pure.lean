/-! Start: the relation afterwards. -/
theorem jk_out {w a b i j : Nat} {v : Nat → Int32} {g : Nat → Nat → Int32} (h : ¬ (a ≤ j ∧ j < b)) : jk_row w a b v g i j = g i j := if_neg (fun e => h e.2)
theorem jk_ow {w a b i j : Nat} {v : Nat → Int32} {g : Nat → Nat → Int32} (h : i ≠ w) : jk_row w a b v g i j = g i j := if_neg (fun e => h e.1)
theorem jk_in {w a b j : Nat} {v : Nat → Int32} {g : Nat → Nat → Int32} (h1 : a ≤ j) (h2 : j < b) : jk_row w a b v g w j = v j := if_pos ⟨rfl, h1, h2⟩
theorem nw_25 {M : jm_M} {u : Nat} (h : u ≠ jm_c M 25) (j : Nat) : jm_I (jx_new M) 25 u j = jm_I M 25 u j := by
  refine (jb_Ij h _ _ _ _ _ _).trans ((jb_Ij h _ _ _ _ _ _).trans ?_)
  exact jb_Im (M := M) (fun e => h e.2) 0 7 j
theorem nw_F {M : jm_M} {u : Nat} (h : u ≠ jm_c M 25) (j : Nat) : jm_F (jx_new M) 25 u j = jm_F M 25 u j := by
  refine (jb_Fj h (jm_mk (jm_setF (jm_mk (jm_mk M 25 0 7) 26 32 32) 25 (jm_c M 25) 1 (some (26, jm_c M 26))) 27 32 32) 25 2 (some (27, jm_c M 27)) 25 j).trans ?_
  refine (jb_Fj h (jm_mk (jm_mk M 25 0 7) 26 32 32) 25 1 (some (26, jm_c M 26)) 25 j).trans ?_
  exact jb_Fm (M := M) (fun e => h e.2) 0 7 j
theorem nw_26 {M : jm_M} {i : Nat} (h : i ≠ jm_c M 26) (j : Nat) : jm_I (jx_new M) 26 i j = jm_I M 26 i j ∧ jm_n (jx_new M) 26 i = jm_n M 26 i := ⟨jb_Im (M := jm_mk M 25 0 7) (fun e => h e.2) 32 32 j, jb_nm (M := jm_mk M 25 0 7) (fun e => h e.2) 32 32⟩
theorem nw_27 {M : jm_M} {i : Nat} (h : i ≠ jm_c M 27) (j : Nat) : jm_I (jx_new M) 27 i j = jm_I M 27 i j ∧ jm_n (jx_new M) 27 i = jm_n M 27 i := ⟨jb_Im (M := jm_setF (jm_mk (jm_mk M 25 0 7) 26 32 32) 25 (jm_c M 25) 1 (some (26, jm_c M 26))) (fun e => h e.2) 32 32 j, jb_nm (M := jm_setF (jm_mk (jm_mk M 25 0 7) 26 32 32) 25 (jm_c M 25) 1 (some (26, jm_c M 26))) (fun e => h e.2) 32 32⟩
theorem nw_26s (M : jm_M) (j : Nat) : jm_I (jx_new M) 26 (jm_c M 26) j = nI 0 ∧ jm_n (jx_new M) 26 (jm_c M 26) = 32 := ⟨jb_Ims (jm_mk M 25 0 7) 26 32 32 j, jb_nms (jm_mk M 25 0 7) 26 32 32⟩
theorem nw_27s (M : jm_M) (j : Nat) : jm_I (jx_new M) 27 (jm_c M 27) j = nI 0 ∧ jm_n (jx_new M) 27 (jm_c M 27) = 32 := ⟨jb_Ims (jm_setF (jm_mk (jm_mk M 25 0 7) 26 32 32) 25 (jm_c M 25) 1 (some (26, jm_c M 26))) 27 32 32 j, jb_nms (jm_setF (jm_mk (jm_mk M 25 0 7) 26 32 32) 25 (jm_c M 25) 1 (some (26, jm_c M 26))) 27 32 32⟩
theorem nw_c (M : jm_M) : jm_c (jx_new M) 25 = jm_c M 25 + 1 ∧ jm_c (jx_new M) 26 = jm_c M 26 + 1 ∧ jm_c (jx_new M) 27 = jm_c M 27 + 1 := ⟨jb_cms M 25 0 7, jb_cms (jm_mk M 25 0 7) 26 32 32, jb_cms (jm_setF (jm_mk (jm_mk M 25 0 7) 26 32 32) 25 (jm_c M 25) 1 (some (26, jm_c M 26))) 27 32 32⟩
theorem nw_T (M : jm_M) : jm_I (jx_new M) 25 (jm_c M 25) 0 = nI (jm_c M 25 + 1) ∧ jm_I (jx_new M) 25 (jm_c M 25) 4 = nI 1 ∧ jm_I (jx_new M) 25 (jm_c M 25) 3 = nI 0 ∧ jm_F (jx_new M) 25 (jm_c M 25) 1 = some (26, jm_c M 26) ∧ jm_F (jx_new M) 25 (jm_c M 25) 2 = some (27, jm_c M 27) := by
  refine ⟨jb_Is _ _ _ _ _, (jb_Io (by decide) _ _ _ _ _ _).trans (jb_Is _ _ _ _ _), (jb_Io (by decide) _ _ _ _ _ _).trans ((jb_Io (by decide) _ _ _ _ _ _).trans ?_), ?_, ?_⟩
  · exact jb_Ims M 25 0 7 3
  · refine (jb_Fo (by decide) (jm_mk (jm_setF (jm_mk (jm_mk M 25 0 7) 26 32 32) 25 (jm_c M 25) 1 (some (26, jm_c M 26))) 27 32 32) 25 (jm_c M 25) (some (27, jm_c M 27)) 25 (jm_c M 25)).trans ?_
    exact jb_Fs (jm_mk (jm_mk M 25 0 7) 26 32 32) 25 (jm_c M 25) 1 (some (26, jm_c M 26))
  · exact jb_Fs (jm_mk (jm_setF (jm_mk (jm_mk M 25 0 7) 26 32 32) 25 (jm_c M 25) 1 (some (26, jm_c M 26))) 27 32 32) 25 (jm_c M 25) 2 (some (27, jm_c M 27))
/-- another list stays when one is changed -/
theorem jx_Lo {M Q : jm_M} {kd i k' i' : Nat} {l l' : List Nat} (h : jx_A M Q kd i l) (h' : jx_L M k' i' l') (h1 : ∀ j, jm_I Q k' i' j = jm_I M k' i' j) (h2 : ∀ j, jm_F Q k' i' j = jm_F M k' i' j) (h3 : ∀ q, jm_F M k' i' 0 = some q → jm_F M kd i 0 = some q → q = (74, 0)) : jx_L Q k' i' l' := by
  obtain ⟨a1, a2, a3⟩ := h'
  obtain ⟨b1, b2, b3, b4, b5⟩ := h
  refine ⟨(h1 1).trans a1, a2, ?_⟩
  rcases a3 with ⟨c1, c2⟩ | ⟨a, b, c1, c2, c3, c4, c5, c6, c7⟩
  · exact Or.inl ⟨c1, (h2 0).trans c2⟩
  · obtain ⟨d1, d2⟩ := b3 a b c1 c2
    have hne : jm_F M kd i 0 ≠ some (a, b) := by
      intro e
      have := h3 (a, b) c3 e
      cases this
      omega
    refine Or.inr ⟨a, b, c1, Nat.lt_of_lt_of_le c2 (b4 a), (h2 0).trans c3, by rw [d1]; exact c4, by rw [d1]; exact c5, by rw [d1]; exact c6, fun j t hj => ?_⟩
    rw [d2 hne j]
    exact c7 j t hj
theorem jb_kl {M N M' N' : jm_M} {v : Nat} (hc : jm_c M' 25 = jm_c M 25 + 1) (h1 : ∀ t, t < jm_c M 25 → jy_kp N' v t = jy_kp N v t) (h2 : jy_kp N' v (jm_c M 25) = false) : jy_kl M' N' v = jy_kl M N v := by
  unfold jy_kl
  rw [hc, List.range_succ, List.filter_append, List.filter_cons, if_neg (by rw [h2]; decide), List.filter_nil, List.append_nil]
  exact List.filter_congr (fun t ht => h1 t (List.mem_range.mp ht))
