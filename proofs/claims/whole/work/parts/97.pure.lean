/-! One memory for both sides. -/
def jf_ag (G : Nat → Bool) (M M' : jm_M) : Prop := ∀ k, G k = true → jm_I M' k = jm_I M k ∧ jm_F M' k = jm_F M k ∧ jm_n M' k = jm_n M k ∧ jm_c M' k = jm_c M k
def jm_mx (G : Nat → Bool) (M Z : jm_M) : jm_M := (fun k i j => if G k = true then M.1 k i j else Z.1 k i j, fun k i j => if G k = true then M.2.1 k i j else Z.2.1 k i j, fun k i => if G k = true then M.2.2.1 k i else Z.2.2.1 k i, fun k => if G k = true then M.2.2.2.1 k else Z.2.2.2.1 k, Z.2.2.2.2)
theorem jf_mx {G : Nat → Bool} {M Z : jm_M} (h : jf_ag G M Z) : Z = jm_mx G M Z := by
  refine Prod.ext ?_ (Prod.ext ?_ (Prod.ext ?_ (Prod.ext ?_ rfl)))
  · funext k i j
    show Z.1 k i j = if G k = true then M.1 k i j else Z.1 k i j
    by_cases e : G k = true
    · rw [if_pos e]; exact congrFun (congrFun (h k e).1 i) j
    · rw [if_neg e]
  · funext k i j
    show Z.2.1 k i j = if G k = true then M.2.1 k i j else Z.2.1 k i j
    by_cases e : G k = true
    · rw [if_pos e]; exact congrFun (congrFun (h k e).2.1 i) j
    · rw [if_neg e]
  · funext k i
    show Z.2.2.1 k i = if G k = true then M.2.2.1 k i else Z.2.2.1 k i
    by_cases e : G k = true
    · rw [if_pos e]; exact congrFun (h k e).2.2.1 i
    · rw [if_neg e]
  · funext k
    show Z.2.2.2.1 k = if G k = true then M.2.2.2.1 k else Z.2.2.2.1 k
    by_cases e : G k = true
    · rw [if_pos e]; exact (h k e).2.2.2
    · rw [if_neg e]
theorem jx_Lg {M M' : jm_M} {k i : Nat} {l : List Nat} (h : jx_L M k i l) (hM : jf_ag jf_g5 M M') (hk : jf_g5 k = true) : jx_L M' k i l := by
  obtain ⟨p1, p2, p3⟩ := h
  obtain ⟨e1, e2, -, -⟩ := hM k hk
  refine ⟨by rw [e1]; exact p1, p2, ?_⟩
  rcases p3 with ⟨q1, q2⟩ | ⟨a, b, q1, q2, q3, q4, q5, q6, q7⟩
  · exact Or.inl ⟨q1, by rw [e2]; exact q2⟩
  · have ha : jf_g5 a = true := by rcases q1 with rfl | rfl <;> rfl
    obtain ⟨-, f2, f3, f4⟩ := hM a ha
    exact Or.inr ⟨a, b, q1, by rw [f4]; exact q2, by rw [e2]; exact q3, by rw [f3]; exact q4, by rw [f3]; exact q5, by rw [f3]; exact q6, fun j t hj => by rw [f2]; exact q7 j t hj⟩
theorem jr_cg {E C : Nat} {M N M' N' : jm_M} (h : jr_R E C M N) (hM : jf_ag jf_g5 M M') (hN : jf_ag jf_gY N N') : jr_R E C M' N' := by
  have l4 := jx_Lg h.2.2.2.2.2.2.2.1.2.2.2.2.1 hM rfl
  have l16 := fun w hw => jx_Lg (h.2.2.2.2.2.2.2.2.1.1 w hw).1 hM rfl
  rw [jf_mx hM] at l4 l16
  rw [jf_mx hM, jf_mx hN]
  obtain ⟨hX, hY, hNn, hP, hS, hL, hW, ⟨T1, T2, T3, T4, T5, T6⟩, ⟨G1, G2, G3⟩, hE, hU⟩ := h
  exact ⟨hX, hY, hNn, hP, hS, hL, hW, ⟨T1, T2, T3, T4, l4, T6⟩, ⟨fun w hw => ⟨l16 w hw, (G1 w hw).2⟩, G2, G3⟩, hE, hU⟩
