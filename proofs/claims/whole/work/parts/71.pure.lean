/-! One move of a worker. -/
def jr_N (E C : Nat) (M N : jm_M) (w : Nat) (X Y : jm_Z) : Prop := ∃ r M' N', X = some (some (.inl r), M') ∧ Y = some (some (.inl r), N') ∧ jr_R E C M' N' ∧ (¬ r = nI 1 ∨ (r = nI 1 ∧ (∃ s, 1 ≤ s ∧ s ≤ 4 ∧ jm_I N' 45 0 w = nI s) ∧ jr_Z M M' ∧ jr_Z N N')) ∧ jr_B M M' ∧ jr_B N N'
theorem jn_of {E C w : Nat} {M N : jm_M} {X Y : jm_Z} (h : jr_P E C M N w X Y) : jr_N E C M N w X Y := by
  obtain ⟨r, M', N', a1, a2, a3, a4, a5, a6⟩ := h
  refine ⟨r, M', N', a1, a2, a3, ?_, ⟨by rw [a5.1]; omega, by rw [a5.2]; omega⟩, ⟨by rw [a6.1]; omega, by rw [a6.2]; omega⟩⟩
  rcases a4 with rfl | rfl | ⟨rfl, hs⟩
  · exact Or.inl (by decide)
  · exact Or.inl (by decide)
  · exact Or.inr ⟨rfl, hs, a5, a6⟩
theorem sm_com {d d' E C w t : Nat} {M N : jm_M} {l2 : Option jm_V} (h : jr_V E C M N w 4 t) (hC : C < 2 ^ 31) (hw : w < 4) (hall : ∀ k, k < 32 → ¬ jm_I N 51 0 (32 * w + k) = nI 0 → ¬ jm_I N 55 0 (32 * w + k) = nI 0) : ∃ M' N', jm_D (d + 9) 30 23 [some (.inr (some (0, 0))), some (.inl (nI w)), l2, some (.inl (nI 2))] [] (jx_c1 M w t) = some (some (.inl (nI 2)), M') ∧ jm_D (d' + 7) 130 0 [some (.inr (some (31, 0))), some (.inl (nI w)), none, none] [] N = some (some (.inl (nI 2)), N') ∧ jr_R E C M' N' ∧ jr_B M M' ∧ jr_B N N' := by
  have h' := h
  obtain ⟨hR, a1, a2, a3⟩ := h
  have hX := hR.1
  have hY := hR.2.1
  have hT := hR.2.2.2.2.2.2.2.1
  have hG := hR.2.2.2.2.2.2.2.2.1
  have c1 := a3.1
  have ht : t < 100 := Nat.lt_of_lt_of_le c1 hT.1
  obtain ⟨⟨o, o1, o2, o3, o4⟩, -⟩ := a3.2.2.2.2.2.2.2.2.2.2.2.2.2.2.2.2.2.2.2.2 rfl
  have f5 := a3.2.1
  have hlen : (jy_kl M N w).length < 100 := by
    have h1 : (jy_kl M N w).length < (List.range (jm_c M 25)).length := by
      unfold jy_kl
      rw [List.length_filter_lt_length_iff_exists]
      refine ⟨t, List.mem_range.mpr c1, ?_⟩
      unfold jy_kp
      rw [a3.2.2.2.2.1]
      simp [nf_1_2, nf_1_3]
    rw [List.length_range] at h1
    have := hT.1
    omega
  have hl : jx_L (jx_c1 M w t) 16 w (jy_kl M N w) := jx_Lc (M := M) (hG.1 w hw).1 rfl rfl ⟨⟨rfl, rfl⟩, ⟨rfl, rfl⟩, rfl, rfl⟩
  obtain ⟨Q, q1, q2⟩ := xl_add_16 (d := d + 2) (t := t) hl (show jm_n (jx_c1 M w t) 74 0 = 0 from hR.2.2.1.2.2.2.2.2.2) hlen
  have hR2 := jr_commit h' hC hw o4 o1 hall q2
  obtain ⟨r, M', N', r1, r2, r3, ⟨r4, r5⟩, r6, r7⟩ := sm_rel (d := d + 5) (d' := d' + 3) hR2
  have hX1 : jx_S (jx_c1 M w t) := hX
  have f5' : jm_F (jx_c1 M w t) 11 w 5 = some (25, t) := f5
  refine ⟨M', N', ?_, ?_, r3, ?_, ?_⟩
  · simp only [e30_23, e30_24, e30_25, e30_26, e30_27, e30_28, e30_29, e30_30, e30_31, e30_32, e30_33, e30_34, e30_35, e30_36, e30_37, e30_38, e30_39, xs_0 hX1, xs_1 hX1, xs_2 hX1, xs_3 hX1, xs_4 hX1, xs_5 hX1, xs_6 hX1, xs_7 hX1, xs_8 hX1, xs_9 hX1, xs_10 hX1, xs_11 hX1, xs_12 hX1, xs_13 hX1, xs_14 hX1, xs_15 hX1, xs_16 hX1, xs_17 hX1, xs_18 hX1, xs_19 hX1, xw_0 hX1 hw, xw_1 hX1 hw, xw_2 hX1 hw, xw_3 hX1 hw, xw_4 hX1 hw, xw_5 hX1 hw, xw_6 hX1 hw, xw_7 hX1 hw, xw_8 hX1 hw, jb_ix hw (by decide), f5', q1, jb_some, jb_tl, r1]
  · rw [yCm (d := d' + 6) hY hw ht a3.2.2.1 o4]
    simp only [r2, jb_some, jb_tl, e130_106, e130_107, e130_108]
  · obtain ⟨-, -, -, -, -, ⟨z1, z2⟩, -⟩ := q2
    exact ⟨by rw [r4]; exact Nat.le_trans z1 (Nat.add_le_add_left (by decide) _), by rw [r5]; exact Nat.le_trans z2 (Nat.add_le_add_left (by decide) _)⟩
  · exact ⟨by rw [r6]; exact Nat.le_add_right _ _, by rw [r7]; exact Nat.le_add_right _ _⟩
