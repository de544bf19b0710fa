/-! crash -/
theorem sm_crash {d E C : Nat} {M N : jm_M} (h : jr_R E C M N) (hC : C < 2 ^ 31) (hE2 : E < 2 ^ 20) : jr_O E C M N (jm_D (d + 4) 81 0 [some (.inr (some (0, 0))), none, none] [] M) (jm_D (d + 4) 138 0 [some (.inr (some (31, 0))), none, none, none, none] [] N) := by
  have hX := h.1
  have hY := h.2.1
  have hT := h.2.2.2.2.2.2.2.1
  obtain ⟨mm, hmm, em⟩ := jx_min_in h.2.2.2.2.2.2.2.2.2.1
  have hkp : ∀ v t, t ∈ jy_kl M N v → jy_kn N (nI mm) t = decide (jm_I M 25 t 6 / nI 1024 ≤ nI mm) := by
    intro v t ht
    obtain ⟨t1, t2, -⟩ := jc_kl.mp ht
    obtain ⟨⟨s, s1, s2, s3⟩, -⟩ := (hT.2.2.2.2.2 t t1).2.2.2.2.2.2.2.2 t2
    unfold jy_kn
    rw [s2, s3]
  have hD := xDur (d := d + 2) h
  rw [em] at hD
  obtain ⟨Q, r1, hI⟩ := xCr (d := d) (m := nI mm) (kp := jy_kn N (nI mm)) h hkp
  have hXQ : jx_S Q := jc_X hI.1 hX
  have hX4 : jx_S (jx_em Q) := hXQ
  have hY4 : jy_S (jy_q4 N (nI mm) (jm_c M 25)) := hY
  have r2 := xEm (d := d + 2) hXQ
  obtain ⟨s1, s2, s3⟩ := jq_S (C := C) (N := N) (Q := Q) (m := nI mm) (T' := jm_c M 25)
  obtain ⟨M5, N5, l3, l4, q1, q2, q3, q4, q5, q6⟩ := sm_rec (d := d) (d' := d + 1) (C := C) (m := nI mm) hX4 hY4 hC (jq_T4 h hI) (jq_G4 h hI) (jq_un h.2.2.2.2.2.2.2.2.2.2 (congrFun hI.1.1.2.1 25)) 32 0 (jx_em Q) (jy_q4 N (nI mm) (jm_c M 25)) none none (by omega) (jc_fr0 _ _) jq_L s1 s2 (fun j _ hj => s3 j hj)
  have y1 := yCr1 (d := d + 3) (m := nI mm) hY hT.1 hT.2.2.2.1 em.symm
  have hY5 : jy_S N5 := (jc_frT (C := C) q3).2.1 hY4
  have y2 := yWk (d := d + 4) (m := nI mm) (l3 := l3) (l4 := l4) hY5 4 0 (jm_I N5 45) (jm_I N5 46) (jm_I N5 61) (jm_I N5 62) rfl
  have e5 : jm_setK (jm_setK (jm_setK (jm_setK N5 45 (jm_I N5 45)) 46 (jm_I N5 46)) 61 (jm_I N5 61)) 62 (jm_I N5 62) = N5 := by
    rw [jk_id, jk_id, jk_id, jk_id]
  rw [e5] at y2
  have y3 : jm_D (d + 4) 138 119 [some (.inr (some (31, 0))), some (.inl (nI mm)), some (.inl (nI 0)), l3, l4] [] N5 = jm_D (d + 4) 138 144 [some (.inr (some (31, 0))), some (.inl (nI mm)), some (.inl (nI 4)), l3, l4] [] (jy_wk N5 (nI mm)) := y2
  refine ⟨nI mm, _, _, ?_, ?_, jr_crash h hC hE2 hmm hI q3 q4 q5 q6, ⟨?_, ?_⟩, ⟨?_, ?_⟩⟩
  · have p1 : jm_D (d + 4) 81 0 [some (.inr (some (0, 0))), none, none] [] M = jm_D (d + 4) 81 5 [some (.inr (some (0, 0))), some (.inl (nI mm)), some (.inl (nI 0))] [] M := by
      simp only [e81_0, e81_1, e81_2, e81_3, e81_4, hD, jb_some, jb_tl]
    have p2 : jm_D (d + 4) 81 21 [some (.inr (some (0, 0))), some (.inl (nI mm)), some (.inl (nI 4))] [] Q = jm_D (d + 4) 81 26 [some (.inr (some (0, 0))), some (.inl (nI mm)), some (.inl (nI 0))] [] (jx_em Q) := by
      simp only [e81_21, e81_22, e81_23, e81_24, e81_25, xs_0 hXQ, xs_1 hXQ, xs_2 hXQ, xs_3 hXQ, xs_4 hXQ, xs_5 hXQ, xs_6 hXQ, xs_7 hXQ, xs_8 hXQ, xs_9 hXQ, xs_10 hXQ, xs_11 hXQ, xs_12 hXQ, xs_13 hXQ, xs_14 hXQ, xs_15 hXQ, xs_16 hXQ, xs_17 hXQ, xs_18 hXQ, xs_19 hXQ, r2, jb_some, jb_tn]
    rw [p1, r1, p2, q1]
    simp only [e81_34, e81_35, e81_36, e81_37, e81_38, e81_39, e81_40, nI_add]
  · rw [y1, q2, e138_117, e138_118, y3]
    simp only [e138_144, e138_145, e138_146, e138_147, e138_148, e138_149, e138_150, nI_add]
  · have : jm_al M5 = jm_al (jx_em Q) := congrArg (fun z => z.2.2.2.1) q3.1.1
    show (jm_al M5).length ≤ _
    rw [this]
    show (jm_al Q).length ≤ _
    rw [hI.1.1.2.2.1]
    exact Nat.le_add_right _ _
  · have : jm_sl M5 = jm_sl (jx_em Q) := congrArg (fun z => z.2.2.2.2) q3.1.1
    show jm_sl M5 ≤ _
    rw [this]
    show jm_sl Q ≤ _
    rw [hI.1.1.2.2.2]
    exact Nat.le_add_right _ _
  · have : jm_al N5 = jm_al (jy_q4 N (nI mm) (jm_c M 25)) := congrArg (fun z => z.2.2.2.1) q3.1.2
    show (jm_al N5).length ≤ _
    rw [this]
    exact Nat.le_add_right _ _
  · have : jm_sl N5 = jm_sl (jy_q4 N (nI mm) (jm_c M 25)) := congrArg (fun z => z.2.2.2.2) q3.1.2
    show jm_sl N5 ≤ _
    rw [this]
    exact Nat.le_add_right _ _
