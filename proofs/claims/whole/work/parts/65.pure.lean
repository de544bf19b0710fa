/-! The relation with the new stamp. -/
theorem jr_C {E C C' : Nat} {M N : jm_M} (h : jr_R E C M N) (hC : C ≤ C') : jr_R E C' M N := by
  obtain ⟨hX, hY, hN, hP, hS, hL, hW, ⟨t1, t2, t3, t4, t5, t6⟩, hG, hE, hU⟩ := h
  refine ⟨hX, hY, hN, hP, fun k hk => ?_, hL, fun w hw => rW_cg (hW w hw) (Nat.le_refl _) hC ⟨fun _ => rfl, rfl, fun _ _ => rfl, fun _ _ => ⟨rfl, rfl⟩, fun _ _ _ _ _ => rfl, fun _ _ => rfl, fun _ _ => rfl, fun _ _ => rfl⟩ (fun _ _ _ _ _ => ⟨fun _ _ => rfl, fun _ _ => ⟨rfl, rfl⟩, rfl, rfl⟩) (jq_C0 rfl rfl rfl rfl rfl), ⟨t1, t2, t3, t4, t5, fun t ht => rTt_cg (t6 t ht) hC ⟨fun _ => rfl, fun _ => rfl, rfl, rfl, fun _ _ => ⟨rfl, rfl⟩, fun _ _ _ => rfl, fun _ _ _ _ _ => rfl⟩ (fun w hw _ p q => ⟨w, hw, p, q⟩)⟩, hG, hE, hU⟩
  rcases hS k hk with hS | ⟨s1, s2, s3, ⟨s, s4, s5⟩, s6⟩
  · exact Or.inl hS
  · exact Or.inr ⟨s1, s2, s3, ⟨s, Nat.le_trans s4 hC, s5⟩, s6⟩
def jx_sp (M : jm_M) (w t o : Nat) : jm_M := jm_setI (jm_setI (jm_setI M 25 t 6 (nI o)) 11 w 12 (nI o)) 11 w 6 (nI 4)
theorem jr_stamp {E C C' w t g : Nat} {M N : jm_M} (h : jr_V E C M N w 3 t) (hw : w < 4) (hC : C ≤ C') (hE2 : E < 2 ^ 20) (ho : g + 1 ≤ C') (ho2 : g + 1 < 2 ^ 31) (h1 : ∀ f, f ≤ E → jm_I N 59 0 w = nI f → 1024 * f ≤ g + 1) (h2 : ∀ k, k < 32 → ¬ jm_I N 51 0 (32 * w + k) = nI 0 → ∃ x, x < g + 1 ∧ jm_I N 40 0 k = nI x ∧ ¬ jm_I N 37 0 k = nI 0) : jr_R E C' (jx_sp M w t (g + 1)) (jy_sp N w g) := by
  obtain ⟨hR, a1, a2, a3⟩ := h
  have hO : jq_O M N (jx_sp M w t (g + 1)) (jy_sp N w g) w t := jo_M (jo_M (jo_25 (jo_N (jo_N (jo_r M N w t) (by decide) (by decide) (nI 4)) (by decide) (by decide) (nI (g + 1))) (by decide) (nI (g + 1))) (by decide) (by decide) (by decide) (nI (g + 1))) (by decide) (by decide) (by decide) (nI 4)
  have n45 : ∀ v, v ≠ w → jm_I (jy_sp N w g) 45 0 v = jm_I N 45 0 v := fun v hv => jb_Io hv N 45 0 (nI 4) 45 0
  have n45w : jm_I (jy_sp N w g) 45 0 w = nI 4 := jb_Is N 45 0 w (nI 4)
  have n60 : ∀ v, v ≠ w → jm_I (jy_sp N w g) 60 0 v = jm_I N 60 0 v := fun v hv => jb_Io hv (jm_setI N 45 0 w (nI 4)) 60 0 (nI (g + 1)) 60 0
  have n60w : jm_I (jy_sp N w g) 60 0 w = nI (g + 1) := jb_Is _ _ _ _ _
  have e11 : ∀ j, j ≠ 6 → j ≠ 12 → jm_I (jx_sp M w t (g + 1)) 11 w j = jm_I M 11 w j := fun j p1 p2 => (jb_Io p1 _ _ _ _ _ _).trans (jb_Io p2 (jm_setI M 25 t 6 (nI (g + 1))) 11 w (nI (g + 1)) 11 w)
  have e12 : jm_I (jx_sp M w t (g + 1)) 11 w 12 = nI (g + 1) := (jb_Io (by decide) _ _ _ _ _ _).trans (jb_Is _ _ _ _ _)
  have e25 : ∀ j, j ≠ 6 → jm_I (jx_sp M w t (g + 1)) 25 t j = jm_I M 25 t j := fun j p => jb_Io p M 25 t (nI (g + 1)) 25 t
  have h55 : ∀ k, k < 32 → jm_I N 55 0 (32 * w + k) = nI 0 := fun k hk => a3.2.2.2.2.2.2.2.2.2.2.2.2.2.2.2.2.2.2.2.1 (by decide) k hk
  have hr : rRun E C' (jx_sp M w t (g + 1)) (jy_sp N w g) w 4 t := by
    obtain ⟨c1, c2, c3, c4, c5, c6, ⟨p, p1, p2, p3⟩, c8, c9, d1, d2, d3, d4, d5, d6, d7, d8, d9, f1, f2, f3⟩ := a3
    refine ⟨c1, c2, c3, c4, c5, c6, ⟨p, p1, (e11 4 (by decide) (by decide)).trans p2, p3⟩, c8, fun k hk => ?_, d1, d2, (e25 3 (by decide)).trans d3, (e11 9 (by decide) (by decide)).trans d4, (e11 10 (by decide) (by decide)).trans d5, fun z => absurd z (by decide), fun _ => (e25 5 (by decide)).trans (d7 (by decide)), fun z => absurd z (by decide), fun _ => ?_, fun z => absurd z (by decide), fun z => absurd z (by decide), fun _ => ⟨⟨g + 1, ho, jb_Is M 25 t 6 (nI (g + 1)), e12, n60w⟩, fun k hk => ⟨Or.inl (h55 k hk), ?_⟩⟩⟩
    · obtain ⟨x1, x2⟩ := c9 k hk
      refine ⟨x1, x2.imp id (fun z => ?_)⟩
      obtain ⟨x, z1, z2, z3⟩ := z
      exact ⟨x, Nat.le_trans z1 hC, z2, z3⟩
    · obtain ⟨f, x1, x2, x3, x4⟩ := d9 (by decide)
      exact ⟨f, x1, x2, (e11 11 (by decide) (by decide)).trans x3, x4⟩
    · refine (f1 rfl k hk).trans ⟨fun z => ⟨z, h55 k hk⟩, fun z => z.1⟩
  refine jr_own hR hC hw a3.2.2.1 a3.1 a3.2.2.2.2.1 (by rw [a2]; decide) hO ?_ (by rw [n45w]; decide) ?_
  · obtain ⟨s, p1, p2, p3, ⟨x, p4, p5, p6⟩, -⟩ := hR.2.2.2.2.2.2.1 w hw
    exact ⟨4, by decide, jb_Is _ _ _ _ _, n45w, ⟨x, Nat.le_trans p4 hC, p5, fun z => absurd rfl z⟩, fun z => absurd z (by decide), fun _ => ⟨t, hr⟩⟩
  · obtain ⟨b, b1, b2, b3, b4, b5, b6, b7⟩ := hR.2.2.2.2.2.2.2.2.2.2
    obtain ⟨f, q1, q2, q3, q4⟩ := a3.2.2.2.2.2.2.2.2.2.2.2.2.2.2.2.2.2.1 (by decide)
    obtain ⟨f', q5, q6, q7⟩ := b2 w hw (Or.inl a2)
    have ef : f' = f := (nI_eq q5 (by omega)).mp (q7.symm.trans q4)
    subst ef
    have hf := h1 f' q2 q4
    refine ⟨b, b1, fun v hv hl => ?_, b3, fun v k hv hk hl hwr => ?_, b5, fun v u k hv hu hk hl h6 => ?_, fun u v k hu hv hk huv h4 h5 h6 h7 => ?_⟩
    · by_cases e : v = w
      · subst e
        exact ⟨f', q5, q6, q7⟩
      · rw [n45 v e] at hl
        exact b2 v hv hl
    · by_cases e : v = w
      · subst e
        obtain ⟨x, x1, x2, x3⟩ := h2 k hk hwr
        exact ⟨g + 1, x, ho2, by omega, n60w, x2, by omega, x3, fun _ => x1, fun z => absurd (h55 k hk) z⟩
      · rw [n45 v e] at hl
        rw [n60 v e]
        exact b4 v k hv hk hl hwr
    · by_cases e : v = w
      · subst e
        exact absurd (h55 k hk) h6
      · rw [n45 v e] at hl
        rw [n60 v e]
        exact b6 v u k hv hu hk hl h6
    · by_cases e : v = w
      · subst e
        exact absurd (h55 k hk) h7
      · by_cases e' : u = w
        · subst e'
          exact absurd (h55 k hk) h6
        · rw [n45 v e] at h5
          rw [n45 u e'] at h4
          rw [n60 v e, n60 u e']
          exact b7 u v k hu hv hk huv h4 h5 h6 h7
