/-! A record added: what stays. -/
theorem jk_5 {T M : jm_M} (h2 : T.2 = M.2) (h : ∀ K i j, K ≠ 5 → K ≠ 17 → K ≠ 18 → K ≠ 19 → K ≠ 24 → jm_I T K i j = jm_I M K i j) : ∃ g1 g2 g3 g4 g5, T = jm_setK (jm_setK (jm_setK (jm_setK (jm_setK M 5 g1) 17 g2) 18 g3) 19 g4) 24 g5 := by
  refine ⟨jm_I T 5, jm_I T 17, jm_I T 18, jm_I T 19, jm_I T 24, Prod.ext ?_ h2⟩
  funext K i j
  show jm_I T K i j = if K = 24 then jm_I T 24 i j else if K = 19 then jm_I T 19 i j else if K = 18 then jm_I T 18 i j else if K = 17 then jm_I T 17 i j else if K = 5 then jm_I T 5 i j else jm_I M K i j
  by_cases a : K = 24
  · rw [if_pos a, a]
  · rw [if_neg a]
    by_cases b : K = 19
    · rw [if_pos b, b]
    · rw [if_neg b]
      by_cases c : K = 18
      · rw [if_pos c, c]
      · rw [if_neg c]
        by_cases e : K = 17
        · rw [if_pos e, e]
        · rw [if_neg e]
          by_cases f : K = 5
          · rw [if_pos f, f]
          · rw [if_neg f]
            exact h K i j f e c b a
theorem jk_9 {T M : jm_M} (h2 : T.2 = M.2) (h : ∀ K i j, K ≠ 31 → (K < 37 ∨ 44 < K) → jm_I T K i j = jm_I M K i j) : ∃ g0 g1 g2 g3 g4 g5 g6 g7 g8, T = jm_setK (jm_setK (jm_setK (jm_setK (jm_setK (jm_setK (jm_setK (jm_setK (jm_setK M 31 g0) 37 g1) 38 g2) 39 g3) 40 g4) 41 g5) 42 g6) 43 g7) 44 g8 := by
  refine ⟨jm_I T 31, jm_I T 37, jm_I T 38, jm_I T 39, jm_I T 40, jm_I T 41, jm_I T 42, jm_I T 43, jm_I T 44, Prod.ext ?_ h2⟩
  funext K i j
  show jm_I T K i j = if K = 44 then jm_I T 44 i j else if K = 43 then jm_I T 43 i j else if K = 42 then jm_I T 42 i j else if K = 41 then jm_I T 41 i j else if K = 40 then jm_I T 40 i j else if K = 39 then jm_I T 39 i j else if K = 38 then jm_I T 38 i j else if K = 37 then jm_I T 37 i j else if K = 31 then jm_I T 31 i j else jm_I M K i j
  by_cases a : K = 44
  · rw [if_pos a, a]
  rw [if_neg a]
  by_cases b : K = 43
  · rw [if_pos b, b]
  rw [if_neg b]
  by_cases c : K = 42
  · rw [if_pos c, c]
  rw [if_neg c]
  by_cases e : K = 41
  · rw [if_pos e, e]
  rw [if_neg e]
  by_cases f : K = 40
  · rw [if_pos f, f]
  rw [if_neg f]
  by_cases a1 : K = 39
  · rw [if_pos a1, a1]
  rw [if_neg a1]
  by_cases a2 : K = 38
  · rw [if_pos a2, a2]
  rw [if_neg a2]
  by_cases a3 : K = 37
  · rw [if_pos a3, a3]
  rw [if_neg a3]
  by_cases a4 : K = 31
  · rw [if_pos a4, a4]
  rw [if_neg a4]
  exact h K i j a4 (by omega)
/-- what adding record k changes -/
def jq_D (M N T U : jm_M) (k n n' : Nat) : Prop :=
  (T.2 = M.2 ∧ U.2 = N.2) ∧ (∀ K i j, K ≠ 5 → K ≠ 17 → K ≠ 18 → K ≠ 19 → K ≠ 24 → jm_I T K i j = jm_I M K i j) ∧ (∀ i, jm_I T 17 i 0 = jm_I M 17 i 0) ∧
  (jm_I T 19 0 k = nI 1 ∧ ∀ j, j ≠ k → jm_I T 19 0 j = jm_I M 19 0 j) ∧
  (∀ K i j, K ≠ 31 → (K < 37 ∨ 44 < K) → jm_I U K i j = jm_I N K i j) ∧ (∀ j, j ≠ 11 → j ≠ 12 → jm_I U 31 0 j = jm_I N 31 0 j) ∧
  (jm_I U 37 0 k = nI 1 ∧ jm_I U 38 0 k = nI 0 ∧ jm_I U 39 0 k = nI 0 ∧ jm_I U 40 0 k = nI 0 ∧ jm_I U 41 0 k = nI 0) ∧
  (∀ j, j ≠ k → jm_I U 37 0 j = jm_I N 37 0 j ∧ jm_I U 38 0 j = jm_I N 38 0 j ∧ jm_I U 39 0 j = jm_I N 39 0 j ∧ jm_I U 40 0 j = jm_I N 40 0 j ∧ jm_I U 41 0 j = jm_I N 41 0 j) ∧
  (jm_I N 31 0 11 = nI n ∧ jm_I U 31 0 11 = nI n' ∧ n ≤ n' ∧ n' ≤ 16)
theorem jr_addR {E C k n n' : Nat} {M N T U : jm_M} (h : jr_R E C M N) (hk : k < 32) (h0 : jm_I N 37 0 k = nI 0) (hD : jq_D M N T U k n n') (hL' : rL T U) : jr_R E C T U := by
  obtain ⟨hX, hY, hN, hP, hS, hL, hW, hT, hG, hE, hU⟩ := h
  obtain ⟨⟨t2, u2⟩, tI, t17, ⟨t19, t19'⟩, uI, u31, ⟨u37, u38, u39, u40, u41⟩, uo, ⟨n1, n2, n3, n4⟩⟩ := hD
  obtain ⟨g1, g2, g3, g4, g5, rfl⟩ := jk_5 t2 tI
  obtain ⟨f0, f1, f2, f3, f4, f5, f6, f7, f8, rfl⟩ := jk_9 u2 uI
  have nn1 : ¬ nI 1 = nI 0 := by decide
  refine ⟨hX, hY, ⟨hN.1, fun i hi => (t17 i).trans (hN.2.1 i hi), hN.2.2⟩, hP, fun j hj => ?_, hL', fun v hv => ?_, ⟨hT.1, hT.2.1, hT.2.2.1, (u31 34 (by decide) (by decide)).trans hT.2.2.2.1, hT.2.2.2.2.1, fun t ht => ?_⟩, hG, ?_, ?_⟩
  · by_cases e : j = k
    · subst e
      rcases hS j hj with ⟨a1, a2, a3, a4, a5⟩ | ⟨a1, -⟩
      · exact Or.inr ⟨u37, Or.inr ⟨u38, t19, u39⟩, Eq.trans (show _ = nI 0 from a3) u39.symm, ⟨0, Nat.zero_le _, a4, u40⟩, ⟨0, Nat.zero_le _, a5, u41⟩⟩
      · rw [h0] at a1; exact absurd a1 (by decide)
    · have hS := hS j hj
      obtain ⟨q1, q2, q3, q4, q5⟩ := uo j e
      have q6 := t19' j e
      unfold rSk at hS ⊢
      rw [q1, q2, q3, q4, q5, q6]
      exact hS
  · refine rW_cg (hW v hv) (Nat.le_refl _) (Nat.le_refl _) ⟨fun j => rfl, rfl, fun K hK => ?_, fun r hr => ⟨rfl, rfl⟩, fun m j h1 h2 hj => ?_, fun n hn => rfl, fun k _ => rfl, fun k _ => rfl⟩ (fun u hu _ _ _ => ⟨fun j _ => rfl, fun k _ => ⟨rfl, rfl⟩, rfl, rfl⟩) ⟨Nat.le_refl _, fun u hu z => ⟨hu, z⟩, fun j hj => Iff.rfl, fun j _ z => ?_, fun m hm z => ?_⟩
    · rcases hK with rfl | rfl | rfl | rfl | rfl | rfl | rfl | rfl | rfl
      all_goals rfl
    · rcases (show m = 51 ∨ m = 52 ∨ m = 53 ∨ m = 54 ∨ m = 55 ∨ m = 56 by omega) with rfl | rfl | rfl | rfl | rfl | rfl
      all_goals rfl
    · by_cases e : j = k
      · subst e; rw [u37]; exact nn1
      · rw [(uo j e).1]; exact z
    · have : m = n := (nI_eq (by omega) (by omega)).mp (z.symm.trans n1)
      subst this
      exact ⟨n', n3, n4, n2⟩
  · exact hT.2.2.2.2.2 t ht
  · obtain ⟨e, e1, e2, e3, e4, e5⟩ := hE
    exact ⟨e, e1, e2, e3, (u31 33 (by decide) (by decide)).trans e4, e5⟩
  · obtain ⟨b, ⟨e, b1, b2, b3⟩, b4, b5, b6, b7, b8, b9⟩ := hU
    refine ⟨b, ⟨e, b1, b2, (u31 33 (by decide) (by decide)).trans b3⟩, b4, fun t j ht hj hg hw => ?_, fun w j hw hj h4 h51 => ?_, b7, b8, b9⟩
    · obtain ⟨s, s1, s2, s3⟩ := b5 t j ht hj hg hw
      refine ⟨s, s1, s2, ?_⟩
      rcases s3 with s3 | ⟨s3, x, s4, s5, s6⟩
      · exact Or.inl s3
      · have e : j ≠ k := by rintro rfl; exact s3 h0
        exact Or.inr ⟨by rw [(uo j e).1]; exact s3, x, s4, (uo j e).2.2.2.1.trans s5, s6⟩
    · obtain ⟨o, x, s1, s2, s3, s4, s5, s6, s7⟩ := b6 w j hw hj h4 h51
      have e : j ≠ k := by rintro rfl; exact s6 h0
      exact ⟨o, x, s1, s2, s3, (uo j e).2.2.2.1.trans s4, s5, by rw [(uo j e).1]; exact s6, s7⟩
/-- a worker's run stays too -/
theorem rRun_D {E C k n n' w s t : Nat} {M N T U : jm_M} (h : rRun E C M N w s t) (hD : jq_D M N T U k n n') (hn : n ≤ 16) : rRun E C T U w s t := by
  obtain ⟨⟨t2, u2⟩, tI, t17, ⟨t19, t19'⟩, uI, u31, ⟨u37, u38, u39, u40, u41⟩, uo, ⟨n1, n2, n3, n4⟩⟩ := hD
  obtain ⟨g1, g2, g3, g4, g5, rfl⟩ := jk_5 t2 tI
  obtain ⟨f0, f1, f2, f3, f4, f5, f6, f7, f8, rfl⟩ := jk_9 u2 uI
  refine rRun_cg h (Nat.le_refl _) (Nat.le_refl _) ⟨fun j => rfl, rfl, fun K hK => ?_, fun r hr => ⟨rfl, rfl⟩, fun m j h1 h2 hj => ?_, fun n hn => rfl, fun k _ => rfl, fun k _ => rfl⟩ ⟨fun j _ => rfl, fun k _ => ⟨rfl, rfl⟩, rfl, rfl⟩ ⟨Nat.le_refl _, fun u hu z => ⟨hu, z⟩, fun j hj => Iff.rfl, fun j _ z => ?_, fun m hm z => ?_⟩
  · rcases hK with rfl | rfl | rfl | rfl | rfl | rfl | rfl | rfl | rfl
    all_goals rfl
  · rcases (show m = 51 ∨ m = 52 ∨ m = 53 ∨ m = 54 ∨ m = 55 ∨ m = 56 by omega) with rfl | rfl | rfl | rfl | rfl | rfl
    all_goals rfl
  · by_cases e : j = k
    · subst e; rw [u37]; decide
    · rw [(uo j e).1]; exact z
  · have : m = n := (nI_eq (by omega) (by omega)).mp (z.symm.trans n1)
    subst this
    exact ⟨n', n3, n4, n2⟩
