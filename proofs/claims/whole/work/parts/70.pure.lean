/-! Commit: the relation afterwards. -/
def jx_c1 (M : jm_M) (w t : Nat) : jm_M := jm_setI (jm_setI M 25 t 4 (nI 2)) 11 w 6 (nI 0)
theorem jr_commit {E C w t o : Nat} {M N Q : jm_M} (h : jr_V E C M N w 4 t) (hC : C < 2 ^ 31) (hw : w < 4) (ho : jm_I N 60 0 w = nI o) (hob : o ≤ C) (hall : ∀ k, k < 32 → ¬ jm_I N 51 0 (32 * w + k) = nI 0 → ¬ jm_I N 55 0 (32 * w + k) = nI 0) (hA : jx_A (jx_c1 M w t) (jm_rep (jx_c1 M w t) Q 16) 16 w (jy_kl M N w ++ [t])) : jr_R E C (jm_rep (jx_c1 M w t) Q 16) (jy_cm N w t o) := by
  have h' := h
  obtain ⟨hR, a1, a2, a3⟩ := h
  have a3' := a3
  have hR' := hR
  obtain ⟨hX, hY, hN, hP, hS, hL, hW, ⟨t1, t2, t3, t4, t5, t6⟩, hG, hE, b, b1, b2, b3, b4, b5, b6, b7⟩ := hR
  obtain ⟨c1, f5, c3, c4, c5, c6, c7, c8, c9, d1, d2, d3, d4, d5, d6, d7, d8, d9, g1, g2, g3⟩ := a3
  obtain ⟨⟨o', o1, o2, o3, o4⟩, hk4⟩ := g3 rfl
  have ht : t < 100 := Nat.lt_of_lt_of_le c1 t1
  have n45 : ∀ v, v ≠ w → jm_I (jy_cm N w t o) 45 0 v = jm_I N 45 0 v := fun v hv => jb_Io hv N 45 0 (nI 0) 45 0
  have n45w : jm_I (jy_cm N w t o) 45 0 w = nI 0 := jb_Is N 45 0 w (nI 0)
  have n46 : ∀ v, v ≠ w → jm_I (jy_cm N w t o) 46 0 v = jm_I N 46 0 v := fun v hv => jb_Io hv N 46 0 (nI 0) 46 0
  have n61 : ∀ v, v ≠ w → jm_I (jy_cm N w t o) 61 0 v = jm_I N 61 0 v := fun v hv => jb_Io hv N 61 0 (nI o) 61 0
  have n64 : ∀ u, u ≠ t → jm_I (jy_cm N w t o) 64 0 (u + 1) = jm_I N 64 0 (u + 1) := fun u hu => jb_Io (show u + 1 ≠ t + 1 by omega) N 64 0 (nI 2) 64 0
  have n64t : jm_I (jy_cm N w t o) 64 0 (t + 1) = nI 2 := jb_Is N 64 0 (t + 1) (nI 2)
  have n65 : ∀ u, u ≠ t → jm_I (jy_cm N w t o) 65 0 (u + 1) = jm_I N 65 0 (u + 1) := fun u hu => jb_Io (show u + 1 ≠ t + 1 by omega) N 65 0 (nI o) 65 0
  have n65t : jm_I (jy_cm N w t o) 65 0 (t + 1) = nI o := jb_Is N 65 0 (t + 1) (nI o)
  have n66 : ∀ u, u ≠ t → jm_I (jy_cm N w t o) 66 0 (u + 1) = jm_I N 66 0 (u + 1) := fun u hu => jb_Io (show u + 1 ≠ t + 1 by omega) N 66 0 (jm_I N 58 0 w) 66 0
  have n66t : jm_I (jy_cm N w t o) 66 0 (t + 1) = jm_I N 58 0 w := jb_Is N 66 0 (t + 1) (jm_I N 58 0 w)
  have n67 : ∀ u, u ≠ t → jm_I (jy_cm N w t o) 67 0 (u + 1) = jm_I N 67 0 (u + 1) := fun u hu => jb_Io (show u + 1 ≠ t + 1 by omega) N 67 0 (nI 0) 67 0
  have n67t : jm_I (jy_cm N w t o) 67 0 (t + 1) = nI 0 := jb_Is N 67 0 (t + 1) (nI 0)
  have r68 : ∀ u k, u ≠ t → k < 32 → jm_I (jy_cm N w t o) 68 0 (32 * (u + 1) + k) = jm_I N 68 0 (32 * (u + 1) + k) := fun u k hu hk => jr_out (show ¬ (32 * (t + 1) ≤ 32 * (u + 1) + k ∧ 32 * (u + 1) + k < 32 * (t + 1) + 32) by omega) N 68 (jy_cb N w t 51) (jm_I N 68) 0
  have r69 : ∀ u k, u ≠ t → k < 32 → jm_I (jy_cm N w t o) 69 0 (32 * (u + 1) + k) = jm_I N 69 0 (32 * (u + 1) + k) := fun u k hu hk => jr_out (show ¬ (32 * (t + 1) ≤ 32 * (u + 1) + k ∧ 32 * (u + 1) + k < 32 * (t + 1) + 32) by omega) N 69 (jy_cb N w t 52) (jm_I N 69) 0
  have r70 : ∀ u k, u ≠ t → k < 32 → jm_I (jy_cm N w t o) 70 0 (32 * (u + 1) + k) = jm_I N 70 0 (32 * (u + 1) + k) := fun u k hu hk => jr_out (show ¬ (32 * (t + 1) ≤ 32 * (u + 1) + k ∧ 32 * (u + 1) + k < 32 * (t + 1) + 32) by omega) N 70 (jy_cv N w t 53) (jm_I N 70) 0
  have r68t : ∀ k, k < 32 → jm_I (jy_cm N w t o) 68 0 (32 * (t + 1) + k) = vp_nar .boolean (jm_I N 51 0 (32 * w + k)) := fun k hk => (jr_in (show 32 * (t + 1) ≤ 32 * (t + 1) + k by omega) (show 32 * (t + 1) + k < 32 * (t + 1) + 32 by omega) N 68 0 (jy_cb N w t 51) (jm_I N 68)).trans (by unfold jy_cb; rw [Nat.add_sub_cancel_left])
  have r69t : ∀ k, k < 32 → jm_I (jy_cm N w t o) 69 0 (32 * (t + 1) + k) = vp_nar .boolean (jm_I N 52 0 (32 * w + k)) := fun k hk => (jr_in (show 32 * (t + 1) ≤ 32 * (t + 1) + k by omega) (show 32 * (t + 1) + k < 32 * (t + 1) + 32 by omega) N 69 0 (jy_cb N w t 52) (jm_I N 69)).trans (by unfold jy_cb; rw [Nat.add_sub_cancel_left])
  have r70t : ∀ k, k < 32 → jm_I (jy_cm N w t o) 70 0 (32 * (t + 1) + k) = jm_I N 53 0 (32 * w + k) := fun k hk => (jr_in (show 32 * (t + 1) ≤ 32 * (t + 1) + k by omega) (show 32 * (t + 1) + k < 32 * (t + 1) + 32 by omega) N 70 0 (jy_cv N w t 53) (jm_I N 70)).trans (by unfold jy_cv; rw [Nat.add_sub_cancel_left])
  have m25 : ∀ u j, u ≠ t ∨ j ≠ 4 → jm_I (jm_rep (jx_c1 M w t) Q 16) 25 u j = jm_I M 25 u j := by
    intro u j hu
    rcases hu with hu | hu
    · exact jb_Ij hu M 25 4 (nI 2) 25 j
    · exact jb_Io hu M 25 t (nI 2) 25 u
  have m11 : ∀ v j, v ≠ w ∨ j ≠ 6 → jm_I (jm_rep (jx_c1 M w t) Q 16) 11 v j = jm_I M 11 v j := by
    intro v j hv
    rcases hv with hv | hv
    · exact jb_Ij hv (jm_setI M 25 t 4 (nI 2)) 11 6 (nI 0) 11 j
    · exact jb_Io hv (jm_setI M 25 t 4 (nI 2)) 11 w (nI 0) 11 v
  have eo : o' = o := (nI_eq (by omega) (by omega)).mp (o4.symm.trans ho)
  subst eo
  have hlg : ∀ u, jy_lg (jy_cm N w t o') u → u ≠ t → jy_lg N u := by
    intro u hu e
    unfold jy_lg at hu ⊢
    rw [n64 u e] at hu
    exact hu
  have hwt : ∀ k, k < 32 → ¬ vp_nar .boolean (jm_I N 51 0 (32 * w + k)) = nI 0 → ¬ jm_I N 51 0 (32 * w + k) = nI 0 := by
    intro k hk z y
    rw [y] at z
    exact z jb_nb0
  have hs3 : ∀ v, jm_I (jy_cm N w t o') 45 0 v = nI 3 ∨ jm_I (jy_cm N w t o') 45 0 v = nI 4 → v ≠ w := by
    rintro v hv rfl
    rw [n45w] at hv
    rcases hv with hv | hv
    · exact absurd hv (by decide)
    · exact absurd hv (by decide)
  have hklo : ∀ v, v ≠ w → v < 4 → jy_kl (jm_rep (jx_c1 M w t) Q 16) (jy_cm N w t o') v = jy_kl M N v := by
    intro v hv hv4
    have hc : jm_c (jm_rep (jx_c1 M w t) Q 16) 25 = jm_c M 25 := rfl
    unfold jy_kl
    rw [hc]
    congr 1
    funext u
    unfold jy_kp
    have n63 : jm_I (jy_cm N w t o') 63 0 (u + 1) = jm_I N 63 0 (u + 1) := rfl
    rw [n63]
    by_cases e : u = t
    · subst e
      rw [c4, decide_eq_false (fun z => hv ((nI_eq (by omega) (by omega)).mp z).symm), Bool.and_false, Bool.and_false]
    · rw [n64 u e]
  have hklw : jy_kl (jm_rep (jx_c1 M w t) Q 16) (jy_cm N w t o') w = jy_kl M N w ++ [t] := by
    have hc : jm_c (jm_rep (jx_c1 M w t) Q 16) 25 = jm_c M 25 := rfl
    unfold jy_kl
    rw [hc]
    refine jb_fapp _ c1 ?_ ?_ (fun u hu e => ?_) (fun u hu htu => ?_)
    · unfold jy_kp
      rw [c5]; rfl
    · unfold jy_kp
      have n63 : jm_I (jy_cm N w t o') 63 0 (t + 1) = jm_I N 63 0 (t + 1) := rfl
      rw [n64t, n63, c4, decide_eq_true rfl, decide_eq_true rfl]; rfl
    · unfold jy_kp
      have n63 : jm_I (jy_cm N w t o') 63 0 (u + 1) = jm_I N 63 0 (u + 1) := rfl
      rw [n64 u e, n63]
    · unfold jy_kp
      rw [decide_eq_false (fun z => absurd (c6 u hu z) (by omega)), Bool.and_false]
  have hfr : ∀ k' i' l, jx_L M k' i' l → (∀ q, jm_F M 16 w 0 = some q → jm_F M k' i' 0 = some q → q = (74, 0)) → ∀ q, jm_F M k' i' 0 = some q → jm_F (jm_rep (jx_c1 M w t) Q 16) 16 w 0 = some q → q = (74, 0) := by
    intro k' i' l hl hsep q e1 e2
    obtain ⟨-, ⟨a', b', x1, x2⟩, -⟩ := hA
    have e0 : q = (a', b') := Option.some.inj (e2.symm.trans x1)
    subst e0
    rcases x2 with x2 | ⟨x2, x3⟩
    · exact hsep _ x2 e1
    · obtain ⟨-, -, y3⟩ := hl
      rcases y3 with ⟨-, y4⟩ | ⟨a2', b2', y1, y2, y4, -⟩
      · exact Option.some.inj (e1.symm.trans y4)
      · have e4 := Option.some.inj (e1.symm.trans y4)
        cases e4
        rcases x2 with rfl | rfl
        · exact absurd x3 (Nat.not_le.mpr y2)
        · exact absurd x3 (Nat.not_le.mpr y2)
  have hst : ∀ k, k < 32 → ¬ jm_I (jy_cm N w t o') 68 0 (32 * (t + 1) + k) = nI 0 → ¬ jm_I N 51 0 (32 * w + k) = nI 0 ∧ ¬ jm_I N 55 0 (32 * w + k) = nI 0 := by
    intro k hk z
    rw [r68t k hk] at z
    have := hwt k hk z
    exact ⟨this, hall k hk this⟩
  refine ⟨hX, hY, ⟨fun v hv => (m11 v 0 (by omega)).trans (hN.1 v hv), hN.2⟩, hP, hS, hL, fun v hv => ?_, ⟨t1, t2, t3, t4, ?_, fun u hu => ?_⟩, ⟨fun v hv => ?_, fun v v' hv hv' hvv q q1 q2 => ?_, fun v hv q q1 q2 => ?_⟩, hE, b, b1, fun v hv hl => ?_, fun u k hu hk hl hz => ?_, fun v k hv hk hl => ?_, fun u v k hu hv hk huv hl hm h6 h7 => ?_, fun v u k hv hu hk hl h6 hm h7 => ?_, fun u v k hu hv hk huv h4 h5 => ?_⟩
  · by_cases e : v = w
    · subst e
      refine ⟨0, by decide, jb_Is (jm_setI M 25 t 4 (nI 2)) 11 v 6 (nI 0), n45w, ⟨o', o1, jb_Is N 61 0 v (nI o'), fun _ => (m11 v 12 (by omega)).trans o3⟩, fun _ => ⟨jb_Is N 46 0 v (nI 0), fun k hk z => ?_⟩, fun z => absurd rfl z⟩
      obtain ⟨z1, z2⟩ := (hk4 k hk).2.mp z
      refine hall k hk ?_ z2
      rcases d2 k hk with ⟨-, q2⟩ | ⟨q1, -⟩
      · exact absurd q2 z1
      · rw [q1]; decide
    · refine rW_cg (hW v hv) (Nat.le_refl _) (Nat.le_refl _) ⟨fun j => m11 v j (Or.inl e), rfl, fun K hK => ?_, fun r hr => ⟨rfl, rfl⟩, fun m j h1 h2 hj => ?_, fun n hn => rfl, fun k _ => rfl, fun k _ => rfl⟩ (fun u hu _ z _ => ?_) ⟨Nat.le_refl _, fun u hu z => ⟨hu, z⟩, fun j hj => Iff.rfl, fun k _ z => z, fun m hm z => ⟨m, Nat.le_refl _, hm, z⟩⟩
      · rcases hK with rfl | rfl | rfl | rfl | rfl | rfl | rfl | rfl | rfl
        · exact n45 v e
        · exact n46 v e
        · rfl
        · rfl
        · rfl
        · rfl
        · rfl
        · rfl
        · exact n61 v e
      · rcases (show m = 51 ∨ m = 52 ∨ m = 53 ∨ m = 54 ∨ m = 55 ∨ m = 56 by omega) with rfl | rfl | rfl | rfl | rfl | rfl
        all_goals rfl
      · have hut := jr_oth hR' hw hv e a3' hu z
        exact ⟨fun j _ => m25 u j (Or.inl hut), fun k _ => ⟨rfl, rfl⟩, rfl, n64 u hut⟩
  · exact jx_Lo (M := jx_c1 M w t) hA (jx_Lc (M := M) t5 rfl rfl ⟨⟨rfl, rfl⟩, ⟨rfl, rfl⟩, rfl, rfl⟩) (fun _ => rfl) (fun _ => rfl) (fun q e1 e2 => hG.2.2 w hw q e2 e1)
  · by_cases hut : u = t
    · subst hut
      obtain ⟨q1, q2, q3, q4, q5, q6, q7, q8, q9⟩ := t6 u hu
      refine ⟨(m25 u 0 (by omega)).trans q1, q2, q3, q4, q5, ⟨2, by decide, by decide, jb_Is M 25 u 4 (nI 2), n64t⟩, q7, fun z => ?_, fun z => ⟨⟨o', o1, (m25 u 6 (by omega)).trans o2, n65t⟩, ?_, fun k hk => ?_⟩⟩
      · rw [n64t] at z
        exact absurd z (by decide)
      · rw [n66t, m25 u 5 (by omega)]
        exact d7 (by decide)
      · unfold rWr
        rw [r68t k hk, r69t k hk, r70t k hk]
        rcases d2 k hk with ⟨z1, z2⟩ | ⟨z1, ⟨z2, z3⟩ | ⟨z2, z3, z4⟩, z5⟩
        · exact Or.inl ⟨by rw [z1]; exact jb_nb0, z2⟩
        · exact Or.inr ⟨by rw [z1]; exact jb_nb, Or.inl ⟨by rw [z2]; exact jb_nb0, z3⟩, z5⟩
        · exact Or.inr ⟨by rw [z1]; exact jb_nb, Or.inr ⟨by rw [z2]; exact jb_nb, z3, z4⟩, z5⟩
    · refine rTt_cg (t6 u hu) (Nat.le_refl _) ⟨fun j => m25 u j (Or.inl hut), fun j => rfl, rfl, rfl, fun k _ => ⟨rfl, rfl⟩, fun m _ _ => ?_, fun m k _ _ hk => ?_⟩ (fun v hv z1 z2 z3 => ?_)
      · rcases (show m = 63 ∨ m = 64 ∨ m = 65 ∨ m = 66 by omega) with rfl | rfl | rfl | rfl
        · rfl
        · exact n64 u hut
        · exact n65 u hut
        · exact n66 u hut
      · rcases (show m = 68 ∨ m = 69 ∨ m = 70 by omega) with rfl | rfl | rfl
        · exact r68 u k hut hk
        · exact r69 u k hut hk
        · exact r70 u k hut hk
      · have hvw : v ≠ w := by
          rintro rfl
          have hu' : u < jm_c M 25 := hu
          have := (nI_eq (by omega) (by omega)).mp (z3.symm.trans c3)
          exact hut (Nat.succ.inj this)
        exact ⟨v, hv, by rw [n45 v hvw]; exact z2, by rw [n46 v hvw]; exact z3⟩
  · by_cases e : v = w
    · subst e
      rw [hklw]
      refine ⟨hA.1, ?_⟩
      obtain ⟨-, n, y1, y2, y3⟩ := hG.1 v hv
      refine ⟨n, by rw [List.length_append]; omega, y2, fun j u hj => ?_⟩
      rcases jb_app hj with ⟨x1, x2⟩ | ⟨x1, x2⟩
      · have hmem := List.mem_of_getElem? x2
        unfold jy_kl at hmem
        rw [List.mem_filter] at hmem
        have hut : u ≠ t := by
          rintro rfl
          have := hmem.2
          unfold jy_kp at this
          rw [c5] at this
          simp only [nf_1_2, nf_1_3, decide_false, Bool.or_self, Bool.false_and, Bool.false_eq_true] at this
        rw [n67 u hut]
        exact y3 j u x2
      · subst x1 x2
        rw [n67t, if_neg (by omega)]
    · rw [hklo v e hv]
      obtain ⟨x1, n, y1, y2, y3⟩ := hG.1 v hv
      refine ⟨jx_Lo (M := jx_c1 M w t) hA (jx_Lc (M := M) x1 rfl rfl ⟨⟨rfl, rfl⟩, ⟨rfl, rfl⟩, rfl, rfl⟩) (hA.2.2.2.2.1 v e).1 (hA.2.2.2.2.1 v e).2 (fun q e1 e2 => hG.2.1 v w hv hw e q e1 e2), n, y1, y2, fun j u hj => ?_⟩
      have hmem := List.mem_of_getElem? hj
      unfold jy_kl at hmem
      rw [List.mem_filter] at hmem
      have hut : u ≠ t := by
        rintro rfl
        have := hmem.2
        unfold jy_kp at this
        rw [c5] at this
        simp only [nf_1_2, nf_1_3, decide_false, Bool.or_self, Bool.false_and, Bool.false_eq_true] at this
      rw [n67 u hut]
      exact y3 j u hj
  · by_cases e : v = w
    · subst e
      rw [(hA.2.2.2.2.1 v' (fun z => hvv z.symm)).2 0] at q2
      exact hfr 16 v' _ (hG.1 v' hv').1 (fun q p1 p2 => hG.2.1 v v' hv hv' hvv q p1 p2) q q2 q1
    · rw [(hA.2.2.2.2.1 v e).2 0] at q1
      by_cases e' : v' = w
      · subst e'
        exact hfr 16 v _ (hG.1 v hv).1 (fun q p1 p2 => hG.2.1 v' v hv' hv (fun z => hvv z.symm) q p1 p2) q q1 q2
      · rw [(hA.2.2.2.2.1 v' e').2 0] at q2
        exact hG.2.1 v v' hv hv' hvv q q1 q2
  · by_cases e : v = w
    · subst e
      exact hfr 4 0 _ t5 (fun q p1 p2 => hG.2.2 v hv q p1 p2) q q2 q1
    · rw [(hA.2.2.2.2.1 v e).2 0] at q1
      exact hG.2.2 v hv q q1 q2
  · have e := hs3 v hl
    rw [n45 v e] at hl
    exact b2 v hv hl
  · by_cases e : u = t
    · subst e
      obtain ⟨z1, z2⟩ := hst k hk hz
      obtain ⟨o2', x, u1, u2, u3, u4, u5, u6, -, u8⟩ := b4 w k hw hk a2 z1
      have : o2' = o' := (nI_eq u1 (by omega)).mp (u3.symm.trans ho)
      exact ⟨o', by omega, n65t, Or.inr ⟨u6, x, u2, u4, by have := u8 z2; omega⟩⟩
    · rw [r68 u k e hk] at hz
      rw [n65 u e]
      exact b3 u k hu hk (hlg u hl e) hz
  · have e := hs3 v (Or.inr hl)
    rw [n45 v e] at hl
    exact b4 v k hv hk hl
  · by_cases e : u = t
    · subst e
      obtain ⟨z1, z2⟩ := hst k hk h6
      have ev : v ≠ u := fun z => huv z.symm
      rw [r68 v k ev hk] at h7
      rw [n65t, n65 v ev]
      intro z
      exact b6 w v k hw hv hk a2 z2 (hlg v hm ev) h7 (z.symm.trans ho.symm)
    · by_cases e' : v = t
      · subst e'
        obtain ⟨z1, z2⟩ := hst k hk h7
        rw [r68 u k e hk] at h6
        rw [n65t, n65 u e]
        intro z
        exact b6 w u k hw hu hk a2 z2 (hlg u hl e) h6 (z.trans ho.symm)
      · rw [r68 u k e hk] at h6
        rw [r68 v k e' hk] at h7
        rw [n65 u e, n65 v e']
        exact b5 u v k hu hv hk huv (hlg u hl e) (hlg v hm e') h6 h7
  · have ev := hs3 v (Or.inr hl)
    rw [n45 v ev] at hl
    by_cases e : u = t
    · subst e
      obtain ⟨z1, z2⟩ := hst k hk h7
      rw [n65t]
      intro z
      exact b7 w v k hw hv hk (fun q => ev q.symm) a2 hl z2 h6 (ho.trans z)
    · rw [r68 u k e hk] at h7
      rw [n65 u e]
      exact b6 v u k hv hu hk hl h6 (hlg u hm e) h7
  · have e := hs3 v (Or.inr h5)
    have e' := hs3 u (Or.inr h4)
    rw [n45 v e] at h5
    rw [n45 u e'] at h4
    exact b7 u v k hu hv hk huv h4 h5
