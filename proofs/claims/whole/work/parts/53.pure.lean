/-! The relation after a run has ended in vain. -/
theorem jr_cur {E C w t s : Nat} {M N : jm_M} (h : jr_R E C M N) (hw : w < 4) (hs : jm_I N 45 0 w = nI s) (hs4 : s ≤ 4) (hs0 : s ≠ 0) (hc : jm_I N 46 0 w = nI (t + 1)) (ht : t < 2 ^ 30) : rRun E C M N w s t := by
  obtain ⟨s', p1, p2, p3, -, -, p6⟩ := h.2.2.2.2.2.2.1 w hw
  have es : s' = s := (nI_eq (by omega) (by omega)).mp (p3.symm.trans hs)
  subst es
  obtain ⟨t', r⟩ := p6 hs0
  have := h.2.2.2.2.2.2.2.1.1
  have et : t' = t := by
    have := (nI_eq (by have := r.1; omega) (by omega)).mp (r.2.2.1.symm.trans hc)
    omega
  subst et
  exact r
theorem jr_oth {E C w v t s : Nat} {M N : jm_M} (h : jr_R E C M N) (hw : w < 4) (hv : v < 4) (hvw : v ≠ w) (hr : rRun E C M N w s t) {u : Nat} (hu : u < jm_c M 25) (h63 : jm_I N 63 0 (u + 1) = nI v) : u ≠ t := by
  rintro rfl
  exact hvw ((nI_eq (by omega) (by omega)).mp (h63.symm.trans hr.2.2.2.1))
theorem jr_abort {E C w s t : Nat} {M N : jm_M} (h : jr_R E C M N) (hw : w < 4) (hs : jm_I N 45 0 w = nI s) (hs4 : s ≤ 3) (hs0 : s ≠ 0) (hr : rRun E C M N w s t) : jr_R E C (jx_ab M w t) (jy_ab N w t) := by
  have h' := h
  obtain ⟨hX, hY, hN, hP, hS, hL, hW, ⟨t1, t2, t3, t4, t5, t6⟩, hG, hE, b, b1, b2, b3, b4, b5, b6, b7⟩ := h
  obtain ⟨r1, r2, r3, r4, r5, r6⟩ := hr
  have htc : t < 100 := Nat.lt_of_lt_of_le r1 t1
  have m22 : ∀ k, k < 32 → jm_I (jx_ab M w t) 22 0 k = if jm_I M 22 0 k = nI (w + 1) then nI 0 else jm_I M 22 0 k := by
    intro k hk
    refine (jk_I M 22 (jx_ul M w 0) 0 k).trans ?_
    unfold jx_ul
    by_cases e : jm_I M 22 0 k = nI (w + 1)
    · rw [if_pos ⟨rfl, Nat.zero_le _, hk, e⟩, if_pos e]
    · rw [if_neg (fun z => e z.2.2.2), if_neg e]
  have n41 : ∀ k, k < 32 → ¬ jm_I N 37 0 k = nI 0 → jm_I (jy_ab N w t) 41 0 k = if jm_I N 41 0 k = nI (w + 1) then nI 0 else jm_I N 41 0 k := by
    intro k hk h7
    refine (jk_I N 41 (jy_ul N w) 0 k).trans ?_
    unfold jy_ul
    by_cases e : jm_I N 41 0 k = nI (w + 1)
    · rw [if_pos ⟨rfl, Nat.zero_le _, hk, h7, e⟩, if_pos e]
    · rw [if_neg (fun z => e z.2.2.2.2), if_neg e]
  have n45 : ∀ v, v ≠ w → jm_I (jy_ab N w t) 45 0 v = jm_I N 45 0 v := fun v hv => jb_Io hv N 45 0 (nI 0) 45 0
  have n45w : jm_I (jy_ab N w t) 45 0 w = nI 0 := jb_Is N 45 0 w (nI 0)
  have n46 : ∀ v, v ≠ w → jm_I (jy_ab N w t) 46 0 v = jm_I N 46 0 v := fun v hv => jb_Io hv N 46 0 (nI 0) 46 0
  have n64 : ∀ u, u ≠ t → jm_I (jy_ab N w t) 64 0 (u + 1) = jm_I N 64 0 (u + 1) := fun u hu => jb_Io (show u + 1 ≠ t + 1 by omega) N 64 0 (nI 4) 64 0
  have n64t : jm_I (jy_ab N w t) 64 0 (t + 1) = nI 4 := jb_Is N 64 0 (t + 1) (nI 4)
  have hlg : ∀ u, jy_lg (jy_ab N w t) u ↔ jy_lg N u := by
    intro u
    unfold jy_lg
    by_cases e : u = t
    · subst e
      rw [n64t, r5]
      decide
    · rw [n64 u e]
  have hkl : ∀ v, jy_kl (jx_ab M w t) (jy_ab N w t) v = jy_kl M N v := by
    intro v
    have hc : jm_c (jx_ab M w t) 25 = jm_c M 25 := rfl
    unfold jy_kl
    rw [hc]
    congr 1
    funext u
    unfold jy_kp
    have n63 : jm_I (jy_ab N w t) 63 0 (u + 1) = jm_I N 63 0 (u + 1) := rfl
    rw [n63]
    by_cases e : u = t
    · subst e
      rw [n64t, r5]
      rfl
    · rw [n64 u e]
  have hs3 : ∀ v, jm_I (jy_ab N w t) 45 0 v = nI 3 ∨ jm_I (jy_ab N w t) 45 0 v = nI 4 → v ≠ w := by
    rintro v hv rfl
    rw [n45w] at hv
    rcases hv with hv | hv
    · exact absurd hv (by decide)
    · exact absurd hv (by decide)
  have m25 : ∀ u j, u ≠ t ∨ j ≠ 4 → jm_I (jx_ab M w t) 25 u j = jm_I M 25 u j := by
    intro u j hu
    rcases hu with hu | hu
    · exact jb_Ij hu M 25 4 (nI 4) 25 j
    · exact jb_Io hu M 25 t (nI 4) 25 u
  have m11 : ∀ v j, v ≠ w ∨ j ≠ 6 → jm_I (jx_ab M w t) 11 v j = jm_I M 11 v j := by
    intro v j hv
    rcases hv with hv | hv
    · exact jb_Ij hv M 11 6 (nI 0) 11 j
    · exact jb_Io hv M 11 w (nI 0) 11 v
  refine ⟨hX, hY, ⟨fun v hv => (m11 v 0 (by omega)).trans (hN.1 v hv), hN.2⟩, hP, fun k hk => ?_, hL, fun v hv => ?_, ⟨t1, t2, t3, t4, t5, fun u hu => ?_⟩, ⟨fun v hv => ?_, hG.2⟩, hE, b, b1, fun v hv hl => ?_, fun u k hu hk hl => b3 u k hu hk ((hlg u).mp hl), fun v k hv hk hl => ?_, fun u v k hu hv hk huv hl hm => b5 u v k hu hv hk huv ((hlg u).mp hl) ((hlg v).mp hm), fun v u k hv hu hk hl h6 hm => ?_, fun u v k hu hv hk huv h4 h5 => ?_⟩
  · have hS := hS k hk
    unfold rSk at hS ⊢
    rw [m22 k hk]
    rcases hS with ⟨s1, s2, s3, s4, s5⟩ | ⟨s1, s2, s3, s4, ⟨l, s5, s6, s7⟩⟩
    · refine Or.inl ⟨s1, s2, s3, s4, ?_⟩
      rw [s5, if_neg (fun e => absurd ((nI_eq (by decide) (by omega)).mp e) (by omega))]
    · refine Or.inr ⟨s1, s2, s3, s4, ?_⟩
      rw [n41 k hk (by rw [s1]; decide), s6, s7]
      by_cases e : nI l = nI (w + 1)
      · rw [if_pos e]
        exact ⟨0, by decide, rfl, rfl⟩
      · rw [if_neg e]
        exact ⟨l, s5, rfl, rfl⟩
  · by_cases e : v = w
    · subst e
      obtain ⟨s', p1, p2, p3, ⟨x, p4, p5, p6⟩, p7, p8⟩ := hW v hv
      have es : s' = s := (nI_eq (by omega) (by omega)).mp (p3.symm.trans hs)
      subst es
      refine ⟨0, by decide, jb_Is _ _ _ _ _, n45w, ?_, fun _ => ⟨jb_Is _ _ _ _ _, fun k hk => ?_⟩, fun z => absurd rfl z⟩
      · exact ⟨x, p4, p5, fun _ => (m11 v 12 (by omega)).trans (p6 (by omega))⟩
      · rw [m22 k hk]
        by_cases e : jm_I M 22 0 k = nI (v + 1)
        · rw [if_pos e]
          exact fun z => absurd ((nI_eq (by decide) (by omega)).mp z) (by omega)
        · rw [if_neg e]
          exact e
    · refine rW_cg (hW v hv) (Nat.le_refl _) (Nat.le_refl _) ⟨fun j => m11 v j (Or.inl e), rfl, fun k hk => ?_, fun r hr => ⟨rfl, rfl⟩, fun m k _ _ _ => ?_, fun n hn => rfl, fun k _ => rfl, fun k _ => rfl⟩ (fun u hu _ z _ => ?_) ⟨Nat.le_refl _, fun u hu z => ⟨hu, z⟩, fun k hk => ?_, fun k _ z => z, fun m hm z => ⟨m, Nat.le_refl _, hm, z⟩⟩
      · rcases hk with rfl | rfl | rfl | rfl | rfl | rfl | rfl | rfl | rfl
        · exact n45 v e
        · exact n46 v e
        all_goals rfl
      · rcases (show m = 51 ∨ m = 52 ∨ m = 53 ∨ m = 54 ∨ m = 55 ∨ m = 56 by omega) with rfl | rfl | rfl | rfl | rfl | rfl
        all_goals rfl
      · have hut := jr_oth h' hw hv e ⟨r1, r2, r3, r4, r5, r6⟩ hu z
        exact ⟨fun j _ => m25 u j (Or.inl hut), fun k _ => ⟨rfl, rfl⟩, rfl, n64 u hut⟩
      · rw [m22 k hk]
        by_cases e2 : jm_I M 22 0 k = nI (w + 1)
        · rw [if_pos e2, e2]
          exact ⟨fun z => absurd ((nI_eq (by decide) (by omega)).mp z) (by omega), fun z => absurd ((nI_eq (by omega) (by omega)).mp z) (by omega)⟩
        · rw [if_neg e2]
  · by_cases hut : u = t
    · subst hut
      obtain ⟨q1, q2, q3, q4, q5, q6, q7, q8, q9⟩ := t6 u hu
      refine ⟨(m25 u 0 (by omega)).trans q1, q2, q3, q4, q5, ⟨4, by decide, by decide, jb_Is M 25 u 4 (nI 4), n64t⟩, q7, fun z => ?_, fun z => ?_⟩
      · rw [n64t] at z
        exact absurd z (by decide)
      · unfold jy_lg at z
        rw [n64t] at z
        exact absurd z (by decide)
    · refine rTt_cg (t6 u hu) (Nat.le_refl _) ⟨fun j => m25 u j (Or.inl hut), fun j => rfl, rfl, rfl, fun k _ => ⟨rfl, rfl⟩, fun m _ _ => ?_, fun m k _ _ _ => ?_⟩ (fun v hv z1 z2 z3 => ?_)
      · rcases (show m = 63 ∨ m = 64 ∨ m = 65 ∨ m = 66 by omega) with rfl | rfl | rfl | rfl
        · rfl
        · exact n64 u hut
        · rfl
        · rfl
      · rcases (show m = 68 ∨ m = 69 ∨ m = 70 by omega) with rfl | rfl | rfl
        all_goals rfl
      · have hvw : v ≠ w := by
          rintro rfl
          have hu' : u < jm_c M 25 := hu
          have := (nI_eq (by omega) (by omega)).mp (z3.symm.trans r3)
          exact hut (Nat.succ.inj this)
        exact ⟨v, hv, by rw [n45 v hvw]; exact z2, by rw [n46 v hvw]; exact z3⟩
  · rw [hkl v]
    obtain ⟨x1, x2⟩ := hG.1 v hv
    exact ⟨x1, x2⟩
  · have e := hs3 v hl
    rw [n45 v e] at hl
    exact b2 v hv hl
  · have e := hs3 v (Or.inr hl)
    rw [n45 v e] at hl
    exact b4 v k hv hk hl
  · have e := hs3 v (Or.inr hl)
    rw [n45 v e] at hl
    exact b6 v u k hv hu hk hl h6 ((hlg u).mp hm)
  · have e := hs3 v (Or.inr h5)
    have e' := hs3 u (Or.inr h4)
    rw [n45 v e] at h5
    rw [n45 u e'] at h4
    exact b7 u v k hu hv hk huv h4 h5
