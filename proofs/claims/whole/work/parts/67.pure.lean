/-! A write put in. -/
def jx_in (M : jm_M) (k q : Nat) (v o : Int32) : jm_M := jm_setI (jm_setI (jm_setI (jm_setI M 19 0 k (nI q)) 20 0 k v) 21 0 k o) 22 0 k (nI 0)
def jy_in (N : jm_M) (w k q : Nat) (v o : Int32) : jm_M := jm_setI (jm_setI (jm_setI (jm_setI (jm_setI N 38 0 k (nI q)) 39 0 k v) 40 0 k o) 41 0 k (nI 0)) 55 0 (32 * w + k) (nI 1)
theorem jr_inst {E C w t k q o : Nat} {v : Int32} {M N : jm_M} (h : jr_V E C M N w 4 t) (hC : C < 2 ^ 31) (hw : w < 4) (hk : k < 32) (h22 : jm_I M 22 0 k = nI (w + 1)) (h51 : ¬ jm_I N 51 0 (32 * w + k) = nI 0) (h55 : jm_I N 55 0 (32 * w + k) = nI 0) (ho : jm_I N 60 0 w = nI o) (ho2 : o ≤ C) (hq : q = 1 ∨ (q = 0 ∧ v = nI 0)) : jr_R E C (jx_in M k (q + 1) v (nI o)) (jy_in N w k q v (nI o)) := by
  obtain ⟨⟨hX, hY, hN, hP, hS, hL, hW, hT, hG, hE, b, b1, b2, b3, b4, b5, b6, b7⟩, a1, a2, a3⟩ := h
  obtain ⟨o', x, u1, u2, u3, u4, u5, u6, u7, -⟩ := b4 w k hw hk a2 h51
  have eo : o' = o := (nI_eq u1 (by omega)).mp (u3.symm.trans ho)
  subst eo
  have hxo := u7 h55
  have n40 : ∀ j, j ≠ k → jm_I (jy_in N w k q v (nI o')) 40 0 j = jm_I N 40 0 j := fun j hj => jb_Io hj N 40 0 (nI o') 40 0
  have n40k : jm_I (jy_in N w k q v (nI o')) 40 0 k = nI o' := jb_Is N 40 0 k (nI o')
  have n55 : ∀ z, z ≠ 32 * w + k → jm_I (jy_in N w k q v (nI o')) 55 0 z = jm_I N 55 0 z := fun z hz => jb_Io hz _ _ _ _ _ _
  have n55k : jm_I (jy_in N w k q v (nI o')) 55 0 (32 * w + k) = nI 1 := jb_Is _ _ _ _ _
  have m22 : ∀ j, j ≠ k → jm_I (jx_in M k (q + 1) v (nI o')) 22 0 j = jm_I M 22 0 j := fun j hj => jb_Io hj _ _ _ _ _ _
  have m22k : jm_I (jx_in M k (q + 1) v (nI o')) 22 0 k = nI 0 := jb_Is _ _ _ _ _
  have nz : ∀ v, v < 4 → ¬ nI 0 = nI (v + 1) := fun v hv e => absurd ((nI_eq (by decide) (by omega)).mp e) (by omega)
  have hlog : ∀ u, u < jm_c M 25 → jy_lg N u → ¬ jm_I N 68 0 (32 * (u + 1) + k) = nI 0 → ∃ s, s < 2 ^ 31 ∧ jm_I N 65 0 (u + 1) = nI s ∧ s < o' := by
    intro u hu hl hz
    obtain ⟨s, s1, s2, s3⟩ := b3 u k hu hk hl hz
    refine ⟨s, s1, s2, ?_⟩
    rcases s3 with s3 | ⟨-, y, y1, y2, y3⟩
    · omega
    · have : y = x := (nI_eq y1 u2).mp (y2.symm.trans u4)
      omega
  have hoth : ∀ v, v < 4 → v ≠ w → jm_I N 45 0 v = nI 4 → ¬ jm_I N 51 0 (32 * v + k) = nI 0 → ∃ o x', o < 2 ^ 31 ∧ jm_I N 60 0 v = nI o ∧ 1024 * b ≤ o ∧ x' = x ∧ ¬ jm_I N 55 0 (32 * v + k) = nI 0 ∧ o ≤ x := by
    intro v hv hvw h4 hz
    obtain ⟨o, y, z1, z2, z3, z4, z5, z6, z7, z8⟩ := b4 v k hv hk h4 hz
    have ey : y = x := (nI_eq z2 u2).mp (z4.symm.trans u4)
    have hn : ¬ jm_I N 55 0 (32 * v + k) = nI 0 := by
      intro h0
      obtain ⟨s, p1, p2, p3, -, -, p6⟩ := hW v hv
      have es : s = 4 := (nI_eq (by omega) (by decide)).mp (p3.symm.trans h4)
      subst es
      obtain ⟨t', r⟩ := p6 (by decide)
      have hwv := r.2.2.2.2.2.2.2.2.2.2.1 k hk
      have h26 : ¬ jm_I M 26 (t' + 4) k = nI 0 := by
        rcases hwv with ⟨q1, -⟩ | ⟨-, ⟨-, q2⟩ | ⟨-, q2, -⟩, -⟩
        · exact absurd q1 hz
        · rw [q2]; decide
        · rw [q2]; decide
      have := ((r.2.2.2.2.2.2.2.2.2.2.2.2.2.2.2.2.2.2.2.2 rfl).2 k hk).2.mpr ⟨h26, h0⟩
      exact hvw ((Nat.succ.inj ((nI_eq (by omega) (by omega)).mp (this.symm.trans h22))))
    exact ⟨o, y, z1, z3, z5, ey, hn, by have := z8 hn; omega⟩
  have hthere : ¬ jm_I N 37 0 k = nI 0 := u6
  have hneq : ∀ v, v < 4 → v ≠ w → jm_I N 45 0 v = nI 4 → ¬ jm_I N 55 0 (32 * v + k) = nI 0 → ¬ jm_I N 60 0 v = nI o' := by
    intro v hv hvw h4 h5 z
    have h51v : ¬ jm_I N 51 0 (32 * v + k) = nI 0 := by
      obtain ⟨s, p1, p2, p3, -, -, p6⟩ := hW v hv
      have es : s = 4 := (nI_eq (by omega) (by decide)).mp (p3.symm.trans h4)
      subst es
      obtain ⟨t', r⟩ := p6 (by decide)
      have hwv := r.2.2.2.2.2.2.2.2.2.2.1 k hk
      have h26 := (((r.2.2.2.2.2.2.2.2.2.2.2.2.2.2.2.2.2.2.2.2 rfl).2 k hk).1.resolve_left h5).2
      rcases hwv with ⟨-, q2⟩ | ⟨q1, -⟩
      · exact absurd q2 h26
      · rw [q1]; decide
    obtain ⟨o, y, z1, z2, z3, z4, z5, z6⟩ := hoth v hv hvw h4 h51v
    have := (nI_eq z1 u1).mp (z2.symm.trans z)
    omega
  refine ⟨hX, hY, hN, hP, fun j hj => ?_, hL, fun v hv => ?_, hT, hG, hE, b, b1, b2, fun u j hu hj hl hz => ?_, fun v j hv hj h4 hz => ?_, b5, fun v u j hv hu hj h4 h5 hl hz => ?_, fun u v j hu hv hj huv h4 h5 h6 h7 => ?_⟩
  · by_cases e : j = k
    · subst e
      refine Or.inr ⟨?_, ?_, ?_, ⟨o', ho2, jb_Is M 21 0 j (nI o'), n40k⟩, ⟨0, by decide, m22k, jb_Is N 41 0 j (nI 0)⟩⟩
      · rcases hS j hj with ⟨s1, -⟩ | ⟨s1, -⟩
        · exact absurd s1 hthere
        · exact s1
      · have e38 : jm_I (jy_in N w j q v (nI o')) 38 0 j = nI q := jb_Is N 38 0 j (nI q)
        have e39 : jm_I (jy_in N w j q v (nI o')) 39 0 j = v := jb_Is N 39 0 j v
        have e19 : jm_I (jx_in M j (q + 1) v (nI o')) 19 0 j = nI (q + 1) := jb_Is M 19 0 j (nI (q + 1))
        rw [e38, e39, e19]
        rcases hq with rfl | ⟨rfl, rfl⟩
        · exact Or.inl ⟨rfl, rfl⟩
        · exact Or.inr ⟨rfl, rfl, rfl⟩
      · exact (jb_Is M 20 0 j v).trans (jb_Is N 39 0 j v).symm
    · have e19 : jm_I (jx_in M k (q + 1) v (nI o')) 19 0 j = jm_I M 19 0 j := jb_Io e M 19 0 (nI (q + 1)) 19 0
      have e20 : jm_I (jx_in M k (q + 1) v (nI o')) 20 0 j = jm_I M 20 0 j := jb_Io e M 20 0 v 20 0
      have e21 : jm_I (jx_in M k (q + 1) v (nI o')) 21 0 j = jm_I M 21 0 j := jb_Io e M 21 0 (nI o') 21 0
      have e37 : jm_I (jy_in N w k q v (nI o')) 37 0 j = jm_I N 37 0 j := rfl
      have e38 : jm_I (jy_in N w k q v (nI o')) 38 0 j = jm_I N 38 0 j := jb_Io e N 38 0 (nI q) 38 0
      have e39 : jm_I (jy_in N w k q v (nI o')) 39 0 j = jm_I N 39 0 j := jb_Io e N 39 0 v 39 0
      have e41 : jm_I (jy_in N w k q v (nI o')) 41 0 j = jm_I N 41 0 j := jb_Io e N 41 0 (nI 0) 41 0
      have hS := hS j hj
      unfold rSk at hS ⊢
      rw [e19, e20, e21, m22 j e, e37, e38, e39, n40 j e, e41]
      exact hS
  · by_cases e : v = w
    · subst e
      obtain ⟨s, p1, p2, p3, p4, p5, p6⟩ := hW v hv
      have es : s = 4 := (nI_eq (by omega) (by decide)).mp (p3.symm.trans a2)
      subst es
      refine ⟨4, by decide, p2, p3, p4, fun z => absurd z (by decide), fun _ => ⟨t, ?_⟩⟩
      obtain ⟨c1, c2, c3, c4, c5, c6, c7, c8, c9, d1, d2, d3, d4, d5, d6, d7, d8, d9, f1, f2, f3⟩ := a3
      refine ⟨c1, c2, c3, c4, c5, c6, c7, c8, c9, d1, d2, d3, d4, d5, fun z => absurd z (by decide), d7, fun z => absurd z (by decide), d9, fun z => absurd z (by decide), fun z => absurd z (by decide), fun _ => ⟨(f3 rfl).1, fun j hj => ?_⟩⟩
      by_cases e : j = k
      · subst e
        rw [n55k, m22k]
        exact ⟨Or.inr ⟨rfl, (((f3 rfl).2 j hj).2.mp h22).1⟩, fun z => absurd z (nz v hv), fun z => absurd z.2 (by decide)⟩
      · rw [n55 _ (by omega), m22 j e]
        exact (f3 rfl).2 j hj
    · refine rW_cg (hW v hv) (Nat.le_refl _) (Nat.le_refl _) ⟨fun j => rfl, rfl, fun K hK => ?_, fun r hr => ⟨rfl, rfl⟩, fun m j h1 h2 hj => ?_, fun n hn => rfl, fun k _ => rfl, fun k _ => rfl⟩ (fun u hu _ _ _ => ⟨fun j _ => rfl, fun k _ => ⟨rfl, rfl⟩, rfl, rfl⟩) ⟨Nat.le_refl _, fun u hu z => ⟨hu, z⟩, fun j hj => ?_, fun k _ z => z, fun m hm z => ⟨m, Nat.le_refl _, hm, z⟩⟩
      · rcases hK with rfl | rfl | rfl | rfl | rfl | rfl | rfl | rfl | rfl
        all_goals rfl
      · rcases (show m = 51 ∨ m = 52 ∨ m = 53 ∨ m = 54 ∨ m = 55 ∨ m = 56 by omega) with rfl | rfl | rfl | rfl | rfl | rfl
        · rfl
        · rfl
        · rfl
        · rfl
        · exact n55 _ (by omega)
        · rfl
      · by_cases e2 : j = k
        · subst e2
          rw [m22k, h22]
          exact ⟨fun z => absurd z (nz v hv), fun z => absurd ((nI_eq (by omega) (by omega)).mp z) (by omega)⟩
        · rw [m22 j e2]
  · by_cases e : j = k
    · subst e
      obtain ⟨s, s1, s2, s3⟩ := hlog u hu hl hz
      exact ⟨s, s1, s2, Or.inr ⟨hthere, o', u1, n40k, by omega⟩⟩
    · rw [n40 j e]
      exact b3 u j hu hj hl hz
  · by_cases e : j = k
    · subst e
      by_cases ev : v = w
      · subst ev
        exact ⟨o', o', u1, u1, u3, n40k, u5, hthere, fun z => absurd (n55k.symm.trans z) (by decide), fun _ => Nat.le_refl _⟩
      · obtain ⟨o, y, z1, z2, z3, z4, z5, z6⟩ := hoth v hv ev h4 hz
        refine ⟨o, o', z1, u1, z2, n40k, z3, hthere, fun z => ?_, fun _ => by omega⟩
        rw [n55 _ (by omega)] at z
        exact absurd z z5
    · rw [n40 j e, n55 _ (by omega)]
      exact b4 v j hv hj h4 hz
  · by_cases e : v = w ∧ j = k
    · obtain ⟨rfl, rfl⟩ := e
      obtain ⟨s, s1, s2, s3⟩ := hlog u hu hl hz
      intro z
      have := (nI_eq s1 u1).mp (s2.symm.trans (z.trans u3))
      omega
    · rw [n55 _ (by omega)] at h5
      exact b6 v u j hv hu hj h4 h5 hl hz
  · by_cases e : j = k
    · subst e
      by_cases eu : u = w
      · subst eu
        rw [n55 _ (by omega)] at h7
        intro z
        exact hneq v hv (fun q => huv q.symm) h5 h7 (z.symm.trans u3)
      · rw [n55 _ (by omega)] at h6
        by_cases ev : v = w
        · subst ev
          intro z
          exact hneq u hu eu h4 h6 (z.trans u3)
        · rw [n55 _ (by omega)] at h7
          exact b7 u v j hu hv hj huv h4 h5 h6 h7
    · rw [n55 _ (by omega)] at h6
      rw [n55 _ (by omega)] at h7
      exact b7 u v j hu hv hj huv h4 h5 h6 h7
