/-! Changes of one worker's own cells. -/
def jq_O (M N M' N' : jm_M) (w t : Nat) : Prop :=
  (jm_F M' = jm_F M ∧ jm_n M' = jm_n M ∧ jm_c M' = jm_c M) ∧ (jm_F N' = jm_F N ∧ jm_n N' = jm_n N) ∧
  (∀ k i j, k < 11 ∨ (14 < k ∧ k < 25) ∨ 27 < k → jm_I M' k i j = jm_I M k i j) ∧
  (∀ k v j, 11 ≤ k → k ≤ 14 → v ≠ w → jm_I M' k v j = jm_I M k v j) ∧ jm_I M' 11 w 0 = jm_I M 11 w 0 ∧
  (∀ u j, u ≠ t ∨ (j ≠ 3 ∧ j ≠ 5 ∧ j ≠ 6) → jm_I M' 25 u j = jm_I M 25 u j) ∧
  (∀ k i j, k = 26 ∨ k = 27 → i ≠ t + 4 → jm_I M' k i j = jm_I M k i j) ∧
  (∀ k i j, k < 45 ∨ 61 < k → jm_I N' k i j = jm_I N k i j) ∧
  (∀ k v, (45 ≤ k ∧ k ≤ 49) ∨ (58 ≤ k ∧ k ≤ 61) → v ≠ w → jm_I N' k 0 v = jm_I N k 0 v) ∧
  (∀ v r, v ≠ w → r < 8 → jm_I N' 50 0 (8 * v + r) = jm_I N 50 0 (8 * v + r)) ∧
  (∀ m v k, 51 ≤ m → m ≤ 56 → v ≠ w → k < 32 → jm_I N' m 0 (32 * v + k) = jm_I N m 0 (32 * v + k)) ∧
  (∀ v n, v ≠ w → n < 40 → jm_I N' 57 0 (40 * v + n) = jm_I N 57 0 (40 * v + n)) ∧ jm_I N' 46 0 w = jm_I N 46 0 w
theorem jo_r (M N : jm_M) (w t : Nat) : jq_O M N M N w t := ⟨⟨rfl, rfl, rfl⟩, ⟨rfl, rfl⟩, fun _ _ _ _ => rfl, fun _ _ _ _ _ _ => rfl, rfl, fun _ _ _ => rfl, fun _ _ _ _ _ => rfl, fun _ _ _ _ => rfl, fun _ _ _ _ => rfl, fun _ _ _ _ => rfl, fun _ _ _ _ _ _ _ => rfl, fun _ _ _ _ => rfl, rfl⟩
theorem jo_M {M N M' N' : jm_M} {w t : Nat} (h : jq_O M N M' N' w t) {k : Nat} (h1 : 11 ≤ k) (h2 : k ≤ 14) {j : Nat} (h3 : k = 11 → j ≠ 0) (x : Int32) : jq_O M N (jm_setI M' k w j x) N' w t := by
  obtain ⟨a1, a2, a3, a4, a5, a6, a7, a8⟩ := h
  refine ⟨a1, a2, fun k' i' j' hk => (jb_Iz (by omega) _ _ _ _ _ _).trans (a3 k' i' j' hk), fun k' v j' p1 p2 p3 => (jb_Ij p3 _ _ _ _ _ _).trans (a4 k' v j' p1 p2 p3), ?_, fun u j' hu => (jb_Iz (by omega) _ _ _ _ _ _).trans (a6 u j' hu), fun k' i' j' p1 p2 => (jb_Iz (by omega) _ _ _ _ _ _).trans (a7 k' i' j' p1 p2), a8⟩
  by_cases hk : k = 11
  · exact (jb_Io (fun e => h3 hk e.symm) _ _ _ _ _ _).trans a5
  · exact (jb_Iz (fun e => hk e.symm) _ _ _ _ _ _).trans a5
theorem jo_25 {M N M' N' : jm_M} {w t : Nat} (h : jq_O M N M' N' w t) {j : Nat} (h3 : j = 3 ∨ j = 5 ∨ j = 6) (x : Int32) : jq_O M N (jm_setI M' 25 t j x) N' w t := by
  obtain ⟨a1, a2, a3, a4, a5, a6, a7, a8⟩ := h
  refine ⟨a1, a2, fun k' i' j' hk => (jb_Iz (by omega) _ _ _ _ _ _).trans (a3 k' i' j' hk), fun k' v j' p1 p2 p3 => (jb_Iz (by omega) _ _ _ _ _ _).trans (a4 k' v j' p1 p2 p3), a5, fun u j' hu => ?_, fun k' i' j' p1 p2 => (jb_Iz (by omega) _ _ _ _ _ _).trans (a7 k' i' j' p1 p2), a8⟩
  rcases hu with hu | hu
  · exact (jb_Ij hu _ _ _ _ _ _).trans (a6 u j' (Or.inl hu))
  · exact (jb_Io (by omega) _ _ _ _ _ _).trans (a6 u j' (Or.inr hu))
theorem jo_26 {M N M' N' : jm_M} {w t : Nat} (h : jq_O M N M' N' w t) {k : Nat} (h1 : k = 26 ∨ k = 27) (j : Nat) (x : Int32) : jq_O M N (jm_setI M' k (t + 4) j x) N' w t := by
  obtain ⟨a1, a2, a3, a4, a5, a6, a7, a8⟩ := h
  exact ⟨a1, a2, fun k' i' j' hk => (jb_Iz (by omega) _ _ _ _ _ _).trans (a3 k' i' j' hk), fun k' v j' p1 p2 p3 => (jb_Iz (by omega) _ _ _ _ _ _).trans (a4 k' v j' p1 p2 p3), (jb_Iz (by omega) _ _ _ _ _ _).trans a5, fun u j' hu => (jb_Iz (by omega) _ _ _ _ _ _).trans (a6 u j' hu), fun k' i' j' p1 p2 => (jb_Ij p2 _ _ _ _ _ _).trans (a7 k' i' j' p1 p2), a8⟩
theorem jo_N {M N M' N' : jm_M} {w t : Nat} (h : jq_O M N M' N' w t) {k : Nat} (h1 : (45 ≤ k ∧ k ≤ 49) ∨ (58 ≤ k ∧ k ≤ 61)) (h2 : k ≠ 46) (x : Int32) : jq_O M N M' (jm_setI N' k 0 w x) w t := by
  obtain ⟨a1, a2, a3, a4, a5, a6, a7, a8, a9, b1, b2, b3, b4⟩ := h
  exact ⟨a1, a2, a3, a4, a5, a6, a7, fun k' i' j' hk => (jb_Iz (by omega) _ _ _ _ _ _).trans (a8 k' i' j' hk), fun k' v p1 p2 => (jb_Io p2 _ _ _ _ _ _).trans (a9 k' v p1 p2), fun v r p1 p2 => (jb_Iz (by omega) _ _ _ _ _ _).trans (b1 v r p1 p2), fun m v k' p1 p2 p3 p4 => (jb_Iz (by omega) _ _ _ _ _ _).trans (b2 m v k' p1 p2 p3 p4), fun v n p1 p2 => (jb_Iz (by omega) _ _ _ _ _ _).trans (b3 v n p1 p2), (jb_Iz (fun e => h2 e.symm) _ _ _ _ _ _).trans b4⟩
theorem jo_50 {M N M' N' : jm_M} {w t : Nat} (h : jq_O M N M' N' w t) {r : Nat} (hr : r < 8) (x : Int32) : jq_O M N M' (jm_setI N' 50 0 (8 * w + r) x) w t := by
  obtain ⟨a1, a2, a3, a4, a5, a6, a7, a8, a9, b1, b2, b3, b4⟩ := h
  exact ⟨a1, a2, a3, a4, a5, a6, a7, fun k' i' j' hk => (jb_Iz (by omega) _ _ _ _ _ _).trans (a8 k' i' j' hk), fun k' v p1 p2 => (jb_Iz (by omega) _ _ _ _ _ _).trans (a9 k' v p1 p2), fun v r p1 p2 => (jb_Io (by omega) _ _ _ _ _ _).trans (b1 v r p1 p2), fun m v k' p1 p2 p3 p4 => (jb_Iz (by omega) _ _ _ _ _ _).trans (b2 m v k' p1 p2 p3 p4), b3, b4⟩
theorem jo_51 {M N M' N' : jm_M} {w t : Nat} (h : jq_O M N M' N' w t) {m k : Nat} (h1 : 51 ≤ m) (h2 : m ≤ 56) (hk : k < 32) (x : Int32) : jq_O M N M' (jm_setI N' m 0 (32 * w + k) x) w t := by
  obtain ⟨a1, a2, a3, a4, a5, a6, a7, a8, a9, b1, b2, b3, b4⟩ := h
  exact ⟨a1, a2, a3, a4, a5, a6, a7, fun k' i' j' hk => (jb_Iz (by omega) _ _ _ _ _ _).trans (a8 k' i' j' hk), fun k' v p1 p2 => (jb_Iz (by omega) _ _ _ _ _ _).trans (a9 k' v p1 p2), fun v r p1 p2 => (jb_Iz (by omega) _ _ _ _ _ _).trans (b1 v r p1 p2), fun m v k' p1 p2 p3 p4 => (jb_Io (by omega) _ _ _ _ _ _).trans (b2 m v k' p1 p2 p3 p4), fun v n p1 p2 => (jb_Iz (by omega) _ _ _ _ _ _).trans (b3 v n p1 p2), (jb_Iz (by omega) _ _ _ _ _ _).trans b4⟩
theorem jo_57 {M N M' N' : jm_M} {w t : Nat} (h : jq_O M N M' N' w t) {n : Nat} (hn : n < 40) (x : Int32) : jq_O M N M' (jm_setI N' 57 0 (40 * w + n) x) w t := by
  obtain ⟨a1, a2, a3, a4, a5, a6, a7, a8, a9, b1, b2, b3, b4⟩ := h
  exact ⟨a1, a2, a3, a4, a5, a6, a7, fun k' i' j' hk => (jb_Iz (by omega) _ _ _ _ _ _).trans (a8 k' i' j' hk), fun k' v p1 p2 => (jb_Iz (by omega) _ _ _ _ _ _).trans (a9 k' v p1 p2), b1, fun m v k' p1 p2 p3 p4 => (jb_Iz (by omega) _ _ _ _ _ _).trans (b2 m v k' p1 p2 p3 p4), fun v n p1 p2 => (jb_Io (by omega) _ _ _ _ _ _).trans (b3 v n p1 p2), b4⟩
/-- the relation after a change of one worker's own cells -/
theorem jr_own {E C C' w t : Nat} {M N M' N' : jm_M} (h : jr_R E C M N) (hC : C ≤ C') (hw : w < 4) (hk : jm_I N 46 0 w = nI (t + 1)) (ht : t < jm_c M 25) (h1 : jm_I N 64 0 (t + 1) = nI 1) (h0 : ¬ jm_I N 45 0 w = nI 0) (hO : jq_O M N M' N' w t) (hW' : rW E C' M' N' w) (hs : ¬ jm_I N' 45 0 w = nI 0) (hU' : rU M' N') : jr_R E C' M' N' := by
  obtain ⟨hX, hY, hN, hP, hS, hL, hW, ⟨t1, t2, t3, t4, t5, t6⟩, hG, ⟨e, e1, e2, e3, e4, e5⟩, hU⟩ := h
  obtain ⟨⟨f1, f2, f3⟩, ⟨f4, f5⟩, a3, a4, a5, a6, a7, a8, a9, b1, b2, b3, b4⟩ := hO
  have eM : ∀ k, k < 11 ∨ (14 < k ∧ k < 25) ∨ 27 < k → jm_I M' k = jm_I M k := fun k z => funext fun i => funext fun j => a3 k i j z
  have eN : ∀ k, k < 45 ∨ 61 < k → jm_I N' k = jm_I N k := fun k z => funext fun i => funext fun j => a8 k i j z
  have hkp : ∀ v, jy_kp N' v = jy_kp N v := by
    intro v
    funext u
    unfold jy_kp
    rw [eN 64 (by decide), eN 63 (by decide)]
  have hkl : ∀ v, jy_kl M' N' v = jy_kl M N v := by
    intro v
    unfold jy_kl
    rw [hkp, f3]
  have hLc : ∀ k i l, k < 11 ∨ (14 < k ∧ k < 25) ∨ 27 < k → jx_L M k i l → jx_L M' k i l := by
    intro k i l z hl
    unfold jx_L at hl ⊢
    rw [eM k z, f1, f2, f3]
    exact hl
  have hlf : ∀ i, jy_lf N' i = jy_lf N i := by
    intro i
    unfold jy_lf
    congr 1
    funext k
    unfold jy_at
    rw [eN 37 (by decide), eN 42 (by decide)]
  refine ⟨?_, ?_, ⟨fun v hv => ?_, ?_⟩, ?_, fun k hk => ?_, ?_, fun v hv => ?_, ⟨by rw [f3]; exact t1, by rw [f3]; exact t2, by rw [f3]; exact t3, by rw [f3, eN 31 (by decide)]; exact t4, ?_, fun u hu => ?_⟩, ⟨fun v hv => ?_, ?_, ?_⟩, ⟨e, e1, e2, ?_, ?_, fun v hv => ?_⟩, hU'⟩
  · unfold jx_S at hX ⊢
    rw [f1, f2]
    exact hX
  · unfold jy_S at hY ⊢
    rw [f4, f5]
    exact hY
  · by_cases e : v = w
    · subst e
      exact a5.trans (hN.1 v hv)
    · exact (a4 11 v 0 (by decide) (by decide) e).trans (hN.1 v hv)
  · rw [eM 17 (by decide), eM 71 (by decide), eM 72 (by decide), eM 73 (by decide), f2]
    exact hN.2
  · unfold rP at hP ⊢
    rw [eM 6 (by decide), eM 7 (by decide), eM 8 (by decide), eM 9 (by decide), eM 10 (by decide), eN 32 (by decide), eN 33 (by decide), eN 34 (by decide), eN 35 (by decide), eN 36 (by decide)]
    exact hP
  · have hS := hS k hk
    unfold rSk at hS ⊢
    rw [eM 19 (by decide), eM 20 (by decide), eM 21 (by decide), eM 22 (by decide), eN 37 (by decide), eN 38 (by decide), eN 39 (by decide), eN 40 (by decide), eN 41 (by decide)]
    rcases hS with hS | ⟨s1, s2, s3, ⟨s, s4, s5⟩, s6⟩
    · exact Or.inl hS
    · exact Or.inr ⟨s1, s2, s3, ⟨s, Nat.le_trans s4 hC, s5⟩, s6⟩
  · unfold rL at hL ⊢
    simp only [hlf, eM 5 (by decide), eM 17 (by decide), eM 18 (by decide), eM 24 (by decide), eN 31 (by decide), eN 37 (by decide), eN 42 (by decide), eN 43 (by decide), eN 44 (by decide)]
    exact hL
  · by_cases e : v = w
    · subst e
      exact hW'
    · refine rW_cg (hW v hv) (Nat.le_refl _) hC ⟨fun j => a4 11 v j (by decide) (by decide) e, by rw [f1], fun k hk => a9 k v (by omega) e, fun r hr => ⟨a4 12 v r (by decide) (by decide) e, b1 v r e hr⟩, fun m k p1 p2 p3 => b2 m v k p1 p2 e p3, fun n hn => b3 v n e hn, fun k _ => a4 13 v k (by decide) (by decide) e, fun k _ => a4 14 v k (by decide) (by decide) e⟩ (fun u hu z1 z2 z3 => ?_) (jq_C0 (by rw [f3]) (eN 63 (by decide)) (eM 22 (by decide)) (eN 37 (by decide)) (a8 31 0 11 (by decide)))
      have hut : u ≠ t := by
        rintro rfl
        obtain ⟨s, -, -, p3, -, -, p6⟩ := hW w hw
        obtain ⟨t', r1, -, r3, r4, -⟩ := p6 (by rintro rfl; exact h0 p3)
        have ett : t' = u := by
          have := (nI_eq (by omega) (by omega)).mp (r3.symm.trans hk)
          omega
        subst ett
        exact e ((nI_eq (by omega) (by omega)).mp (z2.symm.trans r4))
      exact ⟨fun j _ => a6 u j (Or.inl hut), fun k _ => ⟨a7 26 (u + 4) k (Or.inl rfl) (by omega), a7 27 (u + 4) k (Or.inr rfl) (by omega)⟩, a8 63 _ _ (by decide), a8 64 _ _ (by decide)⟩
  · rw [f3]
    exact hLc 4 0 _ (by decide) t5
  · rw [f3] at hu
    have hrun : ∀ v, v < 4 → jm_I N 64 0 (u + 1) = nI 1 → ¬ jm_I N 45 0 v = nI 0 → jm_I N 46 0 v = nI (u + 1) → ∃ v, v < 4 ∧ ¬ jm_I N' 45 0 v = nI 0 ∧ jm_I N' 46 0 v = nI (u + 1) := by
      intro v hv z1 z2 z3
      by_cases e : v = w
      · subst e
        exact ⟨v, hv, hs, b4.trans z3⟩
      · exact ⟨v, hv, by rw [a9 45 v (by decide) e]; exact z2, (a9 46 v (by decide) e).trans z3⟩
    by_cases hut : u = t
    · subst hut
      obtain ⟨q1, q2, q3, q4, q5, ⟨f, g1, g2, g3, g4⟩, ⟨v, v1, v2⟩, q8, q9⟩ := t6 u hu
      have n64 := a8 64 0 (u + 1) (by decide)
      refine ⟨(a6 u 0 (Or.inr (by decide))).trans q1, by rw [f1]; exact q2, by rw [f1]; exact q3, by rw [f2]; exact q4, by rw [f2]; exact q5, ⟨f, g1, g2, (a6 u 4 (Or.inr (by decide))).trans g3, n64.trans g4⟩, ⟨v, v1, (a8 63 0 (u + 1) (by decide)).trans v2⟩, fun z => ?_, fun z => ?_⟩
      · rw [n64] at z
        obtain ⟨v, p1, p2, p3⟩ := q8 z
        exact hrun v p1 z p2 p3
      · unfold jy_lg at z
        rw [n64, h1] at z
        rcases z with z | z
        · exact absurd z (by decide)
        · exact absurd z (by decide)
    · exact rTt_cg (t6 u hu) hC ⟨fun j => a6 u j (Or.inl hut), fun j => by rw [f1], by rw [f2], by rw [f2], fun k _ => ⟨a7 26 (u + 4) k (Or.inl rfl) (by omega), a7 27 (u + 4) k (Or.inr rfl) (by omega)⟩, fun m p1 p2 => a8 m _ _ (by omega), fun m k p1 p2 _ => a8 m _ _ (by omega)⟩ hrun
  · rw [hkl v]
    obtain ⟨x1, n, x2, x3, x4⟩ := hG.1 v hv
    exact ⟨hLc 16 v _ (by decide) x1, n, x2, (a3 15 v 1 (by decide)).trans x3, fun j u hj => (a8 67 0 (u + 1) (by decide)).trans (x4 j u hj)⟩
  · rw [f1]
    exact hG.2.1
  · rw [f1]
    exact hG.2.2
  · rw [eM 0 (by decide)]; exact e3
  · rw [eN 31 (by decide)]; exact e4
  · rw [eM 15 (by decide), eN 62 (by decide)]
    exact e5 v hv
theorem rU_own {w t : Nat} {M N M' N' : jm_M} (h : rU M N) (hO : jq_O M N M' N' w t) (hs3 : ¬ jm_I N' 45 0 w = nI 3) (hs4 : ¬ jm_I N' 45 0 w = nI 4) : rU M' N' := by
  obtain ⟨b, b1, b2, b3, b4, b5, b6, b7⟩ := h
  obtain ⟨⟨f1, f2, f3⟩, -, a3, a4, a5, a6, a7, a8, a9, c1, c2, c3, c4⟩ := hO
  have eN : ∀ k, k < 45 ∨ 61 < k → jm_I N' k = jm_I N k := fun k z => funext fun i => funext fun j => a8 k i j z
  have n31 := eN 31 (by decide)
  have n37 := eN 37 (by decide)
  have n40 := eN 40 (by decide)
  have n65 := eN 65 (by decide)
  have n68 := eN 68 (by decide)
  have n64 := eN 64 (by decide)
  have hv3 : ∀ v, jm_I N' 45 0 v = nI 3 ∨ jm_I N' 45 0 v = nI 4 → v ≠ w := by
    rintro v hv rfl
    exact hv.elim hs3 hs4
  have n45 : ∀ v, v ≠ w → jm_I N' 45 0 v = jm_I N 45 0 v := fun v hv => a9 45 v (by decide) hv
  have n59 : ∀ v, v ≠ w → jm_I N' 59 0 v = jm_I N 59 0 v := fun v hv => a9 59 v (by decide) hv
  have n60 : ∀ v, v ≠ w → jm_I N' 60 0 v = jm_I N 60 0 v := fun v hv => a9 60 v (by decide) hv
  have n51 : ∀ v k, v ≠ w → k < 32 → jm_I N' 51 0 (32 * v + k) = jm_I N 51 0 (32 * v + k) := fun v k hv hk => c2 51 v k (by decide) (by decide) hv hk
  have n55 : ∀ v k, v ≠ w → k < 32 → jm_I N' 55 0 (32 * v + k) = jm_I N 55 0 (32 * v + k) := fun v k hv hk => c2 55 v k (by decide) (by decide) hv hk
  refine ⟨b, ?_, fun v hv hl => ?_, ?_, fun v k hv hk hl => ?_, ?_, fun v u k hv hu hk hl => ?_, fun u v k hu hv hk huv h4 h5 => ?_⟩
  · rw [n31]; exact b1
  · have e := hv3 v hl
    rw [n45 v e] at hl
    rw [n59 v e]
    exact b2 v hv hl
  · unfold jy_lg
    rw [f3, n64, n68, n65, n37, n40]
    exact b3
  · have e := hv3 v (Or.inr hl)
    rw [n45 v e] at hl
    rw [n51 v k e hk, n55 v k e hk, n60 v e, n40, n37]
    exact b4 v k hv hk hl
  · unfold jy_lg
    rw [f3, n64, n68, n65]
    exact b5
  · have e := hv3 v (Or.inr hl)
    rw [n45 v e] at hl
    unfold jy_lg
    rw [n55 v k e hk, n64, n68, n65, n60 v e]
    rw [f3] at hu
    exact b6 v u k hv hu hk hl
  · have e := hv3 v (Or.inr h5)
    have e' := hv3 u (Or.inr h4)
    rw [n45 v e] at h5
    rw [n45 u e'] at h4
    rw [n55 v k e hk, n55 u k e' hk, n60 v e, n60 u e']
    exact b7 u v k hu hv hk huv h4 h5
