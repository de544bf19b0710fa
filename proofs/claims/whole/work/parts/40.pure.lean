/-! What of the relation stays when the cells that it looks at stay. -/
theorem rWr_cg {M N M' N' : jm_M} {t k a b c m : Nat} (h : rWr M N t k a b c m) (h1 : jm_I M' 26 (t + 4) k = jm_I M 26 (t + 4) k) (h2 : jm_I M' 27 (t + 4) k = jm_I M 27 (t + 4) k) (h3 : jm_I N' a 0 m = jm_I N a 0 m) (h4 : jm_I N' b 0 m = jm_I N b 0 m) (h5 : jm_I N' c 0 m = jm_I N c 0 m) : rWr M' N' t k a b c m := by
  unfold rWr at h ⊢
  rw [h1, h2, h3, h4, h5]
  exact h
/-- what worker w's run looks at -/
def jq_A (M N M' N' : jm_M) (w : Nat) : Prop :=
  (∀ j, jm_I M' 11 w j = jm_I M 11 w j) ∧ jm_F M' 11 w 5 = jm_F M 11 w 5 ∧
  (∀ k, k = 45 ∨ k = 46 ∨ k = 47 ∨ k = 48 ∨ k = 49 ∨ k = 58 ∨ k = 59 ∨ k = 60 ∨ k = 61 → jm_I N' k 0 w = jm_I N k 0 w) ∧
  (∀ r, r < 8 → jm_I M' 12 w r = jm_I M 12 w r ∧ jm_I N' 50 0 (8 * w + r) = jm_I N 50 0 (8 * w + r)) ∧
  (∀ m k, 51 ≤ m → m ≤ 56 → k < 32 → jm_I N' m 0 (32 * w + k) = jm_I N m 0 (32 * w + k)) ∧
  (∀ n, n < 40 → jm_I N' 57 0 (40 * w + n) = jm_I N 57 0 (40 * w + n)) ∧
  (∀ k, k < 32 → jm_I M' 13 w k = jm_I M 13 w k) ∧ (∀ k, k < 16 → jm_I M' 14 w k = jm_I M 14 w k)
def jq_T (M N M' N' : jm_M) (t : Nat) : Prop :=
  (∀ j, j = 3 ∨ j = 5 ∨ j = 6 → jm_I M' 25 t j = jm_I M 25 t j) ∧ (∀ k, k < 32 → jm_I M' 26 (t + 4) k = jm_I M 26 (t + 4) k ∧ jm_I M' 27 (t + 4) k = jm_I M 27 (t + 4) k) ∧ jm_I N' 63 0 (t + 1) = jm_I N 63 0 (t + 1) ∧ jm_I N' 64 0 (t + 1) = jm_I N 64 0 (t + 1)
def jq_C (M N M' N' : jm_M) (w : Nat) : Prop :=
  jm_c M 25 ≤ jm_c M' 25 ∧ (∀ u, u < jm_c M' 25 → jm_I N' 63 0 (u + 1) = nI w → u < jm_c M 25 ∧ jm_I N 63 0 (u + 1) = nI w) ∧
  (∀ k, k < 32 → (jm_I M' 22 0 k = nI (w + 1) ↔ jm_I M 22 0 k = nI (w + 1))) ∧
  (∀ k, k < 32 → ¬ jm_I N 37 0 k = nI 0 → ¬ jm_I N' 37 0 k = nI 0) ∧
  (∀ m, m ≤ 16 → jm_I N 31 0 11 = nI m → ∃ m', m ≤ m' ∧ m' ≤ 16 ∧ jm_I N' 31 0 11 = nI m')
theorem rRun_cg {E C E' C' : Nat} {M N M' N' : jm_M} {w s t : Nat} (h : rRun E C M N w s t) (hE : E ≤ E') (hC : C ≤ C') (hA : jq_A M N M' N' w) (hT : jq_T M N M' N' t) (hQ : jq_C M N M' N' w) : rRun E' C' M' N' w s t := by
  obtain ⟨a1, a2, a3, a4, a5, a6, a7, a8, a9, ⟨b0, b1⟩, b2, b3, b4, b5, b6, b7, b8, b9, c1, c2, c3⟩ := h
  obtain ⟨p1, p2, p3, p4, p5, p6, p7, p8⟩ := hA
  obtain ⟨t1, t2, t3, t4⟩ := hT
  obtain ⟨q1, q2, q3, q4, q5⟩ := hQ
  have n46 := p3 46 (by decide)
  have n47 := p3 47 (by decide)
  have n48 := p3 48 (by decide)
  have n49 := p3 49 (by decide)
  have n58 := p3 58 (by decide)
  have n59 := p3 59 (by decide)
  have n60 := p3 60 (by decide)
  have d3 := t1 3 (by decide)
  have d5 := t1 5 (by decide)
  have d6 := t1 6 (by decide)
  refine ⟨Nat.lt_of_lt_of_le a1 q1, p2.trans a2, n46.trans a3, t3.trans a4, t4.trans a5, fun u hu hv => ?_, ?_, fun r hr => ?_, fun k hk => ?_, ⟨?_, fun n hn => ?_⟩, fun k hk => ?_, ?_, ?_, ?_, fun hs => ⟨?_, ?_, fun k hk => ?_⟩, fun hs => ?_, fun hs k hk => ?_, fun hs => ?_, fun hs k hk => ?_, fun hs k hk => ?_, fun hs => ⟨?_, fun k hk => ?_⟩⟩
  · obtain ⟨x1, x2⟩ := q2 u hu hv
    exact a6 u x1 x2
  · obtain ⟨p, x1, x2, x3⟩ := a7
    exact ⟨p, x1, (p1 4).trans x2, n47.trans x3⟩
  · rw [(p4 r hr).1, (p4 r hr).2]
    exact a8 r hr
  · rw [p7 k hk, p5 56 k (by decide) (by decide) hk]
    obtain ⟨x1, x2⟩ := a9 k hk
    refine ⟨x1, x2.imp id (fun z => ?_)⟩
    obtain ⟨x, z1, z2, z3⟩ := z
    exact ⟨x, Nat.le_trans z1 hC, z2, q4 k hk z3⟩
  · have := p6 0 (by decide)
    rw [Nat.add_zero] at this
    exact this.trans b0
  · rw [p6 (n + 1) (by omega)]
    obtain ⟨x1, x2⟩ := b1 n hn
    refine ⟨fun z => (p8 n z).trans (x1 z), x2.imp id (fun z => ?_)⟩
    obtain ⟨m, v, z1, z2, z3, z4, z5⟩ := z
    obtain ⟨m', y1, y2, y3⟩ := q5 m z1 z4
    exact ⟨m', v, y2, by omega, z3, y3, z5⟩
  · exact rWr_cg (b2 k hk) (t2 k hk).1 (t2 k hk).2 (p5 51 k (by decide) (by decide) hk) (p5 52 k (by decide) (by decide) hk) (p5 53 k (by decide) (by decide) hk)
  · rw [d3, b3]
    exact congrArg nI (jb_cnt_congr (fun k hk => by rw [(t2 k hk).1]))
  · rw [p1 9, b4]
    exact congrArg nI (jb_cnt_congr (fun k hk => by rw [p7 k hk]))
  · rw [p1 10, b5]
    exact congrArg nI (jb_cnt_congr (fun k hk => by rw [p8 k hk]))
  · rw [p1 7, n48]
    exact (b6 hs).1
  · rw [p1 8, n49]
    exact (b6 hs).2.1
  · rw [p5 54 k (by decide) (by decide) hk, q3 k hk]
    exact (b6 hs).2.2 k hk
  · rw [d5, n58]
    exact b7 hs
  · rw [p5 54 k (by decide) (by decide) hk, q3 k hk, (t2 k hk).1]
    exact b8 hs k hk
  · obtain ⟨f, x1, x2, x3, x4⟩ := b9 hs
    exact ⟨f, x1, Nat.le_trans x2 hE, (p1 11).trans x3, n59.trans x4⟩
  · rw [q3 k hk, (t2 k hk).1]
    exact c1 hs k hk
  · rw [p5 55 k (by decide) (by decide) hk]
    exact c2 hs k hk
  · obtain ⟨⟨o, x1, x2, x3, x4⟩, -⟩ := c3 hs
    exact ⟨o, Nat.le_trans x1 hC, d6.trans x2, (p1 12).trans x3, n60.trans x4⟩
  · rw [p5 55 k (by decide) (by decide) hk, q3 k hk, (t2 k hk).1]
    exact (c3 hs).2 k hk
theorem rW_cg {E C E' C' : Nat} {M N M' N' : jm_M} {w : Nat} (h : rW E C M N w) (hE : E ≤ E') (hC : C ≤ C') (hA : jq_A M N M' N' w) (hT : ∀ t, t < jm_c M 25 → jm_I N 46 0 w = nI (t + 1) → jm_I N 63 0 (t + 1) = nI w → jm_I N 64 0 (t + 1) = nI 1 → jq_T M N M' N' t) (hQ : jq_C M N M' N' w) : rW E' C' M' N' w := by
  obtain ⟨s, h1, h2, h3, ⟨x, h4, h5, h6⟩, h7, h8⟩ := h
  refine ⟨s, h1, (hA.1 6).trans h2, (hA.2.2.1 45 (by decide)).trans h3, ⟨x, Nat.le_trans h4 hC, (hA.2.2.1 61 (by decide)).trans h5, fun hs => (hA.1 12).trans (h6 hs)⟩, fun hs => ⟨(hA.2.2.1 46 (by decide)).trans (h7 hs).1, fun k hk => ?_⟩, fun hs => ?_⟩
  · rw [hQ.2.2.1 k hk]
    exact (h7 hs).2 k hk
  · obtain ⟨t, ht⟩ := h8 hs
    exact ⟨t, rRun_cg ht hE hC hA (hT t ht.1 ht.2.2.1 ht.2.2.2.1 ht.2.2.2.2.1) hQ⟩
/-- what transaction t's row looks at -/
def jq_R (M N M' N' : jm_M) (t : Nat) : Prop :=
  (∀ j, jm_I M' 25 t j = jm_I M 25 t j) ∧ (∀ j, jm_F M' 25 t j = jm_F M 25 t j) ∧ jm_n M' 26 (t + 4) = jm_n M 26 (t + 4) ∧ jm_n M' 27 (t + 4) = jm_n M 27 (t + 4) ∧
  (∀ k, k < 32 → jm_I M' 26 (t + 4) k = jm_I M 26 (t + 4) k ∧ jm_I M' 27 (t + 4) k = jm_I M 27 (t + 4) k) ∧
  (∀ m, 63 ≤ m → m ≤ 66 → jm_I N' m 0 (t + 1) = jm_I N m 0 (t + 1)) ∧
  (∀ m k, 68 ≤ m → m ≤ 70 → k < 32 → jm_I N' m 0 (32 * (t + 1) + k) = jm_I N m 0 (32 * (t + 1) + k))
theorem rTt_cg {C C' : Nat} {M N M' N' : jm_M} {t : Nat} (h : rTt C M N t) (hC : C ≤ C') (hR : jq_R M N M' N' t) (hw : ∀ w, w < 4 → jm_I N 64 0 (t + 1) = nI 1 → ¬ jm_I N 45 0 w = nI 0 → jm_I N 46 0 w = nI (t + 1) → ∃ w, w < 4 ∧ ¬ jm_I N' 45 0 w = nI 0 ∧ jm_I N' 46 0 w = nI (t + 1)) : rTt C' M' N' t := by
  obtain ⟨a1, a2, a3, a4, a5, ⟨f, b1, b2, b3, b4⟩, ⟨w, c1, c2⟩, d1, d2⟩ := h
  obtain ⟨p1, p2, p3, p4, p5, p6, p7⟩ := hR
  have n64 := p6 64 (by decide) (by decide)
  refine ⟨(p1 0).trans a1, (p2 1).trans a2, (p2 2).trans a3, p3.trans a4, p4.trans a5, ⟨f, b1, b2, (p1 4).trans b3, n64.trans b4⟩, ⟨w, c1, (p6 63 (by decide) (by decide)).trans c2⟩, fun z => ?_, fun z => ?_⟩
  · rw [n64] at z
    obtain ⟨w, e1, e2, e3⟩ := d1 z
    exact hw w e1 z e2 e3
  · unfold jy_lg at z
    rw [n64] at z
    obtain ⟨⟨s, x1, x2, x3⟩, x4, x5⟩ := d2 z
    refine ⟨⟨s, Nat.le_trans x1 hC, (p1 6).trans x2, (p6 65 (by decide) (by decide)).trans x3⟩, ((p1 5).trans x4).trans (p6 66 (by decide) (by decide)).symm, fun k hk => ?_⟩
    exact rWr_cg (x5 k hk) (p5 k hk).1 (p5 k hk).2 (p7 68 k (by decide) (by decide) hk) (p7 69 k (by decide) (by decide) hk) (p7 70 k (by decide) (by decide) hk)
