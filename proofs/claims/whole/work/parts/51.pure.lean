/-! A running worker: its registers, what it saw, what it writes. -/
def jr_W (E C : Nat) (M N : jm_M) (w t : Nat) : Prop := jr_R E C M N ∧ jm_I M 11 w 6 = nI 1 ∧ jm_I N 45 0 w = nI 1 ∧ rRun E C M N w 1 t
theorem jr_own1 {E C w t : Nat} {M N M' N' : jm_M} (h : jr_W E C M N w t) (hw : w < 4) (hO : jq_O M N M' N' w t) (h6 : jm_I M' 11 w 6 = jm_I M 11 w 6) (h12 : jm_I M' 11 w 12 = jm_I M 11 w 12) (h45 : jm_I N' 45 0 w = jm_I N 45 0 w) (h61 : jm_I N' 61 0 w = jm_I N 61 0 w) (hr : rRun E C M' N' w 1 t) : jr_W E C M' N' w t := by
  obtain ⟨hR, a1, a2, a3⟩ := h
  have b2 := h45.trans a2
  refine ⟨jr_own hR (Nat.le_refl _) hw a3.2.2.1 a3.1 a3.2.2.2.2.1 (by rw [a2]; decide) hO ?_ (by rw [b2]; decide) (rU_own hR.2.2.2.2.2.2.2.2.2.2 hO (by rw [b2]; decide) (by rw [b2]; decide)), h6.trans a1, b2, hr⟩
  obtain ⟨s, p1, p2, p3, ⟨x, p4, p5, p6⟩, -⟩ := hR.2.2.2.2.2.2.1 w hw
  have es : s = 1 := (nI_eq (by omega) (by decide)).mp (p3.symm.trans a2)
  subst es
  exact ⟨1, by decide, h6.trans p2, b2, ⟨x, p4, h61.trans p5, fun _ => h12.trans (p6 (by decide))⟩, fun z => absurd z (by decide), fun _ => ⟨t, hr⟩⟩
theorem jr_reg {E C w t a : Nat} {M N : jm_M} (h : jr_W E C M N w t) (hw : w < 4) (ha : a < 8) (v : Int32) : jr_W E C (jm_setI M 12 w a v) (jm_setI N 50 0 (8 * w + a) v) w t := by
  refine jr_own1 h hw (jo_M (jo_50 (jo_r M N w t) ha v) (by decide) (by decide) (by omega) v) rfl rfl rfl rfl ?_
  obtain ⟨-, -, -, a1, a2, a3, a4, a5, a6, a7, a8, a9⟩ := h
  refine ⟨a1, a2, a3, a4, a5, a6, a7, fun r hr => ?_, a9⟩
  by_cases e : r = a
  · subst e
    rw [jb_Is, jb_Is]
  · rw [jb_Io e, jb_Io (show 8 * w + r ≠ 8 * w + a by omega)]
    exact a8 r hr
theorem jb_cnt_up {p q : Nat → Bool} {a : Nat} : ∀ n, a < n → p a = false → q a = true → (∀ k, k < n → k ≠ a → q k = p k) → jb_cnt q n = jb_cnt p n + 1 := by
  intro n
  induction n with
  | zero => intro h; omega
  | succ n ih =>
    intro h1 h2 h3 h4
    unfold jb_cnt
    by_cases e : a = n
    · subst e
      rw [h2, h3, jb_cnt_congr (p := q) (q := p) (fun k hk => h4 k (by omega) (by omega))]
      rfl
    · rw [ih (by omega) h2 h3 (fun k hk he => h4 k (by omega) he), h4 n (by omega) (fun z => e z.symm)]
      omega
theorem jr_read {E C w t k s : Nat} {M N : jm_M} (h : jr_W E C M N w t) (hw : w < 4) (hk : k < 32) (hs : s ≤ C) (hC : C < 2 ^ 31) (h1 : jm_I M 13 w k = -1) (h2 : ¬ jm_I N 37 0 k = nI 0) : jr_W E C (jm_setI (jm_setI M 13 w k (nI s)) 11 w 9 (jm_I M 11 w 9 + nI 1)) (jm_setI N 56 0 (32 * w + k) (nI s)) w t := by
  refine jr_own1 h hw (jo_M (jo_M (jo_51 (jo_r M N w t) (by decide) (by decide) hk (nI s)) (by decide) (by decide) (by omega) (nI s)) (by decide) (by decide) (by decide) _) (jb_Io (by decide) _ _ _ _ _ _) (jb_Io (by decide) _ _ _ _ _ _) rfl rfl ?_
  obtain ⟨-, -, -, a1, a2, a3, a4, a5, a6, ⟨p, p1, p2, p3⟩, a8, a9, b1, b2, b3, b4, b5, b6, b7, b8, b9, c1, c2, c3⟩ := h
  have hns : ¬ nI s = -1 := by
    intro e
    have := congrArg Int32.toInt e
    rw [nI_toInt (by omega)] at this
    have h3 : ((-1 : Int32)).toInt = -1 := by decide
    omega
  refine ⟨a1, a2, a3, a4, a5, a6, ⟨p, p1, (jb_Io (by decide) _ _ _ _ _ _).trans p2, p3⟩, a8, fun r hr => ?_, b1, b2, b3, ?_, (jb_Io (by decide) _ _ _ _ _ _).trans b5, fun z => ?_, b7, b8, fun z => absurd z (by decide), c1, c2, fun z => absurd z (by decide)⟩
  · have e1 : jm_I (jm_setI (jm_setI M 13 w k (nI s)) 11 w 9 (jm_I M 11 w 9 + nI 1)) 13 w r = jm_I (jm_setI M 13 w k (nI s)) 13 w r := rfl
    rw [e1]
    by_cases e : r = k
    · subst e
      rw [jb_Is, jb_Is]
      exact ⟨rfl, Or.inr ⟨s, hs, rfl, h2⟩⟩
    · rw [jb_Io e, jb_Io (show 32 * w + r ≠ 32 * w + k by omega)]
      exact a9 r hr
  · rw [jb_Is, b4, nI_add]
    refine congrArg nI (jb_cnt_up 32 hk ?_ ?_ (fun r hr he => ?_)).symm
    · rw [h1]; rfl
    · have e1 : jm_I (jm_setI (jm_setI M 13 w k (nI s)) 11 w 9 (jm_I M 11 w 9 + nI 1)) 13 w k = nI s := jb_Is M 13 w k (nI s)
      rw [b4, nI_add] at e1
      rw [e1, decide_eq_false hns]
      rfl
    · have e1 : ∀ x, jm_I (jm_setI (jm_setI M 13 w k (nI s)) 11 w 9 x) 13 w r = jm_I M 13 w r := fun x => jb_Io he M 13 w (nI s) 13 w
      rw [e1]
  · obtain ⟨⟨x, q1, q2, q3⟩, ⟨x', q4, q5, q6⟩, q7⟩ := b6 z
    exact ⟨⟨x, q1, (jb_Io (by decide) _ _ _ _ _ _).trans q2, q3⟩, ⟨x', q4, (jb_Io (by decide) _ _ _ _ _ _).trans q5, q6⟩, q7⟩
theorem jr_node {E C w t i v n : Nat} {M N : jm_M} (h : jr_W E C M N w t) (hw : w < 4) (hi : i < n) (hn : n ≤ 16) (hn2 : jm_I N 31 0 11 = nI n) (hv : v ≤ 64) (h1 : jm_I M 14 w i = -1) : jr_W E C (jm_setI (jm_setI M 14 w i (nI v)) 11 w 10 (jm_I M 11 w 10 + nI 1)) (jm_setI N 57 0 (40 * w + (i + 1)) (nI v)) w t := by
  refine jr_own1 h hw (jo_M (jo_M (jo_57 (jo_r M N w t) (show i + 1 < 40 by omega) (nI v)) (by decide) (by decide) (by omega) (nI v)) (by decide) (by decide) (by decide) _) (jb_Io (by decide) _ _ _ _ _ _) (jb_Io (by decide) _ _ _ _ _ _) rfl rfl ?_
  obtain ⟨-, -, -, a1, a2, a3, a4, a5, a6, ⟨p, p1, p2, p3⟩, a8, a9, ⟨b0, b1⟩, b2, b3, b4, b5, b6, b7, b8, b9, c1, c2, c3⟩ := h
  have hns : ¬ nI v = -1 := by
    intro e
    have := congrArg Int32.toInt e
    rw [nI_toInt (by omega)] at this
    have h3 : ((-1 : Int32)).toInt = -1 := by decide
    omega
  refine ⟨a1, a2, a3, a4, a5, a6, ⟨p, p1, (jb_Io (by decide) _ _ _ _ _ _).trans p2, p3⟩, a8, a9, ⟨(jb_Io (show 40 * w ≠ 40 * w + (i + 1) by omega) _ _ _ _ _ _).trans b0, fun r hr => ?_⟩, b2, b3, (jb_Io (by decide) _ _ _ _ _ _).trans b4, ?_, fun z => ?_, b7, b8, fun z => absurd z (by decide), c1, c2, fun z => absurd z (by decide)⟩
  · have e1 : jm_I (jm_setI (jm_setI M 14 w i (nI v)) 11 w 10 (jm_I M 11 w 10 + nI 1)) 14 w r = jm_I (jm_setI M 14 w i (nI v)) 14 w r := rfl
    rw [e1]
    by_cases e : r = i
    · subst e
      rw [jb_Is, jb_Is]
      exact ⟨fun _ => rfl, Or.inr ⟨n, v, hn, hi, hv, hn2, rfl⟩⟩
    · rw [jb_Io e, jb_Io (show 40 * w + (r + 1) ≠ 40 * w + (i + 1) by omega)]
      exact b1 r hr
  · rw [jb_Is, b5, nI_add]
    refine congrArg nI (jb_cnt_up 16 (show i < 16 by omega) ?_ ?_ (fun r hr he => ?_)).symm
    · rw [h1]; rfl
    · have e1 : jm_I (jm_setI (jm_setI M 14 w i (nI v)) 11 w 10 (jm_I M 11 w 10 + nI 1)) 14 w i = nI v := jb_Is M 14 w i (nI v)
      rw [b5, nI_add] at e1
      rw [e1, decide_eq_false hns]
      rfl
    · have e1 : ∀ x, jm_I (jm_setI (jm_setI M 14 w i (nI v)) 11 w 10 x) 14 w r = jm_I M 14 w r := fun x => jb_Io he M 14 w (nI v) 14 w
      rw [e1]
  · obtain ⟨⟨x, q1, q2, q3⟩, ⟨x', q4, q5, q6⟩, q7⟩ := b6 z
    exact ⟨⟨x, q1, (jb_Io (by decide) _ _ _ _ _ _).trans q2, q3⟩, ⟨x', q4, (jb_Io (by decide) _ _ _ _ _ _).trans q5, q6⟩, q7⟩
theorem jr_write {E C w t k q : Nat} {M N : jm_M} (h : jr_W E C M N w t) (hw : w < 4) (hk : k < 32) (hq : q = 1 ∨ q = 2) (v : Int32) (hv : q = 2 → v = nI 0) : jr_W E C (jm_setI (jm_setI (if jm_I M 26 (t + 4) k = nI 0 then jm_setI M 25 t 3 (jm_I M 25 t 3 + nI 1) else M) 26 (t + 4) k (nI q)) 27 (t + 4) k v) (jm_setI (jm_setI (jm_setI N 51 0 (32 * w + k) (nI 1)) 52 0 (32 * w + k) (nI (q - 1))) 53 0 (32 * w + k) v) w t := by
  have hO0 : jq_O M N (if jm_I M 26 (t + 4) k = nI 0 then jm_setI M 25 t 3 (jm_I M 25 t 3 + nI 1) else M) N w t := by
    split
    · exact jo_25 (jo_r M N w t) (Or.inl rfl) _
    · exact jo_r M N w t
  have e6 : ∀ K i j, K ≠ 25 → jm_I (if jm_I M 26 (t + 4) k = nI 0 then jm_setI M 25 t 3 (jm_I M 25 t 3 + nI 1) else M) K i j = jm_I M K i j := by
    intro K i j hK
    split
    · exact jb_Iz hK _ _ _ _ _ _
    · rfl
  have eN : (jm_setI (jm_setI (jm_setI N 51 0 (32 * w + k) (nI 1)) 52 0 (32 * w + k) (nI (q - 1))) 53 0 (32 * w + k) v) = (jm_setI (jm_setI (jm_setI N 51 0 (32 * w + k) (nI 1)) 52 0 (32 * w + k) (nI (q - 1))) 53 0 (32 * w + k) v) := rfl
  have eM : ∀ K i j, K ≠ 25 → K ≠ 26 → K ≠ 27 → jm_I (jm_setI (jm_setI (if jm_I M 26 (t + 4) k = nI 0 then jm_setI M 25 t 3 (jm_I M 25 t 3 + nI 1) else M) 26 (t + 4) k (nI q)) 27 (t + 4) k v) K i j = jm_I M K i j := fun K i j h1 h2 h3 => (jb_Iz h3 _ _ _ _ _ _).trans ((jb_Iz h2 _ _ _ _ _ _).trans (e6 K i j h1))
  have hF : jm_F (jm_setI (jm_setI (if jm_I M 26 (t + 4) k = nI 0 then jm_setI M 25 t 3 (jm_I M 25 t 3 + nI 1) else M) 26 (t + 4) k (nI q)) 27 (t + 4) k v) = jm_F M ∧ jm_c (jm_setI (jm_setI (if jm_I M 26 (t + 4) k = nI 0 then jm_setI M 25 t 3 (jm_I M 25 t 3 + nI 1) else M) 26 (t + 4) k (nI q)) 27 (t + 4) k v) = jm_c M := by
    rw [jb_FI, jb_FI, jb_cI, jb_cI]
    split
    · exact ⟨rfl, rfl⟩
    · exact ⟨rfl, rfl⟩
  have m26 : ∀ r, jm_I (jm_setI (jm_setI (if jm_I M 26 (t + 4) k = nI 0 then jm_setI M 25 t 3 (jm_I M 25 t 3 + nI 1) else M) 26 (t + 4) k (nI q)) 27 (t + 4) k v) 26 (t + 4) r = if r = k then nI q else jm_I M 26 (t + 4) r := by
    intro r
    rw [jb_Iz (by decide)]
    by_cases e : r = k
    · subst e
      rw [jb_Is, if_pos rfl]
    · rw [jb_Io e, if_neg e]
      exact e6 26 _ _ (by decide)
  have m27 : ∀ r, jm_I (jm_setI (jm_setI (if jm_I M 26 (t + 4) k = nI 0 then jm_setI M 25 t 3 (jm_I M 25 t 3 + nI 1) else M) 26 (t + 4) k (nI q)) 27 (t + 4) k v) 27 (t + 4) r = if r = k then v else jm_I M 27 (t + 4) r := by
    intro r
    by_cases e : r = k
    · subst e
      rw [jb_Is, if_pos rfl]
    · rw [jb_Io e, if_neg e, jb_Iz (by decide)]
      exact e6 27 _ _ (by decide)
  refine jr_own1 h hw (jo_26 (jo_26 (jo_51 (jo_51 (jo_51 hO0 (by decide) (by decide) hk (nI 1)) (by decide) (by decide) hk (nI (q - 1))) (by decide) (by decide) hk v) (Or.inl rfl) k (nI q)) (Or.inr rfl) k v) (eM _ _ _ (by decide) (by decide) (by decide)) (eM _ _ _ (by decide) (by decide) (by decide)) rfl rfl ?_
  obtain ⟨-, -, -, a1, a2, a3, a4, a5, a6, ⟨p, p1, p2, p3⟩, a8, a9, b1, b2, b3, b4, b5, b6, b7, b8, b9, c1, c2, c3⟩ := h
  have hq0 : ¬ nI q = nI 0 := by
    rcases hq with rfl | rfl
    · decide
    · decide
  refine ⟨by rw [hF.2]; exact a1, by rw [hF.1]; exact a2, a3, a4, a5, by rw [hF.2]; exact a6, ⟨p, p1, (eM _ _ _ (by decide) (by decide) (by decide)).trans p2, p3⟩, fun r hr => (eM _ _ _ (by decide) (by decide) (by decide)).trans (a8 r hr), fun r hr => ?_, ⟨b1.1, fun n hn => ?_⟩, fun r hr => ?_, ?_, ?_, ?_, fun z => ?_, fun z => absurd z (by decide), fun z => absurd z (by decide), fun z => absurd z (by decide), fun z => absurd z (by decide), c2, fun z => absurd z (by decide)⟩
  · rw [eM _ _ _ (by decide) (by decide) (by decide)]
    exact a9 r hr
  · rw [eM _ _ _ (by decide) (by decide) (by decide)]
    exact b1.2 n hn
  · unfold rWr
    rw [m26, m27]
    by_cases e : r = k
    · subst e
      right
      have n51 : jm_I (jm_setI (jm_setI (jm_setI N 51 0 (32 * w + r) (nI 1)) 52 0 (32 * w + r) (nI (q - 1))) 53 0 (32 * w + r) v) 51 0 (32 * w + r) = nI 1 := jb_Is N 51 0 (32 * w + r) (nI 1)
      have n52 : jm_I (jm_setI (jm_setI (jm_setI N 51 0 (32 * w + r) (nI 1)) 52 0 (32 * w + r) (nI (q - 1))) 53 0 (32 * w + r) v) 52 0 (32 * w + r) = nI (q - 1) := jb_Is N 52 0 (32 * w + r) (nI (q - 1))
      rw [n51, n52, jb_Is, if_pos rfl, if_pos rfl]
      rcases hq with rfl | rfl
      · exact ⟨rfl, Or.inl ⟨rfl, rfl⟩, rfl⟩
      · exact ⟨rfl, Or.inr ⟨rfl, rfl, hv rfl⟩, rfl⟩
    · rw [if_neg e, if_neg e]
      have hne : 32 * w + r ≠ 32 * w + k := by omega
      have n51 : jm_I (jm_setI (jm_setI (jm_setI N 51 0 (32 * w + k) (nI 1)) 52 0 (32 * w + k) (nI (q - 1))) 53 0 (32 * w + k) v) 51 0 (32 * w + r) = jm_I N 51 0 (32 * w + r) := jb_Io hne N 51 0 (nI 1) 51 0
      have n52 : jm_I (jm_setI (jm_setI (jm_setI N 51 0 (32 * w + k) (nI 1)) 52 0 (32 * w + k) (nI (q - 1))) 53 0 (32 * w + k) v) 52 0 (32 * w + r) = jm_I N 52 0 (32 * w + r) := jb_Io hne N 52 0 (nI (q - 1)) 52 0
      have n53 : jm_I (jm_setI (jm_setI (jm_setI N 51 0 (32 * w + k) (nI 1)) 52 0 (32 * w + k) (nI (q - 1))) 53 0 (32 * w + k) v) 53 0 (32 * w + r) = jm_I N 53 0 (32 * w + r) := jb_Io hne N 53 0 v 53 0
      rw [n51, n52, n53]
      exact b2 r hr
  · by_cases e : jm_I M 26 (t + 4) k = nI 0
    · rw [jb_Iz (by decide), jb_Iz (by decide), if_pos e, jb_Is, b3, nI_add]
      refine congrArg nI (jb_cnt_up 32 hk ?_ ?_ (fun r hr he => ?_)).symm
      · rw [e]; rfl
      · have := m26 k
        rw [if_pos e, b3, nI_add, if_pos rfl] at this
        rw [this, decide_eq_false hq0]; rfl
      · have := m26 r
        rw [if_pos e, b3, nI_add, if_neg he] at this
        rw [this]
    · rw [jb_Iz (by decide), jb_Iz (by decide), if_neg e, b3]
      refine congrArg nI (jb_cnt_congr (fun r hr => ?_))
      have := m26 r
      rw [if_neg e] at this
      rw [this]
      by_cases er : r = k
      · subst er
        rw [if_pos rfl, decide_eq_false e, decide_eq_false hq0]
      · rw [if_neg er]
  · rw [eM _ _ _ (by decide) (by decide) (by decide), b4]
    exact congrArg nI (jb_cnt_congr (fun r hr => by rw [eM _ _ _ (by decide) (by decide) (by decide)]))
  · rw [eM _ _ _ (by decide) (by decide) (by decide), b5]
    exact congrArg nI (jb_cnt_congr (fun r hr => by rw [eM _ _ _ (by decide) (by decide) (by decide)]))
  · obtain ⟨⟨x, q1, q2, q3⟩, ⟨x', q4, q5, q6⟩, q7⟩ := b6 z
    refine ⟨⟨x, q1, (eM _ _ _ (by decide) (by decide) (by decide)).trans q2, q3⟩, ⟨x', q4, (eM _ _ _ (by decide) (by decide) (by decide)).trans q5, q6⟩, fun r hr => ?_⟩
    rw [eM 22 _ _ (by decide) (by decide) (by decide)]
    exact q7 r hr
/-- the place moves on -/
theorem jr_next {E C w t x y : Nat} {M N : jm_M} (h : jr_W E C M N w t) (hw : w < 4) (hx : x ≤ 16) (hy : y ≤ 60) : jr_W E C (jm_setI (jm_setI M 11 w 7 (nI x)) 11 w 8 (nI y)) (jm_setI (jm_setI N 48 0 w (nI x)) 49 0 w (nI y)) w t := by
  have e : ∀ j, j ≠ 7 → j ≠ 8 → jm_I (jm_setI (jm_setI M 11 w 7 (nI x)) 11 w 8 (nI y)) 11 w j = jm_I M 11 w j := fun j h1 h2 => (jb_Io h2 _ _ _ _ _ _).trans (jb_Io h1 _ _ _ _ _ _)
  refine jr_own1 h hw (jo_M (jo_M (jo_N (jo_N (jo_r M N w t) (by decide) (by decide) (nI x)) (by decide) (by decide) (nI y)) (by decide) (by decide) (by decide) (nI x)) (by decide) (by decide) (by decide) (nI y)) (e 6 (by decide) (by decide)) (e 12 (by decide) (by decide)) rfl rfl ?_
  obtain ⟨-, -, -, a1, a2, a3, a4, a5, a6, ⟨p, p1, p2, p3⟩, a8, a9, b1, b2, b3, b4, b5, b6, b7, b8, b9, c1, c2, c3⟩ := h
  exact ⟨a1, a2, a3, a4, a5, a6, ⟨p, p1, (e 4 (by decide) (by decide)).trans p2, p3⟩, a8, a9, b1, b2, b3, (e 9 (by decide) (by decide)).trans b4, (e 10 (by decide) (by decide)).trans b5, fun z => ⟨⟨x, hx, (jb_Io (by decide) _ _ _ _ _ _).trans (jb_Is _ _ _ _ _), jb_Is N 48 0 w (nI x)⟩, ⟨y, hy, jb_Is _ _ _ _ _, jb_Is _ _ _ _ _⟩, (b6 z).2.2⟩, fun z => absurd z (by decide), b8, fun z => absurd z (by decide), c1, c2, fun z => absurd z (by decide)⟩
