/-! A crash in the class: logs and workers. -/
def jm_lz (M Q : jm_M) : jm_M := (fun K i j => if K = 11 ∨ K = 15 ∨ K = 16 ∨ K = 25 then Q.1 K i j else M.1 K i j, fun K i j => if K = 28 ∨ K = 30 then Q.2.1 K i j else M.2.1 K i j, M.2.2)
theorem jc_rep {M Q : jm_M} (h : jc_F M Q) : Q = jm_lz M Q := by
  obtain ⟨⟨a1, a2, a3, a4⟩, b, c, -, -⟩ := h
  refine Prod.ext ?_ (Prod.ext ?_ (Prod.ext a1 (Prod.ext a2 (Prod.ext a3 a4))))
  · funext K i j
    show Q.1 K i j = if K = 11 ∨ K = 15 ∨ K = 16 ∨ K = 25 then Q.1 K i j else M.1 K i j
    by_cases h : K = 11 ∨ K = 15 ∨ K = 16 ∨ K = 25
    · rw [if_pos h]
    · rw [if_neg h]
      exact c K i j (fun e => h (Or.inl e)) (fun e => h (Or.inr (Or.inl e))) (fun e => h (Or.inr (Or.inr (Or.inl e)))) (fun e => h (Or.inr (Or.inr (Or.inr e))))
  · funext K i j
    show Q.2.1 K i j = if K = 28 ∨ K = 30 then Q.2.1 K i j else M.2.1 K i j
    by_cases h : K = 28 ∨ K = 30
    · rw [if_pos h]
    · rw [if_neg h]
      exact b K i j (fun e => h (Or.inl e)) (fun e => h (Or.inr e))
theorem jc_X {M Q : jm_M} (h : jc_F M Q) (hX : jx_S M) : jx_S Q := by
  rw [jc_rep h]
  exact hX
/-- a list stays -/
theorem jx_Lw {M Q : jm_M} {k i : Nat} {l : List Nat} (h : jx_L M k i l) (h1 : jm_I Q k i 1 = jm_I M k i 1) (h2 : jm_F Q k i 0 = jm_F M k i 0) (h3 : jm_n Q = jm_n M) (h4 : jm_c Q = jm_c M) (h5 : ∀ a b, (a = 28 ∨ a = 30) → jm_F M k i 0 = some (a, b) → ∀ j, jm_F Q a b j = jm_F M a b j) : jx_L Q k i l := by
  obtain ⟨p1, p2, p3⟩ := h
  refine ⟨h1.trans p1, p2, ?_⟩
  rcases p3 with ⟨q1, q2⟩ | ⟨a, b, q1, q2, q3, q4, q5, q6, q7⟩
  · exact Or.inl ⟨q1, h2.trans q2⟩
  · exact Or.inr ⟨a, b, q1, by rw [h4]; exact q2, h2.trans q3, by rw [h3]; exact q4, by rw [h3]; exact q5, by rw [h3]; exact q6, fun j t hj => (h5 a b q1 q3 j).trans (q7 j t hj)⟩
def jc_ls (N : jm_M) (kp : Nat → Bool) (t : Nat) : Bool := decide (jm_I N 64 0 (t + 1) = nI 1) || ((decide (jm_I N 64 0 (t + 1) = nI 2) || decide (jm_I N 64 0 (t + 1) = nI 3)) && !kp t)
def jc_I (M N : jm_M) (m : Int32) (kp : Nat → Bool) (u : Nat) (M' : jm_M) : Prop := jc_F M M' ∧
  (∀ v, v < 4 → v < u → jx_L M' 16 v ((jy_kl M N v).filter kp) ∧ jm_I M' 15 v 2 = m ∧ (∀ dc, dc ≤ (jy_kl M N v).length → jm_I M 15 v 1 = nI dc → jm_I M' 15 v 1 = nI (((jy_kl M N v).take dc).filter kp).length) ∧ jm_I M' 11 v 6 = nI 0 ∧ jm_I M' 11 v 12 = nI 0) ∧
  (∀ v, v < 4 → u ≤ v → jx_L M' 16 v (jy_kl M N v) ∧ (∀ j, jm_I M' 15 v j = jm_I M 15 v j) ∧ ∀ j, jm_I M' 11 v j = jm_I M 11 v j) ∧
  (∀ a b j, (∀ v, v < 4 → jm_F M 16 v 0 ≠ some (a, b)) → jm_F M' a b j = jm_F M a b j) ∧
  (∀ t v, t < jm_c M 25 → v < 4 → jm_I N 63 0 (t + 1) = nI v → jm_I M' 25 t 4 = if v < u ∧ jc_ls N kp t = true then nI 5 else jm_I M 25 t 4)
theorem jc_I0 {E C : Nat} {M N : jm_M} {m : Int32} {kp : Nat → Bool} (h : jr_R E C M N) : jc_I M N m kp 0 M := by
  refine ⟨jc_F0 M, fun v _ hv => absurd hv (Nat.not_lt_zero _), fun v hv _ => ⟨(h.2.2.2.2.2.2.2.2.1.1 v hv).1, fun _ => rfl, fun _ => rfl⟩, fun _ _ _ _ => rfl, fun t v _ _ _ => ?_⟩
  rw [if_neg (fun z => absurd z.1 (Nat.not_lt_zero _))]
/-- loseRun -/
def jx_lr (M : jm_M) (u t : Nat) (b : Bool) : jm_M := jm_setI (bif b then jm_setI (jm_setI M 25 t 4 (nI 5)) 11 u 6 (nI 0) else M) 11 u 12 (nI 0)
theorem xLr {d u t : Nat} {M : jm_M} (h5 : ¬ jm_I M 11 u 6 = nI 0 → jm_F M 11 u 5 = some (25, t)) : jm_D d 85 0 [some (.inr (some (11, u)))] [] M = some (none, jx_lr M u t (!decide (jm_I M 11 u 6 = nI 0))) := by
  unfold jx_lr
  by_cases h : jm_I M 11 u 6 = nI 0
  · rw [decide_eq_true h]
    simp only [e85_0, e85_1, e85_2, e85_3, e85_4, e85_5, e85_6, e85_7, e85_8, e85_9, e85_10, e85_11, e85_12, e85_13, h, if_true]
    rfl
  · rw [decide_eq_false h]
    simp only [e85_0, e85_1, e85_2, e85_3, e85_4, e85_5, e85_6, e85_7, e85_8, e85_9, e85_10, e85_11, e85_12, e85_13, if_neg h, h5 h]
    rfl
theorem jc_It {E C u : Nat} {M N M' M2 : jm_M} {m : Int32} {kp : Nat → Bool} (h : jr_R E C M N) (hu : u < 4) (hI : jc_I M N m kp u M') (hF : jc_F M M2) (p1 : jx_L M2 16 u ((jy_kl M N u).filter kp)) (p2 : jm_I M2 15 u 2 = m) (p3 : ∀ dc, dc ≤ (jy_kl M N u).length → jm_I M 15 u 1 = nI dc → jm_I M2 15 u 1 = nI (((jy_kl M N u).take dc).filter kp).length) (p4 : jm_I M2 11 u 6 = nI 0) (p5 : jm_I M2 11 u 12 = nI 0) (q1 : ∀ v, v ≠ u → ∀ j, jm_I M2 15 v j = jm_I M' 15 v j ∧ jm_I M2 16 v j = jm_I M' 16 v j ∧ jm_I M2 11 v j = jm_I M' 11 v j) (q2 : ∀ a b j, jm_F M 16 u 0 ≠ some (a, b) → jm_F M2 a b j = jm_F M' a b j) (q3 : ∀ t, t < jm_c M 25 → jm_I N 63 0 (t + 1) = nI u → jm_I M2 25 t 4 = if jc_ls N kp t = true then nI 5 else jm_I M 25 t 4) (q4 : ∀ t, t < jm_c M 25 → ¬ jm_I N 63 0 (t + 1) = nI u → jm_I M2 25 t 4 = jm_I M' 25 t 4) : jc_I M N m kp (u + 1) M2 := by
  obtain ⟨i1, i2, i3, i4, i5⟩ := hI
  have hG := h.2.2.2.2.2.2.2.2.1
  have f16 : ∀ v, jm_F M' 16 v 0 = jm_F M 16 v 0 := fun v => i1.2.1 16 v 0 (by decide) (by decide)
  have g16 : ∀ v, jm_F M2 16 v 0 = jm_F M 16 v 0 := fun v => hF.2.1 16 v 0 (by decide) (by decide)
  have hst : ∀ v l, v < 4 → v ≠ u → jx_L M' 16 v l → jx_L M2 16 v l := by
    intro v l hv hne hl
    refine jx_Lw hl (q1 v hne 1).2.1 ((g16 v).trans (f16 v).symm) (hF.1.1.trans i1.1.1.symm) (hF.1.2.1.trans i1.1.2.1.symm) (fun a b hab hF2 j => q2 a b j (fun z => ?_))
    rw [f16 v] at hF2
    have := hG.2.1 v u hv hu hne (a, b) hF2 z
    have : a = 74 := congrArg Prod.fst this
    omega
  refine ⟨hF, fun v hv hvu => ?_, fun v hv hvu => ?_, fun a b j hab => ?_, fun t v ht hv h63 => ?_⟩
  · by_cases e : v = u
    · subst e
      exact ⟨p1, p2, p3, p4, p5⟩
    · obtain ⟨x1, x2, x3, x4, x5⟩ := i2 v hv (by omega)
      exact ⟨hst v _ hv e x1, (q1 v e 2).1.trans x2, fun dc y1 y2 => (q1 v e 1).1.trans (x3 dc y1 y2), (q1 v e 6).2.2.trans x4, (q1 v e 12).2.2.trans x5⟩
  · have e : v ≠ u := by omega
    obtain ⟨x1, x2, x3⟩ := i3 v hv (by omega)
    exact ⟨hst v _ hv e x1, fun j => (q1 v e j).1.trans (x2 j), fun j => (q1 v e j).2.2.trans (x3 j)⟩
  · exact (q2 a b j (hab u hu)).trans (i4 a b j hab)
  · by_cases e : v = u
    · subst e
      rw [q3 t ht h63]
      by_cases hq : jc_ls N kp t = true
      · rw [if_pos hq, if_pos ⟨by omega, hq⟩]
      · rw [if_neg hq, if_neg (fun z => hq z.2)]
    · have hne : ¬ jm_I N 63 0 (t + 1) = nI u := by
        rw [h63]
        exact fun z => e ((nI_eq (by omega) (by omega)).mp z)
      rw [q4 t ht hne, i5 t v ht hv h63]
      by_cases hq : v < u ∧ jc_ls N kp t = true
      · rw [if_pos hq, if_pos ⟨by omega, hq.2⟩]
      · rw [if_neg hq, if_neg (fun z => hq ⟨by omega, z.2⟩)]
