/-! The memory after both constructors. -/
def jn_A : List jn_op := jn_Y ++ ((0, 31, 0, 43, 0, none) :: (jn_X ++ [(0, 0, 0, 6, 0, none)]))
def jz_K (L : Nat) (xs : Nat → Int32) : jm_M := jn_m jn_A (jl_M0 L xs)
theorem jz_c0 {L : Nat} {xs : Nat → Int32} {k : Nat} (hk : k < 71) : jm_c (jl_M0 L xs) k = 0 := if_neg (by omega)
theorem jz_F {L : Nat} {xs : Nat → Int32} {k i j : Nat} {r : jm_R} (hk : k < 71) (h : jn_F k i j jn_A = some r) : jm_F (jz_K L xs) k i j = r := by
  unfold jz_K
  rw [jn_F_ok (jz_c0 hk), h]
  rfl
theorem jz_n {L : Nat} {xs : Nat → Int32} {k i n : Nat} (hk : k < 71) (h : jn_n k i jn_A = some n) : jm_n (jz_K L xs) k i = n := by
  unfold jz_K
  rw [jn_n_ok (jz_c0 hk), h]
  rfl
theorem jz_I {L : Nat} {xs : Nat → Int32} {k i j x : Nat} (hk : k < 71) (h : jn_I k i j jn_A = some x) : jm_I (jz_K L xs) k i j = nI x := by
  unfold jz_K
  rw [jn_I_ok (jz_c0 hk), h]
  rfl
theorem jz_c {L : Nat} {xs : Nat → Int32} {k n : Nat} (hk : k < 71) (h : jn_c k jn_A = n) : jm_c (jz_K L xs) k = n := by
  unfold jz_K
  rw [jn_c_ok (jz_c0 hk), h]
/-- no number is ever put into kind k -/
def jn_z (k : Nat) : List jn_op → Bool
  | [] => true
  | (1, k', _) :: l => !Nat.beq k k' && jn_z k l
  | (0, _) :: l => jn_z k l
  | (_ + 2, _) :: l => jn_z k l
theorem jn_z_ok {M : jm_M} {k : Nat} (h0 : ∀ i j, jm_I M k i j = 0) : ∀ l, jn_z k l = true → ∀ i j, jm_I (jn_m l M) k i j = 0 := by
  intro l
  induction l with
  | nil => intro _; exact h0
  | cons o l ih =>
    obtain ⟨t, k', x, y, z, r⟩ := o
    match t with
    | 0 =>
      intro h i j
      show (if k = k' ∧ i = jm_c (jn_m l M) k' then 0 else jm_I (jn_m l M) k i j) = 0
      split
      · rfl
      · exact ih h i j
    | 1 =>
      intro h i j
      have h : (!Nat.beq k k' && jn_z k l) = true := h
      rw [Bool.and_eq_true] at h
      have hne : ¬ k = k' := by
        intro e
        rw [e] at h
        have := h.1
        rw [Nat.beq_refl] at this
        cases this
      show (if k = k' ∧ i = x ∧ j = y then nI z else jm_I (jn_m l M) k i j) = 0
      rw [if_neg (fun z => hne z.1)]
      exact ih h.2 i j
    | t + 2 => intro h i j; exact ih h i j
theorem jz_z {L : Nat} {xs : Nat → Int32} {k : Nat} (hk : k < 71) (h : jn_z k jn_A = true) (i j : Nat) : jm_I (jz_K L xs) k i j = nI 0 := by
  refine jn_z_ok (fun i j => ?_) jn_A h i j
  show (if k = 71 then _ else if k = 72 then _ else if k = 73 then _ else if k = 75 then _ else 0) = (0 : Int32)
  rw [if_neg (by omega), if_neg (by omega), if_neg (by omega), if_neg (by omega)]
/-- kind k is never met -/
def jn_q (k : Nat) (l : List jn_op) : Bool := l.all (fun o => !Nat.beq k o.2.1)
theorem jn_q_ok {M : jm_M} {k : Nat} : ∀ l, jn_q k l = true → jm_I (jn_m l M) k = jm_I M k ∧ jm_n (jn_m l M) k = jm_n M k := by
  intro l
  induction l with
  | nil => intro _; exact ⟨rfl, rfl⟩
  | cons o l ih =>
    obtain ⟨t, k', x, y, z, r⟩ := o
    intro h
    have h : (!Nat.beq k k' && jn_q k l) = true := h
    rw [Bool.and_eq_true] at h
    have hne : ¬ k = k' := by
      intro e
      rw [e] at h
      have := h.1
      rw [Nat.beq_refl] at this
      cases this
    obtain ⟨i1, i2⟩ := ih h.2
    match t with
    | 0 =>
      refine ⟨funext fun a => funext fun b => ?_, funext fun a => ?_⟩
      · show (if k = k' ∧ a = jm_c (jn_m l M) k' then 0 else jm_I (jn_m l M) k a b) = _
        rw [if_neg (fun z => hne z.1), i1]
      · show (if k = k' ∧ a = jm_c (jn_m l M) k' then x else jm_n (jn_m l M) k a) = _
        rw [if_neg (fun z => hne z.1), i2]
    | 1 =>
      refine ⟨funext fun a => funext fun b => ?_, i2⟩
      show (if k = k' ∧ a = x ∧ b = y then nI z else jm_I (jn_m l M) k a b) = _
      rw [if_neg (fun z => hne z.1), i1]
    | t + 2 => exact ⟨i1, i2⟩
/-- references stay within a group of kinds -/
def jn_r (G : Nat → Bool) (r : jm_R) : Bool := match r with
  | some q => G q.1
  | none => true
def jn_g (G : Nat → Bool) (l : List jn_op) : Bool := l.all (fun o => Nat.blt o.1 2 || !G o.2.1 || jn_r G o.2.2.2.2.2)
theorem jn_g_ok {M : jm_M} {G : Nat → Bool} (hM : jf_M G M) : ∀ l, jn_g G l = true → jf_M G (jn_m l M) := by
  intro l
  induction l with
  | nil => intro _; exact hM
  | cons o l ih =>
    obtain ⟨t, k', x, y, z, r⟩ := o
    intro h
    have h : ((Nat.blt t 2 || !G k' || jn_r G r) && jn_g G l) = true := h
    rw [Bool.and_eq_true] at h
    have i1 := ih h.2
    match t with
    | 0 =>
      intro k i j hk
      show jf_R G (if k = k' ∧ i = jm_c (jn_m l M) k' then none else jm_F (jn_m l M) k i j)
      split
      · intro q hq; cases hq
      · exact i1 k i j hk
    | 1 => exact i1
    | t + 2 =>
      intro k i j hk
      show jf_R G (if k = k' ∧ i = x ∧ j = y then r else jm_F (jn_m l M) k i j)
      split
      · rename_i e
        intro q hq
        have h1 := h.1
        have hb : Nat.blt (t + 2) 2 = false := by
          rw [Bool.eq_false_iff]
          intro z
          have := Nat.le_of_ble_eq_true z
          omega
        rw [hb, Bool.false_or, ← e.1, hk, hq] at h1
        exact h1
      · exact i1 k i j hk
theorem jz_M {L : Nat} {xs : Nat → Int32} : jf_M jf_gX (jz_K L xs) ∧ jf_M jf_gY (jz_K L xs) :=
  ⟨jn_g_ok (fun _ _ _ _ q hq => by cases hq) jn_A (by decide +kernel), jn_g_ok (fun _ _ _ _ q hq => by cases hq) jn_A (by decide +kernel)⟩
theorem jz_75 {L : Nat} {xs : Nat → Int32} : jm_n (jz_K L xs) 75 0 = L ∧ ∀ j, jm_I (jz_K L xs) 75 0 j = xs j := by
  obtain ⟨h1, h2⟩ := jn_q_ok (M := jl_M0 L xs) (k := 75) jn_A (by decide +kernel)
  exact ⟨congrFun h2 0, fun j => congrFun (congrFun h1 0) j⟩
theorem jz_sz {L : Nat} {xs : Nat → Int32} : (jm_al (jz_K L xs)).length ≤ 1000 ∧ jm_sl (jz_K L xs) ≤ 20000 := by
  obtain ⟨h1, h2⟩ := jn_sa (M := jl_M0 L xs) jn_A
  have e1 : jn_a jn_A ≤ 1000 := by decide +kernel
  have e2 : jn_s jn_A ≤ 20000 := by decide +kernel
  have h1' : jm_sl (jz_K L xs) = jn_s jn_A + 0 := h1
  have h2' : (jm_al (jz_K L xs)).length = jn_a jn_A + 0 := h2
  rw [h1', h2']
  exact ⟨Nat.le_trans (Nat.le_of_eq (Nat.add_zero _)) e1, Nat.le_trans (Nat.le_of_eq (Nat.add_zero _)) e2⟩
theorem jz_X {L : Nat} {xs : Nat → Int32} : jx_S (jz_K L xs) := ⟨⟨jz_F (by decide) (by decide +kernel), jz_F (by decide) (by decide +kernel), jz_F (by decide) (by decide +kernel), jz_F (by decide) (by decide +kernel), jz_F (by decide) (by decide +kernel), jz_n (by decide) (by decide +kernel), jz_n (by decide) (by decide +kernel), jz_n (by decide) (by decide +kernel), jz_F (by decide) (by decide +kernel), jz_F (by decide) (by decide +kernel), jz_F (by decide) (by decide +kernel), jz_F (by decide) (by decide +kernel), jz_F (by decide) (by decide +kernel), jz_F (by decide) (by decide +kernel), jz_n (by decide) (by decide +kernel), jz_n (by decide) (by decide +kernel), jz_n (by decide) (by decide +kernel), jz_n (by decide) (by decide +kernel), jz_n (by decide) (by decide +kernel), jz_n (by decide) (by decide +kernel)⟩, fun p h => ⟨jz_F (by decide) ((show ∀ p, p < 4 → jn_F 1 0 p jn_A = some (some (6, p)) by decide +kernel) p h), jz_F (by decide) ((show ∀ p, p < 4 → jn_F 6 p 0 jn_A = some (some (7, p)) by decide +kernel) p h), jz_F (by decide) ((show ∀ p, p < 4 → jn_F 6 p 1 jn_A = some (some (8, p)) by decide +kernel) p h), jz_F (by decide) ((show ∀ p, p < 4 → jn_F 6 p 2 jn_A = some (some (9, p)) by decide +kernel) p h), jz_F (by decide) ((show ∀ p, p < 4 → jn_F 6 p 3 jn_A = some (some (10, p)) by decide +kernel) p h), jz_n (by decide) ((show ∀ p, p < 4 → jn_n 7 p jn_A = some 16 by decide +kernel) p h), jz_n (by decide) ((show ∀ p, p < 4 → jn_n 8 p jn_A = some 16 by decide +kernel) p h), jz_n (by decide) ((show ∀ p, p < 4 → jn_n 9 p jn_A = some 16 by decide +kernel) p h), jz_n (by decide) ((show ∀ p, p < 4 → jn_n 10 p jn_A = some 16 by decide +kernel) p h)⟩, fun w h => ⟨jz_F (by decide) ((show ∀ w, w < 4 → jn_F 2 0 w jn_A = some (some (11, w)) by decide +kernel) w h), jz_F (by decide) ((show ∀ w, w < 4 → jn_F 11 w 1 jn_A = some (some (12, w)) by decide +kernel) w h), jz_F (by decide) ((show ∀ w, w < 4 → jn_F 11 w 2 jn_A = some (some (13, w)) by decide +kernel) w h), jz_F (by decide) ((show ∀ w, w < 4 → jn_F 11 w 3 jn_A = some (some (14, w)) by decide +kernel) w h), jz_n (by decide) ((show ∀ w, w < 4 → jn_n 12 w jn_A = some 8 by decide +kernel) w h), jz_n (by decide) ((show ∀ w, w < 4 → jn_n 13 w jn_A = some 32 by decide +kernel) w h), jz_n (by decide) ((show ∀ w, w < 4 → jn_n 14 w jn_A = some 16 by decide +kernel) w h), jz_F (by decide) ((show ∀ w, w < 4 → jn_F 3 0 w jn_A = some (some (15, w)) by decide +kernel) w h), jz_F (by decide) ((show ∀ w, w < 4 → jn_F 15 w 0 jn_A = some (some (16, w)) by decide +kernel) w h)⟩, fun i h => ⟨jz_F (by decide) ((show ∀ i, i < 16 → jn_F 23 0 i jn_A = some (some (17, i)) by decide +kernel) i h), jz_F (by decide) ((show ∀ i, i < 16 → jn_F 17 i 1 jn_A = some (some (18, i)) by decide +kernel) i h), jz_n (by decide) ((show ∀ i, i < 16 → jn_n 18 i jn_A = some 5 by decide +kernel) i h)⟩⟩
theorem jz_Y {L : Nat} {xs : Nat → Int32} : jy_S (jz_K L xs) := ⟨jz_F (by decide) (by decide +kernel), jz_F (by decide) (by decide +kernel), jz_F (by decide) (by decide +kernel), jz_F (by decide) (by decide +kernel), jz_F (by decide) (by decide +kernel), jz_F (by decide) (by decide +kernel), jz_F (by decide) (by decide +kernel), jz_F (by decide) (by decide +kernel), jz_F (by decide) (by decide +kernel), jz_F (by decide) (by decide +kernel), jz_F (by decide) (by decide +kernel), jz_F (by decide) (by decide +kernel), jz_F (by decide) (by decide +kernel), jz_F (by decide) (by decide +kernel), jz_F (by decide) (by decide +kernel), jz_F (by decide) (by decide +kernel), jz_F (by decide) (by decide +kernel), jz_F (by decide) (by decide +kernel), jz_F (by decide) (by decide +kernel), jz_F (by decide) (by decide +kernel), jz_F (by decide) (by decide +kernel), jz_F (by decide) (by decide +kernel), jz_F (by decide) (by decide +kernel), jz_F (by decide) (by decide +kernel), jz_F (by decide) (by decide +kernel), jz_F (by decide) (by decide +kernel), jz_F (by decide) (by decide +kernel), jz_F (by decide) (by decide +kernel), jz_F (by decide) (by decide +kernel), jz_F (by decide) (by decide +kernel), jz_F (by decide) (by decide +kernel), jz_F (by decide) (by decide +kernel), jz_F (by decide) (by decide +kernel), jz_F (by decide) (by decide +kernel), jz_F (by decide) (by decide +kernel), jz_F (by decide) (by decide +kernel), jz_F (by decide) (by decide +kernel), jz_F (by decide) (by decide +kernel), jz_F (by decide) (by decide +kernel), jz_n (by decide) (by decide +kernel), jz_n (by decide) (by decide +kernel), jz_n (by decide) (by decide +kernel), jz_n (by decide) (by decide +kernel), jz_n (by decide) (by decide +kernel), jz_n (by decide) (by decide +kernel), jz_n (by decide) (by decide +kernel), jz_n (by decide) (by decide +kernel), jz_n (by decide) (by decide +kernel), jz_n (by decide) (by decide +kernel), jz_n (by decide) (by decide +kernel), jz_n (by decide) (by decide +kernel), jz_n (by decide) (by decide +kernel), jz_n (by decide) (by decide +kernel), jz_n (by decide) (by decide +kernel), jz_n (by decide) (by decide +kernel), jz_n (by decide) (by decide +kernel), jz_n (by decide) (by decide +kernel), jz_n (by decide) (by decide +kernel), jz_n (by decide) (by decide +kernel), jz_n (by decide) (by decide +kernel), jz_n (by decide) (by decide +kernel), jz_n (by decide) (by decide +kernel), jz_n (by decide) (by decide +kernel), jz_n (by decide) (by decide +kernel), jz_n (by decide) (by decide +kernel), jz_n (by decide) (by decide +kernel), jz_n (by decide) (by decide +kernel), jz_n (by decide) (by decide +kernel), jz_n (by decide) (by decide +kernel), jz_n (by decide) (by decide +kernel), jz_n (by decide) (by decide +kernel), jz_n (by decide) (by decide +kernel), jz_n (by decide) (by decide +kernel), jz_n (by decide) (by decide +kernel), jz_n (by decide) (by decide +kernel), jz_n (by decide) (by decide +kernel), jz_n (by decide) (by decide +kernel), jz_n (by decide) (by decide +kernel)⟩
theorem jz_R {L : Nat} {xs : Nat → Int32} : jr_R 1 0 (jz_K L xs) (jz_K L xs) := by
  have z0 : ∀ k, k < 71 → jn_z k jn_A = true → ∀ i j, jm_I (jz_K L xs) k i j = nI 0 := fun k hk h i j => jz_z hk h i j
  have c25 : jm_c (jz_K L xs) 25 = 0 := jz_c (by decide) (by decide +kernel)
  have q71 := jn_q_ok (M := jl_M0 L xs) (k := 71) jn_A (by decide +kernel)
  have q72 := jn_q_ok (M := jl_M0 L xs) (k := 72) jn_A (by decide +kernel)
  have q73 := jn_q_ok (M := jl_M0 L xs) (k := 73) jn_A (by decide +kernel)
  have q74 := jn_q_ok (M := jl_M0 L xs) (k := 74) jn_A (by decide +kernel)
  have hkl : ∀ w, jy_kl (jz_K L xs) (jz_K L xs) w = [] := by
    intro w
    unfold jy_kl
    rw [c25]
    rfl
  have n37 := z0 37 (by decide) (by decide +kernel)
  have n45 := z0 45 (by decide) (by decide +kernel)
  have hlf : ∀ i, jy_lf (jz_K L xs) i = [] := by
    intro i
    unfold jy_lf
    rw [List.filter_eq_nil_iff]
    intro x _
    rw [jy_at_f0 (n37 0 x)]
    decide
  have f16 : ∀ w, w < 4 → jm_F (jz_K L xs) 16 w 0 = some (74, 0) := fun w hw => jz_F (by decide) ((show ∀ w, w < 4 → jn_F 16 w 0 jn_A = some (some (74, 0)) by decide +kernel) w hw)
  refine ⟨jz_X, jz_Y, ⟨fun w hw => jz_I (by decide) ((show ∀ w, w < 4 → jn_I 11 w 0 jn_A = some (w + 1) by decide +kernel) w hw), fun i hi => jz_I (by decide) ((show ∀ i, i < 16 → jn_I 17 i 0 jn_A = some (i + 1) by decide +kernel) i hi), fun j hj => ⟨congrFun (congrFun q71.1 0) j, congrFun (congrFun q72.1 0) j, congrFun (congrFun q73.1 0) j⟩, congrFun q71.2 0, congrFun q72.2 0, congrFun q73.2 0, congrFun q74.2 0⟩, fun p hp => ?_, fun k hk => ?_, ?_, fun w hw => ?_, ?_, ?_, ?_, ?_⟩
  · refine ⟨0, by decide, z0 6 (by decide) (by decide +kernel) p 4, z0 32 (by decide) (by decide +kernel) 0 p, fun j hj => ⟨?_, ?_, ?_, ?_⟩, fun j hj => absurd hj (Nat.not_lt_zero _)⟩
    · rw [z0 7 (by decide) (by decide +kernel), z0 33 (by decide) (by decide +kernel)]
    · rw [z0 8 (by decide) (by decide +kernel), z0 34 (by decide) (by decide +kernel)]
    · rw [z0 9 (by decide) (by decide +kernel), z0 35 (by decide) (by decide +kernel)]
    · rw [z0 10 (by decide) (by decide +kernel), z0 36 (by decide) (by decide +kernel)]
  · exact Or.inl ⟨n37 0 k, z0 19 (by decide) (by decide +kernel) 0 k, z0 20 (by decide) (by decide +kernel) 0 k, z0 21 (by decide) (by decide +kernel) 0 k, z0 22 (by decide) (by decide +kernel) 0 k⟩
  · refine ⟨1, by decide, by decide, jz_I (by decide) (by decide +kernel), jz_I (by decide) (by decide +kernel), jz_I (by decide) (by decide +kernel), fun q hq => ?_, fun i hi _ => ⟨jz_I (by decide) ((show ∀ i, i < 16 → jn_I 17 i 2 jn_A = some 0 by decide +kernel) i hi), jz_I (by decide) ((show ∀ i, i < 16 → jn_I 17 i 3 jn_A = some 0 by decide +kernel) i hi)⟩, fun i hi => ?_, fun k hk h => absurd (n37 0 k) h⟩
    · obtain rfl : q = 0 := by omega
      exact ⟨0, by decide, z0 24 (by decide) (by decide +kernel) 0 0, jz_I (by decide) (by decide +kernel)⟩
    · obtain rfl : i = 0 := by omega
      rw [hlf 0]
      exact ⟨jz_I (by decide) (by decide +kernel), by decide, fun h => absurd h (by decide), ⟨0, Nat.zero_le _, jz_I (by decide) (by decide +kernel), z0 44 (by decide) (by decide +kernel) 0 1⟩, fun j k hj => by cases hj⟩
  · refine ⟨0, by decide, jz_I (by decide) ((show ∀ w, w < 4 → jn_I 11 w 6 jn_A = some 0 by decide +kernel) w hw), n45 0 w, ⟨0, Nat.zero_le _, z0 61 (by decide) (by decide +kernel) 0 w, fun _ => jz_I (by decide) ((show ∀ w, w < 4 → jn_I 11 w 12 jn_A = some 0 by decide +kernel) w hw)⟩, fun _ => ⟨z0 46 (by decide) (by decide +kernel) 0 w, fun k hk => ?_⟩, fun z => absurd rfl z⟩
    rw [z0 22 (by decide) (by decide +kernel) 0 k]
    exact fun z => absurd ((nI_eq (by decide) (by omega)).mp z) (by omega)
  · refine ⟨by rw [c25]; decide, by rw [c25]; exact jz_c (by decide) (by decide +kernel), by rw [c25]; exact jz_c (by decide) (by decide +kernel), by rw [c25]; exact jz_I (by decide) (by decide +kernel), ?_, fun t ht => by rw [c25] at ht; exact absurd ht (Nat.not_lt_zero _)⟩
    rw [c25]
    exact ⟨jz_I (by decide) (by decide +kernel), by decide, Or.inl ⟨rfl, jz_F (by decide) (by decide +kernel)⟩⟩
  · refine ⟨fun w hw => ?_, fun w v hw hv hne q h1 h2 => ?_, fun w hw q h1 h2 => ?_⟩
    · rw [hkl w]
      exact ⟨⟨jz_I (by decide) ((show ∀ w, w < 4 → jn_I 16 w 1 jn_A = some 0 by decide +kernel) w hw), by decide, Or.inl ⟨rfl, f16 w hw⟩⟩, 0, Nat.le_refl _, z0 15 (by decide) (by decide +kernel) w 1, fun j t hj => by cases hj⟩
    · rw [f16 w hw] at h1
      exact (Option.some.inj h1).symm
    · rw [f16 w hw] at h1
      exact (Option.some.inj h1).symm
  · exact ⟨1, by decide, by decide, jz_I (by decide) (by decide +kernel), jz_I (by decide) (by decide +kernel), fun w hw => ⟨0, by decide, z0 15 (by decide) (by decide +kernel) w 2, z0 62 (by decide) (by decide +kernel) 0 w⟩⟩
  · have no : ∀ w s, 0 < s → s < 5 → ¬ jm_I (jz_K L xs) 45 0 w = nI s := by
      intro w s h1 h2 z
      rw [n45 0 w] at z
      have := (nI_eq (by decide) (by omega)).mp z
      omega
    have nt : ∀ t, ¬ t < jm_c (jz_K L xs) 25 := fun t ht => by rw [c25] at ht; exact Nat.not_lt_zero _ ht
    refine ⟨0, ⟨1, by decide, by decide, jz_I (by decide) (by decide +kernel)⟩, fun w hw z => ?_, fun t k ht => absurd ht (nt t), fun w k hw hk z => absurd z (no w 4 (by decide) (by decide)), fun t u k ht => absurd ht (nt t), fun w t k hw ht => absurd ht (nt t), fun w v k hw hv hk hne z => absurd z (no w 4 (by decide) (by decide))⟩
    rcases z with z | z
    · exact absurd z (no w 3 (by decide) (by decide))
    · exact absurd z (no w 4 (by decide) (by decide))
