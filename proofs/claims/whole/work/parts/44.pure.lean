/-! Lists made longer. -/
/-- memory Q at the kinds kd, 28 and 30, memory M elsewhere -/
def jm_rep (M Q : jm_M) (kd : Nat) : jm_M :=
  (fun a b c => if a = kd ∨ a = 28 ∨ a = 30 then Q.1 a b c else M.1 a b c,
   fun a b c => if a = kd ∨ a = 28 ∨ a = 30 then Q.2.1 a b c else M.2.1 a b c,
   fun a b => if a = kd ∨ a = 28 ∨ a = 30 then Q.2.2.1 a b else M.2.2.1 a b,
   fun a => if a = kd ∨ a = 28 ∨ a = 30 then Q.2.2.2.1 a else M.2.2.2.1 a, Q.2.2.2.2)
def jm_eqo (M Q : jm_M) (kd : Nat) : Prop := ∀ a, ¬ (a = kd ∨ a = 28 ∨ a = 30) → (∀ b c, Q.1 a b c = M.1 a b c ∧ Q.2.1 a b c = M.2.1 a b c) ∧ (∀ b, Q.2.2.1 a b = M.2.2.1 a b) ∧ Q.2.2.2.1 a = M.2.2.2.1 a
theorem jm_eqo_rep {M Q : jm_M} {kd : Nat} (h : jm_eqo M Q kd) : Q = jm_rep M Q kd := by
  refine Prod.ext ?_ (Prod.ext ?_ (Prod.ext ?_ (Prod.ext ?_ rfl)))
  · funext a b c
    show Q.1 a b c = if a = kd ∨ a = 28 ∨ a = 30 then Q.1 a b c else M.1 a b c
    by_cases h1 : a = kd ∨ a = 28 ∨ a = 30
    · rw [if_pos h1]
    · rw [if_neg h1, ((h a h1).1 b c).1]
  · funext a b c
    show Q.2.1 a b c = if a = kd ∨ a = 28 ∨ a = 30 then Q.2.1 a b c else M.2.1 a b c
    by_cases h1 : a = kd ∨ a = 28 ∨ a = 30
    · rw [if_pos h1]
    · rw [if_neg h1, ((h a h1).1 b c).2]
  · funext a b
    show Q.2.2.1 a b = if a = kd ∨ a = 28 ∨ a = 30 then Q.2.2.1 a b else M.2.2.1 a b
    by_cases h1 : a = kd ∨ a = 28 ∨ a = 30
    · rw [if_pos h1]
    · rw [if_neg h1, (h a h1).2.1 b]
  · funext a
    show Q.2.2.2.1 a = if a = kd ∨ a = 28 ∨ a = 30 then Q.2.2.2.1 a else M.2.2.2.1 a
    by_cases h1 : a = kd ∨ a = 28 ∨ a = 30
    · rw [if_pos h1]
    · rw [if_neg h1, (h a h1).2.2]
theorem jo_0 (M : jm_M) (kd : Nat) : jm_eqo M M kd := fun _ _ => ⟨fun _ _ => ⟨rfl, rfl⟩, fun _ => rfl, rfl⟩
theorem jo_I {M Q : jm_M} {kd : Nat} (h : jm_eqo M Q kd) {k : Nat} (hk : k = kd ∨ k = 28 ∨ k = 30) (i j : Nat) (x : Int32) : jm_eqo M (jm_setI Q k i j x) kd := by
  intro a ha
  obtain ⟨h1, h2, h3⟩ := h a ha
  exact ⟨fun b c => ⟨(if_neg (fun (e : a = k ∧ b = i ∧ c = j) => ha (by rw [e.1]; exact hk))).trans (h1 b c).1, (h1 b c).2⟩, h2, h3⟩
theorem jo_F {M Q : jm_M} {kd : Nat} (h : jm_eqo M Q kd) {k : Nat} (hk : k = kd ∨ k = 28 ∨ k = 30) (i j : Nat) (x : jm_R) : jm_eqo M (jm_setF Q k i j x) kd := by
  intro a ha
  obtain ⟨h1, h2, h3⟩ := h a ha
  exact ⟨fun b c => ⟨(h1 b c).1, (if_neg (fun (e : a = k ∧ b = i ∧ c = j) => ha (by rw [e.1]; exact hk))).trans (h1 b c).2⟩, h2, h3⟩
theorem jo_mk {M Q : jm_M} {kd : Nat} (h : jm_eqo M Q kd) {k : Nat} (hk : k = kd ∨ k = 28 ∨ k = 30) (n s : Nat) : jm_eqo M (jm_mk Q k n s) kd := by
  intro a ha
  obtain ⟨h1, h2, h3⟩ := h a ha
  exact ⟨fun b c => ⟨(if_neg (fun (e : a = k ∧ b = jm_c Q k) => ha (by rw [e.1]; exact hk))).trans (h1 b c).1, (if_neg (fun (e : a = k ∧ b = jm_c Q k) => ha (by rw [e.1]; exact hk))).trans (h1 b c).2⟩, fun b => (if_neg (fun (e : a = k ∧ b = jm_c Q k) => ha (by rw [e.1]; exact hk))).trans (h2 b), (if_neg (fun (e : a = k) => ha (by rw [e]; exact hk))).trans h3⟩
theorem jo_cp {M Q : jm_M} {kd : Nat} (h : jm_eqo M Q kd) {p q : Nat × Nat} (hk : q.1 = kd ∨ q.1 = 28 ∨ q.1 = 30) (sp dp n : Nat) : jm_eqo M (jm_cp Q p sp q dp n) kd := by
  intro a ha
  obtain ⟨h1, h2, h3⟩ := h a ha
  exact ⟨fun b c => ⟨(h1 b c).1, (if_neg (fun (e : a = q.1 ∧ b = q.2 ∧ dp ≤ c ∧ c < dp + n) => ha (by rw [e.1]; exact hk))).trans (h1 b c).2⟩, h2, h3⟩
/-- what a list's change comes to: the list is l now, no other list is touched -/
def jx_A (M Q : jm_M) (kd i : Nat) (l : List Nat) : Prop :=
  jx_L Q kd i l ∧ (∃ a b, jm_F Q kd i 0 = some (a, b) ∧ (jm_F M kd i 0 = some (a, b) ∨ ((a = 28 ∨ a = 30) ∧ jm_c M a ≤ b))) ∧
  (∀ a b, (a = 28 ∨ a = 30) → b < jm_c M a → (jm_n Q a b = jm_n M a b ∧ (jm_F M kd i 0 ≠ some (a, b) → ∀ j, jm_F Q a b j = jm_F M a b j))) ∧
  (∀ a, jm_c M a ≤ jm_c Q a) ∧
  (∀ b, b ≠ i → (∀ j, jm_I Q kd b j = jm_I M kd b j) ∧ ∀ j, jm_F Q kd b j = jm_F M kd b j) ∧
  ((jm_al Q).length ≤ (jm_al M).length + 1 ∧ jm_sl Q ≤ jm_sl M + 150) ∧ jm_c Q kd = jm_c M kd
theorem jb_Fz {k k' : Nat} (h : k' ≠ k) (M : jm_M) (i j : Nat) (x : jm_R) (i' j' : Nat) : jm_F (jm_setF M k i j x) k' i' j' = jm_F M k' i' j' := if_neg (fun e => h e.1)
theorem jb_Fj {i i' : Nat} (h : i' ≠ i) (M : jm_M) (k j : Nat) (x : jm_R) (k' j' : Nat) : jm_F (jm_setF M k i j x) k' i' j' = jm_F M k' i' j' := if_neg (fun e => h e.2.1)
theorem jb_Fo {j j' : Nat} (h : j' ≠ j) (M : jm_M) (k i : Nat) (x : jm_R) (k' i' : Nat) : jm_F (jm_setF M k i j x) k' i' j' = jm_F M k' i' j' := if_neg (fun e => h e.2.2)
theorem jb_Fm {M : jm_M} {k k' i' : Nat} (h : ¬ (k' = k ∧ i' = jm_c M k)) (n s j' : Nat) : jm_F (jm_mk M k n s) k' i' j' = jm_F M k' i' j' := if_neg h
theorem jb_Im {M : jm_M} {k k' i' : Nat} (h : ¬ (k' = k ∧ i' = jm_c M k)) (n s j' : Nat) : jm_I (jm_mk M k n s) k' i' j' = jm_I M k' i' j' := if_neg h
theorem jb_nm {M : jm_M} {k k' i' : Nat} (h : ¬ (k' = k ∧ i' = jm_c M k)) (n s : Nat) : jm_n (jm_mk M k n s) k' i' = jm_n M k' i' := if_neg h
theorem jb_nms (M : jm_M) (k n s : Nat) : jm_n (jm_mk M k n s) k (jm_c M k) = n := if_pos ⟨rfl, rfl⟩
theorem jb_Ims (M : jm_M) (k n s j : Nat) : jm_I (jm_mk M k n s) k (jm_c M k) j = 0 := if_pos ⟨rfl, rfl⟩
theorem jb_Fms (M : jm_M) (k n s j : Nat) : jm_F (jm_mk M k n s) k (jm_c M k) j = none := if_pos ⟨rfl, rfl⟩
theorem jb_cms (M : jm_M) (k n s : Nat) : jm_c (jm_mk M k n s) k = jm_c M k + 1 := if_pos rfl
theorem jb_cm {k k' : Nat} (h : k' ≠ k) (M : jm_M) (n s : Nat) : jm_c (jm_mk M k n s) k' = jm_c M k' := if_neg h
theorem jb_cle (M : jm_M) (k n s a : Nat) : jm_c M a ≤ jm_c (jm_mk M k n s) a := by
  by_cases h : a = k
  · subst h; rw [jb_cms]; omega
  · rw [jb_cm h]; exact Nat.le_refl _
theorem jb_Fc {M : jm_M} {p q : Nat × Nat} {sp dp n k' i' : Nat} (h : ¬ (k' = q.1 ∧ i' = q.2)) (j' : Nat) : jm_F (jm_cp M p sp q dp n) k' i' j' = jm_F M k' i' j' := if_neg (fun e => h ⟨e.1, e.2.1⟩)
theorem jb_Fcs {M : jm_M} {p q : Nat × Nat} {sp dp n j' : Nat} (h1 : dp ≤ j') (h2 : j' < dp + n) : jm_F (jm_cp M p sp q dp n) q.1 q.2 j' = jm_F M p.1 p.2 (sp + (j' - dp)) := if_pos ⟨rfl, rfl, h1, h2⟩
set_option maxRecDepth 20000 in
theorem jb_shr : ∀ n, n < 151 → nI n >>> (nI 1 &&& 31) = nI (n / 2) := by decide
theorem xNl {d n : Nat} {M : jm_M} (h : n ≤ 99) (h1 : 10 ≤ n) : jm_D (d + 1) 24 0 [some (.inl (nI n)), some (.inl (nI 1)), some (.inl (nI (n / 2))), none] [] M = some (some (.inl (nI (n + n / 2))), M) := by
  have c1 : nI 1 < nI (n / 2) := nI_lt (by omega) (by omega)
  have c2 : ¬ nI (n + n / 2) ≤ nI 0 := nI_ge (by omega) (by omega)
  have c3 : ¬ nI 2147483639 < nI (n + n / 2) := nI_nlt (by omega) (by decide)
  simp only [e24_0, e24_1, e24_2, e24_3, e24_4, e24_5, e24_6, e24_7, e24_8, e24_9, e24_10, e24_11, e24_12, e24_13, e24_14, e24_15, e24_16, e24_17, if_pos c1, nI_add, if_neg c2, if_neg c3]
theorem jb_app {l : List Nat} {t j u : Nat} (h : (l ++ [t])[j]? = some u) : (j < l.length ∧ l[j]? = some u) ∨ (j = l.length ∧ u = t) := by
  by_cases hj : j < l.length
  · rw [List.getElem?_append_left hj] at h
    exact Or.inl ⟨hj, h⟩
  · have h1 : j < (l ++ [t]).length := (List.getElem?_eq_some_iff.mp h).1
    rw [List.length_append, List.length_singleton] at h1
    have h2 : j = l.length := by omega
    subst h2
    rw [List.getElem?_append_right (Nat.le_refl _), Nat.sub_self] at h
    exact Or.inr ⟨rfl, (Option.some.inj h).symm⟩
theorem jb_inp {m n : Nat} (h : m ≤ n) (hm : m < 20000) : (jm_in (nI 0) 20000 && jm_in (nI 0) 20000 && jm_in (nI m) 20000 && Nat.ble ((nI 0).toNatClampNeg + (nI m).toNatClampNeg) m && Nat.ble ((nI 0).toNatClampNeg + (nI m).toNatClampNeg) n) = true := by
  rw [nI_clamp (show m < 2 ^ 31 by omega), nI_clamp (show 0 < 2 ^ 31 by decide), jb_in hm (by decide), jb_in (show 0 < 20000 by decide) (by decide)]
  simp only [Nat.zero_add, Bool.and_true, Bool.true_and, Bool.and_eq_true, Nat.ble_eq]
  exact ⟨Nat.le_refl _, h⟩
theorem xl_add_4 {d : Nat} {M : jm_M} {i t : Nat} {l : List Nat} (hl : jx_L M 4 i l) (h74 : jm_n M 74 0 = 0) (hlen : l.length < 100) : ∃ Q, jm_D (d + 6) 20 0 [some (.inr (some (4, i))), some (.inr (some (25, t)))] [] M = some (some (.inl (nI 1)), jm_rep M Q 4) ∧ jx_A M (jm_rep M Q 4) 4 i (l ++ [t]) := by
  obtain ⟨h1, h2, h3⟩ := hl
  have key : ∀ Q, jm_D (d + 6) 20 0 [some (.inr (some (4, i))), some (.inr (some (25, t)))] [] M = some (some (.inl (nI 1)), Q) → jm_eqo M Q 4 → jx_A M Q 4 i (l ++ [t]) → ∃ Q, jm_D (d + 6) 20 0 [some (.inr (some (4, i))), some (.inr (some (25, t)))] [] M = some (some (.inl (nI 1)), jm_rep M Q 4) ∧ jx_A M (jm_rep M Q 4) 4 i (l ++ [t]) := by
    intro Q q1 q2 q3
    refine ⟨Q, ?_, ?_⟩
    · rw [← jm_eqo_rep q2]; exact q1
    · rw [← jm_eqo_rep q2]; exact q3
  have g1 : ∀ x, jm_I (jm_setI M 4 i 2 x) 4 i 1 = nI l.length := fun x => (jb_Io (by decide) _ _ _ _ _ _).trans h1
  have hlb : (l ++ [t]).length = l.length + 1 := List.length_append
  rcases h3 with ⟨rfl, hF⟩ | ⟨a, b, ha, hb, hF, hn, h10, h150, hel⟩
  · have g2 : Int32.ofNat 0 = nI 0 := rfl
    have c1 : nI 1 < nI 10 ∧ ¬ nI 0 < nI 0 ∧ ¬ nI 10 < nI 1 := by decide
    refine key (jm_setI (jm_setF (jm_setF (jm_mk (jm_setI M 4 i 2 (jm_I M 4 i 2 + nI 1)) 28 10 10) 4 i 0 (some (28, jm_c M 28))) 28 (jm_c M 28) 0 (some (25, t))) 4 i 1 (nI 1)) ?_ (jo_I (jo_F (jo_F (jo_mk (jo_I (jo_0 M 4) (Or.inl rfl) _ _ _) (Or.inr (Or.inl rfl)) _ _) (Or.inl rfl) _ _ _) (Or.inr (Or.inl rfl)) _ _ _) (Or.inl rfl) _ _ _) ?_
    · have g3 : jm_n (jm_setF (jm_mk (jm_setI M 4 i 2 (jm_I M 4 i 2 + nI 1)) 28 10 10) 4 i 0 (some (28, jm_c M 28))) 28 (jm_c M 28) = 10 := if_pos ⟨rfl, rfl⟩
      have g4 : jm_I (jm_setI M 4 i 2 (jm_I M 4 i 2 + nI 1)) 4 i 1 = nI 0 := g1 _
      simp only [e20_0, e20_1, e20_2_k4, e20_2_k16, e20_3, e20_4, e20_5_k4, e20_5_k16, e20_6, e20_7, e20_8, e20_9_k4, e20_9_k16, e20_10, e20_11_k4, e20_11_k16, e20_12_k4, e20_12_k16, e20_13, e20_14_0, e20_14_1, e21_0, e21_1, e21_2_k28, e21_2_k30, e21_2_k74, e21_3, e21_4, e21_5_k4, e21_5_k16, e21_6, e21_7, e21_8, e21_9, e21_10_k28, e21_10_k30, e21_11, e21_12, e21_13, e21_14, e21_15_k4, e21_15_k16, e21_16, e22_0, e22_1, e22_2_k4, e22_2_k16, e22_3, e22_4, e22_5_k4, e22_5_k16, e22_6, e23_0, e23_1_k4, e23_1_k16, e23_2_k28, e23_2_k30, e23_2_k74, e23_3, e23_4, e23_5, e23_6, e23_7_k4, e23_7_k16, e23_8, e23_9, e23_10, e23_11, e23_12, e23_13, e23_14, e23_15, e23_16, e23_17, e23_18, e23_19, e23_20, e23_21_k4, e23_21_k16, e23_22, e23_23, e23_24, e23_25_k4, e23_25_k16, e23_26, e23_27, e23_28, e23_29, e23_30, e23_31, e23_32, e23_33_k4, e23_33_k16, e23_34, jb_cI, jb_FI, jb_nI, hF, h74, g2, g4, nI_add, Nat.zero_add, jb_some, jb_tl, jb_tn, if_true, if_neg c1.2.1, if_neg c1.2.2, jb_ix (show 10 < 10001 by decide) (by decide), g3, jb_ix (show 0 < 10 by decide) (by decide)]
    · refine ⟨⟨jb_Is _ _ _ _ _, show 1 ≤ 100 by decide, Or.inr ⟨28, jm_c M 28, Or.inl rfl, Nat.lt_succ_self _, ?_, ?_, ?_, ?_, ?_⟩⟩, ⟨28, jm_c M 28, ?_, Or.inr ⟨Or.inl rfl, Nat.le_refl _⟩⟩, fun a b ha hb => ⟨?_, fun _ j => ?_⟩, fun a => jb_cle (jm_setI M 4 i 2 (jm_I M 4 i 2 + nI 1)) 28 10 10 a, fun b hb => ⟨fun j => ?_, fun j => ?_⟩, ⟨?_, ?_⟩, rfl⟩
      · rw [jb_FI, jb_Fz (show 4 ≠ 28 by decide), jb_Fs]
      · rw [jb_nI, jb_nF, jb_nF]; exact Nat.le_trans (show 1 ≤ 10 by decide) (Nat.le_of_eq (jb_nms (jm_setI M 4 i 2 (jm_I M 4 i 2 + nI 1)) 28 10 10).symm)
      · rw [jb_nI, jb_nF, jb_nF]; exact (Nat.le_of_eq (jb_nms (jm_setI M 4 i 2 (jm_I M 4 i 2 + nI 1)) 28 10 10).symm)
      · rw [jb_nI, jb_nF, jb_nF]; exact Nat.le_trans (Nat.le_of_eq (jb_nms (jm_setI M 4 i 2 (jm_I M 4 i 2 + nI 1)) 28 10 10)) (by decide)
      · intro j u hj
        rcases jb_app hj with ⟨x1, _⟩ | ⟨x1, x2⟩
        · exact absurd x1 (Nat.not_lt_zero _)
        · subst x1 x2
          rw [jb_FI]
          exact jb_Fs _ _ _ _ _
      · rw [jb_FI, jb_Fz (show 4 ≠ 28 by decide), jb_Fs]
      · rw [jb_nI, jb_nF, jb_nF, jb_nm, jb_nI]
        rintro ⟨rfl, e⟩
        rw [e] at hb
        exact Nat.lt_irrefl _ hb
      · have hne : ¬ (a = 28 ∧ b = jm_c M 28) := by
          rintro ⟨rfl, e⟩
          rw [e] at hb
          exact Nat.lt_irrefl _ hb
        rw [jb_FI, jb_FF, if_neg (fun e => hne ⟨e.1, e.2.1⟩), jb_Fz (by omega)]
        exact jb_Fm (M := jm_setI M 4 i 2 (jm_I M 4 i 2 + nI 1)) hne _ _ _
      · rw [jb_Ij hb, jb_IF, jb_IF, jb_Im (fun e => absurd e.1 (by decide)), jb_Ij hb]
      · rw [jb_FI, jb_Fz (show 4 ≠ 28 by decide), jb_Fj hb, jb_Fm (fun e => absurd e.1 (by decide)), jb_FI]
      · exact Nat.le_of_eq List.length_append
      · exact Nat.add_le_add_left (by decide) _
  · rcases ha with rfl | rfl
    · by_cases hg : l.length = jm_n M 28 b
      · have hN : Int32.ofNat (jm_n M 28 b) = nI l.length := by rw [hg]; rfl
        have c0 : nI 0 < nI l.length := nI_lt (by omega) (by omega)
        have c1 : ¬ nI (l.length + l.length / 2) < nI l.length := nI_nlt (by omega) (by omega)
        refine key (jm_setI (jm_setF (jm_setF (jm_cp (jm_mk (jm_setI M 4 i 2 (jm_I M 4 i 2 + nI 1)) 30 (l.length + l.length / 2) (l.length + l.length / 2)) (28, b) 0 (30, jm_c M 30) 0 l.length) 4 i 0 (some (30, jm_c M 30))) 30 (jm_c M 30) l.length (some (25, t))) 4 i 1 (nI (l.length + 1))) ?_ (jo_I (jo_F (jo_F (jo_cp (jo_mk (jo_I (jo_0 M 4) (Or.inl rfl) _ _ _) (Or.inr (Or.inr rfl)) _ _) (Or.inr (Or.inr rfl)) _ _ _) (Or.inl rfl) _ _ _) (Or.inr (Or.inr rfl)) _ _ _) (Or.inl rfl) _ _ _) ?_
        · have g3 : jm_n (jm_mk (jm_setI M 4 i 2 (jm_I M 4 i 2 + nI 1)) 30 (l.length + l.length / 2) (l.length + l.length / 2)) 30 (jm_c M 30) = l.length + l.length / 2 := if_pos ⟨rfl, rfl⟩
          have g5 : jm_n (jm_setF (jm_cp (jm_mk (jm_setI M 4 i 2 (jm_I M 4 i 2 + nI 1)) 30 (l.length + l.length / 2) (l.length + l.length / 2)) (28, b) 0 (30, jm_c M 30) 0 l.length) 4 i 0 (some (30, jm_c M 30))) 30 (jm_c M 30) = l.length + l.length / 2 := g3
          have g6 : jm_n (jm_mk (jm_setI M 4 i 2 (jm_I M 4 i 2 + nI 1)) 30 (l.length + l.length / 2) (l.length + l.length / 2)) 28 b = l.length := by
            rw [jb_nm, jb_nI, hg]
            rintro ⟨e, rfl⟩
            exact absurd hb (by first | (cases e; done) | exact Nat.lt_irrefl _)
          have g7 : Int32.ofNat l.length = nI l.length := rfl
          have hcp := e27_20_k30_28 d (some (.inr (some (28, b)))) (some (.inl (nI (l.length + l.length / 2)))) (some (.inr (some (76, 0)))) (some (.inr (some (30, jm_c M 30)))) (nI l.length) (nI 0) (nI 0) (jm_c M 30) b (jm_mk (jm_setI M 4 i 2 (jm_I M 4 i 2 + nI 1)) 30 (l.length + l.length / 2) (l.length + l.length / 2)) (by rw [g3, g6]; exact jb_inp (by omega) (by omega))
          rw [nI_clamp (show l.length < 2 ^ 31 by omega), nI_clamp (show 0 < 2 ^ 31 by decide)] at hcp
          simp only [e20_0, e20_1, e20_2_k4, e20_2_k16, e20_3, e20_4, e20_5_k4, e20_5_k16, e20_6, e20_7, e20_8, e20_9_k4, e20_9_k16, e20_10, e20_11_k4, e20_11_k16, e20_12_k4, e20_12_k16, e20_13, e20_14_0, e20_14_1, e21_0, e21_1, e21_2_k28, e21_2_k30, e21_2_k74, e21_3, e21_4, e21_5_k4, e21_5_k16, e21_6, e21_7, e21_8, e21_9, e21_10_k28, e21_10_k30, e21_11, e21_12, e21_13, e21_14, e21_15_k4, e21_15_k16, e21_16, e22_0, e22_1, e22_2_k4, e22_2_k16, e22_3, e22_4, e22_5_k4, e22_5_k16, e22_6, e23_0, e23_1_k4, e23_1_k16, e23_2_k28, e23_2_k30, e23_2_k74, e23_3, e23_4, e23_5, e23_6, e23_7_k4, e23_7_k16, e23_8, e23_9, e23_10, e23_11, e23_12, e23_13, e23_14, e23_15, e23_16, e23_17, e23_18, e23_19, e23_20, e23_21_k4, e23_21_k16, e23_22, e23_23, e23_24, e23_25_k4, e23_25_k16, e23_26, e23_27, e23_28, e23_29, e23_30, e23_31, e23_32, e23_33_k4, e23_33_k16, e23_34, e26_0, e26_1, e26_2, e26_3_k28, e26_3_k30, e26_4, e26_5, e27_0, e27_1, e27_2, e27_3, e27_4, e27_5, e27_6, e27_11, e27_12, e27_13, e27_14, e27_15, e27_16, e27_17_k28, e27_17_k30, e27_17_k74, e27_18, e27_19, e27_21, e27_22, jb_cI, jb_FI, jb_nI, hF, hN, g1, nI_add, pk_sub (Nat.le_add_right l.length 1), Nat.add_sub_cancel_left, jb_shr l.length (by omega), xNl (show l.length ≤ 99 by omega) (show 10 ≤ l.length by omega), jb_some, jb_tl, jb_tn, if_true, if_pos c0, jb_ix (show l.length + l.length / 2 < 10001 by omega) (by decide), g3, g6, g7, if_neg c1, hcp, g5, jb_ix (show l.length < l.length + l.length / 2 by omega) (by omega)]
        · have hng : ∀ a' b', b' < jm_c M a' → ¬ (a' = 30 ∧ b' = jm_c M 30) := by
            rintro a' b' hb' ⟨rfl, e⟩
            rw [e] at hb'
            exact Nat.lt_irrefl _ hb'
          refine ⟨⟨by rw [hlb]; exact jb_Is _ _ _ _ _, by omega, Or.inr ⟨30, jm_c M 30, Or.inr rfl, Nat.lt_succ_self _, ?_, ?_, ?_, ?_, ?_⟩⟩, ⟨30, jm_c M 30, ?_, Or.inr ⟨Or.inr rfl, Nat.le_refl _⟩⟩, fun a' b' ha hb' => ⟨?_, fun _ j => ?_⟩, fun a => jb_cle (jm_setI M 4 i 2 (jm_I M 4 i 2 + nI 1)) 30 (l.length + l.length / 2) (l.length + l.length / 2) a, fun b' hb' => ⟨fun j => ?_, fun j => ?_⟩, ⟨?_, ?_⟩, rfl⟩
          · rw [jb_FI, jb_Fz (show 4 ≠ 30 by decide), jb_Fs]
          · rw [hlb, jb_nI, jb_nF, jb_nF]; exact Nat.le_trans (show l.length + 1 ≤ l.length + l.length / 2 by omega) (Nat.le_of_eq (jb_nms (jm_setI M 4 i 2 (jm_I M 4 i 2 + nI 1)) 30 (l.length + l.length / 2) (l.length + l.length / 2)).symm)
          · rw [jb_nI, jb_nF, jb_nF]; exact Nat.le_trans (show 10 ≤ l.length + l.length / 2 by omega) (Nat.le_of_eq (jb_nms (jm_setI M 4 i 2 (jm_I M 4 i 2 + nI 1)) 30 (l.length + l.length / 2) (l.length + l.length / 2)).symm)
          · rw [jb_nI, jb_nF, jb_nF]; exact Nat.le_trans (Nat.le_of_eq (jb_nms (jm_setI M 4 i 2 (jm_I M 4 i 2 + nI 1)) 30 (l.length + l.length / 2) (l.length + l.length / 2))) (by omega)
          · intro j u hj
            rcases jb_app hj with ⟨x1, x2⟩ | ⟨x1, x2⟩
            · rw [jb_FI, jb_Fo (by omega), jb_Fz (show 30 ≠ 4 by decide)]
              refine (jb_Fcs (q := (30, jm_c M 30)) (Nat.zero_le _) (by omega)).trans ?_
              rw [Nat.zero_add, Nat.sub_zero]
              exact (jb_Fm (M := jm_setI M 4 i 2 (jm_I M 4 i 2 + nI 1)) (hng _ _ hb) _ _ _).trans (hel j u x2)
            · subst x1 x2
              rw [jb_FI]
              exact jb_Fs _ _ _ _ _
          · rw [jb_FI, jb_Fz (show 4 ≠ 30 by decide), jb_Fs]
          · rw [jb_nI, jb_nF, jb_nF]
            exact (jb_nm (M := jm_setI M 4 i 2 (jm_I M 4 i 2 + nI 1)) (hng a' b' hb') _ _)
          · have hne := hng a' b' hb'
            rw [jb_FI, jb_FF, if_neg (fun e => hne ⟨e.1, e.2.1⟩), jb_Fz (by omega), jb_Fc hne]
            exact jb_Fm (M := jm_setI M 4 i 2 (jm_I M 4 i 2 + nI 1)) hne _ _ _
          · rw [jb_Ij hb', jb_IF, jb_IF]
            exact jb_Ij hb' M 4 2 (jm_I M 4 i 2 + nI 1) 4 j
          · rw [jb_FI, jb_Fz (show 4 ≠ 30 by decide), jb_Fj hb']
            rfl
          · exact Nat.le_of_eq List.length_append
          · exact Nat.add_le_add_left (by omega) _
      · have hg2 : ¬ nI l.length = Int32.ofNat (jm_n M 28 b) := fun e => hg ((nI_eq (by omega) (by omega)).mp e)
        refine key (jm_setI (jm_setF (jm_setI M 4 i 2 (jm_I M 4 i 2 + nI 1)) 28 b l.length (some (25, t))) 4 i 1 (nI (l.length + 1))) ?_ (jo_I (jo_F (jo_I (jo_0 M 4) (Or.inl rfl) _ _ _) (Or.inr (Or.inl rfl)) _ _ _) (Or.inl rfl) _ _ _) ?_
        · simp only [e20_0, e20_1, e20_2_k4, e20_2_k16, e20_3, e20_4, e20_5_k4, e20_5_k16, e20_6, e20_7, e20_8, e20_9_k4, e20_9_k16, e20_10, e20_11_k4, e20_11_k16, e20_12_k4, e20_12_k16, e20_13, e20_14_0, e20_14_1, e21_0, e21_1, e21_2_k28, e21_2_k30, e21_2_k74, e21_3, e21_4, e21_5_k4, e21_5_k16, e21_6, e21_7, e21_8, e21_9, e21_10_k28, e21_10_k30, e21_11, e21_12, e21_13, e21_14, e21_15_k4, e21_15_k16, e21_16, jb_cI, jb_FI, jb_nI, hF, g1, if_neg hg2, nI_add, jb_some, jb_tl, jb_tn, jb_ix (show l.length < jm_n M 28 b by omega) (by omega)]
        · refine ⟨⟨by rw [hlb]; exact jb_Is _ _ _ _ _, by omega, Or.inr ⟨28, b, Or.inl rfl, hb, ?_, (show (l ++ [t]).length ≤ jm_n M 28 b by omega), h10, h150, ?_⟩⟩, ⟨28, b, ?_, Or.inl hF⟩, fun a' b' ha hb' => ⟨rfl, fun hne j => ?_⟩, fun a => Nat.le_refl _, fun b' hb' => ⟨fun j => ?_, fun j => ?_⟩, ⟨?_, ?_⟩, rfl⟩
          · rw [jb_FI, jb_Fz (show 4 ≠ 28 by decide), jb_FI, hF]
          · intro j u hj
            rcases jb_app hj with ⟨x1, x2⟩ | ⟨x1, x2⟩
            · rw [jb_FI, jb_Fo (by omega), jb_FI]
              exact hel j u x2
            · subst x1 x2
              rw [jb_FI]
              exact jb_Fs _ _ _ _ _
          · rw [jb_FI, jb_Fz (show 4 ≠ 28 by decide), jb_FI, hF]
          · rw [jb_FI, jb_FF, if_neg, jb_FI]
            rintro ⟨rfl, rfl, -⟩
            exact hne hF
          · rw [jb_Ij hb', jb_IF, jb_Ij hb']
          · rw [jb_FI, jb_Fz (show 4 ≠ 28 by decide), jb_FI]
          · exact Nat.le_add_right _ _
          · exact Nat.le_add_right _ _
    · by_cases hg : l.length = jm_n M 30 b
      · have hN : Int32.ofNat (jm_n M 30 b) = nI l.length := by rw [hg]; rfl
        have c0 : nI 0 < nI l.length := nI_lt (by omega) (by omega)
        have c1 : ¬ nI (l.length + l.length / 2) < nI l.length := nI_nlt (by omega) (by omega)
        refine key (jm_setI (jm_setF (jm_setF (jm_cp (jm_mk (jm_setI M 4 i 2 (jm_I M 4 i 2 + nI 1)) 30 (l.length + l.length / 2) (l.length + l.length / 2)) (30, b) 0 (30, jm_c M 30) 0 l.length) 4 i 0 (some (30, jm_c M 30))) 30 (jm_c M 30) l.length (some (25, t))) 4 i 1 (nI (l.length + 1))) ?_ (jo_I (jo_F (jo_F (jo_cp (jo_mk (jo_I (jo_0 M 4) (Or.inl rfl) _ _ _) (Or.inr (Or.inr rfl)) _ _) (Or.inr (Or.inr rfl)) _ _ _) (Or.inl rfl) _ _ _) (Or.inr (Or.inr rfl)) _ _ _) (Or.inl rfl) _ _ _) ?_
        · have g3 : jm_n (jm_mk (jm_setI M 4 i 2 (jm_I M 4 i 2 + nI 1)) 30 (l.length + l.length / 2) (l.length + l.length / 2)) 30 (jm_c M 30) = l.length + l.length / 2 := if_pos ⟨rfl, rfl⟩
          have g5 : jm_n (jm_setF (jm_cp (jm_mk (jm_setI M 4 i 2 (jm_I M 4 i 2 + nI 1)) 30 (l.length + l.length / 2) (l.length + l.length / 2)) (30, b) 0 (30, jm_c M 30) 0 l.length) 4 i 0 (some (30, jm_c M 30))) 30 (jm_c M 30) = l.length + l.length / 2 := g3
          have g6 : jm_n (jm_mk (jm_setI M 4 i 2 (jm_I M 4 i 2 + nI 1)) 30 (l.length + l.length / 2) (l.length + l.length / 2)) 30 b = l.length := by
            rw [jb_nm, jb_nI, hg]
            rintro ⟨e, rfl⟩
            exact absurd hb (by first | (cases e; done) | exact Nat.lt_irrefl _)
          have g7 : Int32.ofNat l.length = nI l.length := rfl
          have hcp := e27_20_k30_30 d (some (.inr (some (30, b)))) (some (.inl (nI (l.length + l.length / 2)))) (some (.inr (some (76, 0)))) (some (.inr (some (30, jm_c M 30)))) (nI l.length) (nI 0) (nI 0) (jm_c M 30) b (jm_mk (jm_setI M 4 i 2 (jm_I M 4 i 2 + nI 1)) 30 (l.length + l.length / 2) (l.length + l.length / 2)) (by rw [g3, g6]; exact jb_inp (by omega) (by omega))
          rw [nI_clamp (show l.length < 2 ^ 31 by omega), nI_clamp (show 0 < 2 ^ 31 by decide)] at hcp
          simp only [e20_0, e20_1, e20_2_k4, e20_2_k16, e20_3, e20_4, e20_5_k4, e20_5_k16, e20_6, e20_7, e20_8, e20_9_k4, e20_9_k16, e20_10, e20_11_k4, e20_11_k16, e20_12_k4, e20_12_k16, e20_13, e20_14_0, e20_14_1, e21_0, e21_1, e21_2_k28, e21_2_k30, e21_2_k74, e21_3, e21_4, e21_5_k4, e21_5_k16, e21_6, e21_7, e21_8, e21_9, e21_10_k28, e21_10_k30, e21_11, e21_12, e21_13, e21_14, e21_15_k4, e21_15_k16, e21_16, e22_0, e22_1, e22_2_k4, e22_2_k16, e22_3, e22_4, e22_5_k4, e22_5_k16, e22_6, e23_0, e23_1_k4, e23_1_k16, e23_2_k28, e23_2_k30, e23_2_k74, e23_3, e23_4, e23_5, e23_6, e23_7_k4, e23_7_k16, e23_8, e23_9, e23_10, e23_11, e23_12, e23_13, e23_14, e23_15, e23_16, e23_17, e23_18, e23_19, e23_20, e23_21_k4, e23_21_k16, e23_22, e23_23, e23_24, e23_25_k4, e23_25_k16, e23_26, e23_27, e23_28, e23_29, e23_30, e23_31, e23_32, e23_33_k4, e23_33_k16, e23_34, e26_0, e26_1, e26_2, e26_3_k28, e26_3_k30, e26_4, e26_5, e27_0, e27_1, e27_2, e27_3, e27_4, e27_5, e27_6, e27_11, e27_12, e27_13, e27_14, e27_15, e27_16, e27_17_k28, e27_17_k30, e27_17_k74, e27_18, e27_19, e27_21, e27_22, jb_cI, jb_FI, jb_nI, hF, hN, g1, nI_add, pk_sub (Nat.le_add_right l.length 1), Nat.add_sub_cancel_left, jb_shr l.length (by omega), xNl (show l.length ≤ 99 by omega) (show 10 ≤ l.length by omega), jb_some, jb_tl, jb_tn, if_true, if_pos c0, jb_ix (show l.length + l.length / 2 < 10001 by omega) (by decide), g3, g6, g7, if_neg c1, hcp, g5, jb_ix (show l.length < l.length + l.length / 2 by omega) (by omega)]
        · have hng : ∀ a' b', b' < jm_c M a' → ¬ (a' = 30 ∧ b' = jm_c M 30) := by
            rintro a' b' hb' ⟨rfl, e⟩
            rw [e] at hb'
            exact Nat.lt_irrefl _ hb'
          refine ⟨⟨by rw [hlb]; exact jb_Is _ _ _ _ _, by omega, Or.inr ⟨30, jm_c M 30, Or.inr rfl, Nat.lt_succ_self _, ?_, ?_, ?_, ?_, ?_⟩⟩, ⟨30, jm_c M 30, ?_, Or.inr ⟨Or.inr rfl, Nat.le_refl _⟩⟩, fun a' b' ha hb' => ⟨?_, fun _ j => ?_⟩, fun a => jb_cle (jm_setI M 4 i 2 (jm_I M 4 i 2 + nI 1)) 30 (l.length + l.length / 2) (l.length + l.length / 2) a, fun b' hb' => ⟨fun j => ?_, fun j => ?_⟩, ⟨?_, ?_⟩, rfl⟩
          · rw [jb_FI, jb_Fz (show 4 ≠ 30 by decide), jb_Fs]
          · rw [hlb, jb_nI, jb_nF, jb_nF]; exact Nat.le_trans (show l.length + 1 ≤ l.length + l.length / 2 by omega) (Nat.le_of_eq (jb_nms (jm_setI M 4 i 2 (jm_I M 4 i 2 + nI 1)) 30 (l.length + l.length / 2) (l.length + l.length / 2)).symm)
          · rw [jb_nI, jb_nF, jb_nF]; exact Nat.le_trans (show 10 ≤ l.length + l.length / 2 by omega) (Nat.le_of_eq (jb_nms (jm_setI M 4 i 2 (jm_I M 4 i 2 + nI 1)) 30 (l.length + l.length / 2) (l.length + l.length / 2)).symm)
          · rw [jb_nI, jb_nF, jb_nF]; exact Nat.le_trans (Nat.le_of_eq (jb_nms (jm_setI M 4 i 2 (jm_I M 4 i 2 + nI 1)) 30 (l.length + l.length / 2) (l.length + l.length / 2))) (by omega)
          · intro j u hj
            rcases jb_app hj with ⟨x1, x2⟩ | ⟨x1, x2⟩
            · rw [jb_FI, jb_Fo (by omega), jb_Fz (show 30 ≠ 4 by decide)]
              refine (jb_Fcs (q := (30, jm_c M 30)) (Nat.zero_le _) (by omega)).trans ?_
              rw [Nat.zero_add, Nat.sub_zero]
              exact (jb_Fm (M := jm_setI M 4 i 2 (jm_I M 4 i 2 + nI 1)) (hng _ _ hb) _ _ _).trans (hel j u x2)
            · subst x1 x2
              rw [jb_FI]
              exact jb_Fs _ _ _ _ _
          · rw [jb_FI, jb_Fz (show 4 ≠ 30 by decide), jb_Fs]
          · rw [jb_nI, jb_nF, jb_nF]
            exact (jb_nm (M := jm_setI M 4 i 2 (jm_I M 4 i 2 + nI 1)) (hng a' b' hb') _ _)
          · have hne := hng a' b' hb'
            rw [jb_FI, jb_FF, if_neg (fun e => hne ⟨e.1, e.2.1⟩), jb_Fz (by omega), jb_Fc hne]
            exact jb_Fm (M := jm_setI M 4 i 2 (jm_I M 4 i 2 + nI 1)) hne _ _ _
          · rw [jb_Ij hb', jb_IF, jb_IF]
            exact jb_Ij hb' M 4 2 (jm_I M 4 i 2 + nI 1) 4 j
          · rw [jb_FI, jb_Fz (show 4 ≠ 30 by decide), jb_Fj hb']
            rfl
          · exact Nat.le_of_eq List.length_append
          · exact Nat.add_le_add_left (by omega) _
      · have hg2 : ¬ nI l.length = Int32.ofNat (jm_n M 30 b) := fun e => hg ((nI_eq (by omega) (by omega)).mp e)
        refine key (jm_setI (jm_setF (jm_setI M 4 i 2 (jm_I M 4 i 2 + nI 1)) 30 b l.length (some (25, t))) 4 i 1 (nI (l.length + 1))) ?_ (jo_I (jo_F (jo_I (jo_0 M 4) (Or.inl rfl) _ _ _) (Or.inr (Or.inr rfl)) _ _ _) (Or.inl rfl) _ _ _) ?_
        · simp only [e20_0, e20_1, e20_2_k4, e20_2_k16, e20_3, e20_4, e20_5_k4, e20_5_k16, e20_6, e20_7, e20_8, e20_9_k4, e20_9_k16, e20_10, e20_11_k4, e20_11_k16, e20_12_k4, e20_12_k16, e20_13, e20_14_0, e20_14_1, e21_0, e21_1, e21_2_k28, e21_2_k30, e21_2_k74, e21_3, e21_4, e21_5_k4, e21_5_k16, e21_6, e21_7, e21_8, e21_9, e21_10_k28, e21_10_k30, e21_11, e21_12, e21_13, e21_14, e21_15_k4, e21_15_k16, e21_16, jb_cI, jb_FI, jb_nI, hF, g1, if_neg hg2, nI_add, jb_some, jb_tl, jb_tn, jb_ix (show l.length < jm_n M 30 b by omega) (by omega)]
        · refine ⟨⟨by rw [hlb]; exact jb_Is _ _ _ _ _, by omega, Or.inr ⟨30, b, Or.inr rfl, hb, ?_, (show (l ++ [t]).length ≤ jm_n M 30 b by omega), h10, h150, ?_⟩⟩, ⟨30, b, ?_, Or.inl hF⟩, fun a' b' ha hb' => ⟨rfl, fun hne j => ?_⟩, fun a => Nat.le_refl _, fun b' hb' => ⟨fun j => ?_, fun j => ?_⟩, ⟨?_, ?_⟩, rfl⟩
          · rw [jb_FI, jb_Fz (show 4 ≠ 30 by decide), jb_FI, hF]
          · intro j u hj
            rcases jb_app hj with ⟨x1, x2⟩ | ⟨x1, x2⟩
            · rw [jb_FI, jb_Fo (by omega), jb_FI]
              exact hel j u x2
            · subst x1 x2
              rw [jb_FI]
              exact jb_Fs _ _ _ _ _
          · rw [jb_FI, jb_Fz (show 4 ≠ 30 by decide), jb_FI, hF]
          · rw [jb_FI, jb_FF, if_neg, jb_FI]
            rintro ⟨rfl, rfl, -⟩
            exact hne hF
          · rw [jb_Ij hb', jb_IF, jb_Ij hb']
          · rw [jb_FI, jb_Fz (show 4 ≠ 30 by decide), jb_FI]
          · exact Nat.le_add_right _ _
          · exact Nat.le_add_right _ _
theorem xl_add_16 {d : Nat} {M : jm_M} {i t : Nat} {l : List Nat} (hl : jx_L M 16 i l) (h74 : jm_n M 74 0 = 0) (hlen : l.length < 100) : ∃ Q, jm_D (d + 6) 20 0 [some (.inr (some (16, i))), some (.inr (some (25, t)))] [] M = some (some (.inl (nI 1)), jm_rep M Q 16) ∧ jx_A M (jm_rep M Q 16) 16 i (l ++ [t]) := by
  obtain ⟨h1, h2, h3⟩ := hl
  have key : ∀ Q, jm_D (d + 6) 20 0 [some (.inr (some (16, i))), some (.inr (some (25, t)))] [] M = some (some (.inl (nI 1)), Q) → jm_eqo M Q 16 → jx_A M Q 16 i (l ++ [t]) → ∃ Q, jm_D (d + 6) 20 0 [some (.inr (some (16, i))), some (.inr (some (25, t)))] [] M = some (some (.inl (nI 1)), jm_rep M Q 16) ∧ jx_A M (jm_rep M Q 16) 16 i (l ++ [t]) := by
    intro Q q1 q2 q3
    refine ⟨Q, ?_, ?_⟩
    · rw [← jm_eqo_rep q2]; exact q1
    · rw [← jm_eqo_rep q2]; exact q3
  have g1 : ∀ x, jm_I (jm_setI M 16 i 2 x) 16 i 1 = nI l.length := fun x => (jb_Io (by decide) _ _ _ _ _ _).trans h1
  have hlb : (l ++ [t]).length = l.length + 1 := List.length_append
  rcases h3 with ⟨rfl, hF⟩ | ⟨a, b, ha, hb, hF, hn, h10, h150, hel⟩
  · have g2 : Int32.ofNat 0 = nI 0 := rfl
    have c1 : nI 1 < nI 10 ∧ ¬ nI 0 < nI 0 ∧ ¬ nI 10 < nI 1 := by decide
    refine key (jm_setI (jm_setF (jm_setF (jm_mk (jm_setI M 16 i 2 (jm_I M 16 i 2 + nI 1)) 28 10 10) 16 i 0 (some (28, jm_c M 28))) 28 (jm_c M 28) 0 (some (25, t))) 16 i 1 (nI 1)) ?_ (jo_I (jo_F (jo_F (jo_mk (jo_I (jo_0 M 16) (Or.inl rfl) _ _ _) (Or.inr (Or.inl rfl)) _ _) (Or.inl rfl) _ _ _) (Or.inr (Or.inl rfl)) _ _ _) (Or.inl rfl) _ _ _) ?_
    · have g3 : jm_n (jm_setF (jm_mk (jm_setI M 16 i 2 (jm_I M 16 i 2 + nI 1)) 28 10 10) 16 i 0 (some (28, jm_c M 28))) 28 (jm_c M 28) = 10 := if_pos ⟨rfl, rfl⟩
      have g4 : jm_I (jm_setI M 16 i 2 (jm_I M 16 i 2 + nI 1)) 16 i 1 = nI 0 := g1 _
      simp only [e20_0, e20_1, e20_2_k4, e20_2_k16, e20_3, e20_4, e20_5_k4, e20_5_k16, e20_6, e20_7, e20_8, e20_9_k4, e20_9_k16, e20_10, e20_11_k4, e20_11_k16, e20_12_k4, e20_12_k16, e20_13, e20_14_0, e20_14_1, e21_0, e21_1, e21_2_k28, e21_2_k30, e21_2_k74, e21_3, e21_4, e21_5_k4, e21_5_k16, e21_6, e21_7, e21_8, e21_9, e21_10_k28, e21_10_k30, e21_11, e21_12, e21_13, e21_14, e21_15_k4, e21_15_k16, e21_16, e22_0, e22_1, e22_2_k4, e22_2_k16, e22_3, e22_4, e22_5_k4, e22_5_k16, e22_6, e23_0, e23_1_k4, e23_1_k16, e23_2_k28, e23_2_k30, e23_2_k74, e23_3, e23_4, e23_5, e23_6, e23_7_k4, e23_7_k16, e23_8, e23_9, e23_10, e23_11, e23_12, e23_13, e23_14, e23_15, e23_16, e23_17, e23_18, e23_19, e23_20, e23_21_k4, e23_21_k16, e23_22, e23_23, e23_24, e23_25_k4, e23_25_k16, e23_26, e23_27, e23_28, e23_29, e23_30, e23_31, e23_32, e23_33_k4, e23_33_k16, e23_34, jb_cI, jb_FI, jb_nI, hF, h74, g2, g4, nI_add, Nat.zero_add, jb_some, jb_tl, jb_tn, if_true, if_neg c1.2.1, if_neg c1.2.2, jb_ix (show 10 < 10001 by decide) (by decide), g3, jb_ix (show 0 < 10 by decide) (by decide)]
    · refine ⟨⟨jb_Is _ _ _ _ _, show 1 ≤ 100 by decide, Or.inr ⟨28, jm_c M 28, Or.inl rfl, Nat.lt_succ_self _, ?_, ?_, ?_, ?_, ?_⟩⟩, ⟨28, jm_c M 28, ?_, Or.inr ⟨Or.inl rfl, Nat.le_refl _⟩⟩, fun a b ha hb => ⟨?_, fun _ j => ?_⟩, fun a => jb_cle (jm_setI M 16 i 2 (jm_I M 16 i 2 + nI 1)) 28 10 10 a, fun b hb => ⟨fun j => ?_, fun j => ?_⟩, ⟨?_, ?_⟩, rfl⟩
      · rw [jb_FI, jb_Fz (show 16 ≠ 28 by decide), jb_Fs]
      · rw [jb_nI, jb_nF, jb_nF]; exact Nat.le_trans (show 1 ≤ 10 by decide) (Nat.le_of_eq (jb_nms (jm_setI M 16 i 2 (jm_I M 16 i 2 + nI 1)) 28 10 10).symm)
      · rw [jb_nI, jb_nF, jb_nF]; exact (Nat.le_of_eq (jb_nms (jm_setI M 16 i 2 (jm_I M 16 i 2 + nI 1)) 28 10 10).symm)
      · rw [jb_nI, jb_nF, jb_nF]; exact Nat.le_trans (Nat.le_of_eq (jb_nms (jm_setI M 16 i 2 (jm_I M 16 i 2 + nI 1)) 28 10 10)) (by decide)
      · intro j u hj
        rcases jb_app hj with ⟨x1, _⟩ | ⟨x1, x2⟩
        · exact absurd x1 (Nat.not_lt_zero _)
        · subst x1 x2
          rw [jb_FI]
          exact jb_Fs _ _ _ _ _
      · rw [jb_FI, jb_Fz (show 16 ≠ 28 by decide), jb_Fs]
      · rw [jb_nI, jb_nF, jb_nF, jb_nm, jb_nI]
        rintro ⟨rfl, e⟩
        rw [e] at hb
        exact Nat.lt_irrefl _ hb
      · have hne : ¬ (a = 28 ∧ b = jm_c M 28) := by
          rintro ⟨rfl, e⟩
          rw [e] at hb
          exact Nat.lt_irrefl _ hb
        rw [jb_FI, jb_FF, if_neg (fun e => hne ⟨e.1, e.2.1⟩), jb_Fz (by omega)]
        exact jb_Fm (M := jm_setI M 16 i 2 (jm_I M 16 i 2 + nI 1)) hne _ _ _
      · rw [jb_Ij hb, jb_IF, jb_IF, jb_Im (fun e => absurd e.1 (by decide)), jb_Ij hb]
      · rw [jb_FI, jb_Fz (show 16 ≠ 28 by decide), jb_Fj hb, jb_Fm (fun e => absurd e.1 (by decide)), jb_FI]
      · exact Nat.le_of_eq List.length_append
      · exact Nat.add_le_add_left (by decide) _
  · rcases ha with rfl | rfl
    · by_cases hg : l.length = jm_n M 28 b
      · have hN : Int32.ofNat (jm_n M 28 b) = nI l.length := by rw [hg]; rfl
        have c0 : nI 0 < nI l.length := nI_lt (by omega) (by omega)
        have c1 : ¬ nI (l.length + l.length / 2) < nI l.length := nI_nlt (by omega) (by omega)
        refine key (jm_setI (jm_setF (jm_setF (jm_cp (jm_mk (jm_setI M 16 i 2 (jm_I M 16 i 2 + nI 1)) 30 (l.length + l.length / 2) (l.length + l.length / 2)) (28, b) 0 (30, jm_c M 30) 0 l.length) 16 i 0 (some (30, jm_c M 30))) 30 (jm_c M 30) l.length (some (25, t))) 16 i 1 (nI (l.length + 1))) ?_ (jo_I (jo_F (jo_F (jo_cp (jo_mk (jo_I (jo_0 M 16) (Or.inl rfl) _ _ _) (Or.inr (Or.inr rfl)) _ _) (Or.inr (Or.inr rfl)) _ _ _) (Or.inl rfl) _ _ _) (Or.inr (Or.inr rfl)) _ _ _) (Or.inl rfl) _ _ _) ?_
        · have g3 : jm_n (jm_mk (jm_setI M 16 i 2 (jm_I M 16 i 2 + nI 1)) 30 (l.length + l.length / 2) (l.length + l.length / 2)) 30 (jm_c M 30) = l.length + l.length / 2 := if_pos ⟨rfl, rfl⟩
          have g5 : jm_n (jm_setF (jm_cp (jm_mk (jm_setI M 16 i 2 (jm_I M 16 i 2 + nI 1)) 30 (l.length + l.length / 2) (l.length + l.length / 2)) (28, b) 0 (30, jm_c M 30) 0 l.length) 16 i 0 (some (30, jm_c M 30))) 30 (jm_c M 30) = l.length + l.length / 2 := g3
          have g6 : jm_n (jm_mk (jm_setI M 16 i 2 (jm_I M 16 i 2 + nI 1)) 30 (l.length + l.length / 2) (l.length + l.length / 2)) 28 b = l.length := by
            rw [jb_nm, jb_nI, hg]
            rintro ⟨e, rfl⟩
            exact absurd hb (by first | (cases e; done) | exact Nat.lt_irrefl _)
          have g7 : Int32.ofNat l.length = nI l.length := rfl
          have hcp := e27_20_k30_28 d (some (.inr (some (28, b)))) (some (.inl (nI (l.length + l.length / 2)))) (some (.inr (some (76, 0)))) (some (.inr (some (30, jm_c M 30)))) (nI l.length) (nI 0) (nI 0) (jm_c M 30) b (jm_mk (jm_setI M 16 i 2 (jm_I M 16 i 2 + nI 1)) 30 (l.length + l.length / 2) (l.length + l.length / 2)) (by rw [g3, g6]; exact jb_inp (by omega) (by omega))
          rw [nI_clamp (show l.length < 2 ^ 31 by omega), nI_clamp (show 0 < 2 ^ 31 by decide)] at hcp
          simp only [e20_0, e20_1, e20_2_k4, e20_2_k16, e20_3, e20_4, e20_5_k4, e20_5_k16, e20_6, e20_7, e20_8, e20_9_k4, e20_9_k16, e20_10, e20_11_k4, e20_11_k16, e20_12_k4, e20_12_k16, e20_13, e20_14_0, e20_14_1, e21_0, e21_1, e21_2_k28, e21_2_k30, e21_2_k74, e21_3, e21_4, e21_5_k4, e21_5_k16, e21_6, e21_7, e21_8, e21_9, e21_10_k28, e21_10_k30, e21_11, e21_12, e21_13, e21_14, e21_15_k4, e21_15_k16, e21_16, e22_0, e22_1, e22_2_k4, e22_2_k16, e22_3, e22_4, e22_5_k4, e22_5_k16, e22_6, e23_0, e23_1_k4, e23_1_k16, e23_2_k28, e23_2_k30, e23_2_k74, e23_3, e23_4, e23_5, e23_6, e23_7_k4, e23_7_k16, e23_8, e23_9, e23_10, e23_11, e23_12, e23_13, e23_14, e23_15, e23_16, e23_17, e23_18, e23_19, e23_20, e23_21_k4, e23_21_k16, e23_22, e23_23, e23_24, e23_25_k4, e23_25_k16, e23_26, e23_27, e23_28, e23_29, e23_30, e23_31, e23_32, e23_33_k4, e23_33_k16, e23_34, e26_0, e26_1, e26_2, e26_3_k28, e26_3_k30, e26_4, e26_5, e27_0, e27_1, e27_2, e27_3, e27_4, e27_5, e27_6, e27_11, e27_12, e27_13, e27_14, e27_15, e27_16, e27_17_k28, e27_17_k30, e27_17_k74, e27_18, e27_19, e27_21, e27_22, jb_cI, jb_FI, jb_nI, hF, hN, g1, nI_add, pk_sub (Nat.le_add_right l.length 1), Nat.add_sub_cancel_left, jb_shr l.length (by omega), xNl (show l.length ≤ 99 by omega) (show 10 ≤ l.length by omega), jb_some, jb_tl, jb_tn, if_true, if_pos c0, jb_ix (show l.length + l.length / 2 < 10001 by omega) (by decide), g3, g6, g7, if_neg c1, hcp, g5, jb_ix (show l.length < l.length + l.length / 2 by omega) (by omega)]
        · have hng : ∀ a' b', b' < jm_c M a' → ¬ (a' = 30 ∧ b' = jm_c M 30) := by
            rintro a' b' hb' ⟨rfl, e⟩
            rw [e] at hb'
            exact Nat.lt_irrefl _ hb'
          refine ⟨⟨by rw [hlb]; exact jb_Is _ _ _ _ _, by omega, Or.inr ⟨30, jm_c M 30, Or.inr rfl, Nat.lt_succ_self _, ?_, ?_, ?_, ?_, ?_⟩⟩, ⟨30, jm_c M 30, ?_, Or.inr ⟨Or.inr rfl, Nat.le_refl _⟩⟩, fun a' b' ha hb' => ⟨?_, fun _ j => ?_⟩, fun a => jb_cle (jm_setI M 16 i 2 (jm_I M 16 i 2 + nI 1)) 30 (l.length + l.length / 2) (l.length + l.length / 2) a, fun b' hb' => ⟨fun j => ?_, fun j => ?_⟩, ⟨?_, ?_⟩, rfl⟩
          · rw [jb_FI, jb_Fz (show 16 ≠ 30 by decide), jb_Fs]
          · rw [hlb, jb_nI, jb_nF, jb_nF]; exact Nat.le_trans (show l.length + 1 ≤ l.length + l.length / 2 by omega) (Nat.le_of_eq (jb_nms (jm_setI M 16 i 2 (jm_I M 16 i 2 + nI 1)) 30 (l.length + l.length / 2) (l.length + l.length / 2)).symm)
          · rw [jb_nI, jb_nF, jb_nF]; exact Nat.le_trans (show 10 ≤ l.length + l.length / 2 by omega) (Nat.le_of_eq (jb_nms (jm_setI M 16 i 2 (jm_I M 16 i 2 + nI 1)) 30 (l.length + l.length / 2) (l.length + l.length / 2)).symm)
          · rw [jb_nI, jb_nF, jb_nF]; exact Nat.le_trans (Nat.le_of_eq (jb_nms (jm_setI M 16 i 2 (jm_I M 16 i 2 + nI 1)) 30 (l.length + l.length / 2) (l.length + l.length / 2))) (by omega)
          · intro j u hj
            rcases jb_app hj with ⟨x1, x2⟩ | ⟨x1, x2⟩
            · rw [jb_FI, jb_Fo (by omega), jb_Fz (show 30 ≠ 16 by decide)]
              refine (jb_Fcs (q := (30, jm_c M 30)) (Nat.zero_le _) (by omega)).trans ?_
              rw [Nat.zero_add, Nat.sub_zero]
              exact (jb_Fm (M := jm_setI M 16 i 2 (jm_I M 16 i 2 + nI 1)) (hng _ _ hb) _ _ _).trans (hel j u x2)
            · subst x1 x2
              rw [jb_FI]
              exact jb_Fs _ _ _ _ _
          · rw [jb_FI, jb_Fz (show 16 ≠ 30 by decide), jb_Fs]
          · rw [jb_nI, jb_nF, jb_nF]
            exact (jb_nm (M := jm_setI M 16 i 2 (jm_I M 16 i 2 + nI 1)) (hng a' b' hb') _ _)
          · have hne := hng a' b' hb'
            rw [jb_FI, jb_FF, if_neg (fun e => hne ⟨e.1, e.2.1⟩), jb_Fz (by omega), jb_Fc hne]
            exact jb_Fm (M := jm_setI M 16 i 2 (jm_I M 16 i 2 + nI 1)) hne _ _ _
          · rw [jb_Ij hb', jb_IF, jb_IF]
            exact jb_Ij hb' M 16 2 (jm_I M 16 i 2 + nI 1) 16 j
          · rw [jb_FI, jb_Fz (show 16 ≠ 30 by decide), jb_Fj hb']
            rfl
          · exact Nat.le_of_eq List.length_append
          · exact Nat.add_le_add_left (by omega) _
      · have hg2 : ¬ nI l.length = Int32.ofNat (jm_n M 28 b) := fun e => hg ((nI_eq (by omega) (by omega)).mp e)
        refine key (jm_setI (jm_setF (jm_setI M 16 i 2 (jm_I M 16 i 2 + nI 1)) 28 b l.length (some (25, t))) 16 i 1 (nI (l.length + 1))) ?_ (jo_I (jo_F (jo_I (jo_0 M 16) (Or.inl rfl) _ _ _) (Or.inr (Or.inl rfl)) _ _ _) (Or.inl rfl) _ _ _) ?_
        · simp only [e20_0, e20_1, e20_2_k4, e20_2_k16, e20_3, e20_4, e20_5_k4, e20_5_k16, e20_6, e20_7, e20_8, e20_9_k4, e20_9_k16, e20_10, e20_11_k4, e20_11_k16, e20_12_k4, e20_12_k16, e20_13, e20_14_0, e20_14_1, e21_0, e21_1, e21_2_k28, e21_2_k30, e21_2_k74, e21_3, e21_4, e21_5_k4, e21_5_k16, e21_6, e21_7, e21_8, e21_9, e21_10_k28, e21_10_k30, e21_11, e21_12, e21_13, e21_14, e21_15_k4, e21_15_k16, e21_16, jb_cI, jb_FI, jb_nI, hF, g1, if_neg hg2, nI_add, jb_some, jb_tl, jb_tn, jb_ix (show l.length < jm_n M 28 b by omega) (by omega)]
        · refine ⟨⟨by rw [hlb]; exact jb_Is _ _ _ _ _, by omega, Or.inr ⟨28, b, Or.inl rfl, hb, ?_, (show (l ++ [t]).length ≤ jm_n M 28 b by omega), h10, h150, ?_⟩⟩, ⟨28, b, ?_, Or.inl hF⟩, fun a' b' ha hb' => ⟨rfl, fun hne j => ?_⟩, fun a => Nat.le_refl _, fun b' hb' => ⟨fun j => ?_, fun j => ?_⟩, ⟨?_, ?_⟩, rfl⟩
          · rw [jb_FI, jb_Fz (show 16 ≠ 28 by decide), jb_FI, hF]
          · intro j u hj
            rcases jb_app hj with ⟨x1, x2⟩ | ⟨x1, x2⟩
            · rw [jb_FI, jb_Fo (by omega), jb_FI]
              exact hel j u x2
            · subst x1 x2
              rw [jb_FI]
              exact jb_Fs _ _ _ _ _
          · rw [jb_FI, jb_Fz (show 16 ≠ 28 by decide), jb_FI, hF]
          · rw [jb_FI, jb_FF, if_neg, jb_FI]
            rintro ⟨rfl, rfl, -⟩
            exact hne hF
          · rw [jb_Ij hb', jb_IF, jb_Ij hb']
          · rw [jb_FI, jb_Fz (show 16 ≠ 28 by decide), jb_FI]
          · exact Nat.le_add_right _ _
          · exact Nat.le_add_right _ _
    · by_cases hg : l.length = jm_n M 30 b
      · have hN : Int32.ofNat (jm_n M 30 b) = nI l.length := by rw [hg]; rfl
        have c0 : nI 0 < nI l.length := nI_lt (by omega) (by omega)
        have c1 : ¬ nI (l.length + l.length / 2) < nI l.length := nI_nlt (by omega) (by omega)
        refine key (jm_setI (jm_setF (jm_setF (jm_cp (jm_mk (jm_setI M 16 i 2 (jm_I M 16 i 2 + nI 1)) 30 (l.length + l.length / 2) (l.length + l.length / 2)) (30, b) 0 (30, jm_c M 30) 0 l.length) 16 i 0 (some (30, jm_c M 30))) 30 (jm_c M 30) l.length (some (25, t))) 16 i 1 (nI (l.length + 1))) ?_ (jo_I (jo_F (jo_F (jo_cp (jo_mk (jo_I (jo_0 M 16) (Or.inl rfl) _ _ _) (Or.inr (Or.inr rfl)) _ _) (Or.inr (Or.inr rfl)) _ _ _) (Or.inl rfl) _ _ _) (Or.inr (Or.inr rfl)) _ _ _) (Or.inl rfl) _ _ _) ?_
        · have g3 : jm_n (jm_mk (jm_setI M 16 i 2 (jm_I M 16 i 2 + nI 1)) 30 (l.length + l.length / 2) (l.length + l.length / 2)) 30 (jm_c M 30) = l.length + l.length / 2 := if_pos ⟨rfl, rfl⟩
          have g5 : jm_n (jm_setF (jm_cp (jm_mk (jm_setI M 16 i 2 (jm_I M 16 i 2 + nI 1)) 30 (l.length + l.length / 2) (l.length + l.length / 2)) (30, b) 0 (30, jm_c M 30) 0 l.length) 16 i 0 (some (30, jm_c M 30))) 30 (jm_c M 30) = l.length + l.length / 2 := g3
          have g6 : jm_n (jm_mk (jm_setI M 16 i 2 (jm_I M 16 i 2 + nI 1)) 30 (l.length + l.length / 2) (l.length + l.length / 2)) 30 b = l.length := by
            rw [jb_nm, jb_nI, hg]
            rintro ⟨e, rfl⟩
            exact absurd hb (by first | (cases e; done) | exact Nat.lt_irrefl _)
          have g7 : Int32.ofNat l.length = nI l.length := rfl
          have hcp := e27_20_k30_30 d (some (.inr (some (30, b)))) (some (.inl (nI (l.length + l.length / 2)))) (some (.inr (some (76, 0)))) (some (.inr (some (30, jm_c M 30)))) (nI l.length) (nI 0) (nI 0) (jm_c M 30) b (jm_mk (jm_setI M 16 i 2 (jm_I M 16 i 2 + nI 1)) 30 (l.length + l.length / 2) (l.length + l.length / 2)) (by rw [g3, g6]; exact jb_inp (by omega) (by omega))
          rw [nI_clamp (show l.length < 2 ^ 31 by omega), nI_clamp (show 0 < 2 ^ 31 by decide)] at hcp
          simp only [e20_0, e20_1, e20_2_k4, e20_2_k16, e20_3, e20_4, e20_5_k4, e20_5_k16, e20_6, e20_7, e20_8, e20_9_k4, e20_9_k16, e20_10, e20_11_k4, e20_11_k16, e20_12_k4, e20_12_k16, e20_13, e20_14_0, e20_14_1, e21_0, e21_1, e21_2_k28, e21_2_k30, e21_2_k74, e21_3, e21_4, e21_5_k4, e21_5_k16, e21_6, e21_7, e21_8, e21_9, e21_10_k28, e21_10_k30, e21_11, e21_12, e21_13, e21_14, e21_15_k4, e21_15_k16, e21_16, e22_0, e22_1, e22_2_k4, e22_2_k16, e22_3, e22_4, e22_5_k4, e22_5_k16, e22_6, e23_0, e23_1_k4, e23_1_k16, e23_2_k28, e23_2_k30, e23_2_k74, e23_3, e23_4, e23_5, e23_6, e23_7_k4, e23_7_k16, e23_8, e23_9, e23_10, e23_11, e23_12, e23_13, e23_14, e23_15, e23_16, e23_17, e23_18, e23_19, e23_20, e23_21_k4, e23_21_k16, e23_22, e23_23, e23_24, e23_25_k4, e23_25_k16, e23_26, e23_27, e23_28, e23_29, e23_30, e23_31, e23_32, e23_33_k4, e23_33_k16, e23_34, e26_0, e26_1, e26_2, e26_3_k28, e26_3_k30, e26_4, e26_5, e27_0, e27_1, e27_2, e27_3, e27_4, e27_5, e27_6, e27_11, e27_12, e27_13, e27_14, e27_15, e27_16, e27_17_k28, e27_17_k30, e27_17_k74, e27_18, e27_19, e27_21, e27_22, jb_cI, jb_FI, jb_nI, hF, hN, g1, nI_add, pk_sub (Nat.le_add_right l.length 1), Nat.add_sub_cancel_left, jb_shr l.length (by omega), xNl (show l.length ≤ 99 by omega) (show 10 ≤ l.length by omega), jb_some, jb_tl, jb_tn, if_true, if_pos c0, jb_ix (show l.length + l.length / 2 < 10001 by omega) (by decide), g3, g6, g7, if_neg c1, hcp, g5, jb_ix (show l.length < l.length + l.length / 2 by omega) (by omega)]
        · have hng : ∀ a' b', b' < jm_c M a' → ¬ (a' = 30 ∧ b' = jm_c M 30) := by
            rintro a' b' hb' ⟨rfl, e⟩
            rw [e] at hb'
            exact Nat.lt_irrefl _ hb'
          refine ⟨⟨by rw [hlb]; exact jb_Is _ _ _ _ _, by omega, Or.inr ⟨30, jm_c M 30, Or.inr rfl, Nat.lt_succ_self _, ?_, ?_, ?_, ?_, ?_⟩⟩, ⟨30, jm_c M 30, ?_, Or.inr ⟨Or.inr rfl, Nat.le_refl _⟩⟩, fun a' b' ha hb' => ⟨?_, fun _ j => ?_⟩, fun a => jb_cle (jm_setI M 16 i 2 (jm_I M 16 i 2 + nI 1)) 30 (l.length + l.length / 2) (l.length + l.length / 2) a, fun b' hb' => ⟨fun j => ?_, fun j => ?_⟩, ⟨?_, ?_⟩, rfl⟩
          · rw [jb_FI, jb_Fz (show 16 ≠ 30 by decide), jb_Fs]
          · rw [hlb, jb_nI, jb_nF, jb_nF]; exact Nat.le_trans (show l.length + 1 ≤ l.length + l.length / 2 by omega) (Nat.le_of_eq (jb_nms (jm_setI M 16 i 2 (jm_I M 16 i 2 + nI 1)) 30 (l.length + l.length / 2) (l.length + l.length / 2)).symm)
          · rw [jb_nI, jb_nF, jb_nF]; exact Nat.le_trans (show 10 ≤ l.length + l.length / 2 by omega) (Nat.le_of_eq (jb_nms (jm_setI M 16 i 2 (jm_I M 16 i 2 + nI 1)) 30 (l.length + l.length / 2) (l.length + l.length / 2)).symm)
          · rw [jb_nI, jb_nF, jb_nF]; exact Nat.le_trans (Nat.le_of_eq (jb_nms (jm_setI M 16 i 2 (jm_I M 16 i 2 + nI 1)) 30 (l.length + l.length / 2) (l.length + l.length / 2))) (by omega)
          · intro j u hj
            rcases jb_app hj with ⟨x1, x2⟩ | ⟨x1, x2⟩
            · rw [jb_FI, jb_Fo (by omega), jb_Fz (show 30 ≠ 16 by decide)]
              refine (jb_Fcs (q := (30, jm_c M 30)) (Nat.zero_le _) (by omega)).trans ?_
              rw [Nat.zero_add, Nat.sub_zero]
              exact (jb_Fm (M := jm_setI M 16 i 2 (jm_I M 16 i 2 + nI 1)) (hng _ _ hb) _ _ _).trans (hel j u x2)
            · subst x1 x2
              rw [jb_FI]
              exact jb_Fs _ _ _ _ _
          · rw [jb_FI, jb_Fz (show 16 ≠ 30 by decide), jb_Fs]
          · rw [jb_nI, jb_nF, jb_nF]
            exact (jb_nm (M := jm_setI M 16 i 2 (jm_I M 16 i 2 + nI 1)) (hng a' b' hb') _ _)
          · have hne := hng a' b' hb'
            rw [jb_FI, jb_FF, if_neg (fun e => hne ⟨e.1, e.2.1⟩), jb_Fz (by omega), jb_Fc hne]
            exact jb_Fm (M := jm_setI M 16 i 2 (jm_I M 16 i 2 + nI 1)) hne _ _ _
          · rw [jb_Ij hb', jb_IF, jb_IF]
            exact jb_Ij hb' M 16 2 (jm_I M 16 i 2 + nI 1) 16 j
          · rw [jb_FI, jb_Fz (show 16 ≠ 30 by decide), jb_Fj hb']
            rfl
          · exact Nat.le_of_eq List.length_append
          · exact Nat.add_le_add_left (by omega) _
      · have hg2 : ¬ nI l.length = Int32.ofNat (jm_n M 30 b) := fun e => hg ((nI_eq (by omega) (by omega)).mp e)
        refine key (jm_setI (jm_setF (jm_setI M 16 i 2 (jm_I M 16 i 2 + nI 1)) 30 b l.length (some (25, t))) 16 i 1 (nI (l.length + 1))) ?_ (jo_I (jo_F (jo_I (jo_0 M 16) (Or.inl rfl) _ _ _) (Or.inr (Or.inr rfl)) _ _ _) (Or.inl rfl) _ _ _) ?_
        · simp only [e20_0, e20_1, e20_2_k4, e20_2_k16, e20_3, e20_4, e20_5_k4, e20_5_k16, e20_6, e20_7, e20_8, e20_9_k4, e20_9_k16, e20_10, e20_11_k4, e20_11_k16, e20_12_k4, e20_12_k16, e20_13, e20_14_0, e20_14_1, e21_0, e21_1, e21_2_k28, e21_2_k30, e21_2_k74, e21_3, e21_4, e21_5_k4, e21_5_k16, e21_6, e21_7, e21_8, e21_9, e21_10_k28, e21_10_k30, e21_11, e21_12, e21_13, e21_14, e21_15_k4, e21_15_k16, e21_16, jb_cI, jb_FI, jb_nI, hF, g1, if_neg hg2, nI_add, jb_some, jb_tl, jb_tn, jb_ix (show l.length < jm_n M 30 b by omega) (by omega)]
        · refine ⟨⟨by rw [hlb]; exact jb_Is _ _ _ _ _, by omega, Or.inr ⟨30, b, Or.inr rfl, hb, ?_, (show (l ++ [t]).length ≤ jm_n M 30 b by omega), h10, h150, ?_⟩⟩, ⟨30, b, ?_, Or.inl hF⟩, fun a' b' ha hb' => ⟨rfl, fun hne j => ?_⟩, fun a => Nat.le_refl _, fun b' hb' => ⟨fun j => ?_, fun j => ?_⟩, ⟨?_, ?_⟩, rfl⟩
          · rw [jb_FI, jb_Fz (show 16 ≠ 30 by decide), jb_FI, hF]
          · intro j u hj
            rcases jb_app hj with ⟨x1, x2⟩ | ⟨x1, x2⟩
            · rw [jb_FI, jb_Fo (by omega), jb_FI]
              exact hel j u x2
            · subst x1 x2
              rw [jb_FI]
              exact jb_Fs _ _ _ _ _
          · rw [jb_FI, jb_Fz (show 16 ≠ 30 by decide), jb_FI, hF]
          · rw [jb_FI, jb_FF, if_neg, jb_FI]
            rintro ⟨rfl, rfl, -⟩
            exact hne hF
          · rw [jb_Ij hb', jb_IF, jb_Ij hb']
          · rw [jb_FI, jb_Fz (show 16 ≠ 30 by decide), jb_FI]
          · exact Nat.le_add_right _ _
          · exact Nat.le_add_right _ _
