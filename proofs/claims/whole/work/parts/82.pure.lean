/-! A list made shorter; what a crash takes away. -/
def jc_F (M M' : jm_M) : Prop := (jm_n M' = jm_n M ∧ jm_c M' = jm_c M ∧ jm_al M' = jm_al M ∧ jm_sl M' = jm_sl M) ∧ (∀ K i j, K ≠ 28 → K ≠ 30 → jm_F M' K i j = jm_F M K i j) ∧ (∀ K i j, K ≠ 11 → K ≠ 15 → K ≠ 16 → K ≠ 25 → jm_I M' K i j = jm_I M K i j) ∧ (∀ w j, j ≠ 6 → j ≠ 12 → jm_I M' 11 w j = jm_I M 11 w j) ∧ (∀ t j, j ≠ 4 → jm_I M' 25 t j = jm_I M 25 t j)
def jc_W (M M' : jm_M) (w : Nat) : Prop := jc_F M M' ∧ (∀ v, v ≠ w → ∀ j, jm_I M' 15 v j = jm_I M 15 v j ∧ jm_I M' 16 v j = jm_I M 16 v j) ∧ (∀ v j, jm_I M' 11 v j = jm_I M 11 v j) ∧ (∀ a b j, jm_F M 16 w 0 ≠ some (a, b) → jm_F M' a b j = jm_F M a b j)
theorem jc_F0 (M : jm_M) : jc_F M M := ⟨⟨rfl, rfl, rfl, rfl⟩, fun _ _ _ _ _ => rfl, fun _ _ _ _ _ _ _ => rfl, fun _ _ _ _ => rfl, fun _ _ _ => rfl⟩
theorem jc_Ft {M M1 M2 : jm_M} (h1 : jc_F M M1) (h2 : jc_F M1 M2) : jc_F M M2 := by
  obtain ⟨⟨a1, a2, a3, a4⟩, b, c, d, e⟩ := h1
  obtain ⟨⟨p1, p2, p3, p4⟩, q, r, s, t⟩ := h2
  exact ⟨⟨p1.trans a1, p2.trans a2, p3.trans a3, p4.trans a4⟩, fun K i j x y => (q K i j x y).trans (b K i j x y), fun K i j x y z u => (r K i j x y z u).trans (c K i j x y z u), fun w j x y => (s w j x y).trans (d w j x y), fun w j x => (t w j x).trans (e w j x)⟩
theorem jc_W0 (M : jm_M) (w : Nat) : jc_W M M w := ⟨jc_F0 M, fun _ _ _ => ⟨rfl, rfl⟩, fun _ _ => rfl, fun _ _ _ _ => rfl⟩
theorem jc_Wt {M M1 M2 : jm_M} {w : Nat} (h1 : jc_W M M1 w) (h2 : jc_W M1 M2 w) : jc_W M M2 w := by
  obtain ⟨a, b, c, d⟩ := h1
  obtain ⟨p, q, r, s⟩ := h2
  refine ⟨jc_Ft a p, fun v hv j => ⟨(q v hv j).1.trans (b v hv j).1, (q v hv j).2.trans (b v hv j).2⟩, fun v j => (r v j).trans (c v j), fun x y j h => ?_⟩
  refine (s x y j ?_).trans (d x y j h)
  rw [a.2.1 16 w 0 (by decide) (by decide)]
  exact h
theorem jc_i25 {M : jm_M} {w t : Nat} (x : Int32) : jc_W M (jm_setI M 25 t 4 x) w := ⟨⟨⟨rfl, rfl, rfl, rfl⟩, fun _ _ _ _ _ => rfl, fun K i j _ _ _ h => jb_Iz h _ _ _ _ _ _, fun _ _ _ _ => rfl, fun u j h => jb_Io h _ _ _ _ _ _⟩, fun _ _ _ => ⟨rfl, rfl⟩, fun _ _ => rfl, fun _ _ _ _ => rfl⟩
theorem jc_i15 {M : jm_M} {w j : Nat} (x : Int32) : jc_W M (jm_setI M 15 w j x) w := ⟨⟨⟨rfl, rfl, rfl, rfl⟩, fun _ _ _ _ _ => rfl, fun K i j _ h _ _ => jb_Iz h _ _ _ _ _ _, fun _ _ _ _ => rfl, fun u j h => rfl⟩, fun v hv j => ⟨jb_Ij hv _ _ _ _ _ _, rfl⟩, fun _ _ => rfl, fun _ _ _ _ => rfl⟩
theorem jb_Isz (M : jm_M) (k i j : Nat) (x : jm_R) : jm_I (jm_setF M k i j x) = jm_I M := rfl
theorem jb_Icp (M : jm_M) (p : Nat × Nat) (sp : Nat) (q : Nat × Nat) (dp n : Nat) : jm_I (jm_cp M p sp q dp n) = jm_I M := rfl
theorem jb_ncp (M : jm_M) (p : Nat × Nat) (sp : Nat) (q : Nat × Nat) (dp n : Nat) : jm_n (jm_cp M p sp q dp n) = jm_n M := rfl
theorem jb_er {l : List Nat} {i j t : Nat} (hi : i < l.length) (h : (l.eraseIdx i)[j]? = some t) : (j < i ∧ l[j]? = some t) ∨ (i ≤ j ∧ j + 1 < l.length ∧ l[j + 1]? = some t) := by
  rw [List.getElem?_eraseIdx] at h
  by_cases hj : j < i
  · rw [if_pos hj] at h
    exact Or.inl ⟨hj, h⟩
  · rw [if_neg hj] at h
    exact Or.inr ⟨by omega, (List.getElem?_eq_some_iff.mp h).1, h⟩
theorem xRem_28 {d w i t b : Nat} {M : jm_M} {l : List Nat} (h1 : jm_I M 16 w 1 = nI l.length) (h2 : l.length ≤ 100) (hb : b < jm_c M 28) (hF : jm_F M 16 w 0 = some (28, b)) (hn : l.length ≤ jm_n M 28 b) (h10 : 10 ≤ jm_n M 28 b) (h150 : jm_n M 28 b ≤ 150) (hel : ∀ j t, l[j]? = some t → jm_F M 28 b j = some (25, t)) (hi : l[i]? = some t) : ∃ M', jm_D (d + 2) 83 0 [some (.inr (some (16, w))), some (.inl (nI i)), none, none] [] M = some (some (.inr (some (25, t))), M') ∧ jc_W M M' w ∧ jx_L M' 16 w (l.eraseIdx i) ∧ jm_I M' 25 = jm_I M 25 ∧ jm_I M' 15 = jm_I M 15 := by
  have hil : i < l.length := (List.getElem?_eq_some_iff.mp hi).1
  have hlen : (l.eraseIdx i).length = l.length - 1 := List.length_eraseIdx_of_lt hil
  have g1 : ∀ x, jm_I (jm_setI M 16 w 2 x) 16 w 1 = nI l.length := fun x => (jb_Io (by decide) _ _ _ _ _ _).trans h1
  have hit := hel i t hi
  have c0 : ¬ nI i < nI 0 := nI_nlt (by omega) (by omega)
  have c1 : nI i < nI l.length := nI_lt hil (by omega)
  have hco : ∀ (M1 : jm_M), jm_n M1 = jm_n M → jm_c M1 = jm_c M → (∀ K i' j, K ≠ 16 → jm_I M1 K i' j = jm_I M K i' j) → (∀ v j, v ≠ w → jm_I M1 16 v j = jm_I M 16 v j) → jm_I M1 16 w 1 = nI (l.length - 1) → jm_al M1 = jm_al M → jm_sl M1 = jm_sl M → (∀ x y j, ¬ (x = 28 ∧ y = b) → jm_F M1 x y j = jm_F M x y j) → (∀ j, j < i → jm_F M1 28 b j = jm_F M 28 b j) → (∀ j, i ≤ j → j + 1 < l.length → jm_F M1 28 b j = jm_F M 28 b (j + 1)) → jc_W M M1 w ∧ jx_L M1 16 w (l.eraseIdx i) ∧ jm_I M1 25 = jm_I M 25 ∧ jm_I M1 15 = jm_I M 15 := by
    intro M1 n1 n2 n3 n4 n5 n6 n7 n8 n9 n10
    refine ⟨⟨⟨⟨n1, n2, n6, n7⟩, fun K i' j x y => n8 K i' j (fun z => absurd z.1 (by omega)), fun K i' j _ _ h _ => n3 K i' j h, fun v j _ _ => n3 11 v j (by decide), fun u j _ => n3 25 u j (by decide)⟩, fun v hv j => ⟨n3 15 v j (by decide), n4 v j hv⟩, fun v j => n3 11 v j (by decide), fun x y j h => n8 x y j (fun z => h (by rw [z.1, z.2]; exact hF))⟩, ⟨by rw [n5, hlen], by omega, Or.inr ⟨28, b, by decide, by rw [n2]; exact hb, ?_, by rw [n1]; omega, by rw [n1]; exact h10, by rw [n1]; exact h150, fun j u hj => ?_⟩⟩, funext fun x => funext fun y => n3 25 x y (by decide), funext fun x => funext fun y => n3 15 x y (by decide)⟩
    · rw [n8 16 w 0 (fun z => absurd z.1 (by decide))]; exact hF
    · rcases jb_er hil hj with ⟨z1, z2⟩ | ⟨z1, z2, z3⟩
      · rw [n9 j z1]; exact hel j u z2
      · rw [n10 j z1 z2]; exact hel (j + 1) u z3
  by_cases hlast : i + 1 < l.length
  · have c2 : ¬ nI (l.length - 1) ≤ nI i := nI_ge (by omega) (by omega)
    have hx : (jm_in (nI (i + 1)) 20000 && jm_in (nI i) 20000 && jm_in (nI (l.length - 1 - i)) 20000 && Nat.ble ((nI (i + 1)).toNatClampNeg + (nI (l.length - 1 - i)).toNatClampNeg) (jm_n (jm_setI M 16 w 2 (jm_I M 16 w 2 + nI 1)) 28 b) && Nat.ble ((nI i).toNatClampNeg + (nI (l.length - 1 - i)).toNatClampNeg) (jm_n (jm_setI M 16 w 2 (jm_I M 16 w 2 + nI 1)) 28 b)) = true := by
      rw [nI_clamp (show i + 1 < 2 ^ 31 by omega), nI_clamp (show i < 2 ^ 31 by omega), nI_clamp (show l.length - 1 - i < 2 ^ 31 by omega), jb_in (show i + 1 < 20000 by omega) (by decide), jb_in (show i < 20000 by omega) (by decide), jb_in (show l.length - 1 - i < 20000 by omega) (by decide)]
      simp only [Bool.and_true, Bool.true_and, Bool.and_eq_true, Nat.ble_eq, jb_nI]
      omega
    have hcp := e84_23_k28_28 d (some (.inr (some (16, w)))) (some (.inr (some (28, b)))) (some (.inl (nI i))) (some (.inl (nI (l.length - 1)))) (nI (l.length - 1 - i)) (nI i) (nI (i + 1)) b b (jm_setI M 16 w 2 (jm_I M 16 w 2 + nI 1)) hx
    rw [nI_clamp (show i + 1 < 2 ^ 31 by omega), nI_clamp (show i < 2 ^ 31 by omega), nI_clamp (show l.length - 1 - i < 2 ^ 31 by omega)] at hcp
    refine ⟨jm_setF (jm_setI (jm_cp (jm_setI M 16 w 2 (jm_I M 16 w 2 + nI 1)) (28, b) (i + 1) (28, b) i (l.length - 1 - i)) 16 w 1 (nI (l.length - 1))) 28 b (l.length - 1) none, ?_, hco _ rfl rfl (fun K i' j h => (jb_Iz h _ _ _ _ _ _).trans (jb_Iz h M _ _ _ _ _)) (fun v j h => (jb_Ij h _ _ _ _ _ _).trans (jb_Ij h M _ _ _ _ _)) (jb_Is _ _ _ _ _) rfl rfl (fun x y j h => ?_) (fun j h => ?_) (fun j h1 h2 => ?_)⟩
    · simp only [e83_0, e83_1, e83_2_k4, e83_2_k16, e83_3, e83_4, e83_5, e83_6_k4, e83_6_k16, e83_7, e83_8, e83_9, e83_10_k28, e83_10_k30, e83_11, e83_12, e83_13, e83_14, e83_15_k4, e83_15_k16, e83_16, e83_17, e72_0, e72_1, e72_2, e72_3, e72_4, e73_0, e73_1, e73_2, e73_3, e73_4, e73_5, e73_6, e73_7, e73_10, e73_11, e84_0, e84_1, e84_2_k4, e84_2_k16, e84_3, e84_4, e84_5_k4, e84_5_k16, e84_6, e84_7_k4, e84_7_k16, e84_8, e84_9, e84_10, e84_11, e84_12, e84_13, e84_14, e84_15, e84_16, e84_17, e84_18, e84_19, e84_20, e84_21, e84_22, e84_24, e84_25, e84_26, e84_27, e84_28_k4, e84_28_k16, e84_29, e84_30_k28, e84_30_k30, e84_31, h1, if_neg c0, if_pos c1, jb_some, jb_tl, jb_tn, hF, jb_ix (show i < jm_n M 28 b by omega) (by omega), hit, g1, pk_sub (show 1 ≤ l.length by omega), if_neg c2, nI_add, pk_sub (show i ≤ l.length - 1 by omega), hcp, jb_nI, jb_ncp, jb_ix (show l.length - 1 < jm_n M 28 b by omega) (by omega)]
    · rw [jb_FF, if_neg (fun z => h ⟨z.1, z.2.1⟩), jb_FI]
      exact jb_Fc h _
    · rw [jb_Fo (by omega), jb_FI]
      exact if_neg (fun z => by omega)
    · rw [jb_Fo (by omega), jb_FI]
      refine (jb_Fcs (q := (28, b)) h1 (by omega)).trans ?_
      rw [show i + 1 + (j - i) = j + 1 by omega]
      rfl
  · have hie : i = l.length - 1 := by omega
    have c2 : nI (l.length - 1) ≤ nI i := nI_le (by omega) (by omega)
    refine ⟨jm_setF (jm_setI (jm_setI M 16 w 2 (jm_I M 16 w 2 + nI 1)) 16 w 1 (nI (l.length - 1))) 28 b (l.length - 1) none, ?_, hco _ rfl rfl (fun K i' j h => (jb_Iz h _ _ _ _ _ _).trans (jb_Iz h M _ _ _ _ _)) (fun v j h => (jb_Ij h _ _ _ _ _ _).trans (jb_Ij h M _ _ _ _ _)) (jb_Is _ _ _ _ _) rfl rfl (fun x y j h => ?_) (fun j h => ?_) (fun j h1 h2 => ?_)⟩
    · simp only [e83_0, e83_1, e83_2_k4, e83_2_k16, e83_3, e83_4, e83_5, e83_6_k4, e83_6_k16, e83_7, e83_8, e83_9, e83_10_k28, e83_10_k30, e83_11, e83_12, e83_13, e83_14, e83_15_k4, e83_15_k16, e83_16, e83_17, e72_0, e72_1, e72_2, e72_3, e72_4, e73_0, e73_1, e73_2, e73_3, e73_4, e73_5, e73_6, e73_7, e73_10, e73_11, e84_0, e84_1, e84_2_k4, e84_2_k16, e84_3, e84_4, e84_5_k4, e84_5_k16, e84_6, e84_7_k4, e84_7_k16, e84_8, e84_9, e84_10, e84_11, e84_12, e84_13, e84_14, e84_15, e84_16, e84_17, e84_18, e84_19, e84_20, e84_21, e84_22, e84_24, e84_25, e84_26, e84_27, e84_28_k4, e84_28_k16, e84_29, e84_30_k28, e84_30_k30, e84_31, h1, if_neg c0, if_pos c1, jb_some, jb_tl, jb_tn, hF, jb_ix (show i < jm_n M 28 b by omega) (by omega), hit, g1, pk_sub (show 1 ≤ l.length by omega), if_pos c2, jb_nI, jb_ix (show l.length - 1 < jm_n M 28 b by omega) (by omega)]
    · rw [jb_FF, if_neg (fun z => h ⟨z.1, z.2.1⟩), jb_FI, jb_FI]
    · rw [jb_Fo (by omega), jb_FI, jb_FI]
    · omega
theorem xRem_30 {d w i t b : Nat} {M : jm_M} {l : List Nat} (h1 : jm_I M 16 w 1 = nI l.length) (h2 : l.length ≤ 100) (hb : b < jm_c M 30) (hF : jm_F M 16 w 0 = some (30, b)) (hn : l.length ≤ jm_n M 30 b) (h10 : 10 ≤ jm_n M 30 b) (h150 : jm_n M 30 b ≤ 150) (hel : ∀ j t, l[j]? = some t → jm_F M 30 b j = some (25, t)) (hi : l[i]? = some t) : ∃ M', jm_D (d + 2) 83 0 [some (.inr (some (16, w))), some (.inl (nI i)), none, none] [] M = some (some (.inr (some (25, t))), M') ∧ jc_W M M' w ∧ jx_L M' 16 w (l.eraseIdx i) ∧ jm_I M' 25 = jm_I M 25 ∧ jm_I M' 15 = jm_I M 15 := by
  have hil : i < l.length := (List.getElem?_eq_some_iff.mp hi).1
  have hlen : (l.eraseIdx i).length = l.length - 1 := List.length_eraseIdx_of_lt hil
  have g1 : ∀ x, jm_I (jm_setI M 16 w 2 x) 16 w 1 = nI l.length := fun x => (jb_Io (by decide) _ _ _ _ _ _).trans h1
  have hit := hel i t hi
  have c0 : ¬ nI i < nI 0 := nI_nlt (by omega) (by omega)
  have c1 : nI i < nI l.length := nI_lt hil (by omega)
  have hco : ∀ (M1 : jm_M), jm_n M1 = jm_n M → jm_c M1 = jm_c M → (∀ K i' j, K ≠ 16 → jm_I M1 K i' j = jm_I M K i' j) → (∀ v j, v ≠ w → jm_I M1 16 v j = jm_I M 16 v j) → jm_I M1 16 w 1 = nI (l.length - 1) → jm_al M1 = jm_al M → jm_sl M1 = jm_sl M → (∀ x y j, ¬ (x = 30 ∧ y = b) → jm_F M1 x y j = jm_F M x y j) → (∀ j, j < i → jm_F M1 30 b j = jm_F M 30 b j) → (∀ j, i ≤ j → j + 1 < l.length → jm_F M1 30 b j = jm_F M 30 b (j + 1)) → jc_W M M1 w ∧ jx_L M1 16 w (l.eraseIdx i) ∧ jm_I M1 25 = jm_I M 25 ∧ jm_I M1 15 = jm_I M 15 := by
    intro M1 n1 n2 n3 n4 n5 n6 n7 n8 n9 n10
    refine ⟨⟨⟨⟨n1, n2, n6, n7⟩, fun K i' j x y => n8 K i' j (fun z => absurd z.1 (by omega)), fun K i' j _ _ h _ => n3 K i' j h, fun v j _ _ => n3 11 v j (by decide), fun u j _ => n3 25 u j (by decide)⟩, fun v hv j => ⟨n3 15 v j (by decide), n4 v j hv⟩, fun v j => n3 11 v j (by decide), fun x y j h => n8 x y j (fun z => h (by rw [z.1, z.2]; exact hF))⟩, ⟨by rw [n5, hlen], by omega, Or.inr ⟨30, b, by decide, by rw [n2]; exact hb, ?_, by rw [n1]; omega, by rw [n1]; exact h10, by rw [n1]; exact h150, fun j u hj => ?_⟩⟩, funext fun x => funext fun y => n3 25 x y (by decide), funext fun x => funext fun y => n3 15 x y (by decide)⟩
    · rw [n8 16 w 0 (fun z => absurd z.1 (by decide))]; exact hF
    · rcases jb_er hil hj with ⟨z1, z2⟩ | ⟨z1, z2, z3⟩
      · rw [n9 j z1]; exact hel j u z2
      · rw [n10 j z1 z2]; exact hel (j + 1) u z3
  by_cases hlast : i + 1 < l.length
  · have c2 : ¬ nI (l.length - 1) ≤ nI i := nI_ge (by omega) (by omega)
    have hx : (jm_in (nI (i + 1)) 20000 && jm_in (nI i) 20000 && jm_in (nI (l.length - 1 - i)) 20000 && Nat.ble ((nI (i + 1)).toNatClampNeg + (nI (l.length - 1 - i)).toNatClampNeg) (jm_n (jm_setI M 16 w 2 (jm_I M 16 w 2 + nI 1)) 30 b) && Nat.ble ((nI i).toNatClampNeg + (nI (l.length - 1 - i)).toNatClampNeg) (jm_n (jm_setI M 16 w 2 (jm_I M 16 w 2 + nI 1)) 30 b)) = true := by
      rw [nI_clamp (show i + 1 < 2 ^ 31 by omega), nI_clamp (show i < 2 ^ 31 by omega), nI_clamp (show l.length - 1 - i < 2 ^ 31 by omega), jb_in (show i + 1 < 20000 by omega) (by decide), jb_in (show i < 20000 by omega) (by decide), jb_in (show l.length - 1 - i < 20000 by omega) (by decide)]
      simp only [Bool.and_true, Bool.true_and, Bool.and_eq_true, Nat.ble_eq, jb_nI]
      omega
    have hcp := e84_23_k30_30 d (some (.inr (some (16, w)))) (some (.inr (some (30, b)))) (some (.inl (nI i))) (some (.inl (nI (l.length - 1)))) (nI (l.length - 1 - i)) (nI i) (nI (i + 1)) b b (jm_setI M 16 w 2 (jm_I M 16 w 2 + nI 1)) hx
    rw [nI_clamp (show i + 1 < 2 ^ 31 by omega), nI_clamp (show i < 2 ^ 31 by omega), nI_clamp (show l.length - 1 - i < 2 ^ 31 by omega)] at hcp
    refine ⟨jm_setF (jm_setI (jm_cp (jm_setI M 16 w 2 (jm_I M 16 w 2 + nI 1)) (30, b) (i + 1) (30, b) i (l.length - 1 - i)) 16 w 1 (nI (l.length - 1))) 30 b (l.length - 1) none, ?_, hco _ rfl rfl (fun K i' j h => (jb_Iz h _ _ _ _ _ _).trans (jb_Iz h M _ _ _ _ _)) (fun v j h => (jb_Ij h _ _ _ _ _ _).trans (jb_Ij h M _ _ _ _ _)) (jb_Is _ _ _ _ _) rfl rfl (fun x y j h => ?_) (fun j h => ?_) (fun j h1 h2 => ?_)⟩
    · simp only [e83_0, e83_1, e83_2_k4, e83_2_k16, e83_3, e83_4, e83_5, e83_6_k4, e83_6_k16, e83_7, e83_8, e83_9, e83_10_k28, e83_10_k30, e83_11, e83_12, e83_13, e83_14, e83_15_k4, e83_15_k16, e83_16, e83_17, e72_0, e72_1, e72_2, e72_3, e72_4, e73_0, e73_1, e73_2, e73_3, e73_4, e73_5, e73_6, e73_7, e73_10, e73_11, e84_0, e84_1, e84_2_k4, e84_2_k16, e84_3, e84_4, e84_5_k4, e84_5_k16, e84_6, e84_7_k4, e84_7_k16, e84_8, e84_9, e84_10, e84_11, e84_12, e84_13, e84_14, e84_15, e84_16, e84_17, e84_18, e84_19, e84_20, e84_21, e84_22, e84_24, e84_25, e84_26, e84_27, e84_28_k4, e84_28_k16, e84_29, e84_30_k28, e84_30_k30, e84_31, h1, if_neg c0, if_pos c1, jb_some, jb_tl, jb_tn, hF, jb_ix (show i < jm_n M 30 b by omega) (by omega), hit, g1, pk_sub (show 1 ≤ l.length by omega), if_neg c2, nI_add, pk_sub (show i ≤ l.length - 1 by omega), hcp, jb_nI, jb_ncp, jb_ix (show l.length - 1 < jm_n M 30 b by omega) (by omega)]
    · rw [jb_FF, if_neg (fun z => h ⟨z.1, z.2.1⟩), jb_FI]
      exact jb_Fc h _
    · rw [jb_Fo (by omega), jb_FI]
      exact if_neg (fun z => by omega)
    · rw [jb_Fo (by omega), jb_FI]
      refine (jb_Fcs (q := (30, b)) h1 (by omega)).trans ?_
      rw [show i + 1 + (j - i) = j + 1 by omega]
      rfl
  · have hie : i = l.length - 1 := by omega
    have c2 : nI (l.length - 1) ≤ nI i := nI_le (by omega) (by omega)
    refine ⟨jm_setF (jm_setI (jm_setI M 16 w 2 (jm_I M 16 w 2 + nI 1)) 16 w 1 (nI (l.length - 1))) 30 b (l.length - 1) none, ?_, hco _ rfl rfl (fun K i' j h => (jb_Iz h _ _ _ _ _ _).trans (jb_Iz h M _ _ _ _ _)) (fun v j h => (jb_Ij h _ _ _ _ _ _).trans (jb_Ij h M _ _ _ _ _)) (jb_Is _ _ _ _ _) rfl rfl (fun x y j h => ?_) (fun j h => ?_) (fun j h1 h2 => ?_)⟩
    · simp only [e83_0, e83_1, e83_2_k4, e83_2_k16, e83_3, e83_4, e83_5, e83_6_k4, e83_6_k16, e83_7, e83_8, e83_9, e83_10_k28, e83_10_k30, e83_11, e83_12, e83_13, e83_14, e83_15_k4, e83_15_k16, e83_16, e83_17, e72_0, e72_1, e72_2, e72_3, e72_4, e73_0, e73_1, e73_2, e73_3, e73_4, e73_5, e73_6, e73_7, e73_10, e73_11, e84_0, e84_1, e84_2_k4, e84_2_k16, e84_3, e84_4, e84_5_k4, e84_5_k16, e84_6, e84_7_k4, e84_7_k16, e84_8, e84_9, e84_10, e84_11, e84_12, e84_13, e84_14, e84_15, e84_16, e84_17, e84_18, e84_19, e84_20, e84_21, e84_22, e84_24, e84_25, e84_26, e84_27, e84_28_k4, e84_28_k16, e84_29, e84_30_k28, e84_30_k30, e84_31, h1, if_neg c0, if_pos c1, jb_some, jb_tl, jb_tn, hF, jb_ix (show i < jm_n M 30 b by omega) (by omega), hit, g1, pk_sub (show 1 ≤ l.length by omega), if_pos c2, jb_nI, jb_ix (show l.length - 1 < jm_n M 30 b by omega) (by omega)]
    · rw [jb_FF, if_neg (fun z => h ⟨z.1, z.2.1⟩), jb_FI, jb_FI]
    · rw [jb_Fo (by omega), jb_FI, jb_FI]
    · omega
theorem xRem {d w i t : Nat} {M : jm_M} {l : List Nat} (hl : jx_L M 16 w l) (hi : l[i]? = some t) : ∃ M', jm_D (d + 2) 83 0 [some (.inr (some (16, w))), some (.inl (nI i)), none, none] [] M = some (some (.inr (some (25, t))), M') ∧ jc_W M M' w ∧ jx_L M' 16 w (l.eraseIdx i) ∧ jm_I M' 25 = jm_I M 25 ∧ jm_I M' 15 = jm_I M 15 := by
  obtain ⟨h1, h2, ⟨rfl, -⟩ | ⟨a, b, rfl | rfl, hb, hF, hn, h10, h150, hel⟩⟩ := hl
  · exact absurd hi (by simp)
  · exact xRem_28 h1 h2 hb hF hn h10 h150 hel hi
  · exact xRem_30 h1 h2 hb hF hn h10 h150 hel hi
