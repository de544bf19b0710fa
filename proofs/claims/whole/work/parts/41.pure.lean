/-! Release: a committed transaction's state is put up in both. -/
theorem jb_Iz {k k' : Nat} (h : k' ≠ k) (M : jm_M) (i j : Nat) (x : Int32) (i' j' : Nat) : jm_I (jm_setI M k i j x) k' i' j' = jm_I M k' i' j' := if_neg (fun e => h e.1)
theorem jb_Ij {i i' : Nat} (h : i' ≠ i) (M : jm_M) (k j : Nat) (x : Int32) (k' j' : Nat) : jm_I (jm_setI M k i j x) k' i' j' = jm_I M k' i' j' := if_neg (fun e => h e.2.1)
theorem jb_Io {j j' : Nat} (h : j' ≠ j) (M : jm_M) (k i : Nat) (x : Int32) (k' i' : Nat) : jm_I (jm_setI M k i j x) k' i' j' = jm_I M k' i' j' := if_neg (fun e => h e.2.2)
theorem jq_Ao {M N M' N' : jm_M} {w : Nat} (h1 : ∀ k j, 11 ≤ k → k ≤ 14 → jm_I M' k w j = jm_I M k w j) (h2 : jm_F M' 11 w 5 = jm_F M 11 w 5) (h3 : ∀ k j, 45 ≤ k → k ≤ 61 → jm_I N' k 0 j = jm_I N k 0 j) : jq_A M N M' N' w :=
  ⟨fun j => h1 11 j (by decide) (by decide), h2, fun k hk => h3 k w (by omega) (by omega), fun r hr => ⟨h1 12 r (by decide) (by decide), h3 50 _ (by decide) (by decide)⟩, fun m k a b _ => h3 m _ (by omega) (by omega), fun n _ => h3 57 _ (by decide) (by decide), fun k _ => h1 13 k (by decide) (by decide), fun k _ => h1 14 k (by decide) (by decide)⟩
theorem jq_C0 {M N M' N' : jm_M} {w : Nat} (h1 : jm_c M' 25 = jm_c M 25) (h2 : jm_I N' 63 = jm_I N 63) (h3 : jm_I M' 22 = jm_I M 22) (h4 : jm_I N' 37 = jm_I N 37) (h5 : jm_I N' 31 0 11 = jm_I N 31 0 11) : jq_C M N M' N' w :=
  ⟨by rw [h1]; exact Nat.le_refl _, fun u hu hv => ⟨by rw [h1] at hu; exact hu, by rw [h2] at hv; exact hv⟩, fun k _ => by rw [h3], fun k _ => by rw [h4]; exact id, fun m hm h => ⟨m, Nat.le_refl _, hm, by rw [h5]; exact h⟩⟩
theorem jr_fate {E C t : Nat} {M N : jm_M} (h : jr_R E C M N) (ht : t < jm_c M 25) (h2 : jm_I N 64 0 (t + 1) = nI 2) : jr_R E C (jm_setI M 25 t 4 (nI 3)) (jm_setI N 64 0 (t + 1) (nI 3)) := by
  obtain ⟨hX, hY, hN, hP, hS, hL, hW, ⟨t1, t2, t3, t4, t5, t6⟩, hG, hE, b, b1, b2, b3, b4, b5, b6, b7⟩ := h
  have hlg : ∀ u, jy_lg (jm_setI N 64 0 (t + 1) (nI 3)) u ↔ jy_lg N u := by
    intro u
    unfold jy_lg
    by_cases hu : u = t
    · subst hu
      rw [jb_Is, h2]
      exact ⟨fun _ => Or.inl rfl, fun _ => Or.inr rfl⟩
    · rw [jb_Io (show u + 1 ≠ t + 1 by omega)]
  have hkp : ∀ w, jy_kp (jm_setI N 64 0 (t + 1) (nI 3)) w = jy_kp N w := by
    intro w
    funext u
    unfold jy_kp
    by_cases hu : u = t
    · subst hu
      rw [jb_Is, h2]
      rfl
    · rw [jb_Io (show u + 1 ≠ t + 1 by omega)]
      rfl
  have hkl : ∀ w, jy_kl (jm_setI M 25 t 4 (nI 3)) (jm_setI N 64 0 (t + 1) (nI 3)) w = jy_kl M N w := by
    intro w
    unfold jy_kl
    rw [hkp]
    rfl
  refine ⟨hX, hY, hN, hP, hS, hL, fun w hw => rW_cg (hW w hw) (Nat.le_refl _) (Nat.le_refl _) (jq_Ao (fun k j a b => jb_Iz (by omega) _ _ _ _ _ _) rfl (fun k j a b => jb_Iz (by omega) _ _ _ _ _ _)) (fun u hu _ _ hv => ?_) (jq_C0 rfl rfl rfl rfl rfl), ⟨t1, t2, t3, t4, t5, fun u hu => ?_⟩, ⟨fun w hw => ?_, hG.2⟩, hE, b, b1, b2, fun u k hu hk hl => b3 u k hu hk ((hlg u).mp hl), b4, fun u v k hu hv hk huv hl hm => b5 u v k hu hv hk huv ((hlg u).mp hl) ((hlg v).mp hm), fun w u k hw hu hk h5 h6 hl => b6 w u k hw hu hk h5 h6 ((hlg u).mp hl), b7⟩
  · have hne : u ≠ t := by
      intro e
      subst e
      rw [h2] at hv
      exact absurd hv (by decide)
    exact ⟨fun j hj => jb_Ij hne _ _ _ _ _ _, fun k hk => ⟨rfl, rfl⟩, rfl, jb_Io (show u + 1 ≠ t + 1 by omega) _ _ _ _ _ _⟩
  · by_cases hut : u = t
    · subst hut
      obtain ⟨a1, a2, a3, a4, a5, a6, a7, a8, a9⟩ := t6 u hu
      refine ⟨(jb_Io (by decide) _ _ _ _ _ _).trans a1, a2, a3, a4, a5, ⟨3, by decide, by decide, jb_Is _ _ _ _ _, jb_Is _ _ _ _ _⟩, a7, fun z => ?_, fun _ => ?_⟩
      · rw [jb_Is] at z
        exact absurd z (by decide)
      · obtain ⟨⟨s, x1, x2, x3⟩, x4, x5⟩ := a9 (Or.inl h2)
        exact ⟨⟨s, x1, (jb_Io (by decide) _ _ _ _ _ _).trans x2, x3⟩, (jb_Io (by decide) _ _ _ _ _ _).trans x4, x5⟩
    · refine rTt_cg (t6 u hu) (Nat.le_refl _) ⟨fun j => jb_Ij hut _ _ _ _ _ _, fun _ => rfl, rfl, rfl, fun k hk => ⟨rfl, rfl⟩, fun m _ _ => jb_Io (show u + 1 ≠ t + 1 by omega) _ _ _ _ _ _, fun m k _ _ _ => jb_Iz (by omega) _ _ _ _ _ _⟩ (fun w hw _ p q => ⟨w, hw, p, q⟩)
  · rw [hkl w]
    obtain ⟨x1, x2⟩ := hG.1 w hw
    exact ⟨x1, x2⟩
theorem jb_rg {T k : Nat} (h : k < T) : (List.range T)[k]? = some k := by
  rw [List.getElem?_range h]
/-- release -/
theorem sm_rel0 {d d' E C T : Nat} {m : Int32} (hT : T ≤ 100) : ∀ f k M N q (l : Option jm_V), k + f = T → jr_R E C M N → jm_c M 25 = T → ∃ r M' N', jm_D (d + 3) 69 7 [some (.inr (some (0, 0))), some (.inl m), some (.inl (nI q)), some (.inl (nI k)), l] [] M = some (some (.inl r), M') ∧ jm_D (d' + 3) 131 7 [some (.inr (some (31, 0))), some (.inl (nI q)), some (.inl m), some (.inl (nI (k + 1)))] [] N = some (some (.inl r), N') ∧ jr_R E C M' N' ∧ (jm_al M' = jm_al M ∧ jm_sl M' = jm_sl M) ∧ (jm_al N' = jm_al N ∧ jm_sl N' = jm_sl N) := by
  intro f
  induction f with
  | zero =>
    intro k M N q l hk h hc
    have hk : k = T := by omega
    subst hk
    have h' := h
    obtain ⟨hX, hY, -, -, -, -, -, ⟨t1, t2, t3, t4, t5, t6⟩, -⟩ := h
    have c1 : nI k < nI (k + 1) := nI_lt (by omega) (by omega)
    have sz := xl_size_4 (d := d + 2) t5
    rw [List.length_range, hc] at sz
    rw [hc] at t4
    refine ⟨nI q, M, N, ?_, ?_, h', ⟨rfl, rfl⟩, ⟨rfl, rfl⟩⟩
    · rw [e69_7]
      simp only [e69_0, e69_1, e69_2, e69_3, e69_4, e69_5, e69_6, e69_8, e69_9, e69_10, e69_11, e69_12, e69_13, e69_14, e69_15, e69_16, e69_17, e69_18, e69_19, e69_20, e69_21, e69_22, e69_23, e69_24, e69_25, e69_26, e69_27, e69_28, e69_29, e69_30, e69_31, e69_32, e69_33, xs_0 hX, xs_1 hX, xs_2 hX, xs_3 hX, xs_4 hX, xs_5 hX, xs_6 hX, xs_7 hX, xs_8 hX, xs_9 hX, xs_10 hX, xs_11 hX, xs_12 hX, xs_13 hX, xs_14 hX, xs_15 hX, xs_16 hX, xs_17 hX, xs_18 hX, xs_19 hX, sz, jb_some, jb_tl, Int32.le_refl, if_true]
    · rw [e131_7]
      simp only [e131_0, e131_1, e131_2, e131_3, e131_4, e131_5, e131_6, e131_8, e131_9, e131_10, e131_11, e131_12, e131_13, e131_14, e131_15, e131_16, e131_17, e131_18, e131_19, e131_20, e131_21, e131_22, e131_23, e131_24, e131_25, e131_26, e131_27, e131_28, e131_29, e131_30, e131_31, e131_32, e131_33, e131_34, ys_0 hY, ys_1 hY, ys_2 hY, ys_3 hY, ys_4 hY, ys_5 hY, ys_6 hY, ys_7 hY, ys_8 hY, ys_9 hY, ys_10 hY, ys_11 hY, ys_12 hY, ys_13 hY, ys_14 hY, ys_15 hY, ys_16 hY, ys_17 hY, ys_18 hY, ys_19 hY, ys_20 hY, ys_21 hY, ys_22 hY, ys_23 hY, ys_24 hY, ys_25 hY, ys_26 hY, ys_27 hY, ys_28 hY, ys_29 hY, ys_30 hY, ys_31 hY, ys_32 hY, ys_33 hY, ys_34 hY, ys_35 hY, ys_36 hY, ys_37 hY, ys_38 hY, ys_39 hY, ys_40 hY, ys_41 hY, ys_42 hY, ys_43 hY, ys_44 hY, ys_45 hY, ys_46 hY, ys_47 hY, ys_48 hY, ys_49 hY, ys_50 hY, ys_51 hY, ys_52 hY, ys_53 hY, ys_54 hY, ys_55 hY, ys_56 hY, ys_57 hY, ys_58 hY, ys_59 hY, ys_60 hY, ys_61 hY, ys_62 hY, ys_63 hY, ys_64 hY, ys_65 hY, ys_66 hY, ys_67 hY, ys_68 hY, ys_69 hY, ys_70 hY, ys_71 hY, ys_72 hY, ys_73 hY, ys_74 hY, ys_75 hY, ys_76 hY, ys_77 hY, t4, if_pos c1]
  | succ f ih =>
    intro k M N q l hk h hc
    have h' := h
    obtain ⟨hX, hY, -, -, -, -, -, ⟨t1, t2, t3, t4, t5, t6⟩, -⟩ := h
    have c1 : ¬ nI T < nI (k + 1) := nI_nlt (by omega) (by omega)
    have c2 : ¬ nI T ≤ nI k := nI_ge (by omega) (by omega)
    have sz := xl_size_4 (d := d + 2) t5
    have gt := xl_get_4 (d := d) t5 (jb_rg (show k < jm_c M 25 by omega))
    rw [List.length_range, hc] at sz
    have t4' := t4
    rw [hc] at t4'
    obtain ⟨a1, a2, a3, a4, a5, ⟨g, g1, g2, g3, g4⟩, a7, a8, a9⟩ := t6 k (by omega)
    have hn0 : ¬ nI 1024 = nI 0 := by decide
    by_cases hg : g = 2
    · subst hg
      obtain ⟨⟨s, x1, x2, x3⟩, x4, x5⟩ := a9 (Or.inl g4)
      by_cases hd : m < nI s / nI 1024
      · have ih := ih (k + 1) M N q (some (.inr (some (25, k)))) (by omega) h' hc
        rw [e69_7, e131_7]
        simp only [e69_0, e69_1, e69_2, e69_3, e69_4, e69_5, e69_6, e69_8, e69_9, e69_10, e69_11, e69_12, e69_13, e69_14, e69_15, e69_16, e69_17, e69_18, e69_19, e69_20, e69_21, e69_22, e69_23, e69_24, e69_25, e69_26, e69_27, e69_28, e69_29, e69_30, e69_31, e69_32, e69_33, e75_0, e75_1, e75_2, e75_3, e75_4, xs_0 hX, xs_1 hX, xs_2 hX, xs_3 hX, xs_4 hX, xs_5 hX, xs_6 hX, xs_7 hX, xs_8 hX, xs_9 hX, xs_10 hX, xs_11 hX, xs_12 hX, xs_13 hX, xs_14 hX, xs_15 hX, xs_16 hX, xs_17 hX, xs_18 hX, xs_19 hX, sz, gt, jb_some, jb_tl, if_neg c2, g3, if_true, x2, if_neg hn0, if_pos hd, nI_add, e131_0, e131_1, e131_2, e131_3, e131_4, e131_5, e131_6, e131_8, e131_9, e131_10, e131_11, e131_12, e131_13, e131_14, e131_15, e131_16, e131_17, e131_18, e131_19, e131_20, e131_21, e131_22, e131_23, e131_24, e131_25, e131_26, e131_27, e131_28, e131_29, e131_30, e131_31, e131_32, e131_33, e131_34, ys_0 hY, ys_1 hY, ys_2 hY, ys_3 hY, ys_4 hY, ys_5 hY, ys_6 hY, ys_7 hY, ys_8 hY, ys_9 hY, ys_10 hY, ys_11 hY, ys_12 hY, ys_13 hY, ys_14 hY, ys_15 hY, ys_16 hY, ys_17 hY, ys_18 hY, ys_19 hY, ys_20 hY, ys_21 hY, ys_22 hY, ys_23 hY, ys_24 hY, ys_25 hY, ys_26 hY, ys_27 hY, ys_28 hY, ys_29 hY, ys_30 hY, ys_31 hY, ys_32 hY, ys_33 hY, ys_34 hY, ys_35 hY, ys_36 hY, ys_37 hY, ys_38 hY, ys_39 hY, ys_40 hY, ys_41 hY, ys_42 hY, ys_43 hY, ys_44 hY, ys_45 hY, ys_46 hY, ys_47 hY, ys_48 hY, ys_49 hY, ys_50 hY, ys_51 hY, ys_52 hY, ys_53 hY, ys_54 hY, ys_55 hY, ys_56 hY, ys_57 hY, ys_58 hY, ys_59 hY, ys_60 hY, ys_61 hY, ys_62 hY, ys_63 hY, ys_64 hY, ys_65 hY, ys_66 hY, ys_67 hY, ys_68 hY, ys_69 hY, ys_70 hY, ys_71 hY, ys_72 hY, ys_73 hY, ys_74 hY, ys_75 hY, ys_76 hY, ys_77 hY, t4', if_neg c1, jb_ix (show k + 1 < 101 by omega) (by decide), g4, x3]
        exact ih
      · have ih := ih (k + 1) (jm_setI M 25 k 4 (nI 3)) (jm_setI N 64 0 (k + 1) (nI 3)) (q + 1) (some (.inr (some (25, k)))) (by omega) (jr_fate h' (by omega) g4) hc
        rw [e69_7, e131_7]
        simp only [e69_0, e69_1, e69_2, e69_3, e69_4, e69_5, e69_6, e69_8, e69_9, e69_10, e69_11, e69_12, e69_13, e69_14, e69_15, e69_16, e69_17, e69_18, e69_19, e69_20, e69_21, e69_22, e69_23, e69_24, e69_25, e69_26, e69_27, e69_28, e69_29, e69_30, e69_31, e69_32, e69_33, e75_0, e75_1, e75_2, e75_3, e75_4, xs_0 hX, xs_1 hX, xs_2 hX, xs_3 hX, xs_4 hX, xs_5 hX, xs_6 hX, xs_7 hX, xs_8 hX, xs_9 hX, xs_10 hX, xs_11 hX, xs_12 hX, xs_13 hX, xs_14 hX, xs_15 hX, xs_16 hX, xs_17 hX, xs_18 hX, xs_19 hX, sz, gt, jb_some, jb_tl, if_neg c2, g3, if_true, x2, if_neg hn0, if_neg hd, nI_add, e131_0, e131_1, e131_2, e131_3, e131_4, e131_5, e131_6, e131_8, e131_9, e131_10, e131_11, e131_12, e131_13, e131_14, e131_15, e131_16, e131_17, e131_18, e131_19, e131_20, e131_21, e131_22, e131_23, e131_24, e131_25, e131_26, e131_27, e131_28, e131_29, e131_30, e131_31, e131_32, e131_33, e131_34, ys_0 hY, ys_1 hY, ys_2 hY, ys_3 hY, ys_4 hY, ys_5 hY, ys_6 hY, ys_7 hY, ys_8 hY, ys_9 hY, ys_10 hY, ys_11 hY, ys_12 hY, ys_13 hY, ys_14 hY, ys_15 hY, ys_16 hY, ys_17 hY, ys_18 hY, ys_19 hY, ys_20 hY, ys_21 hY, ys_22 hY, ys_23 hY, ys_24 hY, ys_25 hY, ys_26 hY, ys_27 hY, ys_28 hY, ys_29 hY, ys_30 hY, ys_31 hY, ys_32 hY, ys_33 hY, ys_34 hY, ys_35 hY, ys_36 hY, ys_37 hY, ys_38 hY, ys_39 hY, ys_40 hY, ys_41 hY, ys_42 hY, ys_43 hY, ys_44 hY, ys_45 hY, ys_46 hY, ys_47 hY, ys_48 hY, ys_49 hY, ys_50 hY, ys_51 hY, ys_52 hY, ys_53 hY, ys_54 hY, ys_55 hY, ys_56 hY, ys_57 hY, ys_58 hY, ys_59 hY, ys_60 hY, ys_61 hY, ys_62 hY, ys_63 hY, ys_64 hY, ys_65 hY, ys_66 hY, ys_67 hY, ys_68 hY, ys_69 hY, ys_70 hY, ys_71 hY, ys_72 hY, ys_73 hY, ys_74 hY, ys_75 hY, ys_76 hY, ys_77 hY, t4', if_neg c1, jb_ix (show k + 1 < 101 by omega) (by decide), g4, x3]
        exact ih
    · have ih := ih (k + 1) M N q (some (.inr (some (25, k)))) (by omega) h' hc
      have hg2 : ¬ nI g = nI 2 := fun e => hg ((nI_eq (by omega) (by decide)).mp e)
      rw [e69_7, e131_7]
      simp only [e69_0, e69_1, e69_2, e69_3, e69_4, e69_5, e69_6, e69_8, e69_9, e69_10, e69_11, e69_12, e69_13, e69_14, e69_15, e69_16, e69_17, e69_18, e69_19, e69_20, e69_21, e69_22, e69_23, e69_24, e69_25, e69_26, e69_27, e69_28, e69_29, e69_30, e69_31, e69_32, e69_33, xs_0 hX, xs_1 hX, xs_2 hX, xs_3 hX, xs_4 hX, xs_5 hX, xs_6 hX, xs_7 hX, xs_8 hX, xs_9 hX, xs_10 hX, xs_11 hX, xs_12 hX, xs_13 hX, xs_14 hX, xs_15 hX, xs_16 hX, xs_17 hX, xs_18 hX, xs_19 hX, sz, gt, jb_some, jb_tl, if_neg c2, g3, if_neg hg2, nI_add, e131_0, e131_1, e131_2, e131_3, e131_4, e131_5, e131_6, e131_8, e131_9, e131_10, e131_11, e131_12, e131_13, e131_14, e131_15, e131_16, e131_17, e131_18, e131_19, e131_20, e131_21, e131_22, e131_23, e131_24, e131_25, e131_26, e131_27, e131_28, e131_29, e131_30, e131_31, e131_32, e131_33, e131_34, ys_0 hY, ys_1 hY, ys_2 hY, ys_3 hY, ys_4 hY, ys_5 hY, ys_6 hY, ys_7 hY, ys_8 hY, ys_9 hY, ys_10 hY, ys_11 hY, ys_12 hY, ys_13 hY, ys_14 hY, ys_15 hY, ys_16 hY, ys_17 hY, ys_18 hY, ys_19 hY, ys_20 hY, ys_21 hY, ys_22 hY, ys_23 hY, ys_24 hY, ys_25 hY, ys_26 hY, ys_27 hY, ys_28 hY, ys_29 hY, ys_30 hY, ys_31 hY, ys_32 hY, ys_33 hY, ys_34 hY, ys_35 hY, ys_36 hY, ys_37 hY, ys_38 hY, ys_39 hY, ys_40 hY, ys_41 hY, ys_42 hY, ys_43 hY, ys_44 hY, ys_45 hY, ys_46 hY, ys_47 hY, ys_48 hY, ys_49 hY, ys_50 hY, ys_51 hY, ys_52 hY, ys_53 hY, ys_54 hY, ys_55 hY, ys_56 hY, ys_57 hY, ys_58 hY, ys_59 hY, ys_60 hY, ys_61 hY, ys_62 hY, ys_63 hY, ys_64 hY, ys_65 hY, ys_66 hY, ys_67 hY, ys_68 hY, ys_69 hY, ys_70 hY, ys_71 hY, ys_72 hY, ys_73 hY, ys_74 hY, ys_75 hY, ys_76 hY, ys_77 hY, t4', if_neg c1, jb_ix (show k + 1 < 101 by omega) (by decide), g4]
      exact ih
theorem sm_rel {d d' E C : Nat} {M N : jm_M} (h : jr_R E C M N) : ∃ r M' N', jm_D (d + 3) 69 0 [some (.inr (some (0, 0))), none, none, none, none] [] M = some (some (.inl r), M') ∧ jm_D (d' + 3) 131 0 [some (.inr (some (31, 0))), none, none, none] [] N = some (some (.inl r), N') ∧ jr_R E C M' N' ∧ (jm_al M' = jm_al M ∧ jm_sl M' = jm_sl M) ∧ (jm_al N' = jm_al N ∧ jm_sl N' = jm_sl N) := by
  obtain ⟨r, M', N', h1, h2, h3⟩ := sm_rel0 (d := d) (d' := d') (m := jx_min (fun w => jm_I N 62 0 w)) h.2.2.2.2.2.2.2.1.1 (jm_c M 25) 0 M N 0 none (by omega) h rfl
  refine ⟨r, M', N', ?_, ?_, h3⟩
  · rw [← h1]
    simp only [e69_0, e69_1, e69_2, e69_3, e69_4, e69_5, e69_6, e69_8, e69_9, e69_10, e69_11, e69_12, e69_13, e69_14, e69_15, e69_16, e69_17, e69_18, e69_19, e69_20, e69_21, e69_22, e69_23, e69_24, e69_25, e69_26, e69_27, e69_28, e69_29, e69_30, e69_31, e69_32, e69_33, xDur h, jb_some, jb_tl]
  · rw [← h2]
    simp only [e131_0, e131_1, e131_2, e131_3, e131_4, e131_5, e131_6, e131_8, e131_9, e131_10, e131_11, e131_12, e131_13, e131_14, e131_15, e131_16, e131_17, e131_18, e131_19, e131_20, e131_21, e131_22, e131_23, e131_24, e131_25, e131_26, e131_27, e131_28, e131_29, e131_30, e131_31, e131_32, e131_33, e131_34, yDur h.2.1, jb_some, jb_tl]
