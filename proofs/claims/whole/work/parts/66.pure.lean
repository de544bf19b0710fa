/-! Looking again: both. -/
theorem jb_g_congr {rd st : Nat → Nat} {wr wr' : Nat → Bool} : ∀ f k g, (∀ j, k ≤ j → j < k + f → wr j = wr' j) → jb_g rd st wr f k g = jb_g rd st wr' f k g := by
  intro f
  induction f with
  | zero => intro k g _; rfl
  | succ f ih =>
    intro k g h
    show jb_g rd st wr f (k + 1) _ = jb_g rd st wr' f (k + 1) _
    rw [h k (Nat.le_refl _) (by omega)]
    exact ih (k + 1) _ (fun j h1 h2 => h j (by omega) (by omega))
theorem sm_check {d d' E C w t : Nat} {M N : jm_M} (h : jr_V E C M N w 3 t) (hC : C < 2 ^ 29) (hE2 : E < 2 ^ 19) (hw : w < 4) : jr_P E (max C (1024 * E) + 1) M N w (jm_D (d + 6) 63 0 [some (.inr (some (11, w))), some (.inr (some (5, 0)))] [] M) (jm_D (d' + 6) 128 0 [some (.inr (some (31, 0))), some (.inl (nI w)), none, none, none] [] N) := by
  have h' := h
  obtain ⟨hR, a1, a2, a3⟩ := h
  have a3' := a3
  have hX := hR.1
  have hY := hR.2.1
  have h0 := hR.2.2.1.1 w hw
  have hT := hR.2.2.2.2.2.2.2.1
  have hS := hR.2.2.2.2.1
  obtain ⟨n, n1, n16, m1, m2, m3, hpl, hlz, hlf, hhm⟩ := hR.2.2.2.2.2.1
  obtain ⟨c1, f5, c3, c4, c5, c6, c7, c8, c9, ⟨d0, d1⟩, d2, d3, d4, d5, d6, d7, d8, d9, g1, g2, g3⟩ := a3
  have ht : t < 100 := Nat.lt_of_lt_of_le c1 hT.1
  obtain ⟨-, f1, f2, fn1, fn2, -⟩ := hT.2.2.2.2.2 t c1
  obtain ⟨fe, fe1, fe2, fe3, fe4⟩ := d9 (by decide)
  obtain ⟨s, p1, p2, p3, ⟨x, p4, p5, p6⟩, -⟩ := hR.2.2.2.2.2.2.1 w hw
  have es : s = 3 := (nI_eq (by omega) (by decide)).mp (p3.symm.trans a2)
  subst es
  have p6 := p6 (by decide)
  have hm1 : ((-1 : Int32)).toNatClampNeg = 0 := by decide
  have hlt1 : (-1 : Int32) < nI 0 := by decide
  have hrd : ∀ k, k < 32 → (jm_I M 13 w k).toNatClampNeg ≤ C ∧ (((jm_I M 13 w k).toNatClampNeg = 0 ∧ jm_I M 13 w k = -1) ∨ jm_I M 13 w k = nI (jm_I M 13 w k).toNatClampNeg) := by
    intro k hk
    rcases (c9 k hk).2 with z | ⟨y, z1, z2, -⟩
    · rw [z, hm1]
      exact ⟨Nat.zero_le _, Or.inl ⟨rfl, rfl⟩⟩
    · rw [z2, nI_clamp (by omega)]
      exact ⟨z1, Or.inr rfl⟩
  have hst : ∀ k, k < 32 → (jm_I M 21 0 k).toNatClampNeg ≤ C ∧ jm_I M 21 0 k = nI (jm_I M 21 0 k).toNatClampNeg := by
    intro k hk
    rcases hS k hk with ⟨-, -, -, z, -⟩ | ⟨-, -, -, ⟨y, z1, z2, -⟩, -⟩
    · rw [z, nI_clamp (by decide)]
      exact ⟨Nat.zero_le _, rfl⟩
    · rw [z2, nI_clamp (by omega)]
      exact ⟨z1, rfl⟩
  have hthere : ∀ k, k < 32 → ¬ jm_I N 37 0 k = nI 0 → jm_I N 40 0 k = jm_I M 21 0 k ∧ jm_I N 41 0 k = jm_I M 22 0 k := by
    intro k hk z
    rcases hS k hk with ⟨y, -⟩ | ⟨-, -, -, ⟨y, -, z2, z3⟩, ⟨l, -, z4, z5⟩⟩
    · exact absurd y z
    · exact ⟨z3.trans z2.symm, z5.trans z4.symm⟩
  have hwr : ∀ k, k < 32 → ((!decide (jm_I M 26 (t + 4) k = nI 0)) = (!decide (jm_I N 51 0 (32 * w + k) = nI 0))) := by
    intro k hk
    rcases d2 k hk with ⟨z1, z2⟩ | ⟨z1, ⟨-, z2⟩ | ⟨-, z2, -⟩, -⟩ <;> (rw [z1, z2] <;> decide)
  have hwt : ∀ k, k < 32 → ¬ jm_I N 51 0 (32 * w + k) = nI 0 → ¬ jm_I N 37 0 k = nI 0 := by
    intro k hk z y
    have h26 : ¬ jm_I M 26 (t + 4) k = nI 0 := by
      intro q
      have := hwr k hk
      rw [decide_eq_true q, decide_eq_false z] at this
      exact absurd this (by decide)
    have h22 := (g1 rfl k hk).mpr h26
    rcases hS k hk with ⟨-, -, -, -, q⟩ | ⟨q, -⟩
    · rw [q] at h22
      exact absurd ((nI_eq (by decide) (by omega)).mp h22) (by omega)
    · rw [q] at y
      exact absurd y (by decide)
  have hrdN : ∀ k, k < 32 → (jm_I M 13 w k).toNatClampNeg ≤ C ∧ (((jm_I M 13 w k).toNatClampNeg = 0 ∧ jm_I N 56 0 (32 * w + k) = -1) ∨ jm_I N 56 0 (32 * w + k) = nI (jm_I M 13 w k).toNatClampNeg) := by
    intro k hk
    rw [← (c9 k hk).1]
    exact hrd k hk
  have hstN : ∀ k, k < 32 → ¬ jm_I N 51 0 (32 * w + k) = nI 0 → (jm_I M 21 0 k).toNatClampNeg ≤ C ∧ jm_I N 40 0 k = nI (jm_I M 21 0 k).toNatClampNeg := by
    intro k hk z
    rw [(hthere k hk (hwt k hk z)).1]
    exact hst k hk
  have hrh : ∀ k, k < 32 → (jx_rh M w k ↔ jy_rh N w k) := by
    intro k hk
    unfold jx_rh jy_rh
    obtain ⟨y1, y2⟩ := c9 k hk
    rw [← y1]
    rcases y2 with z | ⟨y, z1, z2, z3⟩
    · rw [z]
      exact ⟨fun _ => Or.inl hlt1, fun _ => Or.inl rfl⟩
    · obtain ⟨q1, q2⟩ := hthere k hk z3
      rw [q1, q2, z2]
      have hns : ¬ nI y = -1 := by
        intro e
        have := congrArg Int32.toInt e
        rw [nI_toInt (by omega)] at this
        have h3 : ((-1 : Int32)).toInt = -1 := by decide
        omega
      have hnl : ¬ nI y < nI 0 := nI_pos (by omega)
      constructor
      · rintro (q | ⟨q, r⟩)
        · exact absurd q hns
        · exact Or.inr ⟨q.symm, r⟩
      · rintro (q | ⟨q, r⟩)
        · exact absurd q hnl
        · exact Or.inr ⟨q.symm, r⟩
  have hnd : ∀ i, i < 16 → (jx_nh M w i ↔ (i < n → jy_nh N w i)) := by
    intro i hi
    unfold jx_nh jy_nh
    obtain ⟨y1, y2⟩ := d1 i (by omega)
    have y1 := y1 hi
    rw [y1]
    rcases y2 with z | ⟨m, v, q1, q2, q3, q4, z⟩
    · rw [z]
      exact ⟨fun _ _ => Or.inl hlt1, fun _ => Or.inl rfl⟩
    · have em : m = n := (nI_eq (by omega) (by omega)).mp (q4.symm.trans m2)
      subst em
      obtain ⟨-, -, -, ⟨v', -, v1, v2⟩, -⟩ := hlf i q2
      rw [z, v1, v2]
      have hns : ¬ nI v = -1 := by
        intro e
        have := congrArg Int32.toInt e
        rw [nI_toInt (by omega)] at this
        have h3 : ((-1 : Int32)).toInt = -1 := by decide
        omega
      have hnl : ¬ nI v < nI 0 := nI_pos (by omega)
      exact ⟨fun q _ => q.elim (fun e => absurd e hns) Or.inr, fun q => (q q2).elim (fun e => absurd e hnl) Or.inr⟩
  have hCC : C ≤ max C (1024 * E) + 1 := by omega
  have z64 : jm_D (d + 5) 64 0 [some (.inr (some (11, w))), some (.inr (some (5, 0))), none] [] M = jm_D (d + 5) 64 2 [some (.inr (some (11, w))), some (.inr (some (5, 0))), some (.inl (nI 0))] [] M := by rw [e64_0, e64_1]
  have z65 : jm_D (d + 5) 65 0 [some (.inr (some (11, w))), some (.inr (some (5, 0))), none] [] M = jm_D (d + 5) 65 2 [some (.inr (some (11, w))), some (.inr (some (5, 0))), some (.inl (nI 0))] [] M := by rw [e65_0, e65_1]
  have g0b : 1024 * fe - 1 < 2 ^ 31 := by omega
  have zm : jm_D (d' + 6) 128 0 [some (.inr (some (31, 0))), some (.inl (nI w)), none, none, none] [] N = jm_D (d' + 6) 128 24 [some (.inr (some (31, 0))), some (.inl (nI w)), some (.inl (nI (max (1024 * fe - 1) x))), some (.inl (nI 0)), none] [] N := by
    rw [← jb_my g0b (show x < 2 ^ 31 by omega)]
    by_cases q : nI x ≤ nI (1024 * fe - 1)
    · simp only [e128_0, e128_1, e128_2, e128_3, e128_4, e128_5, e128_6, e128_7, e128_8, e128_9, e128_10, e128_11, e128_12, e128_13, e128_14, e128_15, e128_16, e128_17, e128_18, e128_19, e128_20, e128_21, e128_22, e128_23, e128_25, e128_26, e128_27, e128_28, e128_29, e128_30, e128_31, e128_32, e128_33, e128_34, e128_35, e128_36, e128_37, e128_38, e128_39, e128_40, e128_41, e128_42, e128_43, e128_44, e128_45, e128_46, e128_47, e128_48, e128_49, e128_50, e128_51, e128_52, e128_53, e128_54, e128_55, e128_56, e128_57, e128_58, e128_59, e128_60, e128_61, e128_62, e128_63, e128_64, e128_65, e128_66, e128_67, e128_68, e128_69, e128_70, e128_71, e128_72, e128_73, e128_74, e128_75, e128_76, e128_77, e128_78, e128_79, e128_80, e128_81, e128_82, e128_83, e128_84, e128_85, e128_86, e128_87, e128_88, e128_89, e128_90, e128_91, e128_92, e128_93, e128_95, e128_96, e128_97, e128_98, e128_99, e128_100, e128_101, e128_102, e128_103, e128_104, e128_105, e128_106, e128_107, e128_108, e128_109, e128_110, e128_111, e128_112, e128_113, e128_114, e128_115, e128_116, e128_117, e128_118, e128_119, e128_120, e128_121, e128_122, e128_123, e128_124, e128_125, e128_126, e128_127, e128_128, e128_129, e128_130, e128_131, e128_132, e128_133, e128_134, e128_135, e128_136, e128_137, e128_138, e128_139, ys_0 hY, ys_1 hY, ys_2 hY, ys_3 hY, ys_4 hY, ys_5 hY, ys_6 hY, ys_7 hY, ys_8 hY, ys_9 hY, ys_10 hY, ys_11 hY, ys_12 hY, ys_13 hY, ys_14 hY, ys_15 hY, ys_16 hY, ys_17 hY, ys_18 hY, ys_19 hY, ys_20 hY, ys_21 hY, ys_22 hY, ys_23 hY, ys_24 hY, ys_25 hY, ys_26 hY, ys_27 hY, ys_28 hY, ys_29 hY, ys_30 hY, ys_31 hY, ys_32 hY, ys_33 hY, ys_34 hY, ys_35 hY, ys_36 hY, ys_37 hY, ys_38 hY, ys_39 hY, ys_40 hY, ys_41 hY, ys_42 hY, ys_43 hY, ys_44 hY, ys_45 hY, ys_46 hY, ys_47 hY, ys_48 hY, ys_49 hY, ys_50 hY, ys_51 hY, ys_52 hY, ys_53 hY, ys_54 hY, ys_55 hY, ys_56 hY, ys_57 hY, ys_58 hY, ys_59 hY, ys_60 hY, ys_61 hY, ys_62 hY, ys_63 hY, ys_64 hY, ys_65 hY, ys_66 hY, ys_67 hY, ys_68 hY, ys_69 hY, ys_70 hY, ys_71 hY, ys_72 hY, ys_73 hY, ys_74 hY, ys_75 hY, ys_76 hY, ys_77 hY, jb_ix hw (by decide), fe4, pk_mul, pk_sub (show 1 ≤ 1024 * fe by omega), p5, if_pos q]
    · simp only [e128_0, e128_1, e128_2, e128_3, e128_4, e128_5, e128_6, e128_7, e128_8, e128_9, e128_10, e128_11, e128_12, e128_13, e128_14, e128_15, e128_16, e128_17, e128_18, e128_19, e128_20, e128_21, e128_22, e128_23, e128_25, e128_26, e128_27, e128_28, e128_29, e128_30, e128_31, e128_32, e128_33, e128_34, e128_35, e128_36, e128_37, e128_38, e128_39, e128_40, e128_41, e128_42, e128_43, e128_44, e128_45, e128_46, e128_47, e128_48, e128_49, e128_50, e128_51, e128_52, e128_53, e128_54, e128_55, e128_56, e128_57, e128_58, e128_59, e128_60, e128_61, e128_62, e128_63, e128_64, e128_65, e128_66, e128_67, e128_68, e128_69, e128_70, e128_71, e128_72, e128_73, e128_74, e128_75, e128_76, e128_77, e128_78, e128_79, e128_80, e128_81, e128_82, e128_83, e128_84, e128_85, e128_86, e128_87, e128_88, e128_89, e128_90, e128_91, e128_92, e128_93, e128_95, e128_96, e128_97, e128_98, e128_99, e128_100, e128_101, e128_102, e128_103, e128_104, e128_105, e128_106, e128_107, e128_108, e128_109, e128_110, e128_111, e128_112, e128_113, e128_114, e128_115, e128_116, e128_117, e128_118, e128_119, e128_120, e128_121, e128_122, e128_123, e128_124, e128_125, e128_126, e128_127, e128_128, e128_129, e128_130, e128_131, e128_132, e128_133, e128_134, e128_135, e128_136, e128_137, e128_138, e128_139, ys_0 hY, ys_1 hY, ys_2 hY, ys_3 hY, ys_4 hY, ys_5 hY, ys_6 hY, ys_7 hY, ys_8 hY, ys_9 hY, ys_10 hY, ys_11 hY, ys_12 hY, ys_13 hY, ys_14 hY, ys_15 hY, ys_16 hY, ys_17 hY, ys_18 hY, ys_19 hY, ys_20 hY, ys_21 hY, ys_22 hY, ys_23 hY, ys_24 hY, ys_25 hY, ys_26 hY, ys_27 hY, ys_28 hY, ys_29 hY, ys_30 hY, ys_31 hY, ys_32 hY, ys_33 hY, ys_34 hY, ys_35 hY, ys_36 hY, ys_37 hY, ys_38 hY, ys_39 hY, ys_40 hY, ys_41 hY, ys_42 hY, ys_43 hY, ys_44 hY, ys_45 hY, ys_46 hY, ys_47 hY, ys_48 hY, ys_49 hY, ys_50 hY, ys_51 hY, ys_52 hY, ys_53 hY, ys_54 hY, ys_55 hY, ys_56 hY, ys_57 hY, ys_58 hY, ys_59 hY, ys_60 hY, ys_61 hY, ys_62 hY, ys_63 hY, ys_64 hY, ys_65 hY, ys_66 hY, ys_67 hY, ys_68 hY, ys_69 hY, ys_70 hY, ys_71 hY, ys_72 hY, ys_73 hY, ys_74 hY, ys_75 hY, ys_76 hY, ys_77 hY, jb_ix hw (by decide), fe4, pk_mul, pk_sub (show 1 ≤ 1024 * fe by omega), p5, if_neg q]
  have hab := jr_C (jr_abort hR hw a2 (by decide) (by decide) a3') hCC
  have xab := xAb (d := d + 4) hX hw h0 f5
  rw [zm]
  rcases yCk1 (d := d' + 5) hY hw ht c3 (show C < 2 ^ 30 by omega) hrdN hstN 32 0 (max (1024 * fe - 1) x) none rfl (by omega) with ⟨l', i1, i2⟩ | ⟨i1, j, hj, i2⟩
  · rw [i1]
    rcases xRh (d := d + 4) hX hw h0 32 0 rfl with ⟨x1, x2⟩ | ⟨x1, j, hj, x2⟩
    · rcases yCk2 (d := d' + 5) (l := l') (g := jb_g (fun k => (jm_I M 13 w k).toNatClampNeg) (fun k => (jm_I M 21 0 k).toNatClampNeg) (fun k => !decide (jm_I N 51 0 (32 * w + k) = nI 0)) 32 0 (max (1024 * fe - 1) x)) hY hw ht c3 n16 m3 n 0 (by omega) with ⟨y1, y2⟩ | ⟨y1, j, hj, y2⟩
      · rcases xNh (d := d + 5) hX hw 16 0 rfl with ⟨v1, v2⟩ | ⟨v1, j, hj, v2⟩
        · have ns := xNs (d := d + 4) (C := C) hX hw f5 f1 fn1 (by omega) fe3 (by omega) hrd hst 32 0 x rfl p4
          have hgc : jb_g (fun k => (jm_I M 13 w k).toNatClampNeg) (fun k => (jm_I M 21 0 k).toNatClampNeg) (fun k => !decide (jm_I N 51 0 (32 * w + k) = nI 0)) 32 0 (max (1024 * fe - 1) x) = max (jb_g (fun k => (jm_I M 13 w k).toNatClampNeg) (fun k => (jm_I M 21 0 k).toNatClampNeg) (fun k => !decide (jm_I M 26 (t + 4) k = nI 0)) 32 0 x) (1024 * fe - 1) := by
            rw [Nat.max_comm, jb_g_max, jb_g_congr (wr := fun k => !decide (jm_I M 26 (t + 4) k = nI 0)) (wr' := fun k => !decide (jm_I N 51 0 (32 * w + k) = nI 0)) 32 0 x (fun j _ hj => hwr j (by omega))]
          have hgle := jb_g_le (fun k => (jm_I M 13 w k).toNatClampNeg) (fun k => (jm_I M 21 0 k).toNatClampNeg) (fun k => !decide (jm_I M 26 (t + 4) k = nI 0)) (C := C) 32 0 x p4 (fun j _ hj => ⟨(hrd j (by omega)).1, (hst j (by omega)).1⟩)
          have hgge := jb_g_ge (fun k => (jm_I M 13 w k).toNatClampNeg) (fun k => (jm_I M 21 0 k).toNatClampNeg) (fun k => !decide (jm_I M 26 (t + 4) k = nI 0)) 32 0 x
          rw [hgc] at y1 ⊢
          generalize jb_g (fun k => (jm_I M 13 w k).toNatClampNeg) (fun k => (jm_I M 21 0 k).toNatClampNeg) (fun k => !decide (jm_I M 26 (t + 4) k = nI 0)) 32 0 x = G at ns hgle hgge y1 ⊢
          have e1 : max (G + 1) (fe * 1024) = max G (1024 * fe - 1) + 1 := by omega
          rw [e1] at ns
          refine ⟨nI 1, jx_sp M w t (max G (1024 * fe - 1) + 1), _, ?_, y1, jr_stamp h' hw hCC (by omega) (by omega) (by omega) (fun f q1 q2 => ?_) (fun k hk z => ?_), Or.inr (Or.inr ⟨rfl, 4, by decide, by decide, jb_Is N 45 0 w (nI 4)⟩), ⟨rfl, rfl⟩, ⟨rfl, rfl⟩⟩
          · have q25 : ∀ v, jm_I (jm_setI M 25 t 6 v) 25 t 6 = v := fun v => jb_Is _ _ _ _ _
            simp only [e63_0, e63_1, e63_2, e63_3, e63_4, e63_5, e63_6, e63_7, e63_8, e63_9, e63_10, e63_11, e63_12, e63_13, e63_14, e63_15, e63_16, e63_17, e63_18, e63_19, e63_20, e63_21, e63_22, e63_23, e63_24, e63_25, e63_26, e63_27, z64, x1, z65, v1, jb_some, jb_tl, nf_0_1, nf_0_2, nf_0_3, nf_0_4, nf_0_5, nf_0_6, nf_1_0, nf_1_2, nf_1_3, nf_1_4, nf_1_5, nf_1_6, nf_2_0, nf_2_1, nf_2_3, nf_2_4, nf_2_5, nf_2_6, nf_3_0, nf_3_1, nf_3_2, nf_3_4, nf_3_5, nf_3_6, nf_4_0, nf_4_1, nf_4_2, nf_4_3, nf_4_5, nf_4_6, nf_5_0, nf_5_1, nf_5_2, nf_5_3, nf_5_4, nf_5_6, nf_6_0, nf_6_1, nf_6_2, nf_6_3, nf_6_4, nf_6_5, if_false, f5, e66_0, e66_1, e66_2, e66_3, e66_4, p6, ns, jb_FI, q25]
            rfl
          · have : f = fe := (nI_eq (by omega) (by omega)).mp (q2.symm.trans fe4)
            omega
          · have h37 := hwt k hk z
            have := hgge.2 k (Nat.zero_le _) (by omega) ((hwr k hk).trans (by rw [decide_eq_false z]; rfl))
            exact ⟨_, by omega, (hthere k hk h37).1.trans (hst k hk).2, h37⟩
        · exact absurd ((hnd j hj).mpr (fun hjn => y2 j (Nat.zero_le _) hjn)) v2
      · rcases xNh (d := d + 5) hX hw 16 0 rfl with ⟨v1, v2⟩ | ⟨v1, -⟩
        · exact absurd ((hnd j (by omega)).mp (v2 j (Nat.zero_le _) (by omega)) hj) y2
        · refine ⟨nI 3, _, _, ?_, y1, hab, Or.inr (Or.inl rfl), ⟨rfl, rfl⟩, ⟨rfl, rfl⟩⟩
          simp only [e63_0, e63_1, e63_2, e63_3, e63_4, e63_5, e63_6, e63_7, e63_8, e63_9, e63_10, e63_11, e63_12, e63_13, e63_14, e63_15, e63_16, e63_17, e63_18, e63_19, e63_20, e63_21, e63_22, e63_23, e63_24, e63_25, e63_26, e63_27, z64, x1, z65, v1, jb_some, jb_tl, nf_0_1, nf_0_2, nf_0_3, nf_0_4, nf_0_5, nf_0_6, nf_1_0, nf_1_2, nf_1_3, nf_1_4, nf_1_5, nf_1_6, nf_2_0, nf_2_1, nf_2_3, nf_2_4, nf_2_5, nf_2_6, nf_3_0, nf_3_1, nf_3_2, nf_3_4, nf_3_5, nf_3_6, nf_4_0, nf_4_1, nf_4_2, nf_4_3, nf_4_5, nf_4_6, nf_5_0, nf_5_1, nf_5_2, nf_5_3, nf_5_4, nf_5_6, nf_6_0, nf_6_1, nf_6_2, nf_6_3, nf_6_4, nf_6_5, if_false, if_true, xab]
    · exact absurd ((hrh j hj).mpr (i2 j (Nat.zero_le _) hj)) x2
  · rw [i1]
    rcases xRh (d := d + 4) hX hw h0 32 0 rfl with ⟨x1, x2⟩ | ⟨x1, -⟩
    · exact absurd ((hrh j hj).mp (x2 j (Nat.zero_le _) hj)) i2
    · refine ⟨nI 3, _, _, ?_, rfl, hab, Or.inr (Or.inl rfl), ⟨rfl, rfl⟩, ⟨rfl, rfl⟩⟩
      simp only [e63_0, e63_1, e63_2, e63_3, e63_4, e63_5, e63_6, e63_7, e63_8, e63_9, e63_10, e63_11, e63_12, e63_13, e63_14, e63_15, e63_16, e63_17, e63_18, e63_19, e63_20, e63_21, e63_22, e63_23, e63_24, e63_25, e63_26, e63_27, z64, x1, jb_some, jb_tl, if_true, xab]
