/-! One instruction. -/
theorem sm_instr {d d' E C w t p : Nat} {M N : jm_M} (h : jr_W E C M N w t) (hC : C < 2 ^ 31) (hw : w < 4) (hp : p < 4) (m4 : jm_I M 11 w 4 = nI p) (n47 : jm_I N 47 0 w = nI p) : jr_P E C M N w (jm_D (d + 6) 32 0 [some (.inr (some (11, w))), some (.inr (some (5, 0))), some (.inr (some (6, p))), none, none, none, none, none, none] [] M) (jm_D (d' + 8) 108 0 [some (.inr (some (31, 0))), some (.inl (nI w)), none, none, none, none, none] [] N) := by
  have h' := h
  obtain ⟨f5, f1, f2, fn1, fn2, ht⟩ := jw_tr h
  obtain ⟨⟨x, x16, q7, h48⟩, ⟨y, y60, q8, h49⟩, -⟩ := h.2.2.2.2.2.2.2.2.2.2.2.2.2.2.2.2.2.1 rfl
  obtain ⟨hR, h6, h45, hr⟩ := h
  have hX := hR.1
  have hY := hR.2.1
  obtain ⟨n, n16, s1, s2, hj, ho⟩ := hR.2.2.2.1 p hp
  by_cases hxn : x < n
  · have c1 : nI x < nI n := nI_lt hxn (by omega)
    have hx : x < 16 := by omega
    by_cases hy : y < 60
    · have c2 : nI y < nI 60 := nI_lt hy (by decide)
      have c3 : ¬ nI y = nI 60 := fun e => absurd ((nI_eq (by omega) (by decide)).mp e) (by omega)
      obtain ⟨o, a, o12, a8, eo, ea, hb, hc, hb5, ha6⟩ := ho x hxn
      obtain ⟨j1, j2, j3, j4⟩ := hj x hx
      have hz : 16 * p + x < 64 := by omega
      have e33 := j1.symm.trans eo
      have e34 := j2.symm.trans ea
      have e35 := j3.symm
      have e36 := j4.symm
      have pc : jm_D (d + 6) 32 0 [some (.inr (some (11, w))), some (.inr (some (5, 0))), some (.inr (some (6, p))), none, none, none, none, none, none] [] M = jm_D (d + 6) 32 50 [some (.inr (some (11, w))), some (.inr (some (5, 0))), some (.inr (some (6, p))), some (.inl (nI o)), some (.inl (nI a)), some (.inl (jm_I M 9 p x)), some (.inl (jm_I M 10 p x)), some (.inl (nI (x + 1))), some (.inl (nI 1))] [.inl (nI o)] M := by
        simp only [e32_0, e32_1, e32_2, e32_3, e32_4, q7, s1, if_pos c1, e32_10, e32_11, e32_12, e32_13, q8, if_pos c2, e32_18, e32_19, e32_20, e32_21, e32_22, e32_23, e32_24, e32_25, e32_26, e32_27, e32_28, e32_29, e32_30, e32_31, e32_32, e32_33, e32_34, e32_35, e32_36, e32_37, e32_38, e32_39, e32_40, e32_41, e32_42, e32_43, e32_44, e32_45, e32_46, e32_47, e32_48, e32_49, xp_0 hX hp, xp_1 hX hp, xp_2 hX hp, xp_3 hX hp, xp_4 hX hp, xp_5 hX hp, xp_6 hX hp, xp_7 hX hp, xp_8 hX hp, jb_ix hx (by decide), eo, ea, nI_add]
      have pm : jm_D (d' + 8) 108 0 [some (.inr (some (31, 0))), some (.inl (nI w)), none, none, none, none, none] [] N = jm_D (d' + 8) 108 45 [some (.inr (some (31, 0))), some (.inl (nI w)), some (.inl (nI (16 * p + x))), some (.inl (nI o)), none, none, none] [] N := by
        simp only [e108_0, e108_1, e108_2, e108_3, e108_4, e108_5, e108_6, e108_7, e108_8, e108_9, e108_10, e108_11, e108_18, e108_19, e108_20, e108_21, e108_22, e108_23, e108_28, e108_29, e108_30, e108_31, e108_32, e108_33, e108_34, e108_35, e108_36, e108_37, e108_38, e108_39, e108_40, e108_41, e108_42, e108_43, e108_44, ys_0 hY, ys_1 hY, ys_2 hY, ys_3 hY, ys_4 hY, ys_5 hY, ys_6 hY, ys_7 hY, ys_8 hY, ys_9 hY, ys_10 hY, ys_11 hY, ys_12 hY, ys_13 hY, ys_14 hY, ys_15 hY, ys_16 hY, ys_17 hY, ys_18 hY, ys_19 hY, ys_20 hY, ys_21 hY, ys_22 hY, ys_23 hY, ys_24 hY, ys_25 hY, ys_26 hY, ys_27 hY, ys_28 hY, ys_29 hY, ys_30 hY, ys_31 hY, ys_32 hY, ys_33 hY, ys_34 hY, ys_35 hY, ys_36 hY, ys_37 hY, ys_38 hY, ys_39 hY, ys_40 hY, ys_41 hY, ys_42 hY, ys_43 hY, ys_44 hY, ys_45 hY, ys_46 hY, ys_47 hY, ys_48 hY, ys_49 hY, ys_50 hY, ys_51 hY, ys_52 hY, ys_53 hY, ys_54 hY, ys_55 hY, ys_56 hY, ys_57 hY, ys_58 hY, ys_59 hY, ys_60 hY, ys_61 hY, ys_62 hY, ys_63 hY, ys_64 hY, ys_65 hY, ys_66 hY, ys_67 hY, ys_68 hY, ys_69 hY, ys_70 hY, ys_71 hY, ys_72 hY, ys_73 hY, ys_74 hY, ys_75 hY, ys_76 hY, ys_77 hY, jb_ix hw (by decide), h48, n47, jb_ix hp (by decide), s2, if_pos c1, h49, if_neg c3, pk_mul, nI_add, jb_ix hz (by decide), e33]
      rw [pc, pm]
      match o, o12, eo, hb, hc, hb5, ha6, e33 with
      | 0, _, eo, hb, hc, hb5, ha6, e33 =>
        exact in_0 h' hw hz a8 hx hy q8 h49 h48 e33 e34 e35 e36 _
      | 1, _, eo, hb, hc, hb5, ha6, e33 =>
        obtain ⟨b, b8, eb⟩ := hb (by decide)
        obtain ⟨c, c8, ec⟩ := hc (by decide)
        rw [eb, ec]
        exact in_1 h' hw hz a8 b8 c8 hx hy q8 h49 h48 e33 e34 (e35.trans eb) (e36.trans ec) _
      | 2, _, eo, hb, hc, hb5, ha6, e33 =>
        obtain ⟨b, b8, eb⟩ := hb (by decide)
        obtain ⟨c, c8, ec⟩ := hc (by decide)
        rw [eb, ec]
        exact in_2 h' hw hz a8 b8 c8 hx hy q8 h49 h48 e33 e34 (e35.trans eb) (e36.trans ec) _
      | 3, _, eo, hb, hc, hb5, ha6, e33 =>
        obtain ⟨b, b8, eb⟩ := hb (by decide)
        obtain ⟨c, c8, ec⟩ := hc (by decide)
        rw [eb, ec]
        exact in_3 h' hw hz a8 b8 c8 hx hy q8 h49 h48 e33 e34 (e35.trans eb) (e36.trans ec) _
      | 4, _, eo, hb, hc, hb5, ha6, e33 =>
        obtain ⟨b, b8, eb⟩ := hb (by decide)
        obtain ⟨c, c8, ec⟩ := hc (by decide)
        rw [eb, ec]
        exact in_4 h' hw hz a8 b8 c8 hx hy q8 h49 h48 e33 e34 (e35.trans eb) (e36.trans ec) _
      | 5, _, eo, hb, hc, hb5, ha6, e33 =>
        obtain ⟨b, b8, eb⟩ := hb5 rfl
        rw [eb]
        exact in_5 h' hw hz a8 b8 hx hy q8 h49 h48 e33 e34 (e35.trans eb) e36 _
      | 6, _, eo, hb, hc, hb5, ha6, e33 =>
        obtain ⟨b, b8, eb⟩ := hb (by decide)
        rw [eb]
        exact in_6 h' hw hz a8 (ha6 (by decide)) b8 hC hx hy q8 h49 h48 e33 e34 (e35.trans eb) e36 _
      | 7, _, eo, hb, hc, hb5, ha6, e33 =>
        obtain ⟨b, b8, eb⟩ := hb (by decide)
        rw [eb]
        exact in_7 h' hw hz a8 b8 hx hy q8 h49 h48 e33 e34 (e35.trans eb) e36 _
      | 8, _, eo, hb, hc, hb5, ha6, e33 =>
        exact in_8 h' hw hz a8 hx hy q8 h49 h48 e33 e34 e35 e36 _
      | 9, _, eo, hb, hc, hb5, ha6, e33 =>
        obtain ⟨b, b8, eb⟩ := hb (by decide)
        obtain ⟨c, c8, ec⟩ := hc (by decide)
        rw [eb, ec]
        exact in_9 h' hw hz a8 b8 c8 hC hx hy q8 h49 h48 e33 e34 (e35.trans eb) (e36.trans ec) _
      | 10, _, eo, hb, hc, hb5, ha6, e33 =>
        exact in_10 h' hw hz a8 hx hy q8 h49 h48 e33 e34 e35 e36 _
      | 11, _, eo, hb, hc, hb5, ha6, e33 =>
        exact in_11 h' hw hz a8 hx hy q8 h49 h48 e33 e34 e35 e36 _
    · have ey : y = 60 := by omega
      subst ey
      have c2 : ¬ nI 60 < nI 60 := by decide
      refine ⟨nI 3, _, _, ?_, ?_, jr_abort hR hw h45 (by decide) (by decide) hr, Or.inr (Or.inl rfl), ⟨rfl, rfl⟩, ⟨rfl, rfl⟩⟩
      · simp only [e32_0, e32_1, e32_2, e32_3, e32_4, q7, s1, if_pos c1, e32_10, e32_11, e32_12, e32_13, q8, if_neg c2, e32_14, e32_15, e32_16, e32_17, xAb hX hw (hR.2.2.1.1 w hw) f5, jb_some, jb_tl]
      · simp only [e108_0, e108_1, e108_2, e108_3, e108_4, e108_5, e108_6, e108_7, e108_8, e108_9, e108_10, e108_11, e108_18, e108_19, e108_20, e108_21, e108_22, e108_23, e108_24, e108_25, e108_26, e108_27, ys_0 hY, ys_1 hY, ys_2 hY, ys_3 hY, ys_4 hY, ys_5 hY, ys_6 hY, ys_7 hY, ys_8 hY, ys_9 hY, ys_10 hY, ys_11 hY, ys_12 hY, ys_13 hY, ys_14 hY, ys_15 hY, ys_16 hY, ys_17 hY, ys_18 hY, ys_19 hY, ys_20 hY, ys_21 hY, ys_22 hY, ys_23 hY, ys_24 hY, ys_25 hY, ys_26 hY, ys_27 hY, ys_28 hY, ys_29 hY, ys_30 hY, ys_31 hY, ys_32 hY, ys_33 hY, ys_34 hY, ys_35 hY, ys_36 hY, ys_37 hY, ys_38 hY, ys_39 hY, ys_40 hY, ys_41 hY, ys_42 hY, ys_43 hY, ys_44 hY, ys_45 hY, ys_46 hY, ys_47 hY, ys_48 hY, ys_49 hY, ys_50 hY, ys_51 hY, ys_52 hY, ys_53 hY, ys_54 hY, ys_55 hY, ys_56 hY, ys_57 hY, ys_58 hY, ys_59 hY, ys_60 hY, ys_61 hY, ys_62 hY, ys_63 hY, ys_64 hY, ys_65 hY, ys_66 hY, ys_67 hY, ys_68 hY, ys_69 hY, ys_70 hY, ys_71 hY, ys_72 hY, ys_73 hY, ys_74 hY, ys_75 hY, ys_76 hY, ys_77 hY, jb_ix hw (by decide), h48, n47, jb_ix hp (by decide), s2, if_pos c1, h49, if_true, yAb hY hw ht hr.2.2.1, jb_some, jb_tl]
  · have c1 : ¬ nI x < nI n := nI_nlt (by omega) (by omega)
    obtain ⟨g1, g2⟩ := jr_give h' hw (nI 0)
    refine ⟨nI 1, _, _, ?_, ?_, g1, Or.inr (Or.inr ⟨rfl, 2, by decide, by decide, jb_Is _ _ _ _ _⟩), ⟨rfl, rfl⟩, ⟨rfl, rfl⟩⟩
    · simp only [e32_0, e32_1, e32_2, e32_3, e32_4, q7, s1, if_neg c1, e32_5, e32_6, e32_7, e32_8, e32_9, e33_0, e33_1, e33_2, e33_3, e33_4, e33_5, e33_6, e33_7, f5, jb_some, jb_tn]
    · simp only [e108_0, e108_1, e108_2, e108_3, e108_4, e108_5, e108_6, e108_7, e108_8, e108_9, e108_10, e108_11, e108_12, e108_13, e108_14, e108_15, e108_16, e108_17, ys_0 hY, ys_1 hY, ys_2 hY, ys_3 hY, ys_4 hY, ys_5 hY, ys_6 hY, ys_7 hY, ys_8 hY, ys_9 hY, ys_10 hY, ys_11 hY, ys_12 hY, ys_13 hY, ys_14 hY, ys_15 hY, ys_16 hY, ys_17 hY, ys_18 hY, ys_19 hY, ys_20 hY, ys_21 hY, ys_22 hY, ys_23 hY, ys_24 hY, ys_25 hY, ys_26 hY, ys_27 hY, ys_28 hY, ys_29 hY, ys_30 hY, ys_31 hY, ys_32 hY, ys_33 hY, ys_34 hY, ys_35 hY, ys_36 hY, ys_37 hY, ys_38 hY, ys_39 hY, ys_40 hY, ys_41 hY, ys_42 hY, ys_43 hY, ys_44 hY, ys_45 hY, ys_46 hY, ys_47 hY, ys_48 hY, ys_49 hY, ys_50 hY, ys_51 hY, ys_52 hY, ys_53 hY, ys_54 hY, ys_55 hY, ys_56 hY, ys_57 hY, ys_58 hY, ys_59 hY, ys_60 hY, ys_61 hY, ys_62 hY, ys_63 hY, ys_64 hY, ys_65 hY, ys_66 hY, ys_67 hY, ys_68 hY, ys_69 hY, ys_70 hY, ys_71 hY, ys_72 hY, ys_73 hY, ys_74 hY, ys_75 hY, ys_76 hY, ys_77 hY, jb_ix hw (by decide), h48, n47, jb_ix hp (by decide), s2, if_neg c1, e109_0, e109_1, e109_2, e109_3, e109_4, e109_5, e109_6, e109_7, e109_8, e109_9, e109_10, jb_FI, jb_nI, jb_some, jb_tn]
