/-! The last writer of a key: both sides find the same. -/
theorem xRc1 {d w k : Nat} {M : jm_M} {st : Nat → Nat} {l : List Nat} (hX : jx_S M) (hw : w < 4) (hk : k < 32) (hL : jx_L M 16 w l) (ht : ∀ t ∈ l, jx_tk M st t) (o : Option Nat) (l7 l8 : Option jm_V) (ho : ∀ u, o = some u → jx_tk M st u) : ∃ l7' l8', jm_D (d + 3) 88 10 [some (.inr (some (0, 0))), some (.inl (nI k)), some (.inl (jx_o1 o)), some (.inl (jx_o2 M k o)), some (.inl (jx_o3 M k o)), some (.inl (jx_o4 M o)), some (.inl (nI w)), l7, l8] [] M = jm_D (d + 3) 88 10 [some (.inr (some (0, 0))), some (.inl (nI k)), some (.inl (jx_o1 (l.foldl (jb_b1 (jx_wr M k) st) o))), some (.inl (jx_o2 M k (l.foldl (jb_b1 (jx_wr M k) st) o))), some (.inl (jx_o3 M k (l.foldl (jb_b1 (jx_wr M k) st) o))), some (.inl (jx_o4 M (l.foldl (jb_b1 (jx_wr M k) st) o))), some (.inl (nI (w + 1))), l7', l8'] [] M ∧ ∀ u, l.foldl (jb_b1 (jx_wr M k) st) o = some u → jx_tk M st u := by
  obtain ⟨l8', r1, r2⟩ := xRc0 (d := d) hX hw hk hL ht l.length 0 o l8 (by omega) ho
  rw [List.drop_zero] at r1 r2
  have c1 : ¬ nI 4 ≤ nI w := nI_ge hw (by decide)
  refine ⟨some (.inl (nI l.length)), l8', ?_, r2⟩
  rw [e88_10, e88_11, e88_12, if_neg c1, e88_13, e88_14, r1, e88_58, e88_59, nI_add]
theorem xRc {d k : Nat} {M : jm_M} {st : Nat → Nat} {l0 l1 l2 l3 : List Nat} (hX : jx_S M) (hk : k < 32) (h0 : jx_L M 16 0 l0) (h1 : jx_L M 16 1 l1) (h2 : jx_L M 16 2 l2) (h3 : jx_L M 16 3 l3) (t0 : ∀ t ∈ l0, jx_tk M st t) (t1 : ∀ t ∈ l1, jx_tk M st t) (t2 : ∀ t ∈ l2, jx_tk M st t) (t3 : ∀ t ∈ l3, jx_tk M st t) : ∃ o l7 l8, jm_D (d + 3) 88 0 [some (.inr (some (0, 0))), some (.inl (nI k)), none, none, none, none, none, none, none] [] M = jm_D (d + 3) 88 60 [some (.inr (some (0, 0))), some (.inl (nI k)), some (.inl (jx_o1 o)), some (.inl (jx_o2 M k o)), some (.inl (jx_o3 M k o)), some (.inl (jx_o4 M o)), some (.inl (nI 4)), l7, l8] [] M ∧ jb_gr (jx_wr M k) st (fun u => u ∈ l0 ∨ u ∈ l1 ∨ u ∈ l2 ∨ u ∈ l3) o := by
  obtain ⟨a0, b0, r0, s0⟩ := xRc1 (d := d) (w := 0) hX (by decide) hk h0 t0 none none none (fun u hu => by cases hu)
  obtain ⟨a1, b1, r1, s1⟩ := xRc1 (d := d) (w := 0 + 1) hX (by decide) hk h1 t1 _ a0 b0 s0
  obtain ⟨a2, b2, r2, s2⟩ := xRc1 (d := d) (w := 0 + 1 + 1) hX (by decide) hk h2 t2 _ a1 b1 s1
  obtain ⟨a3, b3, r3, s3⟩ := xRc1 (d := d) (w := 0 + 1 + 1 + 1) hX (by decide) hk h3 t3 _ a2 b2 s2
  refine ⟨_, a3, b3, ?_, jb_gr_cg (jb_grl l3 _ _ (jb_grl l2 _ _ (jb_grl l1 _ _ (jb_grl l0 (fun _ => False) none (Or.inl ⟨rfl, fun _ h => absurd h id⟩))))) (fun u => ?_)⟩
  · have e0 : jm_D (d + 3) 88 0 [some (.inr (some (0, 0))), some (.inl (nI k)), none, none, none, none, none, none, none] [] M = jm_D (d + 3) 88 10 [some (.inr (some (0, 0))), some (.inl (nI k)), some (.inl (jx_o1 none)), some (.inl (jx_o2 M k none)), some (.inl (jx_o3 M k none)), some (.inl (jx_o4 M none)), some (.inl (nI 0)), none, none] [] M := by
      simp only [e88_0, e88_1, e88_2, e88_3, e88_4, e88_5, e88_6, e88_7, e88_8, e88_9]
      rfl
    rw [e0, r0, r1, r2, r3, e88_10, e88_11, e88_12, if_pos (show nI 4 ≤ nI (0 + 1 + 1 + 1 + 1) by decide)]
  · constructor
    · rintro ((((h | h) | h) | h) | h)
      · exact absurd h id
      · exact Or.inl h
      · exact Or.inr (Or.inl h)
      · exact Or.inr (Or.inr (Or.inl h))
      · exact Or.inr (Or.inr (Or.inr h))
    · rintro (h | h | h | h)
      · exact Or.inl (Or.inl (Or.inl (Or.inr h)))
      · exact Or.inl (Or.inl (Or.inr h))
      · exact Or.inl (Or.inr h)
      · exact Or.inr h
def jy_o (o : Option Nat) : Int32 := match o with
  | none => nI 0
  | some t => nI (t + 1)
def jy_wr (N : jm_M) (k t : Nat) : Bool := (decide (jm_I N 64 0 (t + 1) = nI 2) || decide (jm_I N 64 0 (t + 1) = nI 3)) && !decide (jm_I N 68 0 (32 * (t + 1) + k) = nI 0)
theorem yLs0 {d T k : Nat} {N : jm_M} {st : Nat → Nat} (hY : jy_S N) (hT : T ≤ 100) (hTn : jm_I N 31 0 34 = nI T) (hk : k < 32) (hst : ∀ t, t < T → jy_wr N k t = true → st t < 2 ^ 31 ∧ jm_I N 65 0 (t + 1) = nI (st t)) : ∀ f j o, j + f = T → (∀ u, o = some u → u < T ∧ jy_wr N k u = true) → ∃ o', jm_D (d + 1) 139 4 [some (.inr (some (31, 0))), some (.inl (nI k)), some (.inl (jy_o o)), some (.inl (nI (j + 1)))] [] N = some (some (.inl (jy_o o')), N) ∧ ∀ P, jb_gr (jy_wr N k) st P o → jb_gr (jy_wr N k) st (fun u => P u ∨ (j ≤ u ∧ u < T)) o' := by
  intro f
  induction f with
  | zero =>
    intro j o hj ho
    obtain rfl : j = T := by omega
    have c1 : nI j < nI (j + 1) := nI_lt (by omega) (by omega)
    refine ⟨o, ?_, fun P hP => jb_gr_cg hP (fun u => ⟨Or.inl, fun h => h.resolve_right (by omega)⟩)⟩
    rw [e139_4]
    simp only [e139_5, e139_6, e139_7, hTn, if_pos c1, e139_36, e139_37]
  | succ f ih =>
    intro j o hj ho
    have c1 : ¬ nI T < nI (j + 1) := nI_nlt (by omega) (by omega)
    have hj1 : j + 1 < 101 := by omega
    have hlg := yLg (d := d) hY hj1
    have n1 : ¬ nI 1 = nI 0 := by decide
    have hb : 32 * (j + 1) + k < 3232 := by omega
    have go : ∀ o', jb_b1 (jy_wr N k) st o j = o' → (∀ u, o' = some u → u < T ∧ jy_wr N k u = true) → jm_D (d + 1) 139 4 [some (.inr (some (31, 0))), some (.inl (nI k)), some (.inl (jy_o o)), some (.inl (nI (j + 1)))] [] N = jm_D (d + 1) 139 4 [some (.inr (some (31, 0))), some (.inl (nI k)), some (.inl (jy_o o')), some (.inl (nI (j + 1 + 1)))] [] N → ∃ o', jm_D (d + 1) 139 4 [some (.inr (some (31, 0))), some (.inl (nI k)), some (.inl (jy_o o)), some (.inl (nI (j + 1)))] [] N = some (some (.inl (jy_o o')), N) ∧ ∀ P, jb_gr (jy_wr N k) st P o → jb_gr (jy_wr N k) st (fun u => P u ∨ (j ≤ u ∧ u < T)) o' := by
      intro o' ho' hok hrun
      obtain ⟨o2, r1, r2⟩ := ih (j + 1) o' (by omega) hok
      refine ⟨o2, hrun.trans r1, fun P hP => ?_⟩
      have h1 := jb_gr1 (t := j) hP
      rw [ho'] at h1
      refine jb_gr_cg (r2 _ h1) (fun u => ⟨?_, ?_⟩)
      · rintro ((h | h) | h)
        · exact Or.inl h
        · exact Or.inr (by omega)
        · exact Or.inr (by omega)
      · rintro (h | h)
        · exact Or.inl (Or.inl h)
        · by_cases e : u = j
          · exact Or.inl (Or.inr e)
          · exact Or.inr (by omega)
    by_cases hl : jm_I N 64 0 (j + 1) = nI 2 ∨ jm_I N 64 0 (j + 1) = nI 3
    · rw [if_pos hl] at hlg
      have hlb : (decide (jm_I N 64 0 (j + 1) = nI 2) || decide (jm_I N 64 0 (j + 1) = nI 3)) = true := by
        rcases hl with h | h
        · rw [decide_eq_true h]; rfl
        · rw [decide_eq_true h, Bool.or_true]
      by_cases h68 : jm_I N 68 0 (32 * (j + 1) + k) = nI 0
      · have hw : jy_wr N k j = false := by unfold jy_wr; rw [decide_eq_true h68]; simp
        refine go o (jb_b1f hw) ho ?_
        rw [e139_4]
        simp only [e139_0, e139_1, e139_2, e139_3, e139_5, e139_6, e139_7, e139_8, e139_9, e139_10, e139_11, e139_12, e139_13, e139_14, e139_15, e139_16, e139_17, e139_18, e139_19, e139_20, e139_21, e139_22, e139_23, e139_24, e139_25, e139_26, e139_27, e139_28, e139_29, e139_30, e139_31, e139_32, e139_33, e139_34, e139_35, e139_36, e139_37, ys_0 hY, ys_1 hY, ys_2 hY, ys_3 hY, ys_4 hY, ys_5 hY, ys_6 hY, ys_7 hY, ys_8 hY, ys_9 hY, ys_10 hY, ys_11 hY, ys_12 hY, ys_13 hY, ys_14 hY, ys_15 hY, ys_16 hY, ys_17 hY, ys_18 hY, ys_19 hY, ys_20 hY, ys_21 hY, ys_22 hY, ys_23 hY, ys_24 hY, ys_25 hY, ys_26 hY, ys_27 hY, ys_28 hY, ys_29 hY, ys_30 hY, ys_31 hY, ys_32 hY, ys_33 hY, ys_34 hY, ys_35 hY, ys_36 hY, ys_37 hY, ys_38 hY, ys_39 hY, ys_40 hY, ys_41 hY, ys_42 hY, ys_43 hY, ys_44 hY, ys_45 hY, ys_46 hY, ys_47 hY, ys_48 hY, ys_49 hY, ys_50 hY, ys_51 hY, ys_52 hY, ys_53 hY, ys_54 hY, ys_55 hY, ys_56 hY, ys_57 hY, ys_58 hY, ys_59 hY, ys_60 hY, ys_61 hY, ys_62 hY, ys_63 hY, ys_64 hY, ys_65 hY, ys_66 hY, ys_67 hY, ys_68 hY, ys_69 hY, ys_70 hY, ys_71 hY, ys_72 hY, ys_73 hY, ys_74 hY, ys_75 hY, ys_76 hY, ys_77 hY, hTn, if_neg c1, hlg, jb_some, jb_tl, if_neg n1, pk_mul, nI_add, jb_ix hb (by decide), h68, if_true]
      · have hw : jy_wr N k j = true := by unfold jy_wr; rw [decide_eq_false h68, hlb]; rfl
        obtain ⟨sj, ej⟩ := hst j (by omega) hw
        cases o with
        | none =>
          have p1 : jy_o none = nI 0 := rfl
          have p2 : jy_o (some j) = nI (j + 1) := rfl
          refine go (some j) (jb_b1n hw) (fun u hu => by cases hu; exact ⟨by omega, hw⟩) ?_
          rw [e139_4]
          simp only [e139_0, e139_1, e139_2, e139_3, e139_5, e139_6, e139_7, e139_8, e139_9, e139_10, e139_11, e139_12, e139_13, e139_14, e139_15, e139_16, e139_17, e139_18, e139_19, e139_20, e139_21, e139_22, e139_23, e139_24, e139_25, e139_26, e139_27, e139_28, e139_29, e139_30, e139_31, e139_32, e139_33, e139_34, e139_35, e139_36, e139_37, ys_0 hY, ys_1 hY, ys_2 hY, ys_3 hY, ys_4 hY, ys_5 hY, ys_6 hY, ys_7 hY, ys_8 hY, ys_9 hY, ys_10 hY, ys_11 hY, ys_12 hY, ys_13 hY, ys_14 hY, ys_15 hY, ys_16 hY, ys_17 hY, ys_18 hY, ys_19 hY, ys_20 hY, ys_21 hY, ys_22 hY, ys_23 hY, ys_24 hY, ys_25 hY, ys_26 hY, ys_27 hY, ys_28 hY, ys_29 hY, ys_30 hY, ys_31 hY, ys_32 hY, ys_33 hY, ys_34 hY, ys_35 hY, ys_36 hY, ys_37 hY, ys_38 hY, ys_39 hY, ys_40 hY, ys_41 hY, ys_42 hY, ys_43 hY, ys_44 hY, ys_45 hY, ys_46 hY, ys_47 hY, ys_48 hY, ys_49 hY, ys_50 hY, ys_51 hY, ys_52 hY, ys_53 hY, ys_54 hY, ys_55 hY, ys_56 hY, ys_57 hY, ys_58 hY, ys_59 hY, ys_60 hY, ys_61 hY, ys_62 hY, ys_63 hY, ys_64 hY, ys_65 hY, ys_66 hY, ys_67 hY, ys_68 hY, ys_69 hY, ys_70 hY, ys_71 hY, ys_72 hY, ys_73 hY, ys_74 hY, ys_75 hY, ys_76 hY, ys_77 hY, hTn, if_neg c1, hlg, jb_some, jb_tl, if_neg n1, pk_mul, nI_add, jb_ix hb (by decide), if_neg h68, p1, p2, if_true]
        | some u =>
          obtain ⟨u1, u2⟩ := ho u rfl
          obtain ⟨su, eu⟩ := hst u u1 u2
          have p1 : jy_o (some u) = nI (u + 1) := rfl
          have p2 : jy_o (some j) = nI (j + 1) := rfl
          have c2 : ¬ nI (u + 1) = nI 0 := fun z => absurd ((nI_eq (by omega) (by decide)).mp z) (by omega)
          by_cases hc : st u < st j
          · have c3 : ¬ nI (st j) ≤ nI (st u) := nI_ge hc sj
            refine go (some j) (by rw [jb_b1s hw, if_pos hc]) (fun u hu => by cases hu; exact ⟨by omega, hw⟩) ?_
            rw [e139_4]
            simp only [e139_0, e139_1, e139_2, e139_3, e139_5, e139_6, e139_7, e139_8, e139_9, e139_10, e139_11, e139_12, e139_13, e139_14, e139_15, e139_16, e139_17, e139_18, e139_19, e139_20, e139_21, e139_22, e139_23, e139_24, e139_25, e139_26, e139_27, e139_28, e139_29, e139_30, e139_31, e139_32, e139_33, e139_34, e139_35, e139_36, e139_37, ys_0 hY, ys_1 hY, ys_2 hY, ys_3 hY, ys_4 hY, ys_5 hY, ys_6 hY, ys_7 hY, ys_8 hY, ys_9 hY, ys_10 hY, ys_11 hY, ys_12 hY, ys_13 hY, ys_14 hY, ys_15 hY, ys_16 hY, ys_17 hY, ys_18 hY, ys_19 hY, ys_20 hY, ys_21 hY, ys_22 hY, ys_23 hY, ys_24 hY, ys_25 hY, ys_26 hY, ys_27 hY, ys_28 hY, ys_29 hY, ys_30 hY, ys_31 hY, ys_32 hY, ys_33 hY, ys_34 hY, ys_35 hY, ys_36 hY, ys_37 hY, ys_38 hY, ys_39 hY, ys_40 hY, ys_41 hY, ys_42 hY, ys_43 hY, ys_44 hY, ys_45 hY, ys_46 hY, ys_47 hY, ys_48 hY, ys_49 hY, ys_50 hY, ys_51 hY, ys_52 hY, ys_53 hY, ys_54 hY, ys_55 hY, ys_56 hY, ys_57 hY, ys_58 hY, ys_59 hY, ys_60 hY, ys_61 hY, ys_62 hY, ys_63 hY, ys_64 hY, ys_65 hY, ys_66 hY, ys_67 hY, ys_68 hY, ys_69 hY, ys_70 hY, ys_71 hY, ys_72 hY, ys_73 hY, ys_74 hY, ys_75 hY, ys_76 hY, ys_77 hY, hTn, if_neg c1, hlg, jb_some, jb_tl, if_neg n1, pk_mul, nI_add, jb_ix hb (by decide), if_neg h68, p1, p2, if_neg c2, jb_ix hj1 (by decide), jb_ix (show u + 1 < 101 by omega) (by decide), ej, eu, if_neg c3]
          · have c3 : nI (st j) ≤ nI (st u) := nI_le (by omega) su
            refine go (some u) (by rw [jb_b1s hw, if_neg hc]) ho ?_
            rw [e139_4]
            simp only [e139_0, e139_1, e139_2, e139_3, e139_5, e139_6, e139_7, e139_8, e139_9, e139_10, e139_11, e139_12, e139_13, e139_14, e139_15, e139_16, e139_17, e139_18, e139_19, e139_20, e139_21, e139_22, e139_23, e139_24, e139_25, e139_26, e139_27, e139_28, e139_29, e139_30, e139_31, e139_32, e139_33, e139_34, e139_35, e139_36, e139_37, ys_0 hY, ys_1 hY, ys_2 hY, ys_3 hY, ys_4 hY, ys_5 hY, ys_6 hY, ys_7 hY, ys_8 hY, ys_9 hY, ys_10 hY, ys_11 hY, ys_12 hY, ys_13 hY, ys_14 hY, ys_15 hY, ys_16 hY, ys_17 hY, ys_18 hY, ys_19 hY, ys_20 hY, ys_21 hY, ys_22 hY, ys_23 hY, ys_24 hY, ys_25 hY, ys_26 hY, ys_27 hY, ys_28 hY, ys_29 hY, ys_30 hY, ys_31 hY, ys_32 hY, ys_33 hY, ys_34 hY, ys_35 hY, ys_36 hY, ys_37 hY, ys_38 hY, ys_39 hY, ys_40 hY, ys_41 hY, ys_42 hY, ys_43 hY, ys_44 hY, ys_45 hY, ys_46 hY, ys_47 hY, ys_48 hY, ys_49 hY, ys_50 hY, ys_51 hY, ys_52 hY, ys_53 hY, ys_54 hY, ys_55 hY, ys_56 hY, ys_57 hY, ys_58 hY, ys_59 hY, ys_60 hY, ys_61 hY, ys_62 hY, ys_63 hY, ys_64 hY, ys_65 hY, ys_66 hY, ys_67 hY, ys_68 hY, ys_69 hY, ys_70 hY, ys_71 hY, ys_72 hY, ys_73 hY, ys_74 hY, ys_75 hY, ys_76 hY, ys_77 hY, hTn, if_neg c1, hlg, jb_some, jb_tl, if_neg n1, pk_mul, nI_add, jb_ix hb (by decide), if_neg h68, p1, if_neg c2, jb_ix hj1 (by decide), jb_ix (show u + 1 < 101 by omega) (by decide), ej, eu, if_pos c3]
    · rw [if_neg hl] at hlg
      have hw : jy_wr N k j = false := by
        unfold jy_wr
        rw [decide_eq_false (fun z => hl (Or.inl z)), decide_eq_false (fun z => hl (Or.inr z))]
        rfl
      refine go o (jb_b1f hw) ho ?_
      rw [e139_4]
      simp only [e139_0, e139_1, e139_2, e139_3, e139_5, e139_6, e139_7, e139_8, e139_9, e139_10, e139_11, e139_12, e139_13, e139_14, e139_15, e139_16, e139_17, e139_18, e139_19, e139_20, e139_21, e139_22, e139_23, e139_24, e139_25, e139_26, e139_27, e139_28, e139_29, e139_30, e139_31, e139_32, e139_33, e139_34, e139_35, e139_36, e139_37, ys_0 hY, ys_1 hY, ys_2 hY, ys_3 hY, ys_4 hY, ys_5 hY, ys_6 hY, ys_7 hY, ys_8 hY, ys_9 hY, ys_10 hY, ys_11 hY, ys_12 hY, ys_13 hY, ys_14 hY, ys_15 hY, ys_16 hY, ys_17 hY, ys_18 hY, ys_19 hY, ys_20 hY, ys_21 hY, ys_22 hY, ys_23 hY, ys_24 hY, ys_25 hY, ys_26 hY, ys_27 hY, ys_28 hY, ys_29 hY, ys_30 hY, ys_31 hY, ys_32 hY, ys_33 hY, ys_34 hY, ys_35 hY, ys_36 hY, ys_37 hY, ys_38 hY, ys_39 hY, ys_40 hY, ys_41 hY, ys_42 hY, ys_43 hY, ys_44 hY, ys_45 hY, ys_46 hY, ys_47 hY, ys_48 hY, ys_49 hY, ys_50 hY, ys_51 hY, ys_52 hY, ys_53 hY, ys_54 hY, ys_55 hY, ys_56 hY, ys_57 hY, ys_58 hY, ys_59 hY, ys_60 hY, ys_61 hY, ys_62 hY, ys_63 hY, ys_64 hY, ys_65 hY, ys_66 hY, ys_67 hY, ys_68 hY, ys_69 hY, ys_70 hY, ys_71 hY, ys_72 hY, ys_73 hY, ys_74 hY, ys_75 hY, ys_76 hY, ys_77 hY, hTn, if_neg c1, hlg, jb_some, jb_tl, if_true, nI_add]
theorem jb_gr_tr {wr wr' : Nat → Bool} {st : Nat → Nat} {P Q : Nat → Prop} {o : Option Nat} (h : jb_gr wr' st Q o) (he : ∀ t, (Q t ∧ wr' t = true) ↔ (P t ∧ wr t = true)) : jb_gr wr st P o := by
  rcases h with ⟨h1, h2⟩ | ⟨t, h1, h2, h3, h4⟩
  · refine Or.inl ⟨h1, fun t ht => ?_⟩
    cases hw : wr t with
    | false => rfl
    | true =>
      obtain ⟨q1, q2⟩ := (he t).mpr ⟨ht, hw⟩
      rw [h2 t q1] at q2; cases q2
  · obtain ⟨p1, p2⟩ := (he t).mp ⟨h2, h3⟩
    refine Or.inr ⟨t, h1, p1, p2, fun u hu hw => ?_⟩
    obtain ⟨q1, q2⟩ := (he u).mpr ⟨hu, hw⟩
    exact h4 u q1 q2
/-- no two logged writers of a key have one stamp -/
def jr_un (M N : jm_M) : Prop := ∀ t u k, t < jm_c M 25 → u < jm_c M 25 → k < 32 → t ≠ u → jy_lg N t → jy_lg N u → ¬ jm_I N 68 0 (32 * (t + 1) + k) = nI 0 → ¬ jm_I N 68 0 (32 * (u + 1) + k) = nI 0 → ¬ jm_I N 65 0 (t + 1) = jm_I N 65 0 (u + 1)
theorem sm_last {d d' C k : Nat} {M N : jm_M} (hX : jx_S M) (hY : jy_S N) (hC : C < 2 ^ 31) (hT : rT C M N) (hG : rG M N) (hU : jr_un M N) (hk : k < 32) : ∃ o l7 l8, jm_D (d + 3) 88 0 [some (.inr (some (0, 0))), some (.inl (nI k)), none, none, none, none, none, none, none] [] M = jm_D (d + 3) 88 60 [some (.inr (some (0, 0))), some (.inl (nI k)), some (.inl (jx_o1 o)), some (.inl (jx_o2 M k o)), some (.inl (jx_o3 M k o)), some (.inl (jx_o4 M o)), some (.inl (nI 4)), l7, l8] [] M ∧ jm_D (d' + 1) 139 0 [some (.inr (some (31, 0))), some (.inl (nI k)), none, none] [] N = some (some (.inl (jy_o o)), N) ∧ ∀ t, o = some t → t < jm_c M 25 ∧ jy_lg N t ∧ ¬ jm_I M 26 (t + 4) k = nI 0 := by
  have hT1 := hT.1
  have hst : ∀ t, t < jm_c M 25 → jy_lg N t → jx_tk M (fun t => (jm_I N 65 0 (t + 1)).toNatClampNeg) t ∧ (jm_I N 65 0 (t + 1)).toNatClampNeg < 2 ^ 31 ∧ jm_I N 65 0 (t + 1) = nI (jm_I N 65 0 (t + 1)).toNatClampNeg := by
    intro t ht hg
    obtain ⟨-, b2, b3, b4, b5, -, -, -, b9⟩ := hT.2.2.2.2.2 t ht
    obtain ⟨⟨s, s1, s2, s3⟩, -, -⟩ := b9 hg
    have e : (jm_I N 65 0 (t + 1)).toNatClampNeg = s := by rw [s3]; exact nI_clamp (by omega)
    refine ⟨⟨b2, b3, b4, b5, ?_, ?_⟩, ?_, ?_⟩
    · show (jm_I N 65 0 (t + 1)).toNatClampNeg < 2 ^ 31
      rw [e]; omega
    · show jm_I M 25 t 6 = nI (jm_I N 65 0 (t + 1)).toNatClampNeg
      rw [e]; exact s2
    · rw [e]; omega
    · rw [e]; exact s3
  have hkl : ∀ v t, t ∈ jy_kl M N v → jx_tk M (fun t => (jm_I N 65 0 (t + 1)).toNatClampNeg) t := fun v t ht => (hst t (jc_kl.mp ht).1 (jc_kl.mp ht).2.1).1
  have hw26 : ∀ t, t < jm_c M 25 → jy_lg N t → (jm_I M 26 (t + 4) k = nI 0 ↔ jm_I N 68 0 (32 * (t + 1) + k) = nI 0) := by
    intro t ht hg
    obtain ⟨-, -, -, -, -, -, -, -, b9⟩ := hT.2.2.2.2.2 t ht
    rcases (b9 hg).2.2 k hk with ⟨w1, w2⟩ | ⟨w1, w2, -⟩
    · exact ⟨fun _ => w1, fun _ => w2⟩
    · rw [w1]
      rcases w2 with ⟨-, w2⟩ | ⟨-, w2, -⟩
      · rw [w2]
      · rw [w2]
        exact ⟨fun z => absurd z (by decide), fun z => absurd z (by decide)⟩
  obtain ⟨o, l7, l8, r1, r2⟩ := xRc (d := d) (k := k) hX hk (hG.1 0 (by decide)).1 (hG.1 1 (by decide)).1 (hG.1 2 (by decide)).1 (hG.1 3 (by decide)).1 (hkl 0) (hkl 1) (hkl 2) (hkl 3)
  have hlgb : ∀ t, ((decide (jm_I N 64 0 (t + 1) = nI 2) || decide (jm_I N 64 0 (t + 1) = nI 3)) = true) ↔ jy_lg N t := by
    intro t
    unfold jy_lg
    simp only [Bool.or_eq_true, decide_eq_true_eq]
  have hjw : ∀ t, jy_wr N k t = true ↔ jy_lg N t ∧ ¬ jm_I N 68 0 (32 * (t + 1) + k) = nI 0 := by
    intro t
    unfold jy_wr
    rw [Bool.and_eq_true, hlgb]
    simp only [Bool.not_eq_true', decide_eq_false_iff_not]
  obtain ⟨o', s1, s2⟩ := yLs0 (d := d') (st := fun t => (jm_I N 65 0 (t + 1)).toNatClampNeg) hY hT1 hT.2.2.2.1 hk (fun t ht hw => (hst t ht ((hjw t).mp hw).1).2) (jm_c M 25) 0 none (by omega) (fun u hu => by cases hu)
  have s3 := s2 (fun _ => False) (Or.inl ⟨rfl, fun _ h => absurd h id⟩)
  have hxw : ∀ t, jx_wr M k t = true ↔ ¬ jm_I M 26 (t + 4) k = nI 0 := by
    intro t
    unfold jx_wr
    simp only [Bool.not_eq_true', decide_eq_false_iff_not]
  have g1 : jb_gr (jx_wr M k) (fun t => (jm_I N 65 0 (t + 1)).toNatClampNeg) (fun t => t < jm_c M 25 ∧ jy_lg N t) o := by
    refine jb_gr_cg r2 (fun t => ⟨?_, ?_⟩)
    · rintro (h | h | h | h)
      all_goals exact ⟨(jc_kl.mp h).1, (jc_kl.mp h).2.1⟩
    · rintro ⟨h1, h2⟩
      obtain ⟨-, -, -, -, -, -, ⟨w, w1, w2⟩, -⟩ := hT.2.2.2.2.2 t h1
      rcases (show w = 0 ∨ w = 1 ∨ w = 2 ∨ w = 3 by omega) with rfl | rfl | rfl | rfl
      · exact Or.inl (jc_kl.mpr ⟨h1, h2, w2⟩)
      · exact Or.inr (Or.inl (jc_kl.mpr ⟨h1, h2, w2⟩))
      · exact Or.inr (Or.inr (Or.inl (jc_kl.mpr ⟨h1, h2, w2⟩)))
      · exact Or.inr (Or.inr (Or.inr (jc_kl.mpr ⟨h1, h2, w2⟩)))
  have g2 : jb_gr (jx_wr M k) (fun t => (jm_I N 65 0 (t + 1)).toNatClampNeg) (fun t => t < jm_c M 25 ∧ jy_lg N t) o' := by
    refine jb_gr_tr s3 (fun t => ?_)
    rw [hjw, hxw]
    constructor
    · rintro ⟨h1, h2, h3⟩
      have ht : t < jm_c M 25 := (h1.resolve_left id).2
      exact ⟨⟨ht, h2⟩, fun z => h3 ((hw26 t ht h2).mp z)⟩
    · rintro ⟨⟨h1, h2⟩, h3⟩
      exact ⟨Or.inr ⟨Nat.zero_le _, h1⟩, h2, fun z => h3 ((hw26 t h1 h2).mpr z)⟩
  have heq : o = o' := by
    refine jb_gr_eq g1 g2 (fun t u ht hu hwt hwu hs => ?_)
    refine Decidable.byContradiction (fun hne => ?_)
    have h1 := (hst t ht.1 ht.2).2.2
    have h2 := (hst u hu.1 hu.2).2.2
    rw [hxw] at hwt hwu
    exact hU t u k ht.1 hu.1 hk hne ht.2 hu.2 (fun z => hwt ((hw26 t ht.1 ht.2).mpr z)) (fun z => hwu ((hw26 u hu.1 hu.2).mpr z)) (by rw [h1, h2]; exact congrArg nI hs)
  subst heq
  refine ⟨o, l7, l8, r1, ?_, fun t ht => ?_⟩
  · rw [← s1]
    simp only [e139_0, e139_1, e139_2, e139_3]
    rfl
  · rcases g1 with ⟨h1, -⟩ | ⟨u, h1, h2, h3, -⟩
    · rw [h1] at ht; cases ht
    · rw [h1] at ht
      cases ht
      exact ⟨h2.1, h2.2, (hxw t).mp h3⟩
