/-! Start: both calls. -/
theorem jb_cnt0 {q : Nat → Bool} : ∀ n, (∀ k, k < n → q k = false) → jb_cnt q n = 0 := by
  intro n
  induction n with
  | zero => intro _; rfl
  | succ n ih =>
    intro h
    unfold jb_cnt
    rw [ih (fun k hk => h k (by omega)), h n (by omega)]
    rfl
theorem jx_Lc {M M' : jm_M} {k i : Nat} {l : List Nat} (h : jx_L M k i l) (h1 : jm_I M' k i 1 = jm_I M k i 1) (h2 : jm_F M' k i 0 = jm_F M k i 0) (h3 : (jm_c M' 28 = jm_c M 28 ∧ jm_c M' 30 = jm_c M 30) ∧ (jm_n M' 28 = jm_n M 28 ∧ jm_n M' 30 = jm_n M 30) ∧ (jm_F M' 28 = jm_F M 28 ∧ jm_F M' 30 = jm_F M 30)) : jx_L M' k i l := by
  obtain ⟨a1, a2, a3⟩ := h
  refine ⟨h1.trans a1, a2, ?_⟩
  rcases a3 with ⟨c1, c2⟩ | ⟨a, b, c1, c2, c3, c4⟩
  · exact Or.inl ⟨c1, h2.trans c2⟩
  · refine Or.inr ⟨a, b, c1, ?_⟩
    rcases c1 with rfl | rfl
    · rw [h3.1.1, h3.2.1.1, h3.2.2.1, h2]
      exact ⟨c2, c3, c4⟩
    · rw [h3.1.2, h3.2.1.2, h3.2.2.2, h2]
      exact ⟨c2, c3, c4⟩
theorem jr_start {E C w p : Nat} {M N Q : jm_M} (h : jr_R E C M N) (hw : w < 4) (hp : p < 4) (hs : jm_I N 45 0 w = nI 0) (hTb : jm_c M 25 < 100) (x y : Int32) (hA : jx_A (jx_new M) (jm_rep (jx_new M) Q 4) 4 0 (List.range (jm_c M 25) ++ [jm_c M 25])) : jr_R E C (jx_st M Q w p x y) (jy_st N (jm_c M 25) w p x y) := by
  obtain ⟨hX, hY, hN, hP, hS, hL, hW, ⟨t1, t2, t3, t4, t5, t6⟩, hG, hE, b, b1, b2, b3, b4, b5, b6, b7⟩ := h
  have n45 : ∀ v, v ≠ w → jm_I (jy_st N (jm_c M 25) w p x y) 45 0 v = jm_I N 45 0 v := fun v hv => jb_Io hv N 45 0 (nI 1) 45 0
  have n45w : jm_I (jy_st N (jm_c M 25) w p x y) 45 0 w = nI 1 := jb_Is N 45 0 w (nI 1)
  have n46 : ∀ v, v ≠ w → jm_I (jy_st N (jm_c M 25) w p x y) 46 0 v = jm_I N 46 0 v := fun v hv => jb_Io hv N 46 0 (nI (jm_c M 25 + 1)) 46 0
  have n46w : jm_I (jy_st N (jm_c M 25) w p x y) 46 0 w = nI (jm_c M 25 + 1) := jb_Is N 46 0 w (nI (jm_c M 25 + 1))
  have n63 : ∀ u, u ≠ jm_c M 25 → jm_I (jy_st N (jm_c M 25) w p x y) 63 0 (u + 1) = jm_I N 63 0 (u + 1) := fun u hu => jb_Io (show u + 1 ≠ jm_c M 25 + 1 by omega) N 63 0 (nI w) 63 0
  have n63w : jm_I (jy_st N (jm_c M 25) w p x y) 63 0 (jm_c M 25 + 1) = nI w := jb_Is N 63 0 (jm_c M 25 + 1) (nI w)
  have n64 : ∀ u, u ≠ jm_c M 25 → jm_I (jy_st N (jm_c M 25) w p x y) 64 0 (u + 1) = jm_I N 64 0 (u + 1) := fun u hu => jb_Io (show u + 1 ≠ jm_c M 25 + 1 by omega) N 64 0 (nI 1) 64 0
  have n64w : jm_I (jy_st N (jm_c M 25) w p x y) 64 0 (jm_c M 25 + 1) = nI 1 := jb_Is N 64 0 (jm_c M 25 + 1) (nI 1)
  have hc : jm_c (jx_st M Q w p x y) 25 = jm_c M 25 + 1 := (nw_c M).1
  have hlg : ∀ u, jy_lg (jy_st N (jm_c M 25) w p x y) u → u ≠ jm_c M 25 ∧ jy_lg N u := by
    intro u hu
    unfold jy_lg at hu
    by_cases e : u = jm_c M 25
    · rw [e, n64w] at hu
      rcases hu with hu | hu
      · exact absurd hu (by decide)
      · exact absurd hu (by decide)
    · rw [n64 u e] at hu
      exact ⟨e, hu⟩
  have hkl : ∀ v, jy_kl (jx_st M Q w p x y) (jy_st N (jm_c M 25) w p x y) v = jy_kl M N v := by
    intro v
    refine jb_kl hc (fun t ht => ?_) ?_
    · unfold jy_kp
      rw [n63 t (by omega), n64 t (by omega)]
    · unfold jy_kp
      rw [n64w]
      rfl
  have hT4 : ∀ u, u < jm_c M 25 → u + 4 ≠ jm_c M 26 := fun u hu => by omega
  have hT5 : ∀ u, u < jm_c M 25 → u + 4 ≠ jm_c M 27 := fun u hu => by omega
  have hs3 : ∀ v, jm_I (jy_st N (jm_c M 25) w p x y) 45 0 v = nI 3 ∨ jm_I (jy_st N (jm_c M 25) w p x y) 45 0 v = nI 4 → v ≠ w := by
    rintro v hv rfl
    rw [n45w] at hv
    rcases hv with hv | hv
    · exact absurd hv (by decide)
    · exact absurd hv (by decide)
  have r51 : ∀ v k, v ≠ w → k < 32 → jm_I (jy_st N (jm_c M 25) w p x y) 51 0 (32 * v + k) = jm_I N 51 0 (32 * v + k) := fun v k hv hk => (sy_A (M := M) (Q := Q) hv).2.2.2.2.1 51 k (by decide) (by decide) hk
  have r55 : ∀ v k, v ≠ w → k < 32 → jm_I (jy_st N (jm_c M 25) w p x y) 55 0 (32 * v + k) = jm_I N 55 0 (32 * v + k) := fun v k hv hk => (sy_A (M := M) (Q := Q) hv).2.2.2.2.1 55 k (by decide) (by decide) hk
  have hXs : jx_S (jx_st M Q w p x y) := by
    refine ⟨hX.1, hX.2.1, fun v hv => ?_, hX.2.2.2⟩
    have := hX.2.2.1 v hv
    refine ⟨this.1, ?_, ?_, ?_, this.2.2.2.2⟩
    · exact (jb_Fo (by decide) M 11 w (some (25, jm_c M 25)) 11 v).trans this.2.1
    · exact (jb_Fo (by decide) M 11 w (some (25, jm_c M 25)) 11 v).trans this.2.2.1
    · exact (jb_Fo (by decide) M 11 w (some (25, jm_c M 25)) 11 v).trans this.2.2.2.1
  have sw := sx_11w M Q w p x y
  refine ⟨hXs, hY, ⟨fun v hv => ?_, hN.2⟩, hP, hS, hL, fun v hv => ?_, ⟨?_, ?_, ?_, ?_, ?_, fun u hu => ?_⟩, ⟨fun v hv => ?_, hG.2.1, fun v hv q h1 h2 => ?_⟩, hE, b, b1, fun v hv h3 => b2 v hv ?_, fun u k hu hk hl => ?_, fun v k hv hk h4 => ?_, fun u v k hu hv hk huv hl hm => ?_, fun v u k hv hu hk h5 h6 hl => ?_, fun u v k hu hv hk huv h4 h5 => ?_⟩
  · by_cases e : v = w
    · subst e
      exact (sw.1 0 (by decide)).trans (hN.1 v hv)
    · exact (sx_11 e 0).trans (hN.1 v hv)
  · by_cases e : v = w
    · subst e
      obtain ⟨s, h1, h2, h3, ⟨z, h4, h5, h6⟩, h7, h8⟩ := hW v hv
      have hs0 : s = 0 := (nI_eq (by omega) (by decide)).mp (h3.symm.trans hs)
      subst hs0
      refine ⟨1, by decide, sw.2.2.1, n45w, ⟨z, h4, h5, fun _ => (sw.1 12 (by decide)).trans (h6 (by decide))⟩, fun e => absurd e (by decide), fun _ => ⟨jm_c M 25, ?_⟩⟩
      have k26 : ∀ k, jm_I (jx_st M Q v p x y) 26 (jm_c M 25 + 4) k = nI 0 := fun k => by
        have := (nw_26s M k).1
        rw [t2] at this
        exact this
      have hfn : ∀ k, k < 32 → ¬ jm_I M 22 0 k = nI (v + 1) := (h7 rfl).2
      have row : ∀ K, (K = 51 ∨ K = 54 ∨ K = 55) → ∀ k, k < 32 → jm_I (jy_st N (jm_c M 25) v p x y) K 0 (32 * v + k) = nI 0 := by
        intro K hK k hk
        have q1 : 32 * v ≤ 32 * v + k := by omega
        have q2 : 32 * v + k < 32 * v + 32 := by omega
        rcases hK with rfl | rfl | rfl
        · exact jr_in q1 q2 N 51 0 (fun _ => nI 0) (jm_I N 51)
        · exact jr_in q1 q2 N 54 0 (fun _ => nI 0) (jm_I N 54)
        · exact jr_in q1 q2 N 55 0 (fun _ => nI 0) (jm_I N 55)
      have r57 : ∀ n, n < 40 → jm_I (jy_st N (jm_c M 25) v p x y) 57 0 (40 * v + n) = -1 := fun n hn => jr_in (show 40 * v ≤ 40 * v + n by omega) (show 40 * v + n < 40 * v + 40 by omega) N 57 0 (fun _ => -1) (jm_I N 57)
      have m13 : ∀ k, k < 32 → jm_I (jx_st M Q v p x y) 13 v k = -1 := fun k hk => jr_in (Nat.zero_le k) hk M 13 v (fun _ => -1) (jm_I M 13)
      have m14 : ∀ k, k < 16 → jm_I (jx_st M Q v p x y) 14 v k = -1 := fun k hk => jr_in (Nat.zero_le k) hk M 14 v (fun _ => -1) (jm_I M 14)
      refine ⟨by rw [hc]; exact Nat.lt_succ_self _, jb_Fs M 11 v 5 (some (25, jm_c M 25)), n46w, n63w, n64w, fun u hu _ => by omega, ⟨p, hp, sw.2.1, jb_Is N 47 0 v (nI p)⟩, fun r hr => ?_, fun k hk => ⟨?_, Or.inl (m13 k hk)⟩, ⟨?_, fun n hn => ⟨fun h16 => ?_, Or.inl (r57 (n + 1) (by omega))⟩⟩, fun k hk => Or.inl ⟨row 51 (by decide) k hk, k26 k⟩, ?_, ?_, ?_, fun _ => ⟨⟨0, by decide, sw.2.2.2.1, jb_Is N 48 0 v (nI 0)⟩, ⟨0, by decide, sw.2.2.2.2.1, jb_Is N 49 0 v (nI 0)⟩, fun k hk => ⟨row 54 (by decide) k hk, hfn k hk⟩⟩, fun e => by omega, fun e => by omega, fun e => by omega, fun e => by omega, fun _ k hk => row 55 (by decide) k hk, fun e => by omega⟩
      · refine (sx_12w hr).trans ?_
        exact (jr_in (show 8 * v ≤ 8 * v + r by omega) (show 8 * v + r < 8 * v + 8 by omega) N 50 0 (jy_rv v x y) (jm_I N 50)).symm
      · rw [m13 k hk]
        exact (jr_in (show 32 * v ≤ 32 * v + k by omega) (show 32 * v + k < 32 * v + 32 by omega) N 56 0 (fun _ => -1) (jm_I N 56)).symm
      · exact r57 0 (by decide)
      · rw [m14 n h16, r57 (n + 1) (by omega)]
      · rw [jb_cnt0 32 (fun k hk => by rw [k26 k]; rfl)]
        exact (nw_T M).2.2.1
      · rw [jb_cnt0 32 (fun k hk => by rw [m13 k hk]; rfl)]
        exact sw.2.2.2.2.2.1
      · rw [jb_cnt0 16 (fun k hk => by rw [m14 k hk]; rfl)]
        exact sw.2.2.2.2.2.2
    · refine rW_cg (hW v hv) (Nat.le_refl _) (Nat.le_refl _) (sy_A e) (fun t ht _ _ _ => ⟨fun j _ => nw_25 (by omega) j, fun k _ => ⟨(nw_26 (hT4 t ht) k).1, (nw_27 (hT5 t ht) k).1⟩, n63 t (by omega), n64 t (by omega)⟩) ⟨by rw [hc]; omega, fun u hu hv2 => ?_, fun k _ => Iff.rfl, fun k _ z => z, fun m hm z => ⟨m, Nat.le_refl _, hm, z⟩⟩
      by_cases eu : u = jm_c M 25
      · rw [eu, n63w] at hv2
        exact absurd ((nI_eq (by omega) (by omega)).mp hv2) (fun z => e z.symm)
      · rw [n63 u eu] at hv2
        exact ⟨by omega, hv2⟩
  · rw [hc]; omega
  · rw [hc]; exact (nw_c M).2.1.trans (by omega)
  · rw [hc]; exact (nw_c M).2.2.trans (by omega)
  · rw [hc]; exact jb_Is N 31 0 34 (nI (jm_c M 25 + 1))
  · rw [hc, List.range_succ]
    exact jx_Lc hA.1 rfl rfl ⟨⟨rfl, rfl⟩, ⟨rfl, rfl⟩, rfl, rfl⟩
  · rw [hc] at hu
    by_cases eu : u = jm_c M 25
    · subst eu
      obtain ⟨q1, q2, q3, q4, q5⟩ := nw_T M
      refine ⟨q1, ?_, ?_, ?_, ?_, ⟨1, by decide, by decide, q2, n64w⟩, ⟨w, hw, n63w⟩, fun _ => ⟨w, hw, by rw [n45w]; decide, n46w⟩, fun z => absurd rfl (hlg _ z).1⟩
      · rw [← t2]; exact q4
      · rw [← t3]; exact q5
      · rw [← t2]; exact (nw_26s M 0).2
      · rw [← t3]; exact (nw_27s M 0).2
    · have hu2 : u < jm_c M 25 := by omega
      refine rTt_cg (t6 u hu2) (Nat.le_refl _) ⟨fun j => nw_25 eu j, fun j => nw_F eu j, (nw_26 (hT4 u hu2) 0).2, (nw_27 (hT5 u hu2) 0).2, fun k _ => ⟨(nw_26 (hT4 u hu2) k).1, (nw_27 (hT5 u hu2) k).1⟩, fun m h1 h2 => ?_, fun m k h1 h2 _ => ?_⟩ (fun v hv _ z1 z2 => ?_)
      · rcases (show m = 63 ∨ m = 64 ∨ m = 65 ∨ m = 66 by omega) with rfl | rfl | rfl | rfl
        · exact n63 u eu
        · exact n64 u eu
        · rfl
        · rfl
      · rcases (show m = 68 ∨ m = 69 ∨ m = 70 by omega) with rfl | rfl | rfl
        · rfl
        · rfl
        · rfl
      · have hvw : v ≠ w := by
          rintro rfl
          exact z1 hs
        exact ⟨v, hv, by rw [n45 v hvw]; exact z1, by rw [n46 v hvw]; exact z2⟩
  · rw [hkl v]
    obtain ⟨x1, x2⟩ := hG.1 v hv
    refine ⟨?_, ?_⟩
    · exact jx_Lc (M := jm_rep (jx_new M) Q 4) (jx_Lo (M := jx_new M) (Q := jm_rep (jx_new M) Q 4) (k' := 16) hA (jx_Lc (M := M) x1 rfl rfl ⟨⟨rfl, rfl⟩, ⟨rfl, rfl⟩, rfl, rfl⟩) (fun _ => rfl) (fun _ => rfl) (fun q e1 e2 => hG.2.2 v hv q e1 e2)) rfl rfl ⟨⟨rfl, rfl⟩, ⟨rfl, rfl⟩, rfl, rfl⟩
    · obtain ⟨n, y1, y2, y3⟩ := x2
      exact ⟨n, y1, y2, y3⟩
  · obtain ⟨-, ⟨a', b', e1, e2⟩, -⟩ := hA
    have e0 : q = (a', b') := Option.some.inj (h2.symm.trans e1)
    subst e0
    rcases e2 with e2 | ⟨e2, e3⟩
    · exact hG.2.2 v hv _ h1 e2
    · obtain ⟨⟨-, -, y3⟩, -⟩ := hG.1 v hv
      rcases y3 with ⟨-, y4⟩ | ⟨a2, b2', y1, y2, y4, -⟩
      · exact Option.some.inj (h1.symm.trans y4)
      · have e4 := Option.some.inj (h1.symm.trans y4)
        cases e4
        rcases e2 with rfl | rfl
        · exact absurd e3 (Nat.not_le.mpr y2)
        · exact absurd e3 (Nat.not_le.mpr y2)
  · rw [n45 v (hs3 v h3)] at h3
    exact h3
  · obtain ⟨z1, z2⟩ := hlg u hl
    exact b3 u k (by rw [hc] at hu; omega) hk z2
  · have hvw := hs3 v (Or.inr h4)
    rw [r51 v k hvw hk, r55 v k hvw hk]
    rw [n45 v hvw] at h4
    exact b4 v k hv hk h4
  · obtain ⟨z1, z2⟩ := hlg u hl
    obtain ⟨z3, z4⟩ := hlg v hm
    exact b5 u v k (by rw [hc] at hu; omega) (by rw [hc] at hv; omega) hk huv z2 z4
  · have hvw := hs3 v (Or.inr h5)
    obtain ⟨z1, z2⟩ := hlg u hl
    rw [n45 v hvw] at h5
    rw [r55 v k hvw hk] at h6
    exact b6 v u k hv (by rw [hc] at hu; omega) hk h5 h6 z2
  · have hvw := hs3 v (Or.inr h5)
    have huw := hs3 u (Or.inr h4)
    rw [n45 v hvw] at h5
    rw [n45 u huw] at h4
    rw [r55 v k hvw hk, r55 u k huw hk]
    exact b7 u v k hu hv hk huv h4 h5
/-- start -/
theorem sm_start {d E C : Nat} {M N : jm_M} (h : jr_R E C M N) (a b x y : Int32) : jr_O E C M N (jm_D (d + 7) 17 0 [some (.inr (some (0, 0))), some (.inl a), some (.inl b), some (.inl x), some (.inl y), none] [] M) (jm_D (d + 7) 104 0 [some (.inr (some (31, 0))), some (.inl a), some (.inl b), some (.inl x), some (.inl y), none] [] N) := by
  have h' := h
  obtain ⟨hX, hY, hN, hP, hS, hL, hW, ⟨t1, t2, t3, t4, t5, t6⟩, hG, hE, hU⟩ := h
  rcases jb_case a (show 4 < 2 ^ 31 by decide) with ha | ⟨w, hw, rfl⟩
  · refine jr_same h' (r := -1) ?_ ?_
    · simp only [e17_0, e17_1, e17_2, e17_3, e17_4, e17_5, e17_6, e17_7, e17_8, e17_9, e17_10, e17_11, e17_12, e17_13, e17_14, e17_15, e17_16, e17_17, e17_18, e17_19, e17_20, e17_21, e17_22, e17_23, e17_24, e17_25, e17_26, e17_27, e17_28, e17_29, e17_30, e17_31, e17_32, e17_33, e17_34, e17_35, e17_36, e17_37, e17_38, e17_39, e17_40, e17_41, e17_42, e17_43, e17_44, e17_45, e17_46, e17_47, e17_48, xW_f _ _ ha, jb_some, jb_tl, if_true]
    · simp only [e104_0, e104_1, e104_2, e104_3, e104_4, e104_5, e104_6, e104_7, e104_8, e104_9, e104_10, e104_11, e104_12, e104_13, e104_14, e104_15, e104_16, e104_17, e104_18, e104_19, e104_20, e104_21, e104_22, e104_23, e104_24, e104_25, e104_26, e104_27, e104_28, e104_29, e104_30, e104_31, e104_32, e104_33, e104_34, e104_35, e104_36, e104_37, e104_38, e104_39, e104_40, e104_41, e104_42, e104_43, e104_44, e104_45, e104_46, e104_47, e104_48, e104_49, e104_50, e104_51, e104_52, e104_53, e104_54, e104_55, e104_56, e104_57, e104_58, e104_59, e104_60, e104_61, e104_62, e104_63, e104_64, e104_65, e104_66, e104_67, e104_68, e104_69, e104_70, e104_71, e104_73, e104_74, e104_75, e104_76, e104_77, e104_78, e104_79, e104_80, e104_81, e104_82, e104_83, e104_84, e104_85, e104_86, e104_87, e104_88, e104_89, e104_90, e104_91, e104_92, e104_93, e104_94, e104_95, e104_96, e104_98, e104_99, e104_100, e104_101, e104_102, e104_103, e104_104, e104_105, e104_106, e104_107, e104_108, e104_109, e104_110, e104_111, e104_112, e104_113, e104_114, e104_115, e104_116, e104_117, e104_118, e104_119, e104_120, e104_121, e104_122, e104_123, e104_124, e104_125, e104_126, e104_127, e104_128, e104_129, e104_130, e104_131, e104_132, e104_133, e104_134, e104_135, e104_136, e104_137, e104_138, e104_139, e104_141, e104_142, e104_143, e104_144, e104_145, e104_146, e104_147, e104_148, e104_149, e104_150, e104_151, e104_152, e104_153, e104_154, e104_155, e104_156, yW_f _ _ ha, jb_some, jb_tl, if_true]
  · rcases jb_case b (show 4 < 2 ^ 31 by decide) with hb | ⟨p, hp, rfl⟩
    · refine jr_same h' (r := -1) ?_ ?_
      · simp only [e17_0, e17_1, e17_2, e17_3, e17_4, e17_5, e17_6, e17_7, e17_8, e17_9, e17_10, e17_11, e17_12, e17_13, e17_14, e17_15, e17_16, e17_17, e17_18, e17_19, e17_20, e17_21, e17_22, e17_23, e17_24, e17_25, e17_26, e17_27, e17_28, e17_29, e17_30, e17_31, e17_32, e17_33, e17_34, e17_35, e17_36, e17_37, e17_38, e17_39, e17_40, e17_41, e17_42, e17_43, e17_44, e17_45, e17_46, e17_47, e17_48, xW_t _ _ hw, xP_f _ _ hb, jb_some, jb_tl, nf_0_1, nf_0_2, nf_0_3, nf_0_4, nf_0_5, nf_0_6, nf_1_0, nf_1_2, nf_1_3, nf_1_4, nf_1_5, nf_1_6, nf_2_0, nf_2_1, nf_2_3, nf_2_4, nf_2_5, nf_2_6, nf_3_0, nf_3_1, nf_3_2, nf_3_4, nf_3_5, nf_3_6, nf_4_0, nf_4_1, nf_4_2, nf_4_3, nf_4_5, nf_4_6, nf_5_0, nf_5_1, nf_5_2, nf_5_3, nf_5_4, nf_5_6, nf_6_0, nf_6_1, nf_6_2, nf_6_3, nf_6_4, nf_6_5, if_false, if_true]
      · simp only [e104_0, e104_1, e104_2, e104_3, e104_4, e104_5, e104_6, e104_7, e104_8, e104_9, e104_10, e104_11, e104_12, e104_13, e104_14, e104_15, e104_16, e104_17, e104_18, e104_19, e104_20, e104_21, e104_22, e104_23, e104_24, e104_25, e104_26, e104_27, e104_28, e104_29, e104_30, e104_31, e104_32, e104_33, e104_34, e104_35, e104_36, e104_37, e104_38, e104_39, e104_40, e104_41, e104_42, e104_43, e104_44, e104_45, e104_46, e104_47, e104_48, e104_49, e104_50, e104_51, e104_52, e104_53, e104_54, e104_55, e104_56, e104_57, e104_58, e104_59, e104_60, e104_61, e104_62, e104_63, e104_64, e104_65, e104_66, e104_67, e104_68, e104_69, e104_70, e104_71, e104_73, e104_74, e104_75, e104_76, e104_77, e104_78, e104_79, e104_80, e104_81, e104_82, e104_83, e104_84, e104_85, e104_86, e104_87, e104_88, e104_89, e104_90, e104_91, e104_92, e104_93, e104_94, e104_95, e104_96, e104_98, e104_99, e104_100, e104_101, e104_102, e104_103, e104_104, e104_105, e104_106, e104_107, e104_108, e104_109, e104_110, e104_111, e104_112, e104_113, e104_114, e104_115, e104_116, e104_117, e104_118, e104_119, e104_120, e104_121, e104_122, e104_123, e104_124, e104_125, e104_126, e104_127, e104_128, e104_129, e104_130, e104_131, e104_132, e104_133, e104_134, e104_135, e104_136, e104_137, e104_138, e104_139, e104_141, e104_142, e104_143, e104_144, e104_145, e104_146, e104_147, e104_148, e104_149, e104_150, e104_151, e104_152, e104_153, e104_154, e104_155, e104_156, yW_t _ _ hw, yP_f _ _ hb, jb_some, jb_tl, nf_0_1, nf_0_2, nf_0_3, nf_0_4, nf_0_5, nf_0_6, nf_1_0, nf_1_2, nf_1_3, nf_1_4, nf_1_5, nf_1_6, nf_2_0, nf_2_1, nf_2_3, nf_2_4, nf_2_5, nf_2_6, nf_3_0, nf_3_1, nf_3_2, nf_3_4, nf_3_5, nf_3_6, nf_4_0, nf_4_1, nf_4_2, nf_4_3, nf_4_5, nf_4_6, nf_5_0, nf_5_1, nf_5_2, nf_5_3, nf_5_4, nf_5_6, nf_6_0, nf_6_1, nf_6_2, nf_6_3, nf_6_4, nf_6_5, if_false, if_true]
    · obtain ⟨s, h1, h2, h3, -⟩ := hW w hw
      by_cases hs : s = 0
      · subst hs
        have sz : ∀ d, jm_D d 19 0 [some (.inr (some (4, 0)))] [] M = some (some (.inl (nI (jm_c M 25))), M) := fun d => by
          have := xl_size_4 (d := d) t5
          rw [List.length_range] at this
          exact this
        by_cases hT : jm_c M 25 < 100
        · have c1 : nI (jm_c M 25) < nI 100 := nI_lt hT (by decide)
          have c2 : ¬ nI (jm_c M 25) = nI 100 := fun e => absurd ((nI_eq (by omega) (by decide)).mp e) (by omega)
          have t5' : jx_L (jx_new M) 4 0 (List.range (jm_c M 25)) := jx_Lc t5 rfl rfl ⟨⟨rfl, rfl⟩, ⟨rfl, rfl⟩, rfl, rfl⟩
          obtain ⟨Q, q1, q2⟩ := xl_add_4 (d := d) (t := jm_c M 25) t5' (show jm_n (jx_new M) 74 0 = 0 from hN.2.2.2.2.2.2) (by rw [List.length_range]; exact hT)
          have sz2 : jm_D (d + 6) 19 0 [some (.inr (some (4, 0)))] [] (jm_mk M 25 0 7) = some (some (.inl (nI (jm_c M 25))), jm_mk M 25 0 7) := by
            have := xl_size_4 (d := d + 6) (M := jm_mk M 25 0 7) (show jx_L (jm_mk M 25 0 7) 4 0 (List.range (jm_c M 25)) from jx_Lc t5 rfl rfl ⟨⟨rfl, rfl⟩, ⟨rfl, rfl⟩, rfl, rfl⟩)
            rw [List.length_range] at this
            exact this
          have hXr : jx_S (jm_rep (jx_new M) Q 4) := hX
          have hXn : jx_S (jx_new M) := hX
          have hXm : jx_S (jm_mk M 25 0 7) := hX
          have g0 : jm_I (jx_st M Q w p x y) 25 (jm_c M 25) 0 = nI (jm_c M 25 + 1) := (nw_T M).1
          refine ⟨nI (jm_c M 25 + 1), jx_st M Q w p x y, jy_st N (jm_c M 25) w p x y, ?_, ?_, jr_start h' hw hp h3 hT x y q2, ?_, jr_B0 _⟩
          · simp only [e17_0, e17_1, e17_2, e17_3, e17_4, e17_5, e17_8, e17_9, e17_10, e17_11, e17_12, e17_13, e17_16, e17_17, e17_18, e17_19, e17_20, e17_23, e17_24, e17_25, e17_26, e17_27, e17_28, e17_29, e17_30, xs_0 hX, xs_1 hX, xs_2 hX, xs_3 hX, xs_4 hX, xs_5 hX, xs_6 hX, xs_7 hX, xs_8 hX, xs_9 hX, xs_10 hX, xs_11 hX, xs_12 hX, xs_13 hX, xs_14 hX, xs_15 hX, xs_16 hX, xs_17 hX, xs_18 hX, xs_19 hX, xw_0 hX hw, xw_1 hX hw, xw_2 hX hw, xw_3 hX hw, xw_4 hX hw, xw_5 hX hw, xw_6 hX hw, xw_7 hX hw, xw_8 hX hw, xW_t _ _ hw, xP_t _ _ hp, jb_some, jb_tl, nf_0_1, nf_0_2, nf_0_3, nf_0_4, nf_0_5, nf_0_6, nf_1_0, nf_1_2, nf_1_3, nf_1_4, nf_1_5, nf_1_6, nf_2_0, nf_2_1, nf_2_3, nf_2_4, nf_2_5, nf_2_6, nf_3_0, nf_3_1, nf_3_2, nf_3_4, nf_3_5, nf_3_6, nf_4_0, nf_4_1, nf_4_2, nf_4_3, nf_4_5, nf_4_6, nf_5_0, nf_5_1, nf_5_2, nf_5_3, nf_5_4, nf_5_6, nf_6_0, nf_6_1, nf_6_2, nf_6_3, nf_6_4, nf_6_5, if_false, if_true, jb_ix hw (by decide), h2, sz, if_pos c1]
            simp only [xs_0 hXm, xs_1 hXm, xs_2 hXm, xs_3 hXm, xs_4 hXm, xs_5 hXm, xs_6 hXm, xs_7 hXm, xs_8 hXm, xs_9 hXm, xs_10 hXm, xs_11 hXm, xs_12 hXm, xs_13 hXm, xs_14 hXm, xs_15 hXm, xs_16 hXm, xs_17 hXm, xs_18 hXm, xs_19 hXm, sz2, jb_some, jb_tl, e17_27, e17_28, e17_29, nI_add, e17_30, xNew, jb_tn, e17_31, e17_32, e17_33, xs_0 hXn, xs_1 hXn, xs_2 hXn, xs_3 hXn, xs_4 hXn, xs_5 hXn, xs_6 hXn, xs_7 hXn, xs_8 hXn, xs_9 hXn, xs_10 hXn, xs_11 hXn, xs_12 hXn, xs_13 hXn, xs_14 hXn, xs_15 hXn, xs_16 hXn, xs_17 hXn, xs_18 hXn, xs_19 hXn, e17_34, e17_35, q1, e17_36, e17_37, e17_38, xs_0 hXr, xs_1 hXr, xs_2 hXr, xs_3 hXr, xs_4 hXr, xs_5 hXr, xs_6 hXr, xs_7 hXr, xs_8 hXr, xs_9 hXr, xs_10 hXr, xs_11 hXr, xs_12 hXr, xs_13 hXr, xs_14 hXr, xs_15 hXr, xs_16 hXr, xs_17 hXr, xs_18 hXr, xs_19 hXr, e17_39, e17_40, xw_0 hXr hw, xw_1 hXr hw, xw_2 hXr hw, xw_3 hXr hw, xw_4 hXr hw, xw_5 hXr hw, xw_6 hXr hw, xw_7 hXr hw, xw_8 hXr hw, jb_ix hw (by decide), e17_41, e17_42, e17_43, e17_44, e17_45, xBeg hXr hw, e17_46, e17_47]
            show jm_D _ _ _ _ _ (jx_st M Q w p x y) = _
            simp only [e17_48]
            exact congrArg some (Prod.ext (congrArg some (congrArg _ g0)) rfl)
          · simp only [e104_0, e104_1, e104_2, e104_3, e104_4, e104_5, e104_8, e104_9, e104_10, e104_11, e104_12, e104_15, e104_16, e104_17, e104_18, ys_0 hY, ys_1 hY, ys_2 hY, ys_3 hY, ys_4 hY, ys_5 hY, ys_6 hY, ys_7 hY, ys_8 hY, ys_9 hY, ys_10 hY, ys_11 hY, ys_12 hY, ys_13 hY, ys_14 hY, ys_15 hY, ys_16 hY, ys_17 hY, ys_18 hY, ys_19 hY, ys_20 hY, ys_21 hY, ys_22 hY, ys_23 hY, ys_24 hY, ys_25 hY, ys_26 hY, ys_27 hY, ys_28 hY, ys_29 hY, ys_30 hY, ys_31 hY, ys_32 hY, ys_33 hY, ys_34 hY, ys_35 hY, ys_36 hY, ys_37 hY, ys_38 hY, ys_39 hY, ys_40 hY, ys_41 hY, ys_42 hY, ys_43 hY, ys_44 hY, ys_45 hY, ys_46 hY, ys_47 hY, ys_48 hY, ys_49 hY, ys_50 hY, ys_51 hY, ys_52 hY, ys_53 hY, ys_54 hY, ys_55 hY, ys_56 hY, ys_57 hY, ys_58 hY, ys_59 hY, ys_60 hY, ys_61 hY, ys_62 hY, ys_63 hY, ys_64 hY, ys_65 hY, ys_66 hY, ys_67 hY, ys_68 hY, ys_69 hY, ys_70 hY, ys_71 hY, ys_72 hY, ys_73 hY, ys_74 hY, ys_75 hY, ys_76 hY, ys_77 hY, yW_t _ _ hw, yP_t _ _ hp, jb_some, jb_tl, nf_0_1, nf_0_2, nf_0_3, nf_0_4, nf_0_5, nf_0_6, nf_1_0, nf_1_2, nf_1_3, nf_1_4, nf_1_5, nf_1_6, nf_2_0, nf_2_1, nf_2_3, nf_2_4, nf_2_5, nf_2_6, nf_3_0, nf_3_1, nf_3_2, nf_3_4, nf_3_5, nf_3_6, nf_4_0, nf_4_1, nf_4_2, nf_4_3, nf_4_5, nf_4_6, nf_5_0, nf_5_1, nf_5_2, nf_5_3, nf_5_4, nf_5_6, nf_6_0, nf_6_1, nf_6_2, nf_6_3, nf_6_4, nf_6_5, if_false, if_true, jb_ix hw (by decide), h3, t4, if_neg c2]
            exact yBeg hY hw hT t4 (nI p) x y
          · obtain ⟨-, -, -, -, -, ⟨z1, z2⟩, -⟩ := q2
            have e1 : (jm_al (jx_new M)).length = (jm_al M).length + 3 := by
              show (((jm_al M ++ [_]) ++ [_]) ++ [_]).length = _
              simp only [List.length_append, List.length_singleton]
            have e2 : jm_sl (jx_new M) = jm_sl M + 7 + 32 + 32 := rfl
            exact ⟨Nat.le_trans z1 (by omega), Nat.le_trans z2 (by omega)⟩
        · have hT2 : jm_c M 25 = 100 := by omega
          rw [hT2] at sz t4
          have c1 : ¬ nI 100 < nI 100 := by decide
          refine jr_same h' (r := -3) ?_ ?_
          · simp only [e17_0, e17_1, e17_2, e17_3, e17_4, e17_5, e17_6, e17_7, e17_8, e17_9, e17_10, e17_11, e17_12, e17_13, e17_14, e17_15, e17_16, e17_17, e17_18, e17_19, e17_20, e17_21, e17_22, e17_23, e17_24, e17_25, e17_26, e17_27, e17_28, e17_29, e17_30, e17_31, e17_32, e17_33, e17_34, e17_35, e17_36, e17_37, e17_38, e17_39, e17_40, e17_41, e17_42, e17_43, e17_44, e17_45, e17_46, e17_47, e17_48, xs_0 hX, xs_1 hX, xs_2 hX, xs_3 hX, xs_4 hX, xs_5 hX, xs_6 hX, xs_7 hX, xs_8 hX, xs_9 hX, xs_10 hX, xs_11 hX, xs_12 hX, xs_13 hX, xs_14 hX, xs_15 hX, xs_16 hX, xs_17 hX, xs_18 hX, xs_19 hX, xw_0 hX hw, xw_1 hX hw, xw_2 hX hw, xw_3 hX hw, xw_4 hX hw, xw_5 hX hw, xw_6 hX hw, xw_7 hX hw, xw_8 hX hw, xW_t _ _ hw, xP_t _ _ hp, jb_some, jb_tl, nf_0_1, nf_0_2, nf_0_3, nf_0_4, nf_0_5, nf_0_6, nf_1_0, nf_1_2, nf_1_3, nf_1_4, nf_1_5, nf_1_6, nf_2_0, nf_2_1, nf_2_3, nf_2_4, nf_2_5, nf_2_6, nf_3_0, nf_3_1, nf_3_2, nf_3_4, nf_3_5, nf_3_6, nf_4_0, nf_4_1, nf_4_2, nf_4_3, nf_4_5, nf_4_6, nf_5_0, nf_5_1, nf_5_2, nf_5_3, nf_5_4, nf_5_6, nf_6_0, nf_6_1, nf_6_2, nf_6_3, nf_6_4, nf_6_5, if_false, if_true, jb_ix hw (by decide), h2, sz, if_neg c1]
          · simp only [e104_0, e104_1, e104_2, e104_3, e104_4, e104_5, e104_6, e104_7, e104_8, e104_9, e104_10, e104_11, e104_12, e104_13, e104_14, e104_15, e104_16, e104_17, e104_18, e104_19, e104_20, e104_21, e104_22, e104_23, e104_24, e104_25, e104_26, e104_27, e104_28, e104_29, e104_30, e104_31, e104_32, e104_33, e104_34, e104_35, e104_36, e104_37, e104_38, e104_39, e104_40, e104_41, e104_42, e104_43, e104_44, e104_45, e104_46, e104_47, e104_48, e104_49, e104_50, e104_51, e104_52, e104_53, e104_54, e104_55, e104_56, e104_57, e104_58, e104_59, e104_60, e104_61, e104_62, e104_63, e104_64, e104_65, e104_66, e104_67, e104_68, e104_69, e104_70, e104_71, e104_73, e104_74, e104_75, e104_76, e104_77, e104_78, e104_79, e104_80, e104_81, e104_82, e104_83, e104_84, e104_85, e104_86, e104_87, e104_88, e104_89, e104_90, e104_91, e104_92, e104_93, e104_94, e104_95, e104_96, e104_98, e104_99, e104_100, e104_101, e104_102, e104_103, e104_104, e104_105, e104_106, e104_107, e104_108, e104_109, e104_110, e104_111, e104_112, e104_113, e104_114, e104_115, e104_116, e104_117, e104_118, e104_119, e104_120, e104_121, e104_122, e104_123, e104_124, e104_125, e104_126, e104_127, e104_128, e104_129, e104_130, e104_131, e104_132, e104_133, e104_134, e104_135, e104_136, e104_137, e104_138, e104_139, e104_141, e104_142, e104_143, e104_144, e104_145, e104_146, e104_147, e104_148, e104_149, e104_150, e104_151, e104_152, e104_153, e104_154, e104_155, e104_156, ys_0 hY, ys_1 hY, ys_2 hY, ys_3 hY, ys_4 hY, ys_5 hY, ys_6 hY, ys_7 hY, ys_8 hY, ys_9 hY, ys_10 hY, ys_11 hY, ys_12 hY, ys_13 hY, ys_14 hY, ys_15 hY, ys_16 hY, ys_17 hY, ys_18 hY, ys_19 hY, ys_20 hY, ys_21 hY, ys_22 hY, ys_23 hY, ys_24 hY, ys_25 hY, ys_26 hY, ys_27 hY, ys_28 hY, ys_29 hY, ys_30 hY, ys_31 hY, ys_32 hY, ys_33 hY, ys_34 hY, ys_35 hY, ys_36 hY, ys_37 hY, ys_38 hY, ys_39 hY, ys_40 hY, ys_41 hY, ys_42 hY, ys_43 hY, ys_44 hY, ys_45 hY, ys_46 hY, ys_47 hY, ys_48 hY, ys_49 hY, ys_50 hY, ys_51 hY, ys_52 hY, ys_53 hY, ys_54 hY, ys_55 hY, ys_56 hY, ys_57 hY, ys_58 hY, ys_59 hY, ys_60 hY, ys_61 hY, ys_62 hY, ys_63 hY, ys_64 hY, ys_65 hY, ys_66 hY, ys_67 hY, ys_68 hY, ys_69 hY, ys_70 hY, ys_71 hY, ys_72 hY, ys_73 hY, ys_74 hY, ys_75 hY, ys_76 hY, ys_77 hY, yW_t _ _ hw, yP_t _ _ hp, jb_some, jb_tl, nf_0_1, nf_0_2, nf_0_3, nf_0_4, nf_0_5, nf_0_6, nf_1_0, nf_1_2, nf_1_3, nf_1_4, nf_1_5, nf_1_6, nf_2_0, nf_2_1, nf_2_3, nf_2_4, nf_2_5, nf_2_6, nf_3_0, nf_3_1, nf_3_2, nf_3_4, nf_3_5, nf_3_6, nf_4_0, nf_4_1, nf_4_2, nf_4_3, nf_4_5, nf_4_6, nf_5_0, nf_5_1, nf_5_2, nf_5_3, nf_5_4, nf_5_6, nf_6_0, nf_6_1, nf_6_2, nf_6_3, nf_6_4, nf_6_5, if_false, if_true, jb_ix hw (by decide), h3, t4]
      · have hs2 : ¬ nI s = nI 0 := fun e => hs ((nI_eq (by omega) (by decide)).mp e)
        refine jr_same h' (r := -2) ?_ ?_
        · simp only [e17_0, e17_1, e17_2, e17_3, e17_4, e17_5, e17_6, e17_7, e17_8, e17_9, e17_10, e17_11, e17_12, e17_13, e17_14, e17_15, e17_16, e17_17, e17_18, e17_19, e17_20, e17_21, e17_22, e17_23, e17_24, e17_25, e17_26, e17_27, e17_28, e17_29, e17_30, e17_31, e17_32, e17_33, e17_34, e17_35, e17_36, e17_37, e17_38, e17_39, e17_40, e17_41, e17_42, e17_43, e17_44, e17_45, e17_46, e17_47, e17_48, xs_0 hX, xs_1 hX, xs_2 hX, xs_3 hX, xs_4 hX, xs_5 hX, xs_6 hX, xs_7 hX, xs_8 hX, xs_9 hX, xs_10 hX, xs_11 hX, xs_12 hX, xs_13 hX, xs_14 hX, xs_15 hX, xs_16 hX, xs_17 hX, xs_18 hX, xs_19 hX, xw_0 hX hw, xw_1 hX hw, xw_2 hX hw, xw_3 hX hw, xw_4 hX hw, xw_5 hX hw, xw_6 hX hw, xw_7 hX hw, xw_8 hX hw, xW_t _ _ hw, xP_t _ _ hp, jb_some, jb_tl, nf_0_1, nf_0_2, nf_0_3, nf_0_4, nf_0_5, nf_0_6, nf_1_0, nf_1_2, nf_1_3, nf_1_4, nf_1_5, nf_1_6, nf_2_0, nf_2_1, nf_2_3, nf_2_4, nf_2_5, nf_2_6, nf_3_0, nf_3_1, nf_3_2, nf_3_4, nf_3_5, nf_3_6, nf_4_0, nf_4_1, nf_4_2, nf_4_3, nf_4_5, nf_4_6, nf_5_0, nf_5_1, nf_5_2, nf_5_3, nf_5_4, nf_5_6, nf_6_0, nf_6_1, nf_6_2, nf_6_3, nf_6_4, nf_6_5, if_false, if_true, jb_ix hw (by decide), h2, if_neg hs2]
        · simp only [e104_0, e104_1, e104_2, e104_3, e104_4, e104_5, e104_6, e104_7, e104_8, e104_9, e104_10, e104_11, e104_12, e104_13, e104_14, e104_15, e104_16, e104_17, e104_18, e104_19, e104_20, e104_21, e104_22, e104_23, e104_24, e104_25, e104_26, e104_27, e104_28, e104_29, e104_30, e104_31, e104_32, e104_33, e104_34, e104_35, e104_36, e104_37, e104_38, e104_39, e104_40, e104_41, e104_42, e104_43, e104_44, e104_45, e104_46, e104_47, e104_48, e104_49, e104_50, e104_51, e104_52, e104_53, e104_54, e104_55, e104_56, e104_57, e104_58, e104_59, e104_60, e104_61, e104_62, e104_63, e104_64, e104_65, e104_66, e104_67, e104_68, e104_69, e104_70, e104_71, e104_73, e104_74, e104_75, e104_76, e104_77, e104_78, e104_79, e104_80, e104_81, e104_82, e104_83, e104_84, e104_85, e104_86, e104_87, e104_88, e104_89, e104_90, e104_91, e104_92, e104_93, e104_94, e104_95, e104_96, e104_98, e104_99, e104_100, e104_101, e104_102, e104_103, e104_104, e104_105, e104_106, e104_107, e104_108, e104_109, e104_110, e104_111, e104_112, e104_113, e104_114, e104_115, e104_116, e104_117, e104_118, e104_119, e104_120, e104_121, e104_122, e104_123, e104_124, e104_125, e104_126, e104_127, e104_128, e104_129, e104_130, e104_131, e104_132, e104_133, e104_134, e104_135, e104_136, e104_137, e104_138, e104_139, e104_141, e104_142, e104_143, e104_144, e104_145, e104_146, e104_147, e104_148, e104_149, e104_150, e104_151, e104_152, e104_153, e104_154, e104_155, e104_156, ys_0 hY, ys_1 hY, ys_2 hY, ys_3 hY, ys_4 hY, ys_5 hY, ys_6 hY, ys_7 hY, ys_8 hY, ys_9 hY, ys_10 hY, ys_11 hY, ys_12 hY, ys_13 hY, ys_14 hY, ys_15 hY, ys_16 hY, ys_17 hY, ys_18 hY, ys_19 hY, ys_20 hY, ys_21 hY, ys_22 hY, ys_23 hY, ys_24 hY, ys_25 hY, ys_26 hY, ys_27 hY, ys_28 hY, ys_29 hY, ys_30 hY, ys_31 hY, ys_32 hY, ys_33 hY, ys_34 hY, ys_35 hY, ys_36 hY, ys_37 hY, ys_38 hY, ys_39 hY, ys_40 hY, ys_41 hY, ys_42 hY, ys_43 hY, ys_44 hY, ys_45 hY, ys_46 hY, ys_47 hY, ys_48 hY, ys_49 hY, ys_50 hY, ys_51 hY, ys_52 hY, ys_53 hY, ys_54 hY, ys_55 hY, ys_56 hY, ys_57 hY, ys_58 hY, ys_59 hY, ys_60 hY, ys_61 hY, ys_62 hY, ys_63 hY, ys_64 hY, ys_65 hY, ys_66 hY, ys_67 hY, ys_68 hY, ys_69 hY, ys_70 hY, ys_71 hY, ys_72 hY, ys_73 hY, ys_74 hY, ys_75 hY, ys_76 hY, ys_77 hY, yW_t _ _ hw, yP_t _ _ hp, jb_some, jb_tl, nf_0_1, nf_0_2, nf_0_3, nf_0_4, nf_0_5, nf_0_6, nf_1_0, nf_1_2, nf_1_3, nf_1_4, nf_1_5, nf_1_6, nf_2_0, nf_2_1, nf_2_3, nf_2_4, nf_2_5, nf_2_6, nf_3_0, nf_3_1, nf_3_2, nf_3_4, nf_3_5, nf_3_6, nf_4_0, nf_4_1, nf_4_2, nf_4_3, nf_4_5, nf_4_6, nf_5_0, nf_5_1, nf_5_2, nf_5_3, nf_5_4, nf_5_6, nf_6_0, nf_6_1, nf_6_2, nf_6_3, nf_6_4, nf_6_5, if_false, if_true, jb_ix hw (by decide), h3, if_neg hs2]
