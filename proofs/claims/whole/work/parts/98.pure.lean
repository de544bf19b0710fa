/-! The law. -/
theorem jf_Ln {G : Nat → Bool} {l : List (Option jm_V)} (h : jf_L G l) : jf_L G (none :: l) := fun v hv => by
  rcases List.mem_cons.mp hv with e | e
  · cases e
  · exact h v e
theorem jf_Li {G : Nat → Bool} {l : List (Option jm_V)} (x : Int32) (h : jf_L G l) : jf_L G (some (.inl x) :: l) := fun v hv => by
  rcases List.mem_cons.mp hv with e | e
  · cases e; exact fun y hy => by cases hy
  · exact h v e
theorem jf_Lr {G : Nat → Bool} {l : List (Option jm_V)} {q : Nat × Nat} (hq : G q.1 = true) (h : jf_L G l) : jf_L G (some (.inr (some q)) :: l) := fun v hv => by
  rcases List.mem_cons.mp hv with e | e
  · cases e
    intro y hy p hp
    cases hy
    cases hp
    exact hq
  · exact h v e
theorem jf_L0 {G : Nat → Bool} : jf_L G [] := fun v hv => by cases hv
def jl_V (E C L : Nat) (xs : Nat → Int32) (K : jm_M) : Prop := jr_R E C K K ∧ jf_M jf_g5 K ∧ jf_M jf_gY K ∧ jm_n K 75 0 = L ∧ ∀ j, jm_I K 75 0 j = xs j
theorem jl_call {d i i' E C E' C' L : Nat} {xs : Nat → Int32} {K : jm_M} {L1 L2 : List (Option jm_V)} (hK : jl_V E C L xs K) (hi : i < 98) (h1 : 98 ≤ i') (h2 : i' < 149) (l1 : jf_L jf_g5 L1) (l2 : jf_L jf_gY L2) (hc : ∀ M N, jr_R E C M N → jr_O E' C' M N (jm_D d i 0 L1 [] M) (jm_D d i' 0 L2 [] N)) : ∃ r K1 K2, jm_D d i 0 L1 [] K = some (some (.inl r), K1) ∧ jm_D d i' 0 L2 [] K1 = some (some (.inl r), K2) ∧ (jm_n K1 75 0 = L ∧ ∀ j, jm_I K1 75 0 j = xs j) ∧ jl_V E' C' L xs K2 ∧ (jm_al K2).length ≤ (jm_al K).length + 16 ∧ jm_sl K2 ≤ jm_sl K + 2000 := by
  obtain ⟨hR, m5, mY, n75, i75⟩ := hK
  obtain ⟨r, K1, -, a1, -, -, a4, -⟩ := hc K K hR
  obtain ⟨-, m5', f5⟩ := jf_D jf_t5 a1 (Nat.ble_eq_true_of_le hi) (fun v hv => by cases hv) l1 m5
  have ag1 : jf_ag jf_gY K K1 := by
    intro k hk
    refine f5 k ?_
    unfold jf_gY at hk
    rw [Bool.and_eq_true] at hk
    have e1 := Nat.le_of_ble_eq_true hk.1
    have e2 := Nat.le_of_ble_eq_true hk.2
    unfold jf_g5
    rw [Bool.eq_false_iff]
    intro z
    rw [Bool.or_eq_true, Bool.and_eq_true, Bool.and_eq_true] at z
    rcases z with z | z
    · have := Nat.le_of_ble_eq_true z; omega
    · have := Nat.le_of_ble_eq_true z.1.1; omega
  have agr : ∀ (G : Nat → Bool) (M : jm_M), jf_ag G M M := fun _ _ _ _ => ⟨rfl, rfl, rfl, rfl⟩
  have hR1 : jr_R E C K K1 := jr_cg hR (agr _ _) ag1
  obtain ⟨r', M', K2, b1, b2, b3, b4, b5⟩ := hc K K1 hR1
  rw [a1] at b1
  have eq1 := Option.some.inj b1
  have er : r = r' := Sum.inl.inj (Option.some.inj (congrArg Prod.fst eq1))
  have eM : K1 = M' := congrArg Prod.snd eq1
  subst er eM
  have mY1 : jf_M jf_gY K1 := fun k a b hk => by rw [(ag1 k hk).2.1]; exact mY k a b hk
  obtain ⟨-, mY2, fY⟩ := jf_D jf_tY b2 (show (Nat.ble 98 i' && Nat.blt i' 149) = true by rw [Nat.ble_eq_true_of_le h1]; exact Nat.ble_eq_true_of_le h2) (fun v hv => by cases hv) l2 mY1
  have out : ∀ k, k < 31 ∨ 70 < k → jf_gY k = false := by
    intro k hk
    unfold jf_gY
    rw [Bool.eq_false_iff]
    intro z
    rw [Bool.and_eq_true] at z
    have e1 := Nat.le_of_ble_eq_true z.1
    have e2 := Nat.le_of_ble_eq_true z.2
    omega
  have ag2 : jf_ag jf_g5 K1 K2 := by
    intro k hk
    refine fY k (out k ?_)
    unfold jf_g5 at hk
    rw [Bool.or_eq_true, Bool.and_eq_true, Bool.and_eq_true] at hk
    rcases hk with z | z
    · have := Nat.le_of_ble_eq_true z; omega
    · have := Nat.le_of_ble_eq_true z.1.1; omega
  have n1 : jm_n K1 75 0 = L := by rw [(f5 75 rfl).2.2.1]; exact n75
  have i1 : ∀ j, jm_I K1 75 0 j = xs j := fun j => by rw [(f5 75 rfl).1]; exact i75 j
  refine ⟨r, K1, K2, a1, b2, ⟨n1, i1⟩, ⟨jr_cg b3 ag2 (agr _ _), fun k a b hk => by rw [(ag2 k hk).2.1]; exact m5' k a b hk, mY2, by rw [(fY 75 rfl).2.2.1]; exact n1, fun j => by rw [(fY 75 rfl).1]; exact i1 j⟩, ?_, ?_⟩
  · have := b5.1; have := b4.1; omega
  · have := b5.2; have := b4.2; omega
theorem jl_rd {E C : Nat} {M N : jm_M} {X Y : jm_Z} (h : jr_R E C M N) (hr : ∃ r, X = some (some (.inl r), M) ∧ Y = some (some (.inl r), N)) : jr_O E C M N X Y := by
  obtain ⟨r, h1, h2⟩ := hr
  exact jr_same h h1 h2
theorem jb_15 (x : Int32) : ∃ j : Nat, j < 16 ∧ x &&& nI 15 = nI j := by
  refine ⟨(x.toBitVec &&& 15#32).toNat, ?_, ?_⟩
  · rw [BitVec.toNat_and]
    exact Nat.lt_of_le_of_lt Nat.and_le_right (by decide)
  · apply Int32.toBitVec_inj.mp
    rw [Int32.toBitVec_and]
    show x.toBitVec &&& 15#32 = BitVec.ofNat 32 (x.toBitVec &&& 15#32).toNat
    rw [BitVec.ofNat_toNat, BitVec.setWidth_eq]
theorem jl_k0 {d E C n L : Nat} {xs : Nat → Int32} {K : jm_M} (hK : jl_V E C L xs K) (hn : 6 * n + 6 ≤ L) (hL : L ≤ 3072) : ∃ K2, jm_D (d + 11) 149 22 [some (.inr (some (75, 0))), some (.inr (some (0, 0))), some (.inr (some (31, 0))), some (.inl (nI (6 * n)))] [] K = jm_D (d + 11) 149 10 [some (.inr (some (75, 0))), some (.inr (some (0, 0))), some (.inr (some (31, 0))), some (.inl (nI (6 * (n + 1))))] [] K2 ∧ jl_V E C L xs K2 ∧ (jm_al K2).length ≤ (jm_al K).length + 16 ∧ jm_sl K2 ≤ jm_sl K + 2000 := by
  obtain ⟨-, -, -, n75, i75⟩ := id hK
  obtain ⟨r, K1, K2, a1, a2, ⟨n1, j1⟩, a3, a4, a5⟩ := jl_call (d := d + 10) (i := 10) (i' := 99) (L1 := [some (.inr (some (0, 0))), some (.inl (xs (6 * n + 1))), some (.inl (xs (6 * n + 2))), some (.inl (xs (6 * n + 3))), some (.inl (xs (6 * n + 4))), some (.inl (xs (6 * n + 5)))]) (L2 := [some (.inr (some (31, 0))), some (.inl (xs (6 * n + 1))), some (.inl (xs (6 * n + 2))), some (.inl (xs (6 * n + 3))), some (.inl (xs (6 * n + 4))), some (.inl (xs (6 * n + 5))), none]) hK (by decide) (by decide) (by decide) (jf_Lr (q := (0, 0)) rfl (jf_Li _ (jf_Li _ (jf_Li _ (jf_Li _ (jf_Li _ jf_L0)))))) (jf_Lr (q := (31, 0)) rfl (jf_Li _ (jf_Li _ (jf_Li _ (jf_Li _ (jf_Li _ (jf_Ln jf_L0))))))) (fun M N hR => sm_code (d := d + 8) hR (xs (6 * n + 1)) (xs (6 * n + 2)) (xs (6 * n + 3)) (xs (6 * n + 4)) (xs (6 * n + 5)))
  refine ⟨K2, ?_, a3, a4, a5⟩
  simp only [e149_22, e149_23, e149_24, e149_25, e149_26, e149_27, e149_28, e149_29, e149_30, e149_31, e149_32, e149_33, e149_34, e149_35, e149_36, e149_37, e149_38, e149_39, e149_40, e149_41, e149_42, e149_43, e149_44, e149_45, e149_46, e149_47, e149_48, e149_49, e149_50, e149_51, e149_52, e149_53, e149_54, e149_55, e149_56, e149_57, e149_58, e149_59, e149_60, e149_61, e149_62, e149_63, e149_64, e149_65, e149_66, e149_67, e149_68, e149_69, e149_70, e149_71, e149_72, e149_73, e149_74, e149_75, e149_76, jb_ix (show 6 * n + 1 < L by omega) (by omega), jb_ix (show 6 * n + 2 < L by omega) (by omega), jb_ix (show 6 * n + 3 < L by omega) (by omega), jb_ix (show 6 * n + 4 < L by omega) (by omega), jb_ix (show 6 * n + 5 < L by omega) (by omega), n75, i75, n1, j1, nI_add, a1, a2, jb_some, jb_tl, if_true, e149_414, e149_415]
  rfl
theorem jl_k1 {d E C n L : Nat} {xs : Nat → Int32} {K : jm_M} (hK : jl_V E C L xs K) (hn : 6 * n + 6 ≤ L) (hL : L ≤ 3072) : ∃ K2, jm_D (d + 11) 149 79 [some (.inr (some (75, 0))), some (.inr (some (0, 0))), some (.inr (some (31, 0))), some (.inl (nI (6 * n)))] [] K = jm_D (d + 11) 149 10 [some (.inr (some (75, 0))), some (.inr (some (0, 0))), some (.inr (some (31, 0))), some (.inl (nI (6 * (n + 1))))] [] K2 ∧ jl_V E C L xs K2 ∧ (jm_al K2).length ≤ (jm_al K).length + 16 ∧ jm_sl K2 ≤ jm_sl K + 2000 := by
  obtain ⟨-, -, -, n75, i75⟩ := id hK
  obtain ⟨r, K1, K2, a1, a2, ⟨n1, j1⟩, a3, a4, a5⟩ := jl_call (d := d + 10) (i := 15) (i' := 103) (L1 := [some (.inr (some (0, 0))), some (.inl (xs (6 * n + 1)))]) (L2 := [some (.inr (some (31, 0))), some (.inl (xs (6 * n + 1))), none]) hK (by decide) (by decide) (by decide) (jf_Lr (q := (0, 0)) rfl (jf_Li _ jf_L0)) (jf_Lr (q := (31, 0)) rfl (jf_Li _ (jf_Ln jf_L0))) (fun M N hR => sm_clear (d := d + 9) hR (xs (6 * n + 1)))
  refine ⟨K2, ?_, a3, a4, a5⟩
  simp only [e149_79, e149_80, e149_81, e149_82, e149_83, e149_84, e149_85, e149_86, e149_87, e149_88, e149_89, e149_90, e149_91, e149_92, e149_93, jb_ix (show 6 * n + 1 < L by omega) (by omega), n75, i75, n1, j1, nI_add, a1, a2, jb_some, jb_tl, if_true, e149_414, e149_415]
  rfl
theorem jl_k2 {d E C n L : Nat} {xs : Nat → Int32} {K : jm_M} (hK : jl_V E C L xs K) (hn : 6 * n + 6 ≤ L) (hL : L ≤ 3072) : ∃ K2, jm_D (d + 11) 149 96 [some (.inr (some (75, 0))), some (.inr (some (0, 0))), some (.inr (some (31, 0))), some (.inl (nI (6 * n)))] [] K = jm_D (d + 11) 149 10 [some (.inr (some (75, 0))), some (.inr (some (0, 0))), some (.inr (some (31, 0))), some (.inl (nI (6 * (n + 1))))] [] K2 ∧ jl_V E C L xs K2 ∧ (jm_al K2).length ≤ (jm_al K).length + 16 ∧ jm_sl K2 ≤ jm_sl K + 2000 := by
  obtain ⟨-, -, -, n75, i75⟩ := id hK
  obtain ⟨r, K1, K2, a1, a2, ⟨n1, j1⟩, a3, a4, a5⟩ := jl_call (d := d + 10) (i := 17) (i' := 104) (L1 := [some (.inr (some (0, 0))), some (.inl (xs (6 * n + 1))), some (.inl (xs (6 * n + 2))), some (.inl (xs (6 * n + 3))), some (.inl (xs (6 * n + 4))), none]) (L2 := [some (.inr (some (31, 0))), some (.inl (xs (6 * n + 1))), some (.inl (xs (6 * n + 2))), some (.inl (xs (6 * n + 3))), some (.inl (xs (6 * n + 4))), none]) hK (by decide) (by decide) (by decide) (jf_Lr (q := (0, 0)) rfl (jf_Li _ (jf_Li _ (jf_Li _ (jf_Li _ (jf_Ln jf_L0)))))) (jf_Lr (q := (31, 0)) rfl (jf_Li _ (jf_Li _ (jf_Li _ (jf_Li _ (jf_Ln jf_L0)))))) (fun M N hR => sm_start (d := d + 3) hR (xs (6 * n + 1)) (xs (6 * n + 2)) (xs (6 * n + 3)) (xs (6 * n + 4)))
  refine ⟨K2, ?_, a3, a4, a5⟩
  simp only [e149_96, e149_97, e149_98, e149_99, e149_100, e149_101, e149_102, e149_103, e149_104, e149_105, e149_106, e149_107, e149_108, e149_109, e149_110, e149_111, e149_112, e149_113, e149_114, e149_115, e149_116, e149_117, e149_118, e149_119, e149_120, e149_121, e149_122, e149_123, e149_124, e149_125, e149_126, e149_127, e149_128, e149_129, e149_130, e149_131, e149_132, e149_133, e149_134, e149_135, e149_136, e149_137, e149_138, e149_139, e149_140, jb_ix (show 6 * n + 1 < L by omega) (by omega), jb_ix (show 6 * n + 2 < L by omega) (by omega), jb_ix (show 6 * n + 3 < L by omega) (by omega), jb_ix (show 6 * n + 4 < L by omega) (by omega), n75, i75, n1, j1, nI_add, a1, a2, jb_some, jb_tl, if_true, e149_414, e149_415]
  rfl
theorem jl_k3 {d E C n L : Nat} {xs : Nat → Int32} {K : jm_M} (hK : jl_V E C L xs K) (hn : 6 * n + 6 ≤ L) (hL : L ≤ 3072) (hC : C < 2 ^ 29) (hE : E < 2 ^ 19) : ∃ K2, jm_D (d + 11) 149 143 [some (.inr (some (75, 0))), some (.inr (some (0, 0))), some (.inr (some (31, 0))), some (.inl (nI (6 * n)))] [] K = jm_D (d + 11) 149 10 [some (.inr (some (75, 0))), some (.inr (some (0, 0))), some (.inr (some (31, 0))), some (.inl (nI (6 * (n + 1))))] [] K2 ∧ jl_V E (max C (1024 * E) + 1) L xs K2 ∧ (jm_al K2).length ≤ (jm_al K).length + 16 ∧ jm_sl K2 ≤ jm_sl K + 2000 := by
  obtain ⟨-, -, -, n75, i75⟩ := id hK
  obtain ⟨r, K1, K2, a1, a2, ⟨n1, j1⟩, a3, a4, a5⟩ := jl_call (d := d + 10) (i := 29) (i' := 106) (L1 := [some (.inr (some (0, 0))), some (.inl (xs (6 * n + 1)))]) (L2 := [some (.inr (some (31, 0))), some (.inl (xs (6 * n + 1)))]) hK (by decide) (by decide) (by decide) (jf_Lr (q := (0, 0)) rfl (jf_Li _ jf_L0)) (jf_Lr (q := (31, 0)) rfl (jf_Li _ jf_L0)) (fun M N hR => sm_step (d := d) hR hC hE (xs (6 * n + 1)))
  refine ⟨K2, ?_, a3, a4, a5⟩
  simp only [e149_143, e149_144, e149_145, e149_146, e149_147, e149_148, e149_149, e149_150, e149_151, e149_152, e149_153, e149_154, e149_155, e149_156, e149_157, jb_ix (show 6 * n + 1 < L by omega) (by omega), n75, i75, n1, j1, nI_add, a1, a2, jb_some, jb_tl, if_true, e149_414, e149_415]
  rfl
theorem jl_k4 {d E C n L : Nat} {xs : Nat → Int32} {K : jm_M} (hK : jl_V E C L xs K) (hn : 6 * n + 6 ≤ L) (hL : L ≤ 3072) (hC : max C (1024 * E) + 100 < 2 ^ 29) (hE : E < 2 ^ 19) : ∃ K2, jm_D (d + 11) 149 160 [some (.inr (some (75, 0))), some (.inr (some (0, 0))), some (.inr (some (31, 0))), some (.inl (nI (6 * n)))] [] K = jm_D (d + 11) 149 10 [some (.inr (some (75, 0))), some (.inr (some (0, 0))), some (.inr (some (31, 0))), some (.inl (nI (6 * (n + 1))))] [] K2 ∧ jl_V E (max C (1024 * E) + 100) L xs K2 ∧ (jm_al K2).length ≤ (jm_al K).length + 16 ∧ jm_sl K2 ≤ jm_sl K + 2000 := by
  obtain ⟨-, -, -, n75, i75⟩ := id hK
  obtain ⟨r, K1, K2, a1, a2, ⟨n1, j1⟩, a3, a4, a5⟩ := jl_call (d := d + 10) (i := 76) (i' := 133) (L1 := [some (.inr (some (0, 0))), some (.inl (xs (6 * n + 1))), some (.inl (xs (6 * n + 2))), none, none]) (L2 := [some (.inr (some (31, 0))), some (.inl (xs (6 * n + 1))), some (.inl (xs (6 * n + 2))), none, none]) hK (by decide) (by decide) (by decide) (jf_Lr (q := (0, 0)) rfl (jf_Li _ (jf_Li _ (jf_Ln (jf_Ln jf_L0))))) (jf_Lr (q := (31, 0)) rfl (jf_Li _ (jf_Li _ (jf_Ln (jf_Ln jf_L0))))) (fun M N hR => sm_run (d := d) hR hC hE (xs (6 * n + 1)) (xs (6 * n + 2)))
  refine ⟨K2, ?_, a3, a4, a5⟩
  simp only [e149_160, e149_161, e149_162, e149_163, e149_164, e149_165, e149_166, e149_167, e149_168, e149_169, e149_170, e149_171, e149_172, e149_173, e149_174, e149_175, e149_176, e149_177, e149_178, e149_179, e149_180, e149_181, e149_182, e149_183, e149_184, jb_ix (show 6 * n + 1 < L by omega) (by omega), jb_ix (show 6 * n + 2 < L by omega) (by omega), n75, i75, n1, j1, nI_add, a1, a2, jb_some, jb_tl, if_true, e149_414, e149_415]
  rfl
theorem jl_k5 {d E C n L : Nat} {xs : Nat → Int32} {K : jm_M} (hK : jl_V E C L xs K) (hn : 6 * n + 6 ≤ L) (hL : L ≤ 3072) (hE : E < 2 ^ 20) : ∃ K2, jm_D (d + 11) 149 187 [some (.inr (some (75, 0))), some (.inr (some (0, 0))), some (.inr (some (31, 0))), some (.inl (nI (6 * n)))] [] K = jm_D (d + 11) 149 10 [some (.inr (some (75, 0))), some (.inr (some (0, 0))), some (.inr (some (31, 0))), some (.inl (nI (6 * (n + 1))))] [] K2 ∧ jl_V (E + 1) C L xs K2 ∧ (jm_al K2).length ≤ (jm_al K).length + 16 ∧ jm_sl K2 ≤ jm_sl K + 2000 := by
  obtain ⟨-, -, -, n75, i75⟩ := id hK
  obtain ⟨r, K1, K2, a1, a2, ⟨n1, j1⟩, a3, a4, a5⟩ := jl_call (d := d + 10) (i := 77) (i' := 134) (L1 := [some (.inr (some (0, 0))), none]) (L2 := [some (.inr (some (31, 0))), none]) hK (by decide) (by decide) (by decide) (jf_Lr (q := (0, 0)) rfl (jf_Ln jf_L0)) (jf_Lr (q := (31, 0)) rfl (jf_Ln jf_L0)) (fun M N hR => sm_advance (d := d + 9) hR hE )
  refine ⟨K2, ?_, a3, a4, a5⟩
  simp only [e149_187, e149_188, e149_189, e149_190, e149_191, n75, i75, n1, j1, nI_add, a1, a2, jb_some, jb_tl, if_true, e149_414, e149_415]
  rfl
theorem jl_k6 {d E C n L : Nat} {xs : Nat → Int32} {K : jm_M} (hK : jl_V E C L xs K) (hn : 6 * n + 6 ≤ L) (hL : L ≤ 3072) (hE : E < 2 ^ 20) : ∃ K2, jm_D (d + 11) 149 194 [some (.inr (some (75, 0))), some (.inr (some (0, 0))), some (.inr (some (31, 0))), some (.inl (nI (6 * n)))] [] K = jm_D (d + 11) 149 10 [some (.inr (some (75, 0))), some (.inr (some (0, 0))), some (.inr (some (31, 0))), some (.inl (nI (6 * (n + 1))))] [] K2 ∧ jl_V E C L xs K2 ∧ (jm_al K2).length ≤ (jm_al K).length + 16 ∧ jm_sl K2 ≤ jm_sl K + 2000 := by
  obtain ⟨-, -, -, n75, i75⟩ := id hK
  obtain ⟨r, K1, K2, a1, a2, ⟨n1, j1⟩, a3, a4, a5⟩ := jl_call (d := d + 10) (i := 79) (i' := 136) (L1 := [some (.inr (some (0, 0))), some (.inl (xs (6 * n + 1))), none]) (L2 := [some (.inr (some (31, 0))), some (.inl (xs (6 * n + 1))), none, none]) hK (by decide) (by decide) (by decide) (jf_Lr (q := (0, 0)) rfl (jf_Li _ (jf_Ln jf_L0))) (jf_Lr (q := (31, 0)) rfl (jf_Li _ (jf_Ln (jf_Ln jf_L0)))) (fun M N hR => sm_flush (d := d + 6) hR hE (xs (6 * n + 1)))
  refine ⟨K2, ?_, a3, a4, a5⟩
  simp only [e149_194, e149_195, e149_196, e149_197, e149_198, e149_199, e149_200, e149_201, e149_202, e149_203, e149_204, e149_205, e149_206, e149_207, e149_208, jb_ix (show 6 * n + 1 < L by omega) (by omega), n75, i75, n1, j1, nI_add, a1, a2, jb_some, jb_tl, if_true, e149_414, e149_415]
  rfl
theorem jl_k7 {d E C n L : Nat} {xs : Nat → Int32} {K : jm_M} (hK : jl_V E C L xs K) (hn : 6 * n + 6 ≤ L) (hL : L ≤ 3072) (hC : C < 2 ^ 31) (hE : E < 2 ^ 20) : ∃ K2, jm_D (d + 11) 149 211 [some (.inr (some (75, 0))), some (.inr (some (0, 0))), some (.inr (some (31, 0))), some (.inl (nI (6 * n)))] [] K = jm_D (d + 11) 149 10 [some (.inr (some (75, 0))), some (.inr (some (0, 0))), some (.inr (some (31, 0))), some (.inl (nI (6 * (n + 1))))] [] K2 ∧ jl_V E C L xs K2 ∧ (jm_al K2).length ≤ (jm_al K).length + 16 ∧ jm_sl K2 ≤ jm_sl K + 2000 := by
  obtain ⟨-, -, -, n75, i75⟩ := id hK
  obtain ⟨r, K1, K2, a1, a2, ⟨n1, j1⟩, a3, a4, a5⟩ := jl_call (d := d + 10) (i := 81) (i' := 138) (L1 := [some (.inr (some (0, 0))), none, none]) (L2 := [some (.inr (some (31, 0))), none, none, none, none]) hK (by decide) (by decide) (by decide) (jf_Lr (q := (0, 0)) rfl (jf_Ln (jf_Ln jf_L0))) (jf_Lr (q := (31, 0)) rfl (jf_Ln (jf_Ln (jf_Ln (jf_Ln jf_L0))))) (fun M N hR => sm_crash (d := d + 6) hR hC hE )
  refine ⟨K2, ?_, a3, a4, a5⟩
  simp only [e149_211, e149_212, e149_213, e149_214, e149_215, n75, i75, n1, j1, nI_add, a1, a2, jb_some, jb_tl, if_true, e149_414, e149_415]
  rfl
theorem jl_k8 {d E C n L : Nat} {xs : Nat → Int32} {K : jm_M} (hK : jl_V E C L xs K) (hn : 6 * n + 6 ≤ L) (hL : L ≤ 3072) : ∃ K2, jm_D (d + 11) 149 218 [some (.inr (some (75, 0))), some (.inr (some (0, 0))), some (.inr (some (31, 0))), some (.inl (nI (6 * n)))] [] K = jm_D (d + 11) 149 10 [some (.inr (some (75, 0))), some (.inr (some (0, 0))), some (.inr (some (31, 0))), some (.inl (nI (6 * (n + 1))))] [] K2 ∧ jl_V E C L xs K2 ∧ (jm_al K2).length ≤ (jm_al K).length + 16 ∧ jm_sl K2 ≤ jm_sl K + 2000 := by
  obtain ⟨-, -, -, n75, i75⟩ := id hK
  obtain ⟨r, K1, K2, a1, a2, ⟨n1, j1⟩, a3, a4, a5⟩ := jl_call (d := d + 10) (i := 89) (i' := 140) (L1 := [some (.inr (some (0, 0))), some (.inl (xs (6 * n + 1))), some (.inl (xs (6 * n + 2))), none]) (L2 := [some (.inr (some (31, 0))), some (.inl (xs (6 * n + 1))), some (.inl (xs (6 * n + 2)))]) hK (by decide) (by decide) (by decide) (jf_Lr (q := (0, 0)) rfl (jf_Li _ (jf_Li _ (jf_Ln jf_L0)))) (jf_Lr (q := (31, 0)) rfl (jf_Li _ (jf_Li _ jf_L0))) (fun M N hR => jl_rd hR (sm_transaction (d := d + 7) hR (xs (6 * n + 1)) (xs (6 * n + 2))))
  refine ⟨K2, ?_, a3, a4, a5⟩
  simp only [e149_218, e149_219, e149_220, e149_221, e149_222, e149_223, e149_224, e149_225, e149_226, e149_227, e149_228, e149_229, e149_230, e149_231, e149_232, e149_233, e149_234, e149_235, e149_236, e149_237, e149_238, e149_239, e149_240, e149_241, e149_242, jb_ix (show 6 * n + 1 < L by omega) (by omega), jb_ix (show 6 * n + 2 < L by omega) (by omega), n75, i75, n1, j1, nI_add, a1, a2, jb_some, jb_tl, if_true, e149_414, e149_415]
  rfl
theorem jl_k9 {d E C n L : Nat} {xs : Nat → Int32} {K : jm_M} (hK : jl_V E C L xs K) (hn : 6 * n + 6 ≤ L) (hL : L ≤ 3072) : ∃ K2, jm_D (d + 11) 149 245 [some (.inr (some (75, 0))), some (.inr (some (0, 0))), some (.inr (some (31, 0))), some (.inl (nI (6 * n)))] [] K = jm_D (d + 11) 149 10 [some (.inr (some (75, 0))), some (.inr (some (0, 0))), some (.inr (some (31, 0))), some (.inl (nI (6 * (n + 1))))] [] K2 ∧ jl_V E C L xs K2 ∧ (jm_al K2).length ≤ (jm_al K).length + 16 ∧ jm_sl K2 ≤ jm_sl K + 2000 := by
  obtain ⟨-, -, -, n75, i75⟩ := id hK
  obtain ⟨r, K1, K2, a1, a2, ⟨n1, j1⟩, a3, a4, a5⟩ := jl_call (d := d + 10) (i := 91) (i' := 141) (L1 := [some (.inr (some (0, 0))), some (.inl (xs (6 * n + 1)))]) (L2 := [some (.inr (some (31, 0))), some (.inl (xs (6 * n + 1)))]) hK (by decide) (by decide) (by decide) (jf_Lr (q := (0, 0)) rfl (jf_Li _ jf_L0)) (jf_Lr (q := (31, 0)) rfl (jf_Li _ jf_L0)) (fun M N hR => jl_rd hR (sm_result (d := d + 7) hR (xs (6 * n + 1))))
  refine ⟨K2, ?_, a3, a4, a5⟩
  simp only [e149_245, e149_246, e149_247, e149_248, e149_249, e149_250, e149_251, e149_252, e149_253, e149_254, e149_255, e149_256, e149_257, e149_258, e149_259, jb_ix (show 6 * n + 1 < L by omega) (by omega), n75, i75, n1, j1, nI_add, a1, a2, jb_some, jb_tl, if_true, e149_414, e149_415]
  rfl
theorem jl_k10 {d E C n L : Nat} {xs : Nat → Int32} {K : jm_M} (hK : jl_V E C L xs K) (hn : 6 * n + 6 ≤ L) (hL : L ≤ 3072) : ∃ K2, jm_D (d + 11) 149 262 [some (.inr (some (75, 0))), some (.inr (some (0, 0))), some (.inr (some (31, 0))), some (.inl (nI (6 * n)))] [] K = jm_D (d + 11) 149 10 [some (.inr (some (75, 0))), some (.inr (some (0, 0))), some (.inr (some (31, 0))), some (.inl (nI (6 * (n + 1))))] [] K2 ∧ jl_V E C L xs K2 ∧ (jm_al K2).length ≤ (jm_al K).length + 16 ∧ jm_sl K2 ≤ jm_sl K + 2000 := by
  obtain ⟨-, -, -, n75, i75⟩ := id hK
  obtain ⟨r, K1, K2, a1, a2, ⟨n1, j1⟩, a3, a4, a5⟩ := jl_call (d := d + 10) (i := 92) (i' := 142) (L1 := [some (.inr (some (0, 0))), some (.inl (xs (6 * n + 1))), some (.inl (xs (6 * n + 2)))]) (L2 := [some (.inr (some (31, 0))), some (.inl (xs (6 * n + 1))), some (.inl (xs (6 * n + 2)))]) hK (by decide) (by decide) (by decide) (jf_Lr (q := (0, 0)) rfl (jf_Li _ (jf_Li _ jf_L0))) (jf_Lr (q := (31, 0)) rfl (jf_Li _ (jf_Li _ jf_L0))) (fun M N hR => jl_rd hR (sm_entry (d := d + 9) hR (xs (6 * n + 1)) (xs (6 * n + 2))))
  refine ⟨K2, ?_, a3, a4, a5⟩
  simp only [e149_262, e149_263, e149_264, e149_265, e149_266, e149_267, e149_268, e149_269, e149_270, e149_271, e149_272, e149_273, e149_274, e149_275, e149_276, e149_277, e149_278, e149_279, e149_280, e149_281, e149_282, e149_283, e149_284, e149_285, e149_286, jb_ix (show 6 * n + 1 < L by omega) (by omega), jb_ix (show 6 * n + 2 < L by omega) (by omega), n75, i75, n1, j1, nI_add, a1, a2, jb_some, jb_tl, if_true, e149_414, e149_415]
  rfl
theorem jl_k11 {d E C n L : Nat} {xs : Nat → Int32} {K : jm_M} (hK : jl_V E C L xs K) (hn : 6 * n + 6 ≤ L) (hL : L ≤ 3072) : ∃ K2, jm_D (d + 11) 149 289 [some (.inr (some (75, 0))), some (.inr (some (0, 0))), some (.inr (some (31, 0))), some (.inl (nI (6 * n)))] [] K = jm_D (d + 11) 149 10 [some (.inr (some (75, 0))), some (.inr (some (0, 0))), some (.inr (some (31, 0))), some (.inl (nI (6 * (n + 1))))] [] K2 ∧ jl_V E C L xs K2 ∧ (jm_al K2).length ≤ (jm_al K).length + 16 ∧ jm_sl K2 ≤ jm_sl K + 2000 := by
  obtain ⟨-, -, -, n75, i75⟩ := id hK
  obtain ⟨r, K1, K2, a1, a2, ⟨n1, j1⟩, a3, a4, a5⟩ := jl_call (d := d + 10) (i := 93) (i' := 143) (L1 := [some (.inr (some (0, 0))), some (.inl (xs (6 * n + 1))), some (.inl (xs (6 * n + 2))), none]) (L2 := [some (.inr (some (31, 0))), some (.inl (xs (6 * n + 1))), some (.inl (xs (6 * n + 2))), none, none]) hK (by decide) (by decide) (by decide) (jf_Lr (q := (0, 0)) rfl (jf_Li _ (jf_Li _ (jf_Ln jf_L0)))) (jf_Lr (q := (31, 0)) rfl (jf_Li _ (jf_Li _ (jf_Ln (jf_Ln jf_L0))))) (fun M N hR => jl_rd hR (sm_leaf (d := d + 9) hR (xs (6 * n + 1)) (xs (6 * n + 2))))
  refine ⟨K2, ?_, a3, a4, a5⟩
  simp only [e149_289, e149_290, e149_291, e149_292, e149_293, e149_294, e149_295, e149_296, e149_297, e149_298, e149_299, e149_300, e149_301, e149_302, e149_303, e149_304, e149_305, e149_306, e149_307, e149_308, e149_309, e149_310, e149_311, e149_312, e149_313, jb_ix (show 6 * n + 1 < L by omega) (by omega), jb_ix (show 6 * n + 2 < L by omega) (by omega), n75, i75, n1, j1, nI_add, a1, a2, jb_some, jb_tl, if_true, e149_414, e149_415]
  rfl
theorem jl_k12 {d E C n L : Nat} {xs : Nat → Int32} {K : jm_M} (hK : jl_V E C L xs K) (hn : 6 * n + 6 ≤ L) (hL : L ≤ 3072) (hC : C < 2 ^ 31) : ∃ K2, jm_D (d + 11) 149 316 [some (.inr (some (75, 0))), some (.inr (some (0, 0))), some (.inr (some (31, 0))), some (.inl (nI (6 * n)))] [] K = jm_D (d + 11) 149 10 [some (.inr (some (75, 0))), some (.inr (some (0, 0))), some (.inr (some (31, 0))), some (.inl (nI (6 * (n + 1))))] [] K2 ∧ jl_V E C L xs K2 ∧ (jm_al K2).length ≤ (jm_al K).length + 16 ∧ jm_sl K2 ≤ jm_sl K + 2000 := by
  obtain ⟨-, -, -, n75, i75⟩ := id hK
  obtain ⟨r, K1, K2, a1, a2, ⟨n1, j1⟩, a3, a4, a5⟩ := jl_call (d := d + 10) (i := 94) (i' := 144) (L1 := [some (.inr (some (0, 0))), some (.inl (xs (6 * n + 1))), some (.inl (xs (6 * n + 2))), none]) (L2 := [some (.inr (some (31, 0))), some (.inl (xs (6 * n + 1))), some (.inl (xs (6 * n + 2)))]) hK (by decide) (by decide) (by decide) (jf_Lr (q := (0, 0)) rfl (jf_Li _ (jf_Li _ (jf_Ln jf_L0)))) (jf_Lr (q := (31, 0)) rfl (jf_Li _ (jf_Li _ jf_L0))) (fun M N hR => jl_rd hR (sm_worker (d := d + 9) hR hC (xs (6 * n + 1)) (xs (6 * n + 2))))
  refine ⟨K2, ?_, a3, a4, a5⟩
  simp only [e149_316, e149_317, e149_318, e149_319, e149_320, e149_321, e149_322, e149_323, e149_324, e149_325, e149_326, e149_327, e149_328, e149_329, e149_330, e149_331, e149_332, e149_333, e149_334, e149_335, e149_336, e149_337, e149_338, e149_339, e149_340, jb_ix (show 6 * n + 1 < L by omega) (by omega), jb_ix (show 6 * n + 2 < L by omega) (by omega), n75, i75, n1, j1, nI_add, a1, a2, jb_some, jb_tl, if_true, e149_414, e149_415]
  rfl
theorem jl_k13 {d E C n L : Nat} {xs : Nat → Int32} {K : jm_M} (hK : jl_V E C L xs K) (hn : 6 * n + 6 ≤ L) (hL : L ≤ 3072) : ∃ K2, jm_D (d + 11) 149 343 [some (.inr (some (75, 0))), some (.inr (some (0, 0))), some (.inr (some (31, 0))), some (.inl (nI (6 * n)))] [] K = jm_D (d + 11) 149 10 [some (.inr (some (75, 0))), some (.inr (some (0, 0))), some (.inr (some (31, 0))), some (.inl (nI (6 * (n + 1))))] [] K2 ∧ jl_V E C L xs K2 ∧ (jm_al K2).length ≤ (jm_al K).length + 16 ∧ jm_sl K2 ≤ jm_sl K + 2000 := by
  obtain ⟨-, -, -, n75, i75⟩ := id hK
  obtain ⟨r, K1, K2, a1, a2, ⟨n1, j1⟩, a3, a4, a5⟩ := jl_call (d := d + 10) (i := 95) (i' := 146) (L1 := [some (.inr (some (0, 0))), some (.inl (xs (6 * n + 1))), some (.inl (xs (6 * n + 2)))]) (L2 := [some (.inr (some (31, 0))), some (.inl (xs (6 * n + 1))), some (.inl (xs (6 * n + 2)))]) hK (by decide) (by decide) (by decide) (jf_Lr (q := (0, 0)) rfl (jf_Li _ (jf_Li _ jf_L0))) (jf_Lr (q := (31, 0)) rfl (jf_Li _ (jf_Li _ jf_L0))) (fun M N hR => jl_rd hR (sm_register (d := d + 9) hR (xs (6 * n + 1)) (xs (6 * n + 2))))
  refine ⟨K2, ?_, a3, a4, a5⟩
  simp only [e149_343, e149_344, e149_345, e149_346, e149_347, e149_348, e149_349, e149_350, e149_351, e149_352, e149_353, e149_354, e149_355, e149_356, e149_357, e149_358, e149_359, e149_360, e149_361, e149_362, e149_363, e149_364, e149_365, e149_366, e149_367, jb_ix (show 6 * n + 1 < L by omega) (by omega), jb_ix (show 6 * n + 2 < L by omega) (by omega), n75, i75, n1, j1, nI_add, a1, a2, jb_some, jb_tl, if_true, e149_414, e149_415]
  rfl
theorem jl_k14 {d E C n L : Nat} {xs : Nat → Int32} {K : jm_M} (hK : jl_V E C L xs K) (hn : 6 * n + 6 ≤ L) (hL : L ≤ 3072) : ∃ K2, jm_D (d + 11) 149 370 [some (.inr (some (75, 0))), some (.inr (some (0, 0))), some (.inr (some (31, 0))), some (.inl (nI (6 * n)))] [] K = jm_D (d + 11) 149 10 [some (.inr (some (75, 0))), some (.inr (some (0, 0))), some (.inr (some (31, 0))), some (.inl (nI (6 * (n + 1))))] [] K2 ∧ jl_V E C L xs K2 ∧ (jm_al K2).length ≤ (jm_al K).length + 16 ∧ jm_sl K2 ≤ jm_sl K + 2000 := by
  obtain ⟨-, -, -, n75, i75⟩ := id hK
  obtain ⟨r, K1, K2, a1, a2, ⟨n1, j1⟩, a3, a4, a5⟩ := jl_call (d := d + 10) (i := 96) (i' := 147) (L1 := [some (.inr (some (0, 0))), some (.inl (xs (6 * n + 1))), some (.inl (xs (6 * n + 2)))]) (L2 := [some (.inr (some (31, 0))), some (.inl (xs (6 * n + 1))), some (.inl (xs (6 * n + 2))), none, none]) hK (by decide) (by decide) (by decide) (jf_Lr (q := (0, 0)) rfl (jf_Li _ (jf_Li _ jf_L0))) (jf_Lr (q := (31, 0)) rfl (jf_Li _ (jf_Li _ (jf_Ln (jf_Ln jf_L0))))) (fun M N hR => jl_rd hR (sm_log (d := d + 9) hR (xs (6 * n + 1)) (xs (6 * n + 2))))
  refine ⟨K2, ?_, a3, a4, a5⟩
  simp only [e149_370, e149_371, e149_372, e149_373, e149_374, e149_375, e149_376, e149_377, e149_378, e149_379, e149_380, e149_381, e149_382, e149_383, e149_384, e149_385, e149_386, e149_387, e149_388, e149_389, e149_390, e149_391, e149_392, e149_393, e149_394, jb_ix (show 6 * n + 1 < L by omega) (by omega), jb_ix (show 6 * n + 2 < L by omega) (by omega), n75, i75, n1, j1, nI_add, a1, a2, jb_some, jb_tl, if_true, e149_414, e149_415]
  rfl
theorem jl_k15 {d E C n L : Nat} {xs : Nat → Int32} {K : jm_M} (hK : jl_V E C L xs K) (hn : 6 * n + 6 ≤ L) (hL : L ≤ 3072) : ∃ K2, jm_D (d + 11) 149 397 [some (.inr (some (75, 0))), some (.inr (some (0, 0))), some (.inr (some (31, 0))), some (.inl (nI (6 * n)))] [] K = jm_D (d + 11) 149 10 [some (.inr (some (75, 0))), some (.inr (some (0, 0))), some (.inr (some (31, 0))), some (.inl (nI (6 * (n + 1))))] [] K2 ∧ jl_V E C L xs K2 ∧ (jm_al K2).length ≤ (jm_al K).length + 16 ∧ jm_sl K2 ≤ jm_sl K + 2000 := by
  obtain ⟨-, -, -, n75, i75⟩ := id hK
  obtain ⟨r, K1, K2, a1, a2, ⟨n1, j1⟩, a3, a4, a5⟩ := jl_call (d := d + 10) (i := 97) (i' := 148) (L1 := [some (.inr (some (0, 0))), some (.inl (xs (6 * n + 1)))]) (L2 := [some (.inr (some (31, 0))), some (.inl (xs (6 * n + 1)))]) hK (by decide) (by decide) (by decide) (jf_Lr (q := (0, 0)) rfl (jf_Li _ jf_L0)) (jf_Lr (q := (31, 0)) rfl (jf_Li _ jf_L0)) (fun M N hR => jl_rd hR (sm_epoch (d := d + 8) hR (xs (6 * n + 1))))
  refine ⟨K2, ?_, a3, a4, a5⟩
  simp only [e149_397, e149_398, e149_399, e149_400, e149_401, e149_402, e149_403, e149_404, e149_405, e149_406, e149_407, e149_408, e149_409, e149_410, e149_411, jb_ix (show 6 * n + 1 < L by omega) (by omega), n75, i75, n1, j1, nI_add, a1, a2, jb_some, jb_tl, if_true, e149_414, e149_415]
  rfl
/-- one call of the script, whichever -/
theorem jl_one {d E C n L : Nat} {xs : Nat → Int32} {K : jm_M} (hK : jl_V E C L xs K) (hn : 6 * n + 6 ≤ L) (hL : L ≤ 3072) (hE : E ≤ 600) (hC : C ≤ 2 ^ 28) : ∃ E' C' K2, jm_D (d + 11) 149 10 [some (.inr (some (75, 0))), some (.inr (some (0, 0))), some (.inr (some (31, 0))), some (.inl (nI (6 * n)))] [] K = jm_D (d + 11) 149 10 [some (.inr (some (75, 0))), some (.inr (some (0, 0))), some (.inr (some (31, 0))), some (.inl (nI (6 * (n + 1))))] [] K2 ∧ jl_V E' C' L xs K2 ∧ E' ≤ E + 1 ∧ C' ≤ max C (1024 * E) + 100 ∧ (jm_al K2).length ≤ (jm_al K).length + 16 ∧ jm_sl K2 ≤ jm_sl K + 2000 := by
  obtain ⟨-, -, -, n75, i75⟩ := id hK
  obtain ⟨j, hj, ej⟩ := jb_15 (xs (6 * n))
  have c1 : ¬ nI (L - 6) < nI (6 * n) := nI_nlt (by omega) (by omega)
  have eL : Int32.ofNat L = nI L := rfl
  have p : jm_D (d + 11) 149 10 [some (.inr (some (75, 0))), some (.inr (some (0, 0))), some (.inr (some (31, 0))), some (.inl (nI (6 * n)))] [] K = jm_D (d + 11) 149 21 [some (.inr (some (75, 0))), some (.inr (some (0, 0))), some (.inr (some (31, 0))), some (.inl (nI (6 * n)))] [.inl (nI j)] K := by
    rw [e149_10]
    simp only [e149_11, e149_12, e149_13, e149_14, e149_15, e149_16, e149_17, e149_18, e149_19, e149_20, n75, eL, pk_sub (show 6 ≤ L by omega), if_neg c1, jb_ix (show 6 * n < L by omega) (by omega), i75, ej]
  rw [p]
  match j, hj with
  | 0, _ =>
    obtain ⟨K2, a, b⟩ := jl_k0 (d := d) hK hn hL
    exact ⟨_, _, K2, by rw [e149_21_0]; exact a, b.1, by omega, by omega, b.2⟩
  | 1, _ =>
    obtain ⟨K2, a, b⟩ := jl_k1 (d := d) hK hn hL
    exact ⟨_, _, K2, by rw [e149_21_1]; exact a, b.1, by omega, by omega, b.2⟩
  | 2, _ =>
    obtain ⟨K2, a, b⟩ := jl_k2 (d := d) hK hn hL
    exact ⟨_, _, K2, by rw [e149_21_2]; exact a, b.1, by omega, by omega, b.2⟩
  | 3, _ =>
    obtain ⟨K2, a, b⟩ := jl_k3 (d := d) hK hn hL (by omega) (by omega)
    exact ⟨_, _, K2, by rw [e149_21_3]; exact a, b.1, by omega, by omega, b.2⟩
  | 4, _ =>
    obtain ⟨K2, a, b⟩ := jl_k4 (d := d) hK hn hL (by omega) (by omega)
    exact ⟨_, _, K2, by rw [e149_21_4]; exact a, b.1, by omega, by omega, b.2⟩
  | 5, _ =>
    obtain ⟨K2, a, b⟩ := jl_k5 (d := d) hK hn hL (by omega)
    exact ⟨_, _, K2, by rw [e149_21_5]; exact a, b.1, by omega, by omega, b.2⟩
  | 6, _ =>
    obtain ⟨K2, a, b⟩ := jl_k6 (d := d) hK hn hL (by omega)
    exact ⟨_, _, K2, by rw [e149_21_6]; exact a, b.1, by omega, by omega, b.2⟩
  | 7, _ =>
    obtain ⟨K2, a, b⟩ := jl_k7 (d := d) hK hn hL (by omega) (by omega)
    exact ⟨_, _, K2, by rw [e149_21_7]; exact a, b.1, by omega, by omega, b.2⟩
  | 8, _ =>
    obtain ⟨K2, a, b⟩ := jl_k8 (d := d) hK hn hL
    exact ⟨_, _, K2, by rw [e149_21_8]; exact a, b.1, by omega, by omega, b.2⟩
  | 9, _ =>
    obtain ⟨K2, a, b⟩ := jl_k9 (d := d) hK hn hL
    exact ⟨_, _, K2, by rw [e149_21_9]; exact a, b.1, by omega, by omega, b.2⟩
  | 10, _ =>
    obtain ⟨K2, a, b⟩ := jl_k10 (d := d) hK hn hL
    exact ⟨_, _, K2, by rw [e149_21_10]; exact a, b.1, by omega, by omega, b.2⟩
  | 11, _ =>
    obtain ⟨K2, a, b⟩ := jl_k11 (d := d) hK hn hL
    exact ⟨_, _, K2, by rw [e149_21_11]; exact a, b.1, by omega, by omega, b.2⟩
  | 12, _ =>
    obtain ⟨K2, a, b⟩ := jl_k12 (d := d) hK hn hL (by omega)
    exact ⟨_, _, K2, by rw [e149_21_12]; exact a, b.1, by omega, by omega, b.2⟩
  | 13, _ =>
    obtain ⟨K2, a, b⟩ := jl_k13 (d := d) hK hn hL
    exact ⟨_, _, K2, by rw [e149_21_13]; exact a, b.1, by omega, by omega, b.2⟩
  | 14, _ =>
    obtain ⟨K2, a, b⟩ := jl_k14 (d := d) hK hn hL
    exact ⟨_, _, K2, by rw [e149_21_14]; exact a, b.1, by omega, by omega, b.2⟩
  | 15, _ =>
    obtain ⟨K2, a, b⟩ := jl_k15 (d := d) hK hn hL
    exact ⟨_, _, K2, by rw [e149_21_15]; exact a, b.1, by omega, by omega, b.2⟩
  | j + 16, h => exact absurd h (by omega)
theorem jb_neg6 : ∀ L, L < 6 → nI L - nI 6 < nI 0 := by decide
theorem jl_loop {d L : Nat} {xs : Nat → Int32} (hL : L ≤ 3072) : ∀ f n E C K, n + f = L / 6 → jl_V E C L xs K → E ≤ n + 1 → C ≤ 1024 * 600 + 100 * n → ∃ M', jm_D (d + 11) 149 10 [some (.inr (some (75, 0))), some (.inr (some (0, 0))), some (.inr (some (31, 0))), some (.inl (nI (6 * n)))] [] K = some (some (.inl (nI 1)), M') ∧ (jm_al M').length ≤ (jm_al K).length + 16 * f ∧ jm_sl M' ≤ jm_sl K + 2000 * f := by
  intro f
  induction f with
  | zero =>
    intro n E C K hn hK hE hC
    obtain ⟨-, -, -, n75, i75⟩ := id hK
    have eL : Int32.ofNat L = nI L := rfl
    refine ⟨K, ?_, by omega, by omega⟩
    have c1 : nI L - nI 6 < nI (6 * n) := by
      by_cases h6 : L < 6
      · obtain rfl : n = 0 := by omega
        exact jb_neg6 L h6
      · rw [pk_sub (by omega)]
        exact nI_lt (by omega) (by omega)
    rw [e149_10]
    simp only [e149_11, e149_12, e149_13, e149_14, e149_15, n75, eL, if_pos c1, e149_416, e149_417_1]
  | succ f ih =>
    intro n E C K hn hK hE hC
    obtain ⟨E', C', K2, a1, a2, a3, a4, a5, a6⟩ := jl_one (d := d) (n := n) hK (by omega) hL (by omega) (by omega)
    obtain ⟨M', b1, b2, b3⟩ := ih (n + 1) E' C' K2 (by omega) a2 (by omega) (by omega)
    exact ⟨M', a1.trans b1, by omega, by omega⟩
theorem jl_first {d L : Nat} {xs : Nat → Int32} : jm_D (d + 11) 149 0 [some (.inr (some (75, 0))), none, none, none] [] (jl_M0 L xs) = jm_D (d + 11) 149 10 [some (.inr (some (75, 0))), some (.inr (some (0, 0))), some (.inr (some (31, 0))), some (.inl (nI 0))] [] (jz_K L xs) := by
  have c0 : jm_c (jl_M0 L xs) 0 = 0 := rfl
  have hx := xNew0 (d := d + 5) (Z := jm_mk (jl_M0 L xs) 0 0 6) (fun k h1 h2 => by
    show (if k = 0 then _ else jm_c (jl_M0 L xs) k) = 0
    rw [if_neg (by omega)]
    exact jz_c0 (by omega))
  have hXc : ∀ k, 30 < k → k < 71 → jm_c (jn_m jn_X (jm_mk (jl_M0 L xs) 0 0 6)) k = 0 := by
    intro k h1 h2
    have e : jn_m jn_X (jm_mk (jl_M0 L xs) 0 0 6) = jn_m (jn_X ++ [(0, 0, 0, 6, 0, none)]) (jl_M0 L xs) := (jn_app jn_X [(0, 0, 0, 6, 0, none)] (jl_M0 L xs)).symm
    rw [e, jn_c_ok (jz_c0 h2)]
    exact (show ∀ k, k < 71 → 30 < k → jn_c k (jn_X ++ [(0, 0, 0, 6, 0, none)]) = 0 by decide +kernel) k h2 h1
  have c31 := hXc 31 (by decide) (by decide)
  have hy := yNew (d := d + 9) (Z := jm_mk (jn_m jn_X (jm_mk (jl_M0 L xs) 0 0 6)) 31 0 43) (fun k h1 h2 => by
    show (if k = 31 then _ else jm_c (jn_m jn_X (jm_mk (jl_M0 L xs) 0 0 6)) k) = 0
    rw [if_neg (by omega)]
    exact hXc k (by omega) h2)
  have eK : jn_m jn_Y (jm_mk (jn_m jn_X (jm_mk (jl_M0 L xs) 0 0 6)) 31 0 43) = jz_K L xs := by
    unfold jz_K jn_A
    rw [jn_app]
    show jn_m jn_Y (jm_mk (jn_m jn_X (jm_mk (jl_M0 L xs) 0 0 6)) 31 0 43) = jn_m jn_Y (jm_mk (jn_m (jn_X ++ [(0, 0, 0, 6, 0, none)]) (jl_M0 L xs)) 31 0 43)
    rw [jn_app]
    rfl
  rw [eK] at hy
  simp only [e149_0, e149_1, e149_2, e149_3, e149_4, e149_5, e149_6, e149_7, e149_8, e149_9, c0, hx, c31, hy, jb_some, jb_tn]
theorem jl_pure (L : Nat) (xs : Nat → Int32) (hL : L ≤ 3072) : ∃ M', jm_D 11 149 0 [some (.inr (some (75, 0))), none, none, none] [] (jl_M0 L xs) = some (some (.inl (nI 1)), M') ∧ (jm_al M').length ≤ 600000 ∧ jm_sl M' ≤ 7302250 := by
  have h5 : jf_M jf_g5 (jz_K L xs) := jn_g_ok (fun _ _ _ _ q hq => by cases hq) jn_A (by decide +kernel)
  obtain ⟨M', a1, a2, a3⟩ := jl_loop (d := 0) (xs := xs) hL (L / 6) 0 1 0 (jz_K L xs) (by omega) ⟨jz_R, h5, jz_M.2, jz_75.1, jz_75.2⟩ (by omega) (by omega)
  obtain ⟨s1, s2⟩ := jz_sz (L := L) (xs := xs)
  refine ⟨M', ?_, by omega, by omega⟩
  have := jl_first (d := 0) (L := L) (xs := xs)
  exact this.trans a1
