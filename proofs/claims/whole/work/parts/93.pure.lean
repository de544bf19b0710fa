/-! Constructors: memory as a list of what was done, last first. -/
abbrev jn_op : Type := Nat × Nat × Nat × Nat × Nat × jm_R
def jn_do (M : jm_M) (o : jn_op) : jm_M := match o with
  | (0, k, n, s, _, _) => jm_mk M k n s
  | (1, k, i, j, x, _) => jm_setI M k i j (nI x)
  | (_ + 2, k, i, j, _, r) => jm_setF M k i j r
def jn_m : List jn_op → jm_M → jm_M
  | [], M => M
  | o :: l, M => jn_do (jn_m l M) o
theorem jn_app : ∀ (a b : List jn_op) (M : jm_M), jn_m (a ++ b) M = jn_m a (jn_m b M) := by
  intro a
  induction a with
  | nil => intro b M; rfl
  | cons o a ih =>
    intro b M
    show jn_do (jn_m (a ++ b) M) o = jn_do (jn_m a (jn_m b M)) o
    rw [ih]
def jn_c (k : Nat) : List jn_op → Nat
  | [] => 0
  | (0, k', _) :: l => if k = k' then jn_c k l + 1 else jn_c k l
  | (_ + 1, _) :: l => jn_c k l
def jn_F (k i j : Nat) : List jn_op → Option jm_R
  | [] => none
  | (0, k', _) :: l => if k = k' ∧ i = jn_c k l then some none else jn_F k i j l
  | (1, _) :: l => jn_F k i j l
  | (_ + 2, k', i', j', _, r) :: l => if k = k' ∧ i = i' ∧ j = j' then some r else jn_F k i j l
def jn_I (k i j : Nat) : List jn_op → Option Nat
  | [] => none
  | (0, k', _) :: l => if k = k' ∧ i = jn_c k l then some 0 else jn_I k i j l
  | (1, k', i', j', x, _) :: l => if k = k' ∧ i = i' ∧ j = j' then some x else jn_I k i j l
  | (_ + 2, _) :: l => jn_I k i j l
def jn_n (k i : Nat) : List jn_op → Option Nat
  | [] => none
  | (0, k', n, _) :: l => if k = k' ∧ i = jn_c k l then some n else jn_n k i l
  | (_ + 1, _) :: l => jn_n k i l
def jn_s : List jn_op → Nat
  | [] => 0
  | (0, _, _, s, _) :: l => jn_s l + s
  | (_ + 1, _) :: l => jn_s l
def jn_a : List jn_op → Nat
  | [] => 0
  | (0, _) :: l => jn_a l + 1
  | (_ + 1, _) :: l => jn_a l
theorem jn_c_ok {M : jm_M} {k : Nat} (hc : jm_c M k = 0) : ∀ l, jm_c (jn_m l M) k = jn_c k l := by
  intro l
  induction l with
  | nil => exact hc
  | cons o l ih =>
    obtain ⟨t, k', x, y, z, r⟩ := o
    match t with
    | 0 =>
      show (if k = k' then jm_c (jn_m l M) k' + 1 else jm_c (jn_m l M) k) = if k = k' then jn_c k l + 1 else jn_c k l
      by_cases e : k = k'
      · rw [if_pos e, if_pos e, ← e, ih]
      · rw [if_neg e, if_neg e, ih]
    | 1 => exact ih
    | t + 2 => exact ih
theorem jn_F_ok {M : jm_M} {k : Nat} (hc : jm_c M k = 0) (i j : Nat) : ∀ l, jm_F (jn_m l M) k i j = (jn_F k i j l).getD (jm_F M k i j) := by
  intro l
  induction l with
  | nil => rfl
  | cons o l ih =>
    obtain ⟨t, k', x, y, z, r⟩ := o
    match t with
    | 0 =>
      show (if k = k' ∧ i = jm_c (jn_m l M) k' then none else jm_F (jn_m l M) k i j) = (if k = k' ∧ i = jn_c k l then some none else jn_F k i j l).getD (jm_F M k i j)
      by_cases e : k = k' ∧ i = jn_c k l
      · rw [if_pos e, if_pos ⟨e.1, by rw [← e.1, jn_c_ok hc]; exact e.2⟩]
        rfl
      · rw [if_neg e, if_neg (fun z => e ⟨z.1, by rw [← jn_c_ok hc, z.1]; exact z.2⟩), ih]
    | 1 => exact ih
    | t + 2 =>
      show (if k = k' ∧ i = x ∧ j = y then r else jm_F (jn_m l M) k i j) = (if k = k' ∧ i = x ∧ j = y then some r else jn_F k i j l).getD (jm_F M k i j)
      by_cases e : k = k' ∧ i = x ∧ j = y
      · rw [if_pos e, if_pos e]; rfl
      · rw [if_neg e, if_neg e, ih]
theorem jn_I_ok {M : jm_M} {k : Nat} (hc : jm_c M k = 0) (i j : Nat) : ∀ l, jm_I (jn_m l M) k i j = ((jn_I k i j l).map nI).getD (jm_I M k i j) := by
  intro l
  induction l with
  | nil => rfl
  | cons o l ih =>
    obtain ⟨t, k', x, y, z, r⟩ := o
    match t with
    | 0 =>
      show (if k = k' ∧ i = jm_c (jn_m l M) k' then 0 else jm_I (jn_m l M) k i j) = ((if k = k' ∧ i = jn_c k l then some 0 else jn_I k i j l).map nI).getD (jm_I M k i j)
      by_cases e : k = k' ∧ i = jn_c k l
      · rw [if_pos e, if_pos ⟨e.1, by rw [← e.1, jn_c_ok hc]; exact e.2⟩]
        rfl
      · rw [if_neg e, if_neg (fun z => e ⟨z.1, by rw [← jn_c_ok hc, z.1]; exact z.2⟩), ih]
    | 1 =>
      show (if k = k' ∧ i = x ∧ j = y then nI z else jm_I (jn_m l M) k i j) = ((if k = k' ∧ i = x ∧ j = y then some z else jn_I k i j l).map nI).getD (jm_I M k i j)
      by_cases e : k = k' ∧ i = x ∧ j = y
      · rw [if_pos e, if_pos e]; rfl
      · rw [if_neg e, if_neg e, ih]
    | t + 2 => exact ih
theorem jn_n_ok {M : jm_M} {k : Nat} (hc : jm_c M k = 0) (i : Nat) : ∀ l, jm_n (jn_m l M) k i = (jn_n k i l).getD (jm_n M k i) := by
  intro l
  induction l with
  | nil => rfl
  | cons o l ih =>
    obtain ⟨t, k', x, y, z, r⟩ := o
    match t with
    | 0 =>
      show (if k = k' ∧ i = jm_c (jn_m l M) k' then x else jm_n (jn_m l M) k i) = (if k = k' ∧ i = jn_c k l then some x else jn_n k i l).getD (jm_n M k i)
      by_cases e : k = k' ∧ i = jn_c k l
      · rw [if_pos e, if_pos ⟨e.1, by rw [← e.1, jn_c_ok hc]; exact e.2⟩]
        rfl
      · rw [if_neg e, if_neg (fun z => e ⟨z.1, by rw [← jn_c_ok hc, z.1]; exact z.2⟩), ih]
    | 1 => exact ih
    | t + 2 => exact ih
theorem jn_sa {M : jm_M} : ∀ l, jm_sl (jn_m l M) = jn_s l + jm_sl M ∧ (jm_al (jn_m l M)).length = jn_a l + (jm_al M).length := by
  intro l
  induction l with
  | nil => exact ⟨(Nat.zero_add _).symm, (Nat.zero_add _).symm⟩
  | cons o l ih =>
    obtain ⟨t, k', x, y, z, r⟩ := o
    match t with
    | 0 =>
      show jm_sl (jn_m l M) + y = (jn_s l + y) + jm_sl M ∧ (jm_al (jn_m l M) ++ [(k', jm_c (jn_m l M) k')]).length = (jn_a l + 1) + (jm_al M).length
      rw [List.length_append, ih.1, ih.2]
      exact ⟨by omega, by show _ + 1 = _; omega⟩
    | 1 => exact ih
    | t + 2 => exact ih
def jn_Y0 : List jn_op := [(2, 31, 0, 42, 0, some (70, 0)), (0, 70, 3232, 3232, 0, none), (2, 31, 0, 41, 0, some (69, 0)), (0, 69, 3232, 3232, 0, none), (2, 31, 0, 40, 0, some (68, 0)), (0, 68, 3232, 3232, 0, none), (2, 31, 0, 39, 0, some (67, 0)), (0, 67, 101, 101, 0, none), (2, 31, 0, 38, 0, some (66, 0)), (0, 66, 101, 101, 0, none), (2, 31, 0, 37, 0, some (65, 0)), (0, 65, 101, 101, 0, none), (2, 31, 0, 36, 0, some (64, 0)), (0, 64, 101, 101, 0, none), (2, 31, 0, 35, 0, some (63, 0)), (0, 63, 101, 101, 0, none), (1, 31, 0, 33, 1, none), (2, 31, 0, 32, 0, some (62, 0)), (0, 62, 4, 4, 0, none), (2, 31, 0, 31, 0, some (61, 0)), (0, 61, 4, 4, 0, none), (2, 31, 0, 30, 0, some (60, 0)), (0, 60, 4, 4, 0, none), (2, 31, 0, 29, 0, some (59, 0)), (0, 59, 4, 4, 0, none), (2, 31, 0, 28, 0, some (58, 0)), (0, 58, 4, 4, 0, none), (2, 31, 0, 27, 0, some (57, 0)), (0, 57, 160, 160, 0, none), (2, 31, 0, 26, 0, some (56, 0)), (0, 56, 128, 128, 0, none), (2, 31, 0, 25, 0, some (55, 0)), (0, 55, 128, 128, 0, none), (2, 31, 0, 24, 0, some (54, 0)), (0, 54, 128, 128, 0, none), (2, 31, 0, 23, 0, some (53, 0)), (0, 53, 128, 128, 0, none), (2, 31, 0, 22, 0, some (52, 0)), (0, 52, 128, 128, 0, none), (2, 31, 0, 21, 0, some (51, 0)), (0, 51, 128, 128, 0, none), (2, 31, 0, 20, 0, some (50, 0)), (0, 50, 32, 32, 0, none), (2, 31, 0, 19, 0, some (49, 0)), (0, 49, 4, 4, 0, none), (2, 31, 0, 18, 0, some (48, 0)), (0, 48, 4, 4, 0, none), (2, 31, 0, 17, 0, some (47, 0)), (0, 47, 4, 4, 0, none), (2, 31, 0, 16, 0, some (46, 0)), (0, 46, 4, 4, 0, none), (2, 31, 0, 15, 0, some (45, 0)), (0, 45, 4, 4, 0, none), (2, 31, 0, 14, 0, some (44, 0)), (0, 44, 40, 40, 0, none), (2, 31, 0, 13, 0, some (43, 0)), (0, 43, 40, 40, 0, none), (1, 31, 0, 12, 1, none), (1, 31, 0, 11, 1, none), (2, 31, 0, 10, 0, some (42, 0)), (0, 42, 32, 32, 0, none), (2, 31, 0, 9, 0, some (41, 0)), (0, 41, 32, 32, 0, none), (2, 31, 0, 8, 0, some (40, 0)), (0, 40, 32, 32, 0, none), (2, 31, 0, 7, 0, some (39, 0)), (0, 39, 32, 32, 0, none), (2, 31, 0, 6, 0, some (38, 0)), (0, 38, 32, 32, 0, none), (2, 31, 0, 5, 0, some (37, 0)), (0, 37, 32, 32, 0, none), (2, 31, 0, 4, 0, some (36, 0)), (0, 36, 64, 64, 0, none), (2, 31, 0, 3, 0, some (35, 0)), (0, 35, 64, 64, 0, none), (2, 31, 0, 2, 0, some (34, 0)), (0, 34, 64, 64, 0, none), (2, 31, 0, 1, 0, some (33, 0)), (0, 33, 64, 64, 0, none), (2, 31, 0, 0, 0, some (32, 0)), (0, 32, 4, 4, 0, none)]
def jn_Y : List jn_op := (1, 43, 0, 0, 1, none) :: jn_Y0
set_option maxRecDepth 10000 in
theorem yNew0 {d : Nat} {Z : jm_M} (h : ∀ k, 31 < k → k < 71 → jm_c Z k = 0) : jm_D (d + 1) 98 0 [some (.inr (some (31, 0)))] [] Z = jm_D (d + 1) 98 167 [some (.inr (some (31, 0)))] [] (jn_m jn_Y0 Z) := by
  simp (decide := true) only [e98_0, e98_1, e98_2, e98_3, e98_4, e98_5, e98_6, e98_7, e98_8, e98_9, e98_10, e98_11, e98_12, e98_13, e98_14, e98_15, e98_16, e98_17, e98_18, e98_19, e98_20, e98_21, e98_22, e98_23, e98_24, e98_25, e98_26, e98_27, e98_28, e98_29, e98_30, e98_31, e98_32, e98_33, e98_34, e98_35, e98_36, e98_37, e98_38, e98_39, e98_40, e98_41, e98_42, e98_43, e98_44, e98_45, e98_46, e98_47, e98_48, e98_49, e98_50, e98_51, e98_52, e98_53, e98_54, e98_55, e98_56, e98_57, e98_58, e98_59, e98_60, e98_61, e98_62, e98_63, e98_64, e98_65, e98_66, e98_67, e98_68, e98_69, e98_70, e98_71, e98_72, e98_73, e98_74, e98_75, e98_76, e98_77, e98_78, e98_79, e98_80, e98_81, e98_82, e98_83, e98_84, e98_85, e98_86, e98_87, e98_88, e98_89, e98_90, e98_91, e98_92, e98_93, e98_94, e98_95, e98_96, e98_97, e98_98, e98_99, e98_100, e98_101, e98_102, e98_103, e98_104, e98_105, e98_106, e98_107, e98_108, e98_109, e98_110, e98_111, e98_112, e98_113, e98_114, e98_115, e98_116, e98_117, e98_118, e98_119, e98_120, e98_121, e98_122, e98_123, e98_124, e98_125, e98_126, e98_127, e98_128, e98_129, e98_130, e98_131, e98_132, e98_133, e98_134, e98_135, e98_136, e98_137, e98_138, e98_139, e98_140, e98_141, e98_142, e98_143, e98_144, e98_145, e98_146, e98_147, e98_148, e98_149, e98_150, e98_151, e98_152, e98_153, e98_154, e98_155, e98_156, e98_157, e98_158, e98_159, e98_160, e98_161, e98_162, e98_163, e98_164, e98_165, e98_166, jb_ix (show 4 < 10001 by decide) (by decide), jb_ix (show 32 < 10001 by decide) (by decide), jb_ix (show 40 < 10001 by decide) (by decide), jb_ix (show 64 < 10001 by decide) (by decide), jb_ix (show 101 < 10001 by decide) (by decide), jb_ix (show 128 < 10001 by decide) (by decide), jb_ix (show 160 < 10001 by decide) (by decide), jb_ix (show 3232 < 10001 by decide) (by decide), jb_cm, jb_cF, jb_cI, h 32 (by decide) (by decide), h 33 (by decide) (by decide), h 34 (by decide) (by decide), h 35 (by decide) (by decide), h 36 (by decide) (by decide), h 37 (by decide) (by decide), h 38 (by decide) (by decide), h 39 (by decide) (by decide), h 40 (by decide) (by decide), h 41 (by decide) (by decide), h 42 (by decide) (by decide), h 43 (by decide) (by decide), h 44 (by decide) (by decide), h 45 (by decide) (by decide), h 46 (by decide) (by decide), h 47 (by decide) (by decide), h 48 (by decide) (by decide), h 49 (by decide) (by decide), h 50 (by decide) (by decide), h 51 (by decide) (by decide), h 52 (by decide) (by decide), h 53 (by decide) (by decide), h 54 (by decide) (by decide), h 55 (by decide) (by decide), h 56 (by decide) (by decide), h 57 (by decide) (by decide), h 58 (by decide) (by decide), h 59 (by decide) (by decide), h 60 (by decide) (by decide), h 61 (by decide) (by decide), h 62 (by decide) (by decide), h 63 (by decide) (by decide), h 64 (by decide) (by decide), h 65 (by decide) (by decide), h 66 (by decide) (by decide), h 67 (by decide) (by decide), h 68 (by decide) (by decide), h 69 (by decide) (by decide), h 70 (by decide) (by decide)]
  rfl
set_option maxRecDepth 10000 in
theorem yNew {d : Nat} {Z : jm_M} (h : ∀ k, 31 < k → k < 71 → jm_c Z k = 0) : jm_D (d + 1) 98 0 [some (.inr (some (31, 0)))] [] Z = some (none, jn_m jn_Y Z) := by
  have e1 : jm_F (jn_m jn_Y0 Z) 31 0 13 = some (43, 0) := rfl
  have hc : jm_c Z 43 = 0 := h 43 (by decide) (by decide)
  have e2 : jm_n (jn_m jn_Y0 Z) 43 0 = 40 := by
    rw [jn_n_ok hc]
    rfl
  rw [yNew0 h]
  simp only [e98_167, e98_168, e98_169, e98_170, e98_171, e98_172, e1, e2, jb_ix (show 0 < 40 by decide) (by decide)]
  rfl
