/-! Giving; what an instruction comes to. -/
theorem jr_give {E C w t : Nat} {M N : jm_M} (h : jr_W E C M N w t) (hw : w < 4) (v : Int32) : jr_R E C (jm_setI (jm_setI M 25 t 5 v) 11 w 6 (nI 2)) (jm_setI (jm_setI N 58 0 w v) 45 0 w (nI 2)) ∧ rRun E C (jm_setI (jm_setI M 25 t 5 v) 11 w 6 (nI 2)) (jm_setI (jm_setI N 58 0 w v) 45 0 w (nI 2)) w 2 t := by
  have h' := h
  obtain ⟨hR, a1, a2, a3⟩ := h
  have hO : jq_O M N (jm_setI (jm_setI M 25 t 5 v) 11 w 6 (nI 2)) (jm_setI (jm_setI N 58 0 w v) 45 0 w (nI 2)) w t := jo_M (jo_25 (jo_N (jo_N (jo_r M N w t) (by decide) (by decide) v) (by decide) (by decide) (nI 2)) (by decide) v) (by decide) (by decide) (by decide) (nI 2)
  have b2 : jm_I (jm_setI (jm_setI N 58 0 w v) 45 0 w (nI 2)) 45 0 w = nI 2 := jb_Is _ _ _ _ _
  have e11 : ∀ j, j ≠ 6 → jm_I (jm_setI (jm_setI M 25 t 5 v) 11 w 6 (nI 2)) 11 w j = jm_I M 11 w j := fun j hj => jb_Io hj (jm_setI M 25 t 5 v) 11 w (nI 2) 11 w
  have e25 : jm_I (jm_setI (jm_setI M 25 t 5 v) 11 w 6 (nI 2)) 25 t 3 = jm_I M 25 t 3 := jb_Io (by decide) M 25 t v 25 t
  have hr : rRun E C (jm_setI (jm_setI M 25 t 5 v) 11 w 6 (nI 2)) (jm_setI (jm_setI N 58 0 w v) 45 0 w (nI 2)) w 2 t := by
    obtain ⟨c1, c2, c3, c4, c5, c6, ⟨p, p1, p2, p3⟩, c8, c9, d1, d2, d3, d4, d5, d6, d7, d8, d9, f1, f2, f3⟩ := a3
    exact ⟨c1, c2, c3, c4, c5, c6, ⟨p, p1, (e11 4 (by decide)).trans p2, p3⟩, c8, c9, d1, d2, e25.trans d3, (e11 9 (by decide)).trans d4, (e11 10 (by decide)).trans d5, fun z => absurd z (by decide), fun _ => (jb_Is M 25 t 5 v).trans (jb_Is N 58 0 w v).symm, fun _ k hk => Or.inl ((d6 rfl).2.2 k hk), fun z => absurd z (by decide), fun z => absurd z (by decide), fun _ => f2 (by decide), fun z => absurd z (by decide)⟩
  refine ⟨jr_own hR (Nat.le_refl _) hw a3.2.2.1 a3.1 a3.2.2.2.2.1 (by rw [a2]; decide) hO ?_ (by rw [b2]; decide) (rU_own hR.2.2.2.2.2.2.2.2.2.2 hO (by rw [b2]; decide) (by rw [b2]; decide)), hr⟩
  obtain ⟨s, p1, p2, p3, ⟨x, p4, p5, p6⟩, -⟩ := hR.2.2.2.2.2.2.1 w hw
  have es : s = 1 := (nI_eq (by omega) (by decide)).mp (p3.symm.trans a2)
  subst es
  exact ⟨2, by decide, jb_Is _ _ _ _ _, b2, ⟨x, p4, p5, fun _ => (e11 12 (by decide)).trans (p6 (by decide))⟩, fun z => absurd z (by decide), fun _ => ⟨t, hr⟩⟩
theorem jr_next2 {E C w t : Nat} {M N : jm_M} (h : jr_R E C M N) (hw : w < 4) (h6 : jm_I M 11 w 6 = nI 2) (h45 : jm_I N 45 0 w = nI 2) (hr : rRun E C M N w 2 t) (x y : Int32) : jr_R E C (jm_setI (jm_setI M 11 w 7 x) 11 w 8 y) (jm_setI (jm_setI N 48 0 w x) 49 0 w y) := by
  have e : ∀ j, j ≠ 7 → j ≠ 8 → jm_I (jm_setI (jm_setI M 11 w 7 x) 11 w 8 y) 11 w j = jm_I M 11 w j := fun j h1 h2 => (jb_Io h2 _ _ _ _ _ _).trans (jb_Io h1 _ _ _ _ _ _)
  have hO : jq_O M N (jm_setI (jm_setI M 11 w 7 x) 11 w 8 y) (jm_setI (jm_setI N 48 0 w x) 49 0 w y) w t := jo_M (jo_M (jo_N (jo_N (jo_r M N w t) (by decide) (by decide) x) (by decide) (by decide) y) (by decide) (by decide) (by decide) x) (by decide) (by decide) (by decide) y
  refine jr_own h (Nat.le_refl _) hw hr.2.2.1 hr.1 hr.2.2.2.2.1 (by rw [h45]; decide) hO ?_ (by show ¬ jm_I N 45 0 w = nI 0; rw [h45]; decide) (rU_own h.2.2.2.2.2.2.2.2.2.2 hO (by show ¬ jm_I N 45 0 w = nI 3; rw [h45]; decide) (by show ¬ jm_I N 45 0 w = nI 4; rw [h45]; decide))
  obtain ⟨s, p1, p2, p3, ⟨z, p4, p5, p6⟩, -⟩ := h.2.2.2.2.2.2.1 w hw
  have es : s = 2 := (nI_eq (by omega) (by decide)).mp (p3.symm.trans h45)
  subst es
  refine ⟨2, by decide, (e 6 (by decide) (by decide)).trans p2, p3, ⟨z, p4, p5, fun _ => (e 12 (by decide) (by decide)).trans (p6 (by decide))⟩, fun z => absurd z (by decide), fun _ => ⟨t, ?_⟩⟩
  obtain ⟨c1, c2, c3, c4, c5, c6, ⟨p, q1, q2, q3⟩, c8, c9, d1, d2, d3, d4, d5, d6, d7, d8, d9, f1, f2, f3⟩ := hr
  exact ⟨c1, c2, c3, c4, c5, c6, ⟨p, q1, (e 4 (by decide) (by decide)).trans q2, q3⟩, c8, c9, d1, d2, d3, (e 9 (by decide) (by decide)).trans d4, (e 10 (by decide) (by decide)).trans d5, fun z => absurd z (by decide), d7, d8, fun z => absurd z (by decide), f1, f2, fun z => absurd z (by decide)⟩
/-- what a step that commits nothing comes to -/
def jr_P (E C : Nat) (M N : jm_M) (w : Nat) (X Y : jm_Z) : Prop := ∃ r M' N', X = some (some (.inl r), M') ∧ Y = some (some (.inl r), N') ∧ jr_R E C M' N' ∧ (r = nI 0 ∨ r = nI 3 ∨ (r = nI 1 ∧ ∃ s, 1 ≤ s ∧ s ≤ 4 ∧ jm_I N' 45 0 w = nI s)) ∧ jr_Z M M' ∧ jr_Z N N'
theorem jz_t {M M1 M2 : jm_M} (h1 : jr_Z M M1) (h2 : jr_Z M1 M2) : jr_Z M M2 := ⟨h2.1.trans h1.1, h2.2.trans h1.2⟩
theorem jp_of {E C w : Nat} {M N M1 N1 : jm_M} {X Y : jm_Z} (h1 : jr_Z M M1) (h2 : jr_Z N N1) (h : jr_P E C M1 N1 w X Y) : jr_P E C M N w X Y := by
  obtain ⟨r, M', N', a1, a2, a3, a4, a5, a6⟩ := h
  exact ⟨r, M', N', a1, a2, a3, a4, jz_t h1 a5, jz_t h2 a6⟩
theorem xEnd {d w y : Nat} {M : jm_M} (hy : jm_I M 11 w 8 = nI y) (l1 l2 l3 l4 l5 l6 : Option jm_V) (f : Int32) : jm_D d 32 132 [some (.inr (some (11, w))), l1, l2, l3, l4, l5, l6, some (.inl f), some (.inl (nI 1))] [] M = some (some (.inl (nI 1)), jm_setI (jm_setI M 11 w 7 f) 11 w 8 (nI (y + 1))) := by
  have e : jm_I (jm_setI M 11 w 7 f) 11 w 8 = nI y := (jb_Io (by decide) _ _ _ _ _ _).trans hy
  simp only [e32_132, e32_133, e32_134, if_true, e32_135, e32_136, e32_137, e32_138, e32_139, e32_140, e, e32_141, e32_142, nI_add, e32_143, e32_144, e32_145]
theorem yEnd {d w y : Nat} {N : jm_M} (hY : jy_S N) (hw : w < 4) (hy : jm_I N 49 0 w = nI y) (l2 l3 l4 l5 : Option jm_V) (f : Int32) : jm_D d 108 189 [some (.inr (some (31, 0))), some (.inl (nI w)), l2, l3, l4, l5, some (.inl f)] [] N = some (some (.inl (nI 1)), jm_setI (jm_setI N 48 0 w f) 49 0 w (nI (y + 1))) := by
  have e : jm_I (jm_setI N 48 0 w f) 49 0 w = nI y := hy
  simp only [e108_189, e108_190, e108_191, e108_192, e108_193, e108_194, e108_195, e108_196, e108_197, e108_198, e108_199, e108_200, e108_201, e108_202, e108_203, jb_FI, jb_nI, ys_0 hY, ys_1 hY, ys_2 hY, ys_3 hY, ys_4 hY, ys_5 hY, ys_6 hY, ys_7 hY, ys_8 hY, ys_9 hY, ys_10 hY, ys_11 hY, ys_12 hY, ys_13 hY, ys_14 hY, ys_15 hY, ys_16 hY, ys_17 hY, ys_18 hY, ys_19 hY, ys_20 hY, ys_21 hY, ys_22 hY, ys_23 hY, ys_24 hY, ys_25 hY, ys_26 hY, ys_27 hY, ys_28 hY, ys_29 hY, ys_30 hY, ys_31 hY, ys_32 hY, ys_33 hY, ys_34 hY, ys_35 hY, ys_36 hY, ys_37 hY, ys_38 hY, ys_39 hY, ys_40 hY, ys_41 hY, ys_42 hY, ys_43 hY, ys_44 hY, ys_45 hY, ys_46 hY, ys_47 hY, ys_48 hY, ys_49 hY, ys_50 hY, ys_51 hY, ys_52 hY, ys_53 hY, ys_54 hY, ys_55 hY, ys_56 hY, ys_57 hY, ys_58 hY, ys_59 hY, ys_60 hY, ys_61 hY, ys_62 hY, ys_63 hY, ys_64 hY, ys_65 hY, ys_66 hY, ys_67 hY, ys_68 hY, ys_69 hY, ys_70 hY, ys_71 hY, ys_72 hY, ys_73 hY, ys_74 hY, ys_75 hY, ys_76 hY, ys_77 hY, jb_ix hw (by decide), e, nI_add]
/-- the end of an instruction of a worker that runs on -/
theorem jp_end {d d' E C w t y f : Nat} {M N : jm_M} (h : jr_W E C M N w t) (hw : w < 4) (hf : f ≤ 16) (hy : y < 60) (h8 : jm_I M 11 w 8 = nI y) (h9 : jm_I N 49 0 w = nI y) (l1 l2 l3 l4 l5 l6 m2 m3 m4 m5 : Option jm_V) : jr_P E C M N w (jm_D d 32 132 [some (.inr (some (11, w))), l1, l2, l3, l4, l5, l6, some (.inl (nI f)), some (.inl (nI 1))] [] M) (jm_D d' 108 189 [some (.inr (some (31, 0))), some (.inl (nI w)), m2, m3, m4, m5, some (.inl (nI f))] [] N) := by
  have hW := jr_next h hw hf (show y + 1 ≤ 60 by omega)
  exact ⟨nI 1, _, _, xEnd h8 _ _ _ _ _ _ _, yEnd h.1.2.1 hw h9 _ _ _ _ _, hW.1, Or.inr (Or.inr ⟨rfl, 1, by decide, by decide, hW.2.2.1⟩), ⟨rfl, rfl⟩, ⟨rfl, rfl⟩⟩
