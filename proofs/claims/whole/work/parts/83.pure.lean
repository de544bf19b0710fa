/-! A log loses what is behind an epoch. -/
def jb_cf (kp : Nat → Bool) (l : List Nat) (i : Nat) : List Nat := l.take i ++ (l.drop i).filter kp
theorem jb_cf_d {l : List Nat} {i t : Nat} (h : l[i]? = some t) : l.drop i = t :: l.drop (i + 1) := by
  obtain ⟨h1, h2⟩ := List.getElem?_eq_some_iff.mp h
  rw [List.drop_eq_getElem_cons h1, h2]
theorem jb_cf_t {l : List Nat} {i t : Nat} (h : l[i]? = some t) : l.take (i + 1) = l.take i ++ [t] := by
  rw [List.take_add_one, h]
  rfl
theorem jb_cf_k {kp : Nat → Bool} {l : List Nat} {i t : Nat} (h : l[i]? = some t) (hk : kp t = true) : jb_cf kp l i = jb_cf kp l (i + 1) := by
  unfold jb_cf
  rw [jb_cf_d h, jb_cf_t h, List.filter_cons, if_pos hk, List.append_assoc]
  rfl
theorem jb_cf_l {kp : Nat → Bool} {l : List Nat} {i t : Nat} (h : l[i]? = some t) (hk : kp t = false) : jb_cf kp l i = (jb_cf kp l (i + 1)).eraseIdx i := by
  have hl := (List.getElem?_eq_some_iff.mp h).1
  unfold jb_cf
  have hlen : (l.take i).length = i := by rw [List.length_take]; omega
  rw [jb_cf_d h, jb_cf_t h, List.filter_cons, if_neg (by rw [hk]; decide), List.append_assoc, List.eraseIdx_append_of_length_le (by omega), hlen, Nat.sub_self]
  rfl
theorem jb_cf_o {kp : Nat → Bool} {l : List Nat} {i : Nat} (h : l.length ≤ i) : jb_cf kp l i = l := by
  unfold jb_cf
  rw [List.take_of_length_le h, List.drop_of_length_le h]
  simp
theorem jb_cf_get {kp : Nat → Bool} {l : List Nat} {i t : Nat} (h : l[i]? = some t) : (jb_cf kp l (i + 1))[i]? = some t := by
  have hl := (List.getElem?_eq_some_iff.mp h).1
  unfold jb_cf
  have hlen : (l.take i).length = i := by rw [List.length_take]; omega
  rw [jb_cf_t h, List.append_assoc, List.getElem?_append_right (by omega), hlen, Nat.sub_self]
  rfl
theorem jb_cf_len {kp : Nat → Bool} {l : List Nat} {i : Nat} (h : i < l.length) : i < (jb_cf kp l (i + 1)).length := by
  unfold jb_cf
  rw [List.length_append, List.length_take]
  omega
/-- what is known of log w, all entries from i on looked at -/
def jc_S (M M' : jm_M) (w dc : Nat) (kp : Nat → Bool) (l : List Nat) (i : Nat) : Prop := jc_W M M' w ∧ jx_L M' 16 w (jb_cf kp l i) ∧ jm_I M' 15 w 1 = nI (jb_cf kp (l.take dc) i).length ∧ ∀ t, jm_I M' 25 t 4 = if t ∈ l.drop i ∧ kp t = false then nI 5 else jm_I M 25 t 4
theorem xLo0 {d w dc : Nat} {m : Int32} {M : jm_M} {kp : Nat → Bool} {l : List Nat} (hX : jx_S M) (hw : w < 4) (hl : l.length ≤ 100) (hkp : ∀ t ∈ l, kp t = decide (jm_I M 25 t 6 / nI 1024 ≤ m)) : ∀ i M1, i ≤ l.length → jc_S M M1 w dc kp l i → ∃ M', jm_D (d + 3) 82 6 [some (.inr (some (15, w))), some (.inl m), some (.inl (nI i + (-1)))] [] M1 = some (none, jm_setI M' 15 w 2 m) ∧ jc_S M M' w dc kp l 0 := by
  intro i
  induction i with
  | zero =>
    intro M1 _ hS
    refine ⟨M1, ?_, hS⟩
    have c1 : nI 0 + (-1) < nI 0 := by decide
    rw [e82_6, e82_7, if_pos c1]
    simp only [e82_40, e82_41, e82_42, e82_43]
  | succ i ih =>
    intro M1 hi hS
    have hil : i < l.length := by omega
    have c1 : ¬ nI i < nI 0 := nI_nlt (by omega) (by omega)
    obtain ⟨hW, hL, hD, hQ⟩ := hS
    have ht : l[i]? = some l[i] := List.getElem?_eq_getElem hil
    have hm : l[i] ∈ l := List.getElem_mem hil
    generalize l[i] = t at ht hm
    have hg := xl_get_16 (d := d) hL (jb_cf_get ht)
    have e6 : jm_I M1 25 t 6 = jm_I M 25 t 6 := hW.1.2.2.2.2 t 6 (by decide)
    have f15 : jm_F M1 15 w 0 = some (16, w) := by
      rw [hW.1.2.1 15 w 0 (by decide) (by decide)]
      simp only [xw_0 hX hw, xw_1 hX hw, xw_2 hX hw, xw_3 hX hw, xw_4 hX hw, xw_5 hX hw, xw_6 hX hw, xw_7 hX hw, xw_8 hX hw]
    have n1024 : ¬ nI 1024 = nI 0 := by decide
    rw [pk_m1, e82_6, e82_7, if_neg c1]
    by_cases hk : kp t = true
    · have c2 : jm_I M 25 t 6 / nI 1024 ≤ m := by
        rw [hkp t hm] at hk
        exact of_decide_eq_true hk
      have hS' : jc_S M M1 w dc kp l i := by
        refine ⟨hW, by rw [jb_cf_k ht hk]; exact hL, ?_, ?_⟩
        · rw [hD]
          by_cases hdc : i < dc
          · have : (l.take dc)[i]? = some t := by rw [List.getElem?_take_of_lt hdc]; exact ht
            rw [jb_cf_k this hk]
          · rw [jb_cf_o (by rw [List.length_take]; omega), jb_cf_o (by rw [List.length_take]; omega)]
        · intro u
          rw [hQ u, jb_cf_d ht]
          by_cases hu : u ∈ l.drop (i + 1) ∧ kp u = false
          · rw [if_pos hu, if_pos ⟨List.mem_cons_of_mem _ hu.1, hu.2⟩]
          · have hz : ¬ (u ∈ t :: l.drop (i + 1) ∧ kp u = false) := by
              intro z
              rcases List.mem_cons.mp z.1 with h | h
              · rw [h, hk] at z; exact absurd z.2 (by decide)
              · exact hu ⟨h, z.2⟩
            rw [if_neg hu, if_neg hz]
      obtain ⟨M', r1, r2⟩ := ih M1 (by omega) hS'
      refine ⟨M', ?_, r2⟩
      rw [← r1]
      simp only [e82_8, e82_9, e82_10, e82_11, e82_12, e82_13, e82_14, e82_15, e75_0, e75_1, e75_2, e75_3, e75_4, f15, hg, jb_some, jb_tl, e6, if_neg n1024, if_pos c2, e82_38, e82_39]
    · have hk0 : kp t = false := Bool.eq_false_iff.mpr hk
      have c2 : ¬ jm_I M 25 t 6 / nI 1024 ≤ m := by
        rw [hkp t hm] at hk0
        exact of_decide_eq_false hk0
      have hL2 : jx_L (jm_setI M1 25 t 4 (nI 5)) 16 w (jb_cf kp l (i + 1)) := hL
      obtain ⟨M2, q1, q2, q3, q4, q5⟩ := xRem (d := d) hL2 (jb_cf_get ht)
      rw [← jb_cf_l ht hk0] at q3
      have hW2 : jc_W M M2 w := jc_Wt (jc_Wt hW (jc_i25 (nI 5))) q2
      have f15' : jm_F (jm_setI M1 25 t 4 (nI 5)) 15 w 0 = some (16, w) := f15
      have hQ2 : ∀ u, jm_I M2 25 u 4 = if u ∈ l.drop i ∧ kp u = false then nI 5 else jm_I M 25 u 4 := by
        intro u
        rw [congrFun (congrFun q4 u) 4, jb_cf_d ht]
        by_cases hu : u = t
        · subst hu
          rw [if_pos ⟨List.mem_cons_self, hk0⟩]
          exact jb_Is _ _ _ _ _
        · rw [jb_Ij hu, hQ u]
          by_cases hv : u ∈ l.drop (i + 1) ∧ kp u = false
          · rw [if_pos hv, if_pos ⟨List.mem_cons_of_mem _ hv.1, hv.2⟩]
          · rw [if_neg hv, if_neg (fun z => hv ⟨(List.mem_cons.mp z.1).resolve_left hu, z.2⟩)]
      have d15 : jm_I M2 15 w 1 = nI (jb_cf kp (l.take dc) (i + 1)).length := by
        rw [congrFun (congrFun q5 w) 1]
        exact hD
      have hlP : (jb_cf kp (l.take dc) (i + 1)).length ≤ 100 := by
        unfold jb_cf
        have h1 : ((l.take dc).take (i + 1)).length + ((l.take dc).drop (i + 1)).length ≤ l.length := by
          rw [← List.length_append, List.take_append_drop, List.length_take]
          omega
        have h2 := List.length_filter_le kp ((l.take dc).drop (i + 1))
        rw [List.length_append]
        omega
      by_cases hdc : i < dc
      · have hP : (l.take dc)[i]? = some t := by rw [List.getElem?_take_of_lt hdc]; exact ht
        have hgt : i < (jb_cf kp (l.take dc) (i + 1)).length := jb_cf_len (List.getElem?_eq_some_iff.mp hP).1
        have c3 : ¬ nI (jb_cf kp (l.take dc) (i + 1)).length ≤ nI i := nI_ge hgt (by omega)
        have hlen : (jb_cf kp (l.take dc) (i + 1)).length - 1 = (jb_cf kp (l.take dc) i).length := by
          rw [jb_cf_l hP hk0, List.length_eraseIdx_of_lt hgt]
        obtain ⟨M', r1, r2⟩ := ih (jm_setI M2 15 w 1 (nI (jb_cf kp (l.take dc) i).length)) (by omega) ⟨jc_Wt hW2 (jc_i15 _), q3, jb_Is _ _ _ _ _, hQ2⟩
        refine ⟨M', ?_, r2⟩
        rw [← r1]
        simp only [e82_8, e82_9, e82_10, e82_11, e82_12, e82_13, e82_14, e82_15, e82_16, e82_17, e82_18, e82_19, e82_20, e82_21, e82_22, e82_23, e82_24, e82_25, e82_26, e82_27, e82_28, e82_29, e82_30, e82_31, e82_32, e82_33, e82_34, e82_35, e82_36, e82_37, e75_0, e75_1, e75_2, e75_3, e75_4, f15, f15', hg, q1, jb_some, jb_tl, e6, if_neg n1024, if_neg c2, d15, if_neg c3, pk_sub (show 1 ≤ (jb_cf kp (l.take dc) (i + 1)).length by omega), hlen, e82_38, e82_39]
      · have hle : (l.take dc).length ≤ i := by rw [List.length_take]; omega
        have c3 : nI (jb_cf kp (l.take dc) (i + 1)).length ≤ nI i := by
          rw [jb_cf_o (by omega)]
          exact nI_le hle (by omega)
        obtain ⟨M', r1, r2⟩ := ih M2 (by omega) ⟨hW2, q3, by rw [d15, jb_cf_o (show (l.take dc).length ≤ i + 1 by omega), jb_cf_o hle], hQ2⟩
        refine ⟨M', ?_, r2⟩
        rw [← r1]
        simp only [e82_8, e82_9, e82_10, e82_11, e82_12, e82_13, e82_14, e82_15, e82_16, e82_17, e82_18, e82_19, e82_20, e82_21, e82_22, e82_23, e82_24, e82_25, e82_26, e82_27, e82_28, e82_29, e82_30, e82_31, e75_0, e75_1, e75_2, e75_3, e75_4, f15, f15', hg, q1, jb_some, jb_tl, e6, if_neg n1024, if_neg c2, d15, if_pos c3, e82_38, e82_39]
theorem xLose {d w dc : Nat} {m : Int32} {M : jm_M} {kp : Nat → Bool} {l : List Nat} (hX : jx_S M) (hw : w < 4) (hL : jx_L M 16 w l) (hdc : dc ≤ l.length) (h15 : jm_I M 15 w 1 = nI dc) (hkp : ∀ t ∈ l, kp t = decide (jm_I M 25 t 6 / nI 1024 ≤ m)) : ∃ M', jm_D (d + 3) 82 0 [some (.inr (some (15, w))), some (.inl m), none] [] M = some (none, jm_setI M' 15 w 2 m) ∧ jc_W M M' w ∧ jx_L M' 16 w (l.filter kp) ∧ jm_I M' 15 w 1 = nI ((l.take dc).filter kp).length ∧ ∀ t, jm_I M' 25 t 4 = if t ∈ l ∧ kp t = false then nI 5 else jm_I M 25 t 4 := by
  have hs := xl_size_16 (d := d + 2) hL
  obtain ⟨M', r1, r2, r3, r4, r5⟩ := xLo0 (d := d) (w := w) (dc := dc) (m := m) (kp := kp) hX hw hL.2.1 hkp l.length M (Nat.le_refl _) ⟨jc_W0 M w, by rw [jb_cf_o (Nat.le_refl _)]; exact hL, by rw [jb_cf_o (by rw [List.length_take]; omega), List.length_take, h15, Nat.min_eq_left hdc], fun t => by rw [List.drop_length, if_neg (fun z => absurd z.1 List.not_mem_nil)]⟩
  refine ⟨M', ?_, r2, r3, r4, r5⟩
  rw [← r1]
  have e1 : nI l.length - nI 1 = nI l.length + (-1) := by
    rw [Int32.sub_eq_add_neg]
    rfl
  simp only [e82_0, e82_1, e82_2, e82_3, e82_4, e82_5, xw_0 hX hw, xw_1 hX hw, xw_2 hX hw, xw_3 hX hw, xw_4 hX hw, xw_5 hX hw, xw_6 hX hw, xw_7 hX hw, xw_8 hX hw, hs, jb_some, jb_tl, e1]
