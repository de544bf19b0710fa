/-! The last writer of a key. -/
def jb_b1 (wr : Nat → Bool) (st : Nat → Nat) (o : Option Nat) (t : Nat) : Option Nat := match wr t, o with
  | false, o => o
  | true, none => some t
  | true, some u => if st u < st t then some t else some u
theorem jb_b1f {wr : Nat → Bool} {st : Nat → Nat} {o : Option Nat} {t : Nat} (h : wr t = false) : jb_b1 wr st o t = o := by
  unfold jb_b1; rw [h]
theorem jb_b1n {wr : Nat → Bool} {st : Nat → Nat} {t : Nat} (h : wr t = true) : jb_b1 wr st none t = some t := by
  unfold jb_b1; rw [h]
theorem jb_b1s {wr : Nat → Bool} {st : Nat → Nat} {u t : Nat} (h : wr t = true) : jb_b1 wr st (some u) t = if st u < st t then some t else some u := by
  unfold jb_b1; rw [h]
/-- o is a greatest of the writers that P holds of -/
def jb_gr (wr : Nat → Bool) (st : Nat → Nat) (P : Nat → Prop) (o : Option Nat) : Prop := (o = none ∧ ∀ t, P t → wr t = false) ∨ ∃ t, o = some t ∧ P t ∧ wr t = true ∧ ∀ u, P u → wr u = true → st u ≤ st t
theorem jb_gr1 {wr : Nat → Bool} {st : Nat → Nat} {P : Nat → Prop} {o : Option Nat} {t : Nat} (h : jb_gr wr st P o) : jb_gr wr st (fun u => P u ∨ u = t) (jb_b1 wr st o t) := by
  cases ht : wr t with
  | false =>
    rw [jb_b1f ht]
    rcases h with ⟨h1, h2⟩ | ⟨u, h1, h2, h3, h4⟩
    · refine Or.inl ⟨h1, fun x hx => ?_⟩
      rcases hx with hx | rfl
      · exact h2 x hx
      · exact ht
    · refine Or.inr ⟨u, h1, Or.inl h2, h3, fun x hx hw => ?_⟩
      rcases hx with hx | rfl
      · exact h4 x hx hw
      · rw [ht] at hw; cases hw
  | true =>
    rcases h with ⟨rfl, h2⟩ | ⟨u, rfl, h2, h3, h4⟩
    · rw [jb_b1n ht]
      refine Or.inr ⟨t, rfl, Or.inr rfl, ht, fun x hx hw => ?_⟩
      rcases hx with hx | rfl
      · rw [h2 x hx] at hw; cases hw
      · exact Nat.le_refl _
    · rw [jb_b1s ht]
      by_cases hc : st u < st t
      · rw [if_pos hc]
        refine Or.inr ⟨t, rfl, Or.inr rfl, ht, fun x hx hw => ?_⟩
        rcases hx with hx | rfl
        · exact Nat.le_trans (h4 x hx hw) (by omega)
        · exact Nat.le_refl _
      · rw [if_neg hc]
        refine Or.inr ⟨u, rfl, Or.inl h2, h3, fun x hx hw => ?_⟩
        rcases hx with hx | rfl
        · exact h4 x hx hw
        · omega
theorem jb_gr_cg {wr : Nat → Bool} {st : Nat → Nat} {P Q : Nat → Prop} {o : Option Nat} (h : jb_gr wr st P o) (he : ∀ t, P t ↔ Q t) : jb_gr wr st Q o := by
  have : P = Q := funext fun t => propext (he t)
  rw [← this]; exact h
theorem jb_grl {wr : Nat → Bool} {st : Nat → Nat} : ∀ (l : List Nat) (P : Nat → Prop) (o : Option Nat), jb_gr wr st P o → jb_gr wr st (fun u => P u ∨ u ∈ l) (l.foldl (jb_b1 wr st) o) := by
  intro l
  induction l with
  | nil => intro P o h; exact jb_gr_cg h (fun t => by simp)
  | cons t l ih =>
    intro P o h
    refine jb_gr_cg (ih _ _ (jb_gr1 (t := t) h)) (fun u => ?_)
    rw [List.mem_cons]
    constructor
    · rintro ((h | h) | h)
      · exact Or.inl h
      · exact Or.inr (Or.inl h)
      · exact Or.inr (Or.inr h)
    · rintro (h | h | h)
      · exact Or.inl (Or.inl h)
      · exact Or.inl (Or.inr h)
      · exact Or.inr h
/-- two greatest are the same -/
theorem jb_gr_eq {wr : Nat → Bool} {st : Nat → Nat} {P : Nat → Prop} {o o' : Option Nat} (h : jb_gr wr st P o) (h' : jb_gr wr st P o') (hu : ∀ t u, P t → P u → wr t = true → wr u = true → st t = st u → t = u) : o = o' := by
  rcases h with ⟨rfl, h2⟩ | ⟨t, rfl, h2, h3, h4⟩
  · rcases h' with ⟨rfl, -⟩ | ⟨u, rfl, g2, g3, -⟩
    · rfl
    · rw [h2 u g2] at g3; cases g3
  · rcases h' with ⟨rfl, g2⟩ | ⟨u, rfl, g2, g3, g4⟩
    · rw [g2 t h2] at h3; cases h3
    · rw [hu t u h2 g2 h3 g3 (Nat.le_antisymm (g4 t h2 h3) (h4 u g2 g3))]
/-- the class's registers for a writer -/
def jx_o1 (o : Option Nat) : Int32 := match o with
  | none => nI 0
  | some _ => nI 1
def jx_o2 (M : jm_M) (k : Nat) (o : Option Nat) : Int32 := match o with
  | none => nI 0
  | some t => if jm_I M 26 (t + 4) k = nI 1 then nI 1 else nI 0
def jx_o3 (M : jm_M) (k : Nat) (o : Option Nat) : Int32 := match o with
  | none => nI 0
  | some t => jm_I M 27 (t + 4) k
def jx_o4 (M : jm_M) (o : Option Nat) : Int32 := match o with
  | none => nI 0
  | some t => jm_I M 25 t 6
def jx_wr (M : jm_M) (k t : Nat) : Bool := !decide (jm_I M 26 (t + 4) k = nI 0)
/-- what the class must know of a logged transaction -/
def jx_tk (M : jm_M) (st : Nat → Nat) (t : Nat) : Prop := jm_F M 25 t 1 = some (26, t + 4) ∧ jm_F M 25 t 2 = some (27, t + 4) ∧ jm_n M 26 (t + 4) = 32 ∧ jm_n M 27 (t + 4) = 32 ∧ st t < 2 ^ 31 ∧ jm_I M 25 t 6 = nI (st t)
theorem xRc0 {d w k : Nat} {M : jm_M} {st : Nat → Nat} {l : List Nat} (hX : jx_S M) (hw : w < 4) (hk : k < 32) (hL : jx_L M 16 w l) (ht : ∀ t ∈ l, jx_tk M st t) : ∀ f i o l8, i + f = l.length → (∀ u, o = some u → jx_tk M st u) → ∃ l8', jm_D (d + 3) 88 15 [some (.inr (some (0, 0))), some (.inl (nI k)), some (.inl (jx_o1 o)), some (.inl (jx_o2 M k o)), some (.inl (jx_o3 M k o)), some (.inl (jx_o4 M o)), some (.inl (nI w)), some (.inl (nI i)), l8] [] M = jm_D (d + 3) 88 58 [some (.inr (some (0, 0))), some (.inl (nI k)), some (.inl (jx_o1 ((l.drop i).foldl (jb_b1 (jx_wr M k) st) o))), some (.inl (jx_o2 M k ((l.drop i).foldl (jb_b1 (jx_wr M k) st) o))), some (.inl (jx_o3 M k ((l.drop i).foldl (jb_b1 (jx_wr M k) st) o))), some (.inl (jx_o4 M ((l.drop i).foldl (jb_b1 (jx_wr M k) st) o))), some (.inl (nI w)), some (.inl (nI l.length)), l8'] [] M ∧ ∀ u, (l.drop i).foldl (jb_b1 (jx_wr M k) st) o = some u → jx_tk M st u := by
  have hl100 := hL.2.1
  have hsz := xl_size_16 (d := d + 2) hL
  intro f
  induction f with
  | zero =>
    intro i o l8 hi ho
    obtain rfl : i = l.length := by omega
    rw [List.drop_length]
    refine ⟨l8, ?_, ho⟩
    rw [e88_15]
    simp only [e88_16, e88_17, e88_18, e88_19, e88_20, e88_21, e88_22, xs_0 hX, xs_1 hX, xs_2 hX, xs_3 hX, xs_4 hX, xs_5 hX, xs_6 hX, xs_7 hX, xs_8 hX, xs_9 hX, xs_10 hX, xs_11 hX, xs_12 hX, xs_13 hX, xs_14 hX, xs_15 hX, xs_16 hX, xs_17 hX, xs_18 hX, xs_19 hX, xw_0 hX hw, xw_1 hX hw, xw_2 hX hw, xw_3 hX hw, xw_4 hX hw, xw_5 hX hw, xw_6 hX hw, xw_7 hX hw, xw_8 hX hw, jb_ix hw (by decide), hsz, jb_some, jb_tl, List.foldl_nil, Int32.le_refl, if_true]
  | succ f ih =>
    intro i o l8 hi ho
    have hil : i < l.length := by omega
    have hti : l[i]? = some l[i] := List.getElem?_eq_getElem hil
    have hm : l[i] ∈ l := List.getElem_mem hil
    generalize l[i] = t at hti hm
    obtain ⟨t1, t2, t3, t4, t5, t6⟩ := ht t hm
    have hg := xl_get_16 (d := d) hL hti
    have hwr := xWrs (d := d + 2) t1 t3 hk
    have c1 : ¬ nI l.length ≤ nI i := nI_ge hil (by omega)
    have n1 : ¬ nI 1 = nI 0 := by decide
    rw [jb_cf_d hti, List.foldl_cons]
    have go : ∀ o', jb_b1 (jx_wr M k) st o t = o' → (∀ u, o' = some u → jx_tk M st u) → jm_D (d + 3) 88 15 [some (.inr (some (0, 0))), some (.inl (nI k)), some (.inl (jx_o1 o)), some (.inl (jx_o2 M k o)), some (.inl (jx_o3 M k o)), some (.inl (jx_o4 M o)), some (.inl (nI w)), some (.inl (nI i)), l8] [] M = jm_D (d + 3) 88 15 [some (.inr (some (0, 0))), some (.inl (nI k)), some (.inl (jx_o1 o')), some (.inl (jx_o2 M k o')), some (.inl (jx_o3 M k o')), some (.inl (jx_o4 M o')), some (.inl (nI w)), some (.inl (nI (i + 1))), some (.inr (some (25, t)))] [] M → ∃ l8', jm_D (d + 3) 88 15 [some (.inr (some (0, 0))), some (.inl (nI k)), some (.inl (jx_o1 o)), some (.inl (jx_o2 M k o)), some (.inl (jx_o3 M k o)), some (.inl (jx_o4 M o)), some (.inl (nI w)), some (.inl (nI i)), l8] [] M = jm_D (d + 3) 88 58 [some (.inr (some (0, 0))), some (.inl (nI k)), some (.inl (jx_o1 ((l.drop (i + 1)).foldl (jb_b1 (jx_wr M k) st) (jb_b1 (jx_wr M k) st o t)))), some (.inl (jx_o2 M k ((l.drop (i + 1)).foldl (jb_b1 (jx_wr M k) st) (jb_b1 (jx_wr M k) st o t)))), some (.inl (jx_o3 M k ((l.drop (i + 1)).foldl (jb_b1 (jx_wr M k) st) (jb_b1 (jx_wr M k) st o t)))), some (.inl (jx_o4 M ((l.drop (i + 1)).foldl (jb_b1 (jx_wr M k) st) (jb_b1 (jx_wr M k) st o t)))), some (.inl (nI w)), some (.inl (nI l.length)), l8'] [] M ∧ ∀ u, (l.drop (i + 1)).foldl (jb_b1 (jx_wr M k) st) (jb_b1 (jx_wr M k) st o t) = some u → jx_tk M st u := by
      intro o' ho' hok hrun
      rw [ho', hrun]
      exact ih (i + 1) o' _ (by omega) hok
    by_cases h26 : jm_I M 26 (t + 4) k = nI 0
    · have hb : jx_wr M k t = false := by unfold jx_wr; rw [decide_eq_true h26]; rfl
      rw [if_pos h26] at hwr
      refine go o (jb_b1f hb) ho ?_
      rw [e88_15]
      simp only [e88_0, e88_1, e88_2, e88_3, e88_4, e88_5, e88_6, e88_7, e88_8, e88_9, e88_11, e88_12, e88_13, e88_14, e88_16, e88_17, e88_18, e88_19, e88_20, e88_21, e88_22, e88_23, e88_24, e88_25, e88_26, e88_27, e88_28, e88_29, e88_30, e88_31, e88_32, e88_33, e88_34, e88_35, e88_36, e88_37, e88_38, e88_39, e88_40, e88_41, e88_42, e88_43, e88_44, e88_45, e88_46, e88_47, e88_48, e88_49, e88_50, e88_51, e88_52, e88_53, e88_54, e88_55, e88_56, e88_57, e88_59, e88_61, e88_62, e88_63, e88_64, e88_65, e88_66, e88_67, e88_68, e88_69, e88_70, e88_71, e88_72, e88_73, xs_0 hX, xs_1 hX, xs_2 hX, xs_3 hX, xs_4 hX, xs_5 hX, xs_6 hX, xs_7 hX, xs_8 hX, xs_9 hX, xs_10 hX, xs_11 hX, xs_12 hX, xs_13 hX, xs_14 hX, xs_15 hX, xs_16 hX, xs_17 hX, xs_18 hX, xs_19 hX, xw_0 hX hw, xw_1 hX hw, xw_2 hX hw, xw_3 hX hw, xw_4 hX hw, xw_5 hX hw, xw_6 hX hw, xw_7 hX hw, xw_8 hX hw, jb_ix hw (by decide), hsz, hg, hwr, jb_some, jb_tl, if_neg c1, if_true, nI_add]
    · have hb : jx_wr M k t = true := by unfold jx_wr; rw [decide_eq_false h26]; rfl
      rw [if_neg h26] at hwr
      have hput : jm_D (d + 2) 48 0 [some (.inr (some (25, t))), some (.inl (nI k))] [] M = some (some (.inl (jx_o2 M k (some t))), M) := by
        unfold jx_o2
        by_cases q : jm_I M 26 (t + 4) k = nI 1
        · simp only [e48_0, e48_1, e48_2, e48_3, e48_4, e48_5, e48_6, e48_7, e48_8, e48_9_0, e48_9_1, t1, t3, jb_ix hk (by decide), q, if_true]
        · simp only [e48_0, e48_1, e48_2, e48_3, e48_4, e48_5, e48_6, e48_7, e48_8, e48_9_0, e48_9_1, t1, t3, jb_ix hk (by decide), if_neg q]
      have o3 : jx_o3 M k (some t) = jm_I M 27 (t + 4) k := rfl
      have o4 : jx_o4 M (some t) = jm_I M 25 t 6 := rfl
      have o1 : jx_o1 (some t) = nI 1 := rfl
      cases o with
      | none =>
        have p1 : jx_o1 none = nI 0 := rfl
        refine go (some t) (jb_b1n hb) (fun u hu => by cases hu; exact ht t hm) ?_
        rw [e88_15]
        simp only [e88_0, e88_1, e88_2, e88_3, e88_4, e88_5, e88_6, e88_7, e88_8, e88_9, e88_11, e88_12, e88_13, e88_14, e88_16, e88_17, e88_18, e88_19, e88_20, e88_21, e88_22, e88_23, e88_24, e88_25, e88_26, e88_27, e88_28, e88_29, e88_30, e88_31, e88_32, e88_33, e88_34, e88_35, e88_36, e88_37, e88_38, e88_39, e88_40, e88_41, e88_42, e88_43, e88_44, e88_45, e88_46, e88_47, e88_48, e88_49, e88_50, e88_51, e88_52, e88_53, e88_54, e88_55, e88_56, e88_57, e88_59, e88_61, e88_62, e88_63, e88_64, e88_65, e88_66, e88_67, e88_68, e88_69, e88_70, e88_71, e88_72, e88_73, xs_0 hX, xs_1 hX, xs_2 hX, xs_3 hX, xs_4 hX, xs_5 hX, xs_6 hX, xs_7 hX, xs_8 hX, xs_9 hX, xs_10 hX, xs_11 hX, xs_12 hX, xs_13 hX, xs_14 hX, xs_15 hX, xs_16 hX, xs_17 hX, xs_18 hX, xs_19 hX, xw_0 hX hw, xw_1 hX hw, xw_2 hX hw, xw_3 hX hw, xw_4 hX hw, xw_5 hX hw, xw_6 hX hw, xw_7 hX hw, xw_8 hX hw, jb_ix hw (by decide), hsz, hg, hwr, jb_some, jb_tl, if_neg c1, if_neg n1, p1, if_true, hput, t2, t4, jb_ix hk (by decide), o3, o4, o1, nI_add]
      | some u =>
        obtain ⟨-, -, -, -, u5, u6⟩ := ho u rfl
        have p1 : jx_o1 (some u) = nI 1 := rfl
        have p4 : jx_o4 M (some u) = nI (st u) := u6
        by_cases hc : st u < st t
        · have c2 : ¬ nI (st t) ≤ nI (st u) := nI_ge hc t5
          refine go (some t) (by rw [jb_b1s hb, if_pos hc]) (fun u hu => by cases hu; exact ht t hm) ?_
          rw [e88_15]
          simp only [e88_0, e88_1, e88_2, e88_3, e88_4, e88_5, e88_6, e88_7, e88_8, e88_9, e88_11, e88_12, e88_13, e88_14, e88_16, e88_17, e88_18, e88_19, e88_20, e88_21, e88_22, e88_23, e88_24, e88_25, e88_26, e88_27, e88_28, e88_29, e88_30, e88_31, e88_32, e88_33, e88_34, e88_35, e88_36, e88_37, e88_38, e88_39, e88_40, e88_41, e88_42, e88_43, e88_44, e88_45, e88_46, e88_47, e88_48, e88_49, e88_50, e88_51, e88_52, e88_53, e88_54, e88_55, e88_56, e88_57, e88_59, e88_61, e88_62, e88_63, e88_64, e88_65, e88_66, e88_67, e88_68, e88_69, e88_70, e88_71, e88_72, e88_73, xs_0 hX, xs_1 hX, xs_2 hX, xs_3 hX, xs_4 hX, xs_5 hX, xs_6 hX, xs_7 hX, xs_8 hX, xs_9 hX, xs_10 hX, xs_11 hX, xs_12 hX, xs_13 hX, xs_14 hX, xs_15 hX, xs_16 hX, xs_17 hX, xs_18 hX, xs_19 hX, xw_0 hX hw, xw_1 hX hw, xw_2 hX hw, xw_3 hX hw, xw_4 hX hw, xw_5 hX hw, xw_6 hX hw, xw_7 hX hw, xw_8 hX hw, jb_ix hw (by decide), hsz, hg, hwr, jb_some, jb_tl, if_neg c1, if_neg n1, p1, p4, t6, if_neg c2, hput, t2, t4, jb_ix hk (by decide), o3, o4, o1, nI_add]
        · have c2 : nI (st t) ≤ nI (st u) := nI_le (by omega) u5
          refine go (some u) (by rw [jb_b1s hb, if_neg hc]) ho ?_
          rw [e88_15]
          simp only [e88_0, e88_1, e88_2, e88_3, e88_4, e88_5, e88_6, e88_7, e88_8, e88_9, e88_11, e88_12, e88_13, e88_14, e88_16, e88_17, e88_18, e88_19, e88_20, e88_21, e88_22, e88_23, e88_24, e88_25, e88_26, e88_27, e88_28, e88_29, e88_30, e88_31, e88_32, e88_33, e88_34, e88_35, e88_36, e88_37, e88_38, e88_39, e88_40, e88_41, e88_42, e88_43, e88_44, e88_45, e88_46, e88_47, e88_48, e88_49, e88_50, e88_51, e88_52, e88_53, e88_54, e88_55, e88_56, e88_57, e88_59, e88_61, e88_62, e88_63, e88_64, e88_65, e88_66, e88_67, e88_68, e88_69, e88_70, e88_71, e88_72, e88_73, xs_0 hX, xs_1 hX, xs_2 hX, xs_3 hX, xs_4 hX, xs_5 hX, xs_6 hX, xs_7 hX, xs_8 hX, xs_9 hX, xs_10 hX, xs_11 hX, xs_12 hX, xs_13 hX, xs_14 hX, xs_15 hX, xs_16 hX, xs_17 hX, xs_18 hX, xs_19 hX, xw_0 hX hw, xw_1 hX hw, xw_2 hX hw, xw_3 hX hw, xw_4 hX hw, xw_5 hX hw, xw_6 hX hw, xw_7 hX hw, xw_8 hX hw, jb_ix hw (by decide), hsz, hg, hwr, jb_some, jb_tl, if_neg c1, if_neg n1, p1, p4, t6, if_pos c2, nI_add]
