/-! The small machine is sound: what it comes to, the machine comes to. First the memory and the heap. -/
def jm_rf (ad : Nat → Nat → Nat) (x : jm_R) : Option Nat := x.map fun q => ad q.1 q.2
def jm_vl (ad : Nat → Nat → Nat) (v : jm_V) : Value := match v with
  | .inl x => .int x
  | .inr x => va_rf (jm_rf ad x)
def jm_fv (ad : Nat → Nat → Nat) (M : jm_M) (ci k i j : Nat) : Value := bif jm_fi ci j then .int (jm_I M k i j) else va_rf (jm_rf ad (jm_F M k i j))
def jm_E (cA : Nat → ClassId) (ad : Nat → Nat → Nat) (M : jm_M) (q : Nat × Nat) : va_E :=
  bif Nat.beq (jm_kd q.1).1 0 then .inr ((jm_kd q.1).2.1, (List.range (jm_kd q.1).2.2).map (jm_fv ad M (jm_kd q.1).2.1 q.1 q.2))
  else bif Nat.beq (jm_kd q.1).1 1 then .inl (cA (jm_kd q.1).2.1, jm_n M q.1 q.2, .inl (jm_I M q.1 q.2))
  else .inl (cA (jm_kd q.1).2.1, jm_n M q.1 q.2, .inr (.inr (.inr (.inr fun j => jm_rf ad (jm_F M q.1 q.2 j)))))
def jm_ws (cA : Nat → ClassId) (ad : Nat → Nat → Nat) (M : jm_M) : va_W := (jm_al M).map fun q => (ad q.1 q.2, jm_E cA ad M q)
def jm_okR (M : jm_M) (x : jm_R) : Prop := ∀ q, x = some q → q.2 < jm_c M q.1
def jm_okV (M : jm_M) (v : jm_V) : Prop := ∀ x, v = .inr x → jm_okR M x
def jm_okS (M : jm_M) (S : List jm_V) : Prop := ∀ v ∈ S, jm_okV M v
def jm_okL (M : jm_M) (L : List (Option jm_V)) : Prop := ∀ v, some v ∈ L → jm_okV M v
def jm_wf (n0 : Nat → Nat) (f0 : Nat → Nat → Int32) (M : jm_M) : Prop := (∀ k i j, jm_okR M (jm_F M k i j)) ∧ (∀ q, q ∈ jm_al M ↔ (jm_kd q.1).1 ≤ 2 ∧ q.2 < jm_c M q.1) ∧ (jm_al M).Nodup ∧ (∀ k, 3 ≤ (jm_kd k).1 → (jm_kd k).1 ≤ 6 → jm_c M k = 1 ∧ jm_n M k 0 = n0 k ∧ ∀ j, jm_I M k 0 j = f0 k j) ∧ (∀ k i j, (jm_kd k).1 = 2 → jm_as (jm_kd k).2.1 (jm_F M k i j) = true)
def jm_ext (M : jm_M) (ad ad' : Nat → Nat → Nat) : Prop := ∀ k i, i < jm_c M k → ad' k i = ad k i
def jm_gr (M M' : jm_M) : Prop := (∀ k, jm_c M k ≤ jm_c M' k) ∧ (jm_al M).length ≤ (jm_al M').length ∧ jm_sl M ≤ jm_sl M'
theorem jm_gr.rf (M : jm_M) : jm_gr M M := ⟨fun _ => Nat.le_refl _, Nat.le_refl _, Nat.le_refl _⟩
theorem jm_gr.tr {M N O : jm_M} (h : jm_gr M N) (h2 : jm_gr N O) : jm_gr M O := ⟨fun k => Nat.le_trans (h.1 k) (h2.1 k), Nat.le_trans h.2.1 h2.2.1, Nat.le_trans h.2.2 h2.2.2⟩
theorem jm_ext.rf (M : jm_M) (ad : Nat → Nat → Nat) : jm_ext M ad ad := fun _ _ _ => rfl
theorem jm_ext.tr {M N : jm_M} {ad ad1 ad2 : Nat → Nat → Nat} (hg : ∀ k, jm_c M k ≤ jm_c N k) (h : jm_ext M ad ad1) (h2 : jm_ext N ad1 ad2) : jm_ext M ad ad2 := fun k i hi => (h2 k i (Nat.lt_of_lt_of_le hi (hg k))).trans (h k i hi)
theorem jm_okR.up {M N : jm_M} (hg : ∀ k, jm_c M k ≤ jm_c N k) {x : jm_R} (h : jm_okR M x) : jm_okR N x := fun q hq => Nat.lt_of_lt_of_le (h q hq) (hg _)
theorem jm_okV.up {M N : jm_M} (hg : ∀ k, jm_c M k ≤ jm_c N k) {x : jm_V} (h : jm_okV M x) : jm_okV N x := fun y hy => (h y hy).up hg
theorem jm_okS.up {M N : jm_M} (hg : ∀ k, jm_c M k ≤ jm_c N k) {S : List jm_V} (h : jm_okS M S) : jm_okS N S := fun v hv => (h v hv).up hg
theorem jm_okL.up {M N : jm_M} (hg : ∀ k, jm_c M k ≤ jm_c N k) {L : List (Option jm_V)} (h : jm_okL M L) : jm_okL N L := fun v hv => (h v hv).up hg
theorem jm_okV_i (M : jm_M) (x : Int32) : jm_okV M (.inl x) := fun y hy => by cases hy
theorem jm_okV_n (M : jm_M) : jm_okV M (.inr none) := fun y hy => by cases hy; exact fun q hq => by cases hq
theorem jm_okV_r {M : jm_M} {x : jm_R} (h : jm_okR M x) : jm_okV M (.inr x) := fun y hy => by cases hy; exact h
theorem jm_okS_c {M : jm_M} {v : jm_V} {S : List jm_V} (h : jm_okV M v) (hS : jm_okS M S) : jm_okS M (v :: S) := fun w hw => by
  rcases List.mem_cons.mp hw with rfl | hw
  · exact h
  · exact hS w hw
theorem jm_okS_t {M : jm_M} {v : jm_V} {S : List jm_V} (hS : jm_okS M (v :: S)) : jm_okS M S := fun w hw => hS w (List.mem_cons_of_mem _ hw)
theorem jm_okS_h {M : jm_M} {v : jm_V} {S : List jm_V} (hS : jm_okS M (v :: S)) : jm_okV M v := hS v List.mem_cons_self
theorem jm_okL_set {M : jm_M} {L : List (Option jm_V)} {a : Nat} {v : jm_V} (hL : jm_okL M L) (h : jm_okV M v) : jm_okL M (L.set a (some v)) := fun w hw => by
  rcases List.mem_or_eq_of_mem_set hw with h1 | h1
  · exact hL w h1
  · cases h1; exact h
theorem jm_ld_s {L : List (Option jm_V)} {a : Nat} {v : jm_V} (h : jm_ld L a = some v) : L[a]? = some (some v) := by
  unfold jm_ld at h
  split at h
  · rename_i w hw
    cases h
    exact hw
  · cases h
theorem jm_okL_ld {M : jm_M} {L : List (Option jm_V)} {a : Nat} {v : jm_V} (hL : jm_okL M L) (h : jm_ld L a = some v) : jm_okV M v := hL v (List.mem_of_getElem? (jm_ld_s h))
theorem jm_rf_ext {M : jm_M} {ad ad' : Nat → Nat → Nat} (h : jm_ext M ad ad') {x : jm_R} (hx : jm_okR M x) : jm_rf ad' x = jm_rf ad x := by
  cases x with
  | none => rfl
  | some q => show some (ad' q.1 q.2) = some (ad q.1 q.2); rw [h q.1 q.2 (hx q rfl)]
theorem jm_vl_ext {M : jm_M} {ad ad' : Nat → Nat → Nat} (h : jm_ext M ad ad') {v : jm_V} (hv : jm_okV M v) : jm_vl ad' v = jm_vl ad v := by
  cases v with
  | inl x => rfl
  | inr x => show va_rf _ = va_rf _; rw [jm_rf_ext h (hv x rfl)]
theorem jm_S_ext {M : jm_M} {ad ad' : Nat → Nat → Nat} (h : jm_ext M ad ad') {S : List jm_V} (hS : jm_okS M S) : S.map (jm_vl ad') = S.map (jm_vl ad) := List.map_congr_left fun v hv => jm_vl_ext h (hS v hv)
theorem jm_vl_cat (ad : Nat → Nat → Nat) (v : jm_V) : (jm_vl ad v).category = 1 := by
  cases v with
  | inl x => rfl
  | inr x => cases x <;> rfl
theorem jm_S_sum (ad : Nat → Nat → Nat) (S : List jm_V) : ((S.map (jm_vl ad)).map fun v => v.category).sum = S.length := by
  induction S with
  | nil => rfl
  | cons v S ih => simp only [List.map_cons, List.sum_cons, List.length_cons, ih, jm_vl_cat]; omega
/-- the cells at their places -/
theorem jm_at {M : jm_M} {q : Nat × Nat} (h : q ∈ jm_al M) (cA : Nat → ClassId) (ad : Nat → Nat → Nat) : ∃ p : Nat, (jm_al M)[p]? = some q ∧ (jm_ws cA ad M)[p]? = some (ad q.1 q.2, jm_E cA ad M q) := by
  obtain ⟨p, hp⟩ := List.getElem?_of_mem h
  exact ⟨p, hp, by unfold jm_ws; rw [List.getElem?_map, hp]; rfl⟩
theorem jm_ws_set {M N : jm_M} {cA : Nat → ClassId} {ad : Nat → Nat → Nat} {q : Nat × Nat} {p : Nat} {E : va_E} (hal : jm_al N = jm_al M) (hnd : (jm_al M).Nodup) (hp : (jm_al M)[p]? = some q) (he : jm_E cA ad N q = E) (ho : ∀ q', q' ≠ q → jm_E cA ad N q' = jm_E cA ad M q') : (jm_ws cA ad M).set p (ad q.1 q.2, E) = jm_ws cA ad N := by
  unfold jm_ws
  rw [hal]
  apply List.ext_getElem?
  intro j
  have hlt : p < (jm_al M).length := (List.getElem?_eq_some_iff.mp hp).1
  by_cases hj : p = j
  · subst hj
    rw [List.getElem?_set_self (by rw [List.length_map]; exact hlt), List.getElem?_map, hp, ← he]
    rfl
  · rw [List.getElem?_set_ne hj, List.getElem?_map, List.getElem?_map]
    cases hq : (jm_al M)[j]? with
    | none => rfl
    | some q' =>
      have hne : q' ≠ q := by
        intro e
        subst e
        have h1 := (List.getElem?_eq_some_iff.mp hp).2
        have h2 := (List.getElem?_eq_some_iff.mp hq)
        obtain ⟨hl2, h2⟩ := h2
        exact hj ((List.getElem_inj hnd).mp (h1.trans h2.symm))
      show some (ad q'.1 q'.2, jm_E cA ad M q') = some (ad q'.1 q'.2, jm_E cA ad N q')
      rw [ho q' hne]
theorem jm_ws_ext {n0 : Nat → Nat} {f0 : Nat → Nat → Int32} {M : jm_M} {cA : Nat → ClassId} {ad ad' : Nat → Nat → Nat} (hwf : jm_wf n0 f0 M) (h : jm_ext M ad ad') : jm_ws cA ad' M = jm_ws cA ad M := by
  unfold jm_ws
  refine List.map_congr_left fun q hq => ?_
  have h1 := ((hwf.2.1 q).mp hq).2
  rw [h q.1 q.2 h1]
  have hf : ∀ j, jm_rf ad' (jm_F M q.1 q.2 j) = jm_rf ad (jm_F M q.1 q.2 j) := fun j => jm_rf_ext h (hwf.1 _ _ _)
  have hE : jm_E cA ad' M q = jm_E cA ad M q := by
    unfold jm_E
    have h2 : jm_fv ad' M (jm_kd q.1).2.1 q.1 q.2 = jm_fv ad M (jm_kd q.1).2.1 q.1 q.2 := by
      funext j
      unfold jm_fv
      rw [hf]
    rw [h2]
    simp only [hf]
  rw [hE]
theorem jm_u3_s {α : Type} (f : Nat → Nat → Nat → α) (k i j : Nat) (x : α) : jm_u3 f k i j x k i j = x := if_pos ⟨rfl, rfl, rfl⟩
theorem jm_u3_n {α : Type} (f : Nat → Nat → Nat → α) (k i j : Nat) (x : α) {k' i' j' : Nat} (h : ¬ (k' = k ∧ i' = i ∧ j' = j)) : jm_u3 f k i j x k' i' j' = f k' i' j' := if_neg h
theorem jm_E_o {cA : Nat → ClassId} {ad : Nat → Nat → Nat} {M : jm_M} {q : Nat × Nat} (h : (jm_kd q.1).1 = 0) : jm_E cA ad M q = .inr ((jm_kd q.1).2.1, (List.range (jm_kd q.1).2.2).map (jm_fv ad M (jm_kd q.1).2.1 q.1 q.2)) := by
  unfold jm_E; rw [h]; rfl
theorem jm_E_i {cA : Nat → ClassId} {ad : Nat → Nat → Nat} {M : jm_M} {q : Nat × Nat} (h : (jm_kd q.1).1 = 1) : jm_E cA ad M q = .inl (cA (jm_kd q.1).2.1, jm_n M q.1 q.2, .inl (jm_I M q.1 q.2)) := by
  unfold jm_E; rw [h]; rfl
theorem jm_E_r {cA : Nat → ClassId} {ad : Nat → Nat → Nat} {M : jm_M} {q : Nat × Nat} (h : (jm_kd q.1).1 = 2) : jm_E cA ad M q = .inl (cA (jm_kd q.1).2.1, jm_n M q.1 q.2, .inr (.inr (.inr (.inr fun j => jm_rf ad (jm_F M q.1 q.2 j))))) := by
  unfold jm_E; rw [h]; rfl
/-- a cell whose numbers and references are the same looks the same -/
theorem jm_E_same {cA : Nat → ClassId} {ad : Nat → Nat → Nat} {M N : jm_M} {q : Nat × Nat} (hI : jm_I N q.1 q.2 = jm_I M q.1 q.2) (hF : jm_F N q.1 q.2 = jm_F M q.1 q.2) (hn : jm_n N q.1 q.2 = jm_n M q.1 q.2) : jm_E cA ad N q = jm_E cA ad M q := by
  unfold jm_E
  have h2 : jm_fv ad N (jm_kd q.1).2.1 q.1 q.2 = jm_fv ad M (jm_kd q.1).2.1 q.1 q.2 := by
    funext j
    unfold jm_fv
    rw [hI, hF]
  rw [h2, hI, hF, hn]
theorem jm_range_set {α : Type} (N k : Nat) (f g : Nat → α) (hk : k < N) (h : ∀ j, j ≠ k → g j = f j) : ((List.range N).map f).set k (g k) = (List.range N).map g := by
  apply List.ext_getElem?
  intro j
  by_cases hj : k = j
  · subst hj
    rw [List.getElem?_set_self (by simpa using hk)]
    simp [hk]
  · rw [List.getElem?_set_ne hj, List.getElem?_map, List.getElem?_map]
    cases hq : (List.range N)[j]? with
    | none => rfl
    | some t =>
      have : t = j := by
        have := List.getElem?_eq_some_iff.mp hq
        obtain ⟨h1, h2⟩ := this
        simpa using h2.symm
      subst this
      show some _ = some _
      rw [h t (Ne.symm hj)]
theorem jm_E_setI {cA : Nat → ClassId} {ad : Nat → Nat → Nat} {M : jm_M} {q q' : Nat × Nat} {j : Nat} {x : Int32} (h : q' ≠ q) : jm_E cA ad (jm_setI M q.1 q.2 j x) q' = jm_E cA ad M q' := by
  refine jm_E_same ?_ rfl rfl
  funext t
  exact jm_u3_n _ _ _ _ _ (fun e => h (Prod.ext e.1 e.2.1))
theorem jm_E_setF {cA : Nat → ClassId} {ad : Nat → Nat → Nat} {M : jm_M} {q q' : Nat × Nat} {j : Nat} {x : jm_R} (h : q' ≠ q) : jm_E cA ad (jm_setF M q.1 q.2 j x) q' = jm_E cA ad M q' := by
  refine jm_E_same rfl ?_ rfl
  funext t
  exact jm_u3_n _ _ _ _ _ (fun e => h (Prod.ext e.1 e.2.1))
/-! names of values in their places -/
def jm_lv (ad : Nat → Nat → Nat) (L : List (Option jm_V)) : List (Nat × Value) := (List.range L.length).filterMap fun j => (jm_ld L j).map fun v => (j, jm_vl ad v)
theorem jm_lv_mem {ad : Nat → Nat → Nat} {L : List (Option jm_V)} {q : Nat × Value} : q ∈ jm_lv ad L ↔ ∃ v, L[q.1]? = some (some v) ∧ q.2 = jm_vl ad v := by
  unfold jm_lv
  rw [List.mem_filterMap]
  constructor
  · intro ⟨j, _, h⟩
    cases hl : jm_ld L j with
    | none => rw [hl] at h; cases h
    | some v =>
      rw [hl] at h
      cases h
      exact ⟨v, jm_ld_s hl, rfl⟩
  · intro ⟨v, h1, h2⟩
    refine ⟨q.1, List.mem_range.mpr (List.getElem?_eq_some_iff.mp h1).1, ?_⟩
    have : jm_ld L q.1 = some v := by unfold jm_ld; rw [h1]
    rw [this]
    show some (q.1, jm_vl ad v) = some q
    rw [← h2]
def jm_LR (ad : Nat → Nat → Nat) (ls : Array Slot) (nL : Nat) (L : List (Option jm_V)) : Prop := L.length = nL ∧ lv_has ls nL (jm_lv ad L)
theorem jm_LR.at {ad : Nat → Nat → Nat} {ls : Array Slot} {nL : Nat} {L : List (Option jm_V)} (h : jm_LR ad ls nL L) {a : Nat} {v : jm_V} (hv : jm_ld L a = some v) : ls[a]? = some (.val (jm_vl ad v)) := h.2.2.2 (a, jm_vl ad v) (jm_lv_mem.mpr ⟨v, jm_ld_s hv, rfl⟩)
theorem jm_LR.ext {M : jm_M} {ad ad' : Nat → Nat → Nat} {ls : Array Slot} {nL : Nat} {L : List (Option jm_V)} (h : jm_LR ad ls nL L) (he : jm_ext M ad ad') (hL : jm_okL M L) : jm_LR ad' ls nL L := by
  refine ⟨h.1, h.2.1, h.2.2.1, fun q hq => ?_⟩
  obtain ⟨v, h1, h2⟩ := jm_lv_mem.mp hq
  rw [h2, jm_vl_ext he (hL v (List.mem_of_getElem? h1))]
  exact h.2.2.2 (q.1, jm_vl ad v) (jm_lv_mem.mpr ⟨v, h1, rfl⟩)
theorem jm_LR.set {ad : Nat → Nat → Nat} {ls ls' : Array Slot} {nL : Nat} {L : List (Option jm_V)} {a : Nat} {v : jm_V} (h : jm_LR ad ls nL L) (ha : a < nL) (h' : lv_has ls' nL ((a, jm_vl ad v) :: (jm_lv ad L).filter (fun q => !(q.1 == a) && !(q.1 + 1 == a && q.2.category == 2)))) : jm_LR ad ls' nL (L.set a (some v)) := by
  refine ⟨by rw [List.length_set]; exact h.1, h'.1, h'.2.1, fun q hq => ?_⟩
  obtain ⟨w, h1, h2⟩ := jm_lv_mem.mp hq
  refine h'.2.2 q ?_
  by_cases hqa : a = q.1
  · have : w = v := by
      rw [← hqa, List.getElem?_set_self (by rw [h.1]; exact ha)] at h1
      cases h1
      rfl
    subst this
    have e : q = (a, jm_vl ad w) := Prod.ext hqa.symm h2
    rw [e]
    exact List.mem_cons_self
  · rw [List.getElem?_set_ne hqa] at h1
    refine List.mem_cons_of_mem _ (List.mem_filter.mpr ⟨jm_lv_mem.mpr ⟨w, h1, h2⟩, ?_⟩)
    rw [h2, jm_vl_cat]
    simp [Ne.symm hqa]
