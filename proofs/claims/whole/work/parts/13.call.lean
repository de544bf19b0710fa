/-! The small machine is sound: calls, and all of it. -/
section JMC
variable {l : Launch} {D : va_G} {cA : Nat → ClassId} {A : Nat → Prop} {ra n0 : Nat → Nat} {f0 : Nat → Nat → Int32} {d i ix ix2 : Nat} {L L2 : List (Option jm_V)} {S S2 : List jm_V} {M M2 : jm_M} {r : Option jm_V} {M' : jm_M}
variable {pc len a b : Nat} {v : Int32} {x y : Int32} {idx : Nat} {q : Nat × Nat}
/-- a method's end in terms of the memory behind it -/
def jm_Qc (D : va_G) (cA : Nat → ClassId) (A : Nat → Prop) (ra : Nat → Nat) (M : jm_M) (ad : Nat → Nat → Nat) (r : Option jm_V) (M1 : jm_M) : Array Value → State → Outcome → State → Prop := fun _ st o t =>
  (∃ ad', jm_ext M ad ad' ∧ jm_ra ra ad' ∧ o = .returned (r.map (jm_vl ad')) ∧ jm_Rl D cA A ad' M1 t.heap) ∧ va_F A st t
def jm_Pc (D : va_G) (cA : Nat → ClassId) (A : Nat → Prop) (ra n0 : Nat → Nat) (f0 : Nat → Nat → Int32) (M : jm_M) (ad : Nat → Nat → Nat) (vs : List jm_V) : Array Value → State → Prop := va_Pc (vs.map (jm_vl ad)) (fun U => jm_Rl D cA A ad M U.heap ∧ jm_G D cA A ra n0 f0 U ∧ ∀ q, U.heap.size ≤ q → A q)
theorem jm_sl_len (ad : Nat → Nat → Nat) (vs : List jm_V) : lg_sl (vs.map (jm_vl ad)) = vs.map fun v => Slot.val (jm_vl ad v) := by
  induction vs with
  | nil => rfl
  | cons v vs ih =>
    show (if (jm_vl ad v).category = 2 then _ else _) ++ lg_sl (vs.map (jm_vl ad)) = _
    rw [ih, if_neg (by rw [jm_vl_cat]; decide)]
    rfl
theorem jm_args_at (ad : Nat → Nat → Nat) (vs : List jm_V) : ∀ (n j : Nat) (v : jm_V), vs[j]? = some v → (n + j, jm_vl ad v) ∈ lv_args n (vs.map (jm_vl ad)) := by
  induction vs with
  | nil => intro n j v h; cases h
  | cons w vs ih =>
    intro n j v h
    show _ ∈ (n, jm_vl ad w) :: lv_args (if (jm_vl ad w).category = 2 then n + 2 else n + 1) (vs.map (jm_vl ad))
    rw [if_neg (by rw [jm_vl_cat]; decide)]
    cases j with
    | zero =>
      cases h
      exact List.mem_cons_self
    | succ j =>
      have := ih (n + 1) j v h
      rw [Nat.add_right_comm] at this
      exact List.mem_cons_of_mem _ this
theorem jm_LR_entry {ad : Nat → Nat → Nat} {vs : List jm_V} {j : Nat} (h : vs.length ≤ jm_mL j) : jm_LR ad ((lg_sl (vs.map (jm_vl ad)) ++ List.replicate (jm_mL j - (lg_sl (vs.map (jm_vl ad))).length) Slot.unset).toArray) (jm_mL j) (jm_loc j vs) := by
  have hl := lv_entry (vs.map (jm_vl ad)) (n := jm_mL j) (by rw [jm_sl_len, List.length_map]; exact h)
  refine ⟨?_, hl.1, hl.2.1, fun q hq => ?_⟩
  · show (vs.map some ++ List.replicate (jm_mL j - vs.length) none).length = _
    rw [List.length_append, List.length_map, List.length_replicate]
    omega
  · obtain ⟨v, h1, h2⟩ := jm_lv_mem.mp hq
    refine hl.2.2 q ?_
    have h3 : vs[q.1]? = some v := by
      unfold jm_loc at h1
      by_cases hlt : q.1 < vs.length
      · rw [List.getElem?_append_left (by rw [List.length_map]; exact hlt), List.getElem?_map] at h1
        cases hv : vs[q.1]? with
        | none => rw [hv] at h1; cases h1
        | some w => rw [hv] at h1; cases h1; rfl
      · rw [List.getElem?_append_right (by rw [List.length_map]; omega)] at h1
        have := List.mem_of_getElem? h1
        rw [List.mem_replicate] at this
        cases this.2
    have h4 := jm_args_at ad vs 0 q.1 v h3
    rw [Nat.zero_add, ← h2] at h4
    exact h4
theorem jm_okL_loc {j : Nat} {vs : List jm_V} (h : jm_okS M vs) : jm_okL M (jm_loc j vs) := by
  intro v hv
  unfold jm_loc at hv
  rcases List.mem_append.mp hv with hv | hv
  · obtain ⟨w, hw, e⟩ := List.mem_map.mp hv
    cases e
    exact h v hw
  · rw [List.mem_replicate] at hv
    cases hv.2
/-- the contract that a run of the small machine gives -/
theorem jm_met {j : Nat} {vs : List jm_V} {r1 : Option jm_V} {M1 : jm_M} {ad : Nat → Nat → Nat} (hm : jm_mOK j) (h : jm_sd l D cA A ra n0 f0 d j 0 (jm_loc j vs) [] M r1 M1) (hwf : jm_wf n0 f0 M) (hvs : jm_okS M vs) (hra : jm_ra ra ad) (hlen : vs.length ≤ jm_mL j) :
    Met l (jm_y j) (Cond.code (jm_y j) (jm_by j) (jm_mL j) (jm_rt j) :: jm_Wall) { frames := d, cells := (jm_al M1).length - (jm_al M).length, slots := jm_sl M1 - jm_sl M, locals := 36 * d } (jm_Pc D cA A ra n0 f0 M ad vs) (jm_Qc D cA A ra M ad r1 M1) ((jm_al M1).length - (jm_al M).length) (jm_sl M1 - jm_sl M) A := by
  obtain ⟨m1, m2, m3, m4, m5, m6, m7⟩ := hm
  refine va_MetF (cc := jm_by j) (maxL := jm_mL j) (ret := jm_rt j) m2 rfl ?_
  intro p e s m args below meth c s₁ B hml hv
  obtain ⟨rfl, hRl, hG, hA⟩ := hv
  have hr := B.returns
  have hlocks := B.notSynchronized
  have hts := atoms_spec (ws := Cond.code (jm_y j) (jm_by j) (jm_mL j) (jm_rt j) :: jm_Wall) B.pre
  have hown : s.vm.findClass (jm_own j) = some m.cls := by rw [m6]; exact findClass_of_methodNamed B.named
  have hin : jm_ni j = true → meth.name = "<init>" := fun z => by rw [(name_of_methodNamed B.named B.method).1]; exact m7 z
  rw [lg_entry_eq]
  have hLR := jm_LR_entry (ad := ad) hlen
  generalize (lg_sl (vs.map (jm_vl ad)) ++ List.replicate (jm_mL j - (lg_sl (vs.map (jm_vl ad))).length) Slot.unset).toArray = ls at hLR ⊢
  have g := h.1
  have hC : jm_Cx D cA A ra n0 f0 p (headSpec (Cond.code (jm_y j) (jm_by j) (jm_mL j) (jm_rt j) :: jm_Wall) { frames := d, cells := (jm_al M1).length - (jm_al M).length, slots := jm_sl M1 - jm_sl M, locals := 36 * d }).room s m ((vs.map (jm_vl ad)).toArray) meth c d j :=
    ⟨B.exec, B.bytes, hml, hown, fun w hw => hts w (List.mem_cons_of_mem _ hw), hin, hG, Nat.le_refl _, Nat.le_refl _, hA⟩
  have := h.2.2 p e (headSpec (Cond.code (jm_y j) (jm_by j) (jm_mL j) (jm_rt j) :: jm_Wall) { frames := d, cells := (jm_al M1).length - (jm_al M).length, slots := jm_sl M1 - jm_sl M, locals := 36 * d }).room s m ((vs.map (jm_vl ad)).toArray) below meth c ((jm_al M1).length - (jm_al M).length) (jm_sl M1 - jm_sl M) (MQ below (jm_Qc D cA A ra M ad r1 M1) ((vs.map (jm_vl ad)).toArray) s ((jm_al M1).length - (jm_al M).length) (jm_sl M1 - jm_sl M) A) M ad hC ?_ (Nat.le_refl _) (Nat.le_refl _) ad s.heap [] 0 0 ls hwf (fun v hv => by cases hv) (jm_okL_loc hvs) (jm_gr.rf M) (jm_ext.rf M ad) hra hRl va_S.rf hLR (by have := g.2.1; omega) (by have := g.2.2; omega)
  · rw [m4] at this
    exact this
  · intro ad' H locs ls' ix' e1 e2 e3 e4 e5
    have post : ∀ t : State, t.heap = H → jm_Qc D cA A ra M ad r1 M1 ((vs.map (jm_vl ad)).toArray) s (.returned (r1.map (jm_vl ad'))) t := fun t ht => ⟨⟨ad', e1, e2, rfl, by rw [ht]; exact e3⟩, e4.F ht⟩
    rcases e5 with ⟨x, en, rfl, hc, hz⟩ | ⟨x, en, rfl, hc⟩ | ⟨en, rfl, hc⟩
    · obtain ⟨pc, len, a, b, v⟩ := en
      obtain ⟨hd, hp, hz1, -, h0⟩ := jm_ck hc
      have hz1 := hz1 rfl
      subst hz1
      rw [hp]
      rcases jm_rtI h0 with k1 | ⟨k1, k2⟩
      · exact W.iret B.exec B.bytes (by rw [hr, k1]) (fun t ht _ => post t ht) e4.2.2 hd
      · refine W.zret (ty := .boolean) B.exec B.bytes (by rw [hr, k1]) ?_ (fun t ht _ => post t ht) e4.2.2 hd
        rcases hz k2 with rfl | rfl <;> rfl
    · obtain ⟨pc, len, a, b, v⟩ := en
      obtain ⟨hd, hp, hz1, -, h0⟩ := jm_ck hc
      have hz1 := hz1 rfl
      subst hz1
      rw [hp]
      obtain ⟨rt, k1, k2⟩ := jm_rtA h0
      exact W.aret (rt := rt) B.exec B.bytes (by rw [hr, k1]) k2 (va_rf_or _) (fun t ht _ => post t ht) e4.2.2 hd
    · obtain ⟨pc, len, a, b, v⟩ := en
      obtain ⟨hd, hp, hz1, -, h0⟩ := jm_ck hc
      have hz1 := hz1 rfl
      subst hz1
      rw [hp]
      exact W.vret B.exec B.bytes (by rw [hr, jm_rtV h0]) (fun t ht _ => post t ht) e4.2.2 hd
/-- behind a call -/
theorem jm_callR {p : Program} {e : Env} {R : Room} {s : State} {m : MethodId} {args : Array Value} {below : List Frame} {meth : Method} {c : Code} {H : Heap} {locs : List Loc} {cells slots mc ms : Nat} {Q : State → Prop} {ls : Array Slot} {st0 rest : List Value} {av : Array Value} {ad : Nat → Nat → Nat} {r1 : Option jm_V} {M1 : jm_M}
    (hr : va_Run p l e R s m args below meth c H locs cells slots mc ms (F0 m pc ls st0) rest (jm_Qc D cA A ra M ad r1 M1 av) A) (hS : va_S A s.heap H locs)
    (kk : ∀ (ad' : Nat → Nat → Nat) (H1 : Heap) (locs1 : List Loc), jm_ext M ad ad' → jm_ra ra ad' → jm_Rl D cA A ad' M1 H1 → va_S A s.heap H1 locs1 → W p l e R s m args below meth c H1 locs1 (cells + mc) (slots + ms) Q (F0 m (pc + 3) ls ((r1.map (jm_vl ad')).toList ++ rest))) : W p l e R s m args below meth c H locs cells slots Q (F0 m pc ls st0) := by
  intro T hT X
  obtain ⟨v, st₀, t, T', L, h0, X', hL, e1, e2, ⟨⟨ad', g1, g2, hv, g3⟩, hz, hk⟩, st⟩ := hr T hT X
  cases hv
  rw [h0] at hz hk
  obtain ⟨t2, a1, b1⟩ := kk ad' T'.heap (locs ++ L) g1 g2 (by rw [e1]; exact g3)
    ⟨Nat.le_trans hS.1 (by rw [e1]; exact hz), fun q h1 h2 => by rw [e1, hk q (Nat.lt_of_lt_of_le h1 hS.1) h2]; exact hS.2.1 q h1 h2, fun q hq => by
      rcases List.mem_append.mp hq with h | h
      · exact hS.2.2 q h
      · exact hL q h⟩ T' rfl X'
  exact ⟨t2, st t2 a1, b1⟩
theorem jm_toList (ad : Nat → Nat → Nat) (r : Option jm_V) : (r.map (jm_vl ad)).toList = r.toList.map (jm_vl ad) := by cases r <;> rfl
theorem jm_okS_app (h1 : jm_okS M S) (h2 : jm_okS M S2) : jm_okS M (S ++ S2) := fun v hv => by
  rcases List.mem_append.mp hv with h | h
  · exact h1 v h
  · exact h2 v h
theorem jm_okS_rev (h : jm_okS M (S.reverse ++ S2)) : jm_okS M S := fun v hv => h v (List.mem_append_left _ (List.mem_reverse.mpr hv))
theorem jm_okS_opt (h : ∀ v, r = some v → jm_okV M v) : jm_okS M r.toList := fun v hv => by
  cases r with
  | none => cases hv
  | some w =>
    rcases List.mem_cons.mp hv with e | e
    · subst e; exact h v rfl
    · cases e
/-- a call: what is left to show is that the machine's own row of the call holds -/
theorem jm_sd_call {j : Nat} {vs : List jm_V} {r1 : Option jm_V} {M1 : jm_M} {ins : Instr} (hc : (jm_code i)[ix]? = some (ins, pc, len, a, b, v)) (hz : jm_sz ins = true) (hq : jm_sq ins = true) (h3 : jm_len ins = 3) (hm : jm_mOK j) (hlen : vs.length ≤ jm_mL j)
    (hcal : jm_sd l D cA A ra n0 f0 d j 0 (jm_loc j vs) [] M r1 M1) (h : jm_sd l D cA A ra n0 f0 (d + 1) i (ix + 1) L (r1.toList ++ S) M1 r M')
    (hW : ∀ (p : Program) (e : Env) (R : Room) (s : State) (m : MethodId) (args : Array Value) (below : List Frame) (meth : Method) (c : Code) (ad : Nat → Nat → Nat) (H : Heap) (locs : List Loc) (cells slots : Nat) (ls : Array Slot),
      jm_Cx D cA A ra n0 f0 p R s m args meth c (d + 1) i → jm_wf n0 f0 M → jm_okS M (vs.reverse ++ S) → jm_ra ra ad → jm_Rl D cA A ad M H → va_S A s.heap H locs → ls.size = jm_mL i → cells + ((jm_al M1).length - (jm_al M).length) ≤ R.cells → slots + (jm_sl M1 - jm_sl M) ≤ R.slots → decode (jm_by i) pc = .ok (ins, 3) →
      Met l (jm_y j) (Cond.code (jm_y j) (jm_by j) (jm_mL j) (jm_rt j) :: jm_Wall) { frames := d, cells := (jm_al M1).length - (jm_al M).length, slots := jm_sl M1 - jm_sl M, locals := 36 * d } (jm_Pc D cA A ra n0 f0 M ad vs) (jm_Qc D cA A ra M ad r1 M1) ((jm_al M1).length - (jm_al M).length) (jm_sl M1 - jm_sl M) A →
      FrameBlind (jm_Pc D cA A ra n0 f0 M ad vs) → (∀ U : State, U.heap = H → s.WarmedH U.vm → jm_Pc D cA A ra n0 f0 M ad vs ((vs.map (jm_vl ad)).toArray) U) →
      va_Run p l e R s m args below meth c H locs cells slots ((jm_al M1).length - (jm_al M).length) (jm_sl M1 - jm_sl M) (F0 m pc ls ((vs.reverse ++ S).map (jm_vl ad))) (S.map (jm_vl ad)) (jm_Qc D cA A ra M ad r1 M1 ((vs.map (jm_vl ad)).toArray)) A) (hN : jm_isN ins = false := by rfl) :
    jm_sd l D cA A ra n0 f0 (d + 1) i ix L (vs.reverse ++ S) M r M' := by
  obtain ⟨hd, hp, hn, h0⟩ := jm_ck1 hc hz hq hN
  rw [h3] at hd hn
  refine jm_sd_mem h hcal.1 (fun hwf oS oL => ?_) ?_
  · obtain ⟨w1, w2⟩ := hcal.2.1 hwf (fun v hv => by cases hv) (jm_okL_loc (jm_okS_rev oS))
    exact ⟨w1, jm_okS_app (jm_okS_opt w2) (fun v hv => (oS v (List.mem_append_right _ hv)).up hcal.1.1), oL.up hcal.1.1⟩
  · intro p e R s m args below meth c Q ad H locs cells slots ls hC hwf hoS hoL hra hRl hS hLR h1 h2 k
    rw [hp]
    have hvs : jm_okS M vs := jm_okS_rev hoS
    have hM := jm_met (ad := ad) hm hcal hwf hvs hra hlen
    refine jm_callR (hW p e R s m args below meth c ad H locs cells slots ls hC hwf hoS hra hRl hS hLR.2.1 h1 h2 hd hM ?_ ?_) hS ?_
    · intro a' U g mk hP
      obtain ⟨q1, q2, q3, q4⟩ := hP
      exact ⟨q1, q2, q3.same g mk a', q4⟩
    · intro U hU hWm
      refine ⟨rfl, by rw [hU]; exact hRl, hC.2.2.2.2.2.2.1.moved hWm (by rw [hU]; exact hS.1) (fun q z1 z2 => by rw [hU]; exact hS.2.1 q z1 z2), fun q hq => ?_⟩
      rw [hU] at hq
      exact hC.2.2.2.2.2.2.2.2.2 q (Nat.le_trans hS.1 hq)
    · intro ad' H1 locs1 g1 g2 g3 g4
      have k := k ad' H1 locs1 ls g1 g2 g3 g4 (hLR.ext g1 hoL)
      rw [hn, List.map_append, jm_S_ext g1 (fun v hv => hoS v (List.mem_append_right _ hv))] at k
      rw [jm_toList]
      exact k
theorem jm_good {j : Nat} (hm : jm_mOK j) : GoodIn jm_Wall (Cond.code (jm_y j) (jm_by j) (jm_mL j) (jm_rt j) :: jm_Wall) := by
  intro w hw
  rcases List.mem_cons.mp hw with e | e
  · subst e; exact ⟨hm.1, jm_wallG _ hm.1⟩
  · exact ⟨e, jm_wallG _ e⟩
theorem jm_room8 {m : MethodId} {ls : Array Slot} {st : List Value} {ad : Nat → Nat → Nat} (h : S.length ≤ 8) : 2 * (F0 m pc ls st).monitorRoom + ((S.map (jm_vl ad)).map fun v => v.category).sum ≤ 8 := by
  show 2 * 0 + _ ≤ 8
  rw [jm_S_sum]
  omega
theorem jm_s_virt {j : Nat} {vs : List jm_V} {r1 : Option jm_V} {M1 : jm_M} (hc : (jm_code i)[ix]? = some (.invokevirtual idx, pc, len, j, b, v)) (hj : ¬ j = 904) (hq : jm_cl q.1 (jm_mc j) = true) (hb : vs.length = b) (hl : S.length ≤ 8)
    (hcal : jm_sd l D cA A ra n0 f0 d j 0 (jm_loc j (.inr (some q) :: vs)) [] M r1 M1) (h : jm_sd l D cA A ra n0 f0 (d + 1) i (ix + 1) L (r1.toList ++ S) M1 r M') : jm_sd l D cA A ra n0 f0 (d + 1) i ix L ((.inr (some q) :: vs).reverse ++ S) M r M' := by
  have w := jm_wd hc
  obtain ⟨hm, w1, w2, ⟨C, T, N, w3, w4, w5⟩, w6, w7⟩ : jm_vOK i idx j b := w.2 hj
  obtain ⟨k0, k1⟩ := jm_cl_s hq
  refine jm_sd_call hc rfl rfl rfl hm (by rw [List.length_cons]; omega) hcal h ?_
  intro p e R s m args below meth c ad H locs cells slots ls hC hwf hoS hra hRl hS hls h1 h2 hd hM hbl hpre
  have hqc : q.2 < jm_c M q.1 := jm_okS_rev hoS (.inr (some q)) List.mem_cons_self (some q) rfl q rfl
  obtain ⟨p0, -, hw0⟩ := jm_obj hwf hqc k0 cA ad
  rw [k1] at hw0
  have hrecv := va_recv hC.2.2.2.2.2.2.1.1 hRl.1 w3 hw0
  have hts := hC.2.2.2.2.1
  have f1 := hC.2.2.2.2.2.2.2.1
  have f2 := hC.2.2.2.2.2.2.2.2.1
  have m5 := hm.2.2.2.2.1
  have hst : ((Sum.inr (some q) :: vs).reverse ++ S).map (jm_vl ad) = (vs.map (jm_vl ad)).reverse ++ .ref (ad q.1 q.2) :: S.map (jm_vl ad) := by
    rw [List.map_append, List.map_reverse, List.map_cons, List.reverse_cons, List.append_assoc]
    rfl
  have hdd : (jm_y j).cls ≠ "java/lang/invoke/MethodHandle" ∧ (jm_y j).cls ≠ "java/lang/invoke/VarHandle" ∧ (parseMethodDescriptor (jm_y j).desc).map (fun d => d.parameters.length) = some b := ⟨hm.2.2.1.1, hm.2.2.1.2.1, w6⟩
  rcases w1 with w1 | ⟨host, w1⟩
  · exact va_runV (As := vs.map (jm_vl ad)) (b := ad q.1 q.2) (C := C) ⟨hC.1, hC.2.1, hC.2.2.1, hC.2.2.2.1, hts⟩ hM ⟨callB_of b hts (jm_good hm) rfl rfl rfl (hts _ hm.2.2.1.2.2) (hts _ w1) hdd ⟨by show d + 1 ≤ _; omega, by show _ + 36 * d ≤ _; omega⟩, hts _ w2, hts _ w5⟩ ⟨hbl, hrecv, hpre⟩ rfl (by rw [List.length_map]; exact hb) hls hst (jm_room8 hl) hd ⟨h1, h2⟩
  · exact va_runVN (As := vs.map (jm_vl ad)) (b := ad q.1 q.2) (C := C) (host := host) ⟨hC.1, hC.2.1, hC.2.2.1, hC.2.2.2.1, hts⟩ hM ⟨va_cnB b hts (jm_good hm) rfl rfl rfl (hC.2.2.2.2.2.2.1.2.1.1 _ w1) (hts _ hm.2.2.1.2.2) hdd ⟨by show d + 1 ≤ _; omega, by show _ + 36 * d ≤ _; omega⟩, hts _ w2, hts _ w5⟩ ⟨hbl, hrecv, hpre⟩ rfl (by rw [List.length_map]; exact hb) hls hst (jm_room8 hl) hd ⟨h1, h2⟩
theorem jm_s_spec {j : Nat} {vs : List jm_V} {r1 : Option jm_V} {M1 : jm_M} (hc : (jm_code i)[ix]? = some (.invokespecial idx, pc, len, j, b, v)) (hj : ¬ j = 900) (hb : vs.length = b) (hl : S.length ≤ 8)
    (hcal : jm_sd l D cA A ra n0 f0 d j 0 (jm_loc j (.inr (some q) :: vs)) [] M r1 M1) (h : jm_sd l D cA A ra n0 f0 (d + 1) i (ix + 1) L (r1.toList ++ S) M1 r M') : jm_sd l D cA A ra n0 f0 (d + 1) i ix L ((.inr (some q) :: vs).reverse ++ S) M r M' := by
  have w := jm_wd hc
  obtain ⟨hm, w1, w2, w3, w4, w6, w7⟩ : jm_cOK i idx j b := w.2 hj
  refine jm_sd_call hc rfl rfl rfl hm (by rw [List.length_cons]; omega) hcal h ?_
  intro p e R s m args below meth c ad H locs cells slots ls hC hwf hoS hra hRl hS hls h1 h2 hd hM hbl hpre
  have hts := hC.2.2.2.2.1
  have f1 := hC.2.2.2.2.2.2.2.1
  have f2 := hC.2.2.2.2.2.2.2.2.1
  have m5 := hm.2.2.2.2.1
  have hg := jm_good hm
  rw [w4] at hM hg
  have hst : ((Sum.inr (some q) :: vs).reverse ++ S).map (jm_vl ad) = (vs.map (jm_vl ad)).reverse ++ .ref (ad q.1 q.2) :: S.map (jm_vl ad) := by
    rw [List.map_append, List.map_reverse, List.map_cons, List.reverse_cons, List.append_assoc]
    rfl
  have hdd : (jm_y j).cls ≠ "java/lang/invoke/MethodHandle" ∧ (jm_y j).cls ≠ "java/lang/invoke/VarHandle" ∧ (parseMethodDescriptor (jm_y j).desc).map (fun d => d.parameters.length) = some b := ⟨hm.2.2.1.1, hm.2.2.1.2.1, w6⟩
  rcases w1 with w1 | ⟨host, w1⟩
  · exact va_runI (As := vs.map (jm_vl ad)) (b := ad q.1 q.2) ⟨hC.1, hC.2.1, hC.2.2.1, hC.2.2.2.1, hts⟩ hM ⟨callB_of b hts hg rfl rfl rfl (hts _ hm.2.2.1.2.2) (hts _ w1) hdd ⟨by show d + 1 ≤ _; omega, by show _ + 36 * d ≤ _; omega⟩, w3, hts _ w2⟩ ⟨hbl, hpre⟩ rfl (by rw [List.length_map]; exact hb) hls hst (jm_room8 hl) hd ⟨h1, h2⟩
  · exact va_runIN (As := vs.map (jm_vl ad)) (b := ad q.1 q.2) (host := host) ⟨hC.1, hC.2.1, hC.2.2.1, hC.2.2.2.1, hts⟩ hM ⟨va_cnB b hts hg rfl rfl rfl (hC.2.2.2.2.2.2.1.2.1.1 _ w1) (hts _ hm.2.2.1.2.2) hdd ⟨by show d + 1 ≤ _; omega, by show _ + 36 * d ≤ _; omega⟩, w3, hts _ w2⟩ ⟨hbl, hpre⟩ rfl (by rw [List.length_map]; exact hb) hls hst (jm_room8 hl) hd ⟨h1, h2⟩
theorem jm_s_stat {j : Nat} {vs : List jm_V} {r1 : Option jm_V} {M1 : jm_M} (hc : (jm_code i)[ix]? = some (.invokestatic idx, pc, len, j, b, v)) (hj : ¬ j = 901) (hj2 : ¬ j = 902) (hj3 : ¬ j = 903) (hb : vs.length = b) (hl : S.length ≤ 8)
    (hcal : jm_sd l D cA A ra n0 f0 d j 0 (jm_loc j vs) [] M r1 M1) (h : jm_sd l D cA A ra n0 f0 (d + 1) i (ix + 1) L (r1.toList ++ S) M1 r M') : jm_sd l D cA A ra n0 f0 (d + 1) i ix L (vs.reverse ++ S) M r M' := by
  have w := jm_wd hc
  obtain ⟨hm, w1, w2, w6, w7⟩ : jm_tOK i idx j b := w.2.2.2 hj hj2 hj3
  refine jm_sd_call hc rfl rfl rfl hm (by omega) hcal h ?_
  intro p e R s m args below meth c ad H locs cells slots ls hC hwf hoS hra hRl hS hls h1 h2 hd hM hbl hpre
  have hts := hC.2.2.2.2.1
  have f1 := hC.2.2.2.2.2.2.2.1
  have f2 := hC.2.2.2.2.2.2.2.2.1
  have m5 := hm.2.2.2.2.1
  have hst : (vs.reverse ++ S).map (jm_vl ad) = (vs.map (jm_vl ad)).reverse ++ S.map (jm_vl ad) := by
    rw [List.map_append, List.map_reverse]
  have hdd : (jm_y j).cls ≠ "java/lang/invoke/MethodHandle" ∧ (jm_y j).cls ≠ "java/lang/invoke/VarHandle" ∧ (parseMethodDescriptor (jm_y j).desc).map (fun d => d.parameters.length) = some b := ⟨hm.2.2.1.1, hm.2.2.1.2.1, w6⟩
  rcases w1 with w1 | ⟨host, w1⟩
  · exact va_runS (As := vs.map (jm_vl ad)) ⟨hC.1, hC.2.1, hC.2.2.1, hC.2.2.2.1, hts⟩ hM ⟨callB_of b hts (jm_good hm) rfl rfl rfl (hts _ hm.2.2.1.2.2) (hts _ w1) hdd ⟨by show d + 1 ≤ _; omega, by show _ + 36 * d ≤ _; omega⟩, hts _ w2⟩ ⟨hbl, hpre⟩ rfl (by rw [List.length_map]; exact hb) hls hst (jm_room8 hl) hd ⟨h1, h2⟩
  · exact va_runSN (As := vs.map (jm_vl ad)) (host := host) ⟨hC.1, hC.2.1, hC.2.2.1, hC.2.2.2.1, hts⟩ hM ⟨va_cnB b hts (jm_good hm) rfl rfl rfl (hC.2.2.2.2.2.2.1.2.1.1 _ w1) (hts _ hm.2.2.1.2.2) hdd ⟨by show d + 1 ≤ _; omega, by show _ + 36 * d ≤ _; omega⟩, hts _ w2, trivial⟩ ⟨hbl, hpre⟩ rfl (by rw [List.length_map]; exact hb) hls hst (jm_room8 hl) hd ⟨h1, h2⟩
/-- a call of the small machine, taken apart -/
theorem jm_call_s {K : jm_K} {j n : Nat} {z : Option jm_V × jm_M} (h : jm_call K d i ix j n L S M = some z) : ∃ d' vs T r1 M1, d = d' + 1 ∧ S = vs.reverse ++ T ∧ vs.length = n ∧ T.length ≤ 8 ∧ K d' j 0 (jm_loc j vs) [] M = some (r1, M1) ∧ K d i (ix + 1) L (r1.toList ++ T) M1 = some z := by
  obtain ⟨d', rfl, h⟩ := jm_d_s h
  cases hb : (Nat.ble n S.length && Nat.ble (S.length - n) 8) with
  | false => rw [hb] at h; cases h
  | true =>
    rw [hb] at h
    rw [Bool.and_eq_true] at hb
    have b1 := Nat.le_of_ble_eq_true hb.1
    have b2 := Nat.le_of_ble_eq_true hb.2
    obtain ⟨r1, M1, e1, e2⟩ := jm_bind_s h
    refine ⟨d', (S.take n).reverse, S.drop n, r1, M1, rfl, ?_, ?_, ?_, e1, e2⟩
    · rw [List.reverse_reverse, List.take_append_drop]
    · rw [List.length_reverse, List.length_take]; omega
    · rw [List.length_drop]; exact b2
theorem jm_rc_s {j : Nat} {vs T : List jm_V} (h : jm_rc j ((vs.reverse ++ T).drop b) = true) (hl : vs.length = b + 1) : ∃ q vs', vs = .inr (some q) :: vs' ∧ vs'.length = b ∧ jm_cl q.1 (jm_mc j) = true := by
  cases vs with
  | nil => cases hl
  | cons w vs =>
    replace hl : vs.length = b := Nat.succ.inj hl
    rw [List.reverse_cons, List.append_assoc, List.drop_append_of_le_length (by rw [List.length_reverse]; omega), List.drop_of_length_le (by rw [List.length_reverse]; omega)] at h
    unfold jm_rc at h
    split at h
    · rename_i q t e
      have e : w :: T = Sum.inr (some q) :: t := e
      cases e
      exact ⟨q, vs, rfl, hl, h⟩
    · cases h
theorem jm_bt {c : Bool} {x y : jm_Z} {z : Option jm_V × jm_M} (h : (bif c then x else y) = some z) : (c = true ∧ x = some z) ∨ (c = false ∧ y = some z) := by
  cases c
  · exact Or.inr ⟨rfl, h⟩
  · exact Or.inl ⟨rfl, h⟩
theorem jm_btn {c : Bool} {x : jm_Z} {z : Option jm_V × jm_M} (h : (bif c then x else none) = some z) : c = true ∧ x = some z := by
  rcases jm_bt h with h | h
  · exact h
  · cases h.2
theorem jm_ix_s {j : Int32} {n : Nat} {f : Nat → jm_Z} {z : Option jm_V × jm_M} (h : jm_ix j n f = some z) : jm_in j n = true ∧ f j.toNatClampNeg = some z := jm_btn h
set_option maxHeartbeats 4000000 in
set_option maxRecDepth 100000 in
/-- the small machine is sound -/
theorem jm_sound : ∀ (n d i ix : Nat) (L : List (Option jm_V)) (S : List jm_V) (M : jm_M) (r : Option jm_V) (M' : jm_M), jm_run n d i ix L S M = some (r, M') → jm_sd l D cA A ra n0 f0 d i ix L S M r M' := by
  intro n
  induction n with
  | zero => intro d i ix L S M r M' h; cases h
  | succ n ih =>
    intro d i ix L S M r M' h
    replace h : jm_st (jm_run n) d i ix L S M = some (r, M') := h
    unfold jm_st at h
    cases hc : (jm_code i)[ix]? with
    | none => rw [hc] at h; cases h
    | some en =>
      obtain ⟨ins, pc, len, a, b, v⟩ := en
      rw [hc] at h
      have ih : ∀ {d i ix : Nat} {L : List (Option jm_V)} {S : List jm_V} {M : jm_M} {r : Option jm_V} {M' : jm_M}, jm_run n d i ix L S M = some (r, M') → jm_sd l D cA A ra n0 f0 d i ix L S M r M' := fun h => ih _ _ _ _ _ _ _ _ h
      cases ins
      case iconst z =>
        exact jm_s_iconst hc (ih h)
      case bipush z =>
        exact jm_s_bipush hc (ih h)
      case sipush z =>
        exact jm_s_sipush hc (ih h)
      case ldc z =>
        replace h := jm_bt h
        rcases h with ⟨hb, h⟩ | ⟨hb, h⟩
        · exact jm_s_ldcM hb hc (ih h)
        · exact jm_s_ldc hb hc (ih h)
      case if_acmp c off =>
        cases c
        · replace h := jm_a_s h
          obtain ⟨y, T, rfl, h⟩ := h
          replace h := jm_a_s h
          obtain ⟨x, T, rfl, h⟩ := h
          by_cases hz : x = y
          · rw [if_pos hz] at h
            subst hz
            exact jm_s_acmp_eq hc (ih h)
          · rw [if_neg hz] at h; cases h
        · replace h := jm_a_s h
          obtain ⟨y, T, rfl, h⟩ := h
          replace h := jm_a_s h
          obtain ⟨x, T, rfl, h⟩ := h
          by_cases hz : x = y
          · rw [if_pos hz] at h
            subst hz
            exact jm_s_acmp_ne hc (ih h)
          · rw [if_neg hz] at h; cases h
      case aconst_null =>
        exact jm_s_null hc (ih h)
      case iload_n z =>
        replace h := jm_vi_s h
        obtain ⟨x, hx, h⟩ := h
        exact jm_s_iload_n hx hc (ih h)
      case iload z =>
        replace h := jm_vi_s h
        obtain ⟨x, hx, h⟩ := h
        exact jm_s_iload hx hc (ih h)
      case aload_n z =>
        replace h := jm_vr_s h
        obtain ⟨x, hx, h⟩ := h
        exact jm_s_aload_n hx hc (ih h)
      case aload z =>
        replace h := jm_vr_s h
        obtain ⟨x, hx, h⟩ := h
        exact jm_s_aload hx hc (ih h)
      case istore_n z =>
        replace h := jm_1_s h
        obtain ⟨x, T, rfl, h⟩ := h
        exact jm_s_istore_n hc (ih h)
      case istore z =>
        replace h := jm_1_s h
        obtain ⟨x, T, rfl, h⟩ := h
        exact jm_s_istore hc (ih h)
      case astore_n z =>
        replace h := jm_a_s h
        obtain ⟨x, T, rfl, h⟩ := h
        exact jm_s_astore_n hc (ih h)
      case astore z =>
        replace h := jm_a_s h
        obtain ⟨x, T, rfl, h⟩ := h
        exact jm_s_astore hc (ih h)
      case iinc z w =>
        replace h := jm_vi_s h
        obtain ⟨x, hx, h⟩ := h
        exact jm_s_iinc hx hc (ih h)
      case iadd =>
        replace h := jm_1_s h
        obtain ⟨y, T, rfl, h⟩ := h
        replace h := jm_1_s h
        obtain ⟨x, T, rfl, h⟩ := h
        exact jm_s_iadd hc (ih h)
      case isub =>
        replace h := jm_1_s h
        obtain ⟨y, T, rfl, h⟩ := h
        replace h := jm_1_s h
        obtain ⟨x, T, rfl, h⟩ := h
        exact jm_s_isub hc (ih h)
      case imul =>
        replace h := jm_1_s h
        obtain ⟨y, T, rfl, h⟩ := h
        replace h := jm_1_s h
        obtain ⟨x, T, rfl, h⟩ := h
        exact jm_s_imul hc (ih h)
      case iand =>
        replace h := jm_1_s h
        obtain ⟨y, T, rfl, h⟩ := h
        replace h := jm_1_s h
        obtain ⟨x, T, rfl, h⟩ := h
        exact jm_s_iand hc (ih h)
      case ishr =>
        replace h := jm_1_s h
        obtain ⟨y, T, rfl, h⟩ := h
        replace h := jm_1_s h
        obtain ⟨x, T, rfl, h⟩ := h
        exact jm_s_ishr hc (ih h)
      case idiv =>
        replace h := jm_1_s h
        obtain ⟨y, T, rfl, h⟩ := h
        replace h := jm_1_s h
        obtain ⟨x, T, rfl, h⟩ := h
        by_cases hy : y = nI 0
        · rw [if_pos hy] at h; cases h
        · rw [if_neg hy] at h
          exact jm_s_idiv hy hc (ih h)
      case dup =>
        replace h := jm_w_s h
        obtain ⟨w, T, rfl, h⟩ := h
        exact jm_s_dup hc (ih h)
      case pop =>
        replace h := jm_w_s h
        obtain ⟨w, T, rfl, h⟩ := h
        exact jm_s_pop hc (ih h)
      case dup_x1 =>
        replace h := jm_w_s h
        obtain ⟨w, T, rfl, h⟩ := h
        replace h := jm_w_s h
        obtain ⟨u, T, rfl, h⟩ := h
        exact jm_s_dup_x1 hc (ih h)
      case dup2 =>
        replace h := jm_w_s h
        obtain ⟨w, T, rfl, h⟩ := h
        replace h := jm_w_s h
        obtain ⟨u, T, rfl, h⟩ := h
        exact jm_s_dup2 hc (ih h)
      case dup_x2 =>
        replace h := jm_w_s h
        obtain ⟨w, T, rfl, h⟩ := h
        replace h := jm_w_s h
        obtain ⟨u, T, rfl, h⟩ := h
        replace h := jm_w_s h
        obtain ⟨z, T, rfl, h⟩ := h
        exact jm_s_dup_x2 hc (ih h)
      case ifCond c off =>
        cases c
        · replace h := jm_1_s h
          obtain ⟨x, T, rfl, h⟩ := h
          exact jm_s_if_eq hc (fun z => by rw [if_pos z] at h; exact ih h) (fun z => by rw [if_neg z] at h; exact ih h)
        · replace h := jm_1_s h
          obtain ⟨x, T, rfl, h⟩ := h
          exact jm_s_if_ne hc (fun z => by rw [if_neg z] at h; exact ih h) (fun z => by rw [if_pos z] at h; exact ih h)
        · replace h := jm_1_s h
          obtain ⟨x, T, rfl, h⟩ := h
          exact jm_s_if_lt hc (fun z => by rw [if_pos z] at h; exact ih h) (fun z => by rw [if_neg z] at h; exact ih h)
        · replace h := jm_1_s h
          obtain ⟨x, T, rfl, h⟩ := h
          exact jm_s_if_ge hc (fun z => by rw [if_pos z] at h; exact ih h) (fun z => by rw [if_neg z] at h; exact ih h)
        · replace h := jm_1_s h
          obtain ⟨x, T, rfl, h⟩ := h
          exact jm_s_if_gt hc (fun z => by rw [if_pos z] at h; exact ih h) (fun z => by rw [if_neg z] at h; exact ih h)
        · replace h := jm_1_s h
          obtain ⟨x, T, rfl, h⟩ := h
          exact jm_s_if_le hc (fun z => by rw [if_pos z] at h; exact ih h) (fun z => by rw [if_neg z] at h; exact ih h)
      case if_icmp c off =>
        cases c
        · replace h := jm_1_s h
          obtain ⟨y, T, rfl, h⟩ := h
          replace h := jm_1_s h
          obtain ⟨x, T, rfl, h⟩ := h
          exact jm_s_icmp_eq hc (fun z => by rw [if_pos z] at h; exact ih h) (fun z => by rw [if_neg z] at h; exact ih h)
        · replace h := jm_1_s h
          obtain ⟨y, T, rfl, h⟩ := h
          replace h := jm_1_s h
          obtain ⟨x, T, rfl, h⟩ := h
          exact jm_s_icmp_ne hc (fun z => by rw [if_neg z] at h; exact ih h) (fun z => by rw [if_pos z] at h; exact ih h)
        · replace h := jm_1_s h
          obtain ⟨y, T, rfl, h⟩ := h
          replace h := jm_1_s h
          obtain ⟨x, T, rfl, h⟩ := h
          exact jm_s_icmp_lt hc (fun z => by rw [if_pos z] at h; exact ih h) (fun z => by rw [if_neg z] at h; exact ih h)
        · replace h := jm_1_s h
          obtain ⟨y, T, rfl, h⟩ := h
          replace h := jm_1_s h
          obtain ⟨x, T, rfl, h⟩ := h
          exact jm_s_icmp_ge hc (fun z => by rw [if_pos z] at h; exact ih h) (fun z => by rw [if_neg z] at h; exact ih h)
        · replace h := jm_1_s h
          obtain ⟨y, T, rfl, h⟩ := h
          replace h := jm_1_s h
          obtain ⟨x, T, rfl, h⟩ := h
          exact jm_s_icmp_gt hc (fun z => by rw [if_pos z] at h; exact ih h) (fun z => by rw [if_neg z] at h; exact ih h)
        · replace h := jm_1_s h
          obtain ⟨y, T, rfl, h⟩ := h
          replace h := jm_1_s h
          obtain ⟨x, T, rfl, h⟩ := h
          exact jm_s_icmp_le hc (fun z => by rw [if_pos z] at h; exact ih h) (fun z => by rw [if_neg z] at h; exact ih h)
      case goto off =>
        exact jm_s_goto hc (ih h)
      case tableswitch df lo hi offs =>
        replace h := jm_1_s h
        obtain ⟨x, T, rfl, h⟩ := h
        by_cases hx : x.toInt < lo ∨ hi < x.toInt
        · rw [if_pos hx] at h
          exact jm_s_tabOut hc hx (ih h)
        · rw [if_neg hx] at h
          replace h := jm_o_s h
          obtain ⟨t, ht, h⟩ := h
          exact jm_s_tabIn hc hx ht (ih h)
      case lookupswitch df ps =>
        replace h := jm_1_s h
        obtain ⟨x, T, rfl, h⟩ := h
        replace h := jm_lk_s h (fun t => (jm_pc i t : Int) - pc)
        obtain ⟨u, h1, h2⟩ := h
        exact jm_s_lk hc h2 (ih h1)
      case iaload =>
        replace h := jm_1_s h
        obtain ⟨j, T, rfl, h⟩ := h
        replace h := jm_a_s h
        obtain ⟨x, T, rfl, h⟩ := h
        replace h := jm_q_s h
        obtain ⟨q, rfl, h⟩ := h
        replace h := jm_btn h
        obtain ⟨hq, h⟩ := h
        replace h := jm_ix_s h
        obtain ⟨hj, h⟩ := h
        exact jm_s_ild hc hq hj (ih h)
      case baload =>
        replace h := jm_1_s h
        obtain ⟨j, T, rfl, h⟩ := h
        replace h := jm_a_s h
        obtain ⟨x, T, rfl, h⟩ := h
        replace h := jm_q_s h
        obtain ⟨q, rfl, h⟩ := h
        replace h := jm_btn h
        obtain ⟨hq, h⟩ := h
        replace h := jm_ix_s h
        obtain ⟨hj, h⟩ := h
        exact jm_s_zld hc hq hj (ih h)
      case aaload =>
        replace h := jm_1_s h
        obtain ⟨j, T, rfl, h⟩ := h
        replace h := jm_a_s h
        obtain ⟨x, T, rfl, h⟩ := h
        replace h := jm_q_s h
        obtain ⟨q, rfl, h⟩ := h
        replace h := jm_btn h
        obtain ⟨hq, h⟩ := h
        replace h := jm_ix_s h
        obtain ⟨hj, h⟩ := h
        exact jm_s_ald hc hq hj (ih h)
      case iastore =>
        replace h := jm_1_s h
        obtain ⟨y, T, rfl, h⟩ := h
        replace h := jm_1_s h
        obtain ⟨j, T, rfl, h⟩ := h
        replace h := jm_a_s h
        obtain ⟨x, T, rfl, h⟩ := h
        replace h := jm_q_s h
        obtain ⟨q, rfl, h⟩ := h
        replace h := jm_btn h
        obtain ⟨hq, h⟩ := h
        replace h := jm_ix_s h
        obtain ⟨hj, h⟩ := h
        exact jm_s_ist hc hq hj (ih h)
      case bastore =>
        replace h := jm_1_s h
        obtain ⟨y, T, rfl, h⟩ := h
        replace h := jm_1_s h
        obtain ⟨j, T, rfl, h⟩ := h
        replace h := jm_a_s h
        obtain ⟨x, T, rfl, h⟩ := h
        replace h := jm_q_s h
        obtain ⟨q, rfl, h⟩ := h
        replace h := jm_btn h
        obtain ⟨hq, h⟩ := h
        replace h := jm_ix_s h
        obtain ⟨hj, h⟩ := h
        exact jm_s_zst hc hq hj (ih h)
      case aastore =>
        replace h := jm_a_s h
        obtain ⟨y, T, rfl, h⟩ := h
        replace h := jm_1_s h
        obtain ⟨j, T, rfl, h⟩ := h
        replace h := jm_a_s h
        obtain ⟨x, T, rfl, h⟩ := h
        replace h := jm_q_s h
        obtain ⟨q, rfl, h⟩ := h
        replace h := jm_btn h
        obtain ⟨hq, h⟩ := h
        replace h := jm_ix_s h
        obtain ⟨hj, h⟩ := h
        exact jm_s_ast hc hq hj (ih h)
      case arraylength =>
        replace h := jm_a_s h
        obtain ⟨x, T, rfl, h⟩ := h
        replace h := jm_q_s h
        obtain ⟨q, rfl, h⟩ := h
        replace h := jm_bt h
        rcases h with ⟨_, h⟩ | ⟨hq, h⟩
        · cases h
        · exact jm_s_len hc hq (ih h)
      case getfield z =>
        replace h := jm_a_s h
        obtain ⟨x, T, rfl, h⟩ := h
        replace h := jm_q_s h
        obtain ⟨q, rfl, h⟩ := h
        replace h := jm_btn h
        obtain ⟨hq, h⟩ := h
        replace h := jm_bt h
        rcases h with ⟨hf, h⟩ | ⟨hf, h⟩
        · exact jm_s_getI hc hq hf (ih h)
        · exact jm_s_getR hc hq hf (ih h)
      case putfield z =>
        replace h := jm_w_s h
        obtain ⟨y, T, rfl, h⟩ := h
        replace h := jm_a_s h
        obtain ⟨x, T, rfl, h⟩ := h
        replace h := jm_q_s h
        obtain ⟨q, rfl, h⟩ := h
        replace h := jm_btn h
        obtain ⟨hq, h⟩ := h
        cases y with
        | inl y =>
          replace h := jm_btn h
          obtain ⟨hf, h⟩ := h
          exact jm_s_putI hc hq hf (ih h)
        | inr y =>
          replace h := jm_bt h
          rcases h with ⟨_, h⟩ | ⟨hf, h⟩
          · cases h
          · exact jm_s_putR hc hq hf (ih h)
      case getstatic z =>
        exact jm_s_gets hc (ih h)
      case new z =>
        exact jm_s_new hc (ih h)
      case newarray z =>
        replace h := jm_1_s h
        obtain ⟨x, T, rfl, h⟩ := h
        replace h := jm_ix_s h
        obtain ⟨hx, h⟩ := h
        exact jm_s_newz hc hx (ih h)
      case anewarray z =>
        replace h := jm_1_s h
        obtain ⟨x, T, rfl, h⟩ := h
        replace h := jm_ix_s h
        obtain ⟨hx, h⟩ := h
        exact jm_s_newq hc hx (ih h)
      case checkcast z =>
        replace h := jm_a_s h
        obtain ⟨x, T, rfl, h⟩ := h
        cases x with
        | none =>
          cases ha : Nat.ble 100 a with
          | true => exact jm_s_castA hc ha (fun q hq => by cases hq) (ih h)
          | false => exact jm_s_cast hc ha (fun q hq => by cases hq) (ih h)
        | some q =>
          replace h := jm_btn h
          obtain ⟨hq, h⟩ := h
          cases ha : Nat.ble 100 a with
          | true =>
            rw [ha] at hq
            exact jm_s_castA hc ha (fun q1 hq1 => by cases hq1; exact hq) (ih h)
          | false =>
            rw [ha] at hq
            exact jm_s_cast hc ha (fun q1 hq1 => by cases hq1; exact hq) (ih h)
      case invokevirtual z =>
        replace h := jm_bt h
        rcases h with ⟨ha, h⟩ | ⟨ha, h⟩
        · have ha := Nat.eq_of_beq_eq_true ha
          subst ha
          replace h := jm_d_s h
          obtain ⟨d1, rfl, h⟩ := h
          replace h := jm_a_s h
          obtain ⟨x, T, rfl, h⟩ := h
          replace h := jm_q_s h
          obtain ⟨q, rfl, h⟩ := h
          replace h := jm_btn h
          obtain ⟨hl, h⟩ := h
          rw [Bool.and_eq_true] at hl
          exact jm_s_getC hc hl.1 (Nat.le_of_ble_eq_true hl.2) (ih h)
        · replace h := jm_btn h
          obtain ⟨hr, h⟩ := h
          replace h := jm_call_s h
          obtain ⟨d1, vs, T, r1, M1, rfl, rfl, hl, hT, h1, h2⟩ := h
          obtain ⟨q, vs1, rfl, hb, hq⟩ := jm_rc_s hr hl
          exact jm_s_virt hc (fun z => by rw [z] at ha; exact absurd ha (by decide)) hq hb hT (ih h1) (ih h2)
      case invokespecial z =>
        replace h := jm_bt h
        rcases h with ⟨ha, h⟩ | ⟨ha, h⟩
        · have ha := Nat.eq_of_beq_eq_true ha
          subst ha
          replace h := jm_d_s h
          obtain ⟨d', rfl, h⟩ := h
          replace h := jm_a_s h
          obtain ⟨x, T, rfl, h⟩ := h
          replace h := jm_q_s h
          obtain ⟨q, rfl, h⟩ := h
          replace h := jm_btn h
          obtain ⟨hl, h⟩ := h
          exact jm_s_oinit hc (Nat.le_of_ble_eq_true hl) (ih h)
        · replace h := jm_btn h
          obtain ⟨hr, h⟩ := h
          replace h := jm_call_s h
          obtain ⟨d', vs, T, r1, M1, rfl, rfl, hl, hT, h1, h2⟩ := h
          obtain ⟨q, vs', rfl, hb, hq⟩ := jm_rc_s hr hl
          exact jm_s_spec hc (fun z => by rw [z] at ha; exact absurd ha (by decide)) hb hT (ih h1) (ih h2)
      case invokestatic z =>
        replace h := jm_bt h
        rcases h with ⟨ha, h⟩ | ⟨ha, h⟩
        · have ha := Nat.eq_of_beq_eq_true ha
          subst ha
          replace h := jm_d_s h
          obtain ⟨d', rfl, h⟩ := h
          replace h := jm_1_s h
          obtain ⟨y, T, rfl, h⟩ := h
          replace h := jm_1_s h
          obtain ⟨x, T, rfl, h⟩ := h
          replace h := jm_btn h
          obtain ⟨hl, h⟩ := h
          exact jm_s_max hc (Nat.le_of_ble_eq_true hl) (ih h)
        replace h := jm_bt h
        rcases h with ⟨ha, h⟩ | ⟨ha2, h⟩
        · have ha := Nat.eq_of_beq_eq_true ha
          subst ha
          replace h := jm_d_s h
          obtain ⟨d', rfl, h⟩ := h
          replace h := jm_1_s h
          obtain ⟨y, T, rfl, h⟩ := h
          replace h := jm_1_s h
          obtain ⟨x, T, rfl, h⟩ := h
          replace h := jm_btn h
          obtain ⟨hl, h⟩ := h
          exact jm_s_min hc (Nat.le_of_ble_eq_true hl) (ih h)
        replace h := jm_bt h
        rcases h with ⟨ha, h⟩ | ⟨ha3, h⟩
        · have ha := Nat.eq_of_beq_eq_true ha
          subst ha
          replace h := jm_d_s h
          obtain ⟨d1, rfl, h⟩ := h
          replace h := jm_1_s h
          obtain ⟨n1, T, rfl, h⟩ := h
          replace h := jm_1_s h
          obtain ⟨dp, T, rfl, h⟩ := h
          replace h := jm_a_s h
          obtain ⟨y, T, rfl, h⟩ := h
          replace h := jm_1_s h
          obtain ⟨sp, T, rfl, h⟩ := h
          replace h := jm_a_s h
          obtain ⟨x, T, rfl, h⟩ := h
          replace h := jm_q_s h
          obtain ⟨q, rfl, h⟩ := h
          replace h := jm_q_s h
          obtain ⟨p, rfl, h⟩ := h
          replace h := jm_btn h
          obtain ⟨hl, h⟩ := h
          simp only [Bool.and_eq_true] at hl
          obtain ⟨⟨⟨⟨⟨g1, g2⟩, ⟨g3, g4⟩, g5⟩, g6⟩, g7⟩, g8⟩ := hl
          exact jm_s_copy hc g1 g2 g3 g4 g5 (Nat.le_of_ble_eq_true g6) (Nat.le_of_ble_eq_true g7) (Nat.le_of_ble_eq_true g8) (ih h)
        · replace h := jm_call_s h
          obtain ⟨d', vs, T, r1, M1, rfl, rfl, hl, hT, h1, h2⟩ := h
          exact jm_s_stat hc (fun z => by rw [z] at ha; exact absurd ha (by decide)) (fun z => by rw [z] at ha2; exact absurd ha2 (by decide)) (fun z => by rw [z] at ha3; exact absurd ha3 (by decide)) hl hT (ih h1) (ih h2)
      case ireturn =>
        replace h := jm_1_s h
        obtain ⟨x, T, rfl, h⟩ := h
        replace h := jm_e_s h
        obtain ⟨rfl, h⟩ := h
        replace h := jm_bt h
        rcases h with ⟨hz, h⟩ | ⟨hz, h⟩
        · by_cases hx : x = nI 0 ∨ x = nI 1
          · rw [if_pos hx] at h
            cases h
            exact jm_s_ret (Or.inl ⟨x, _, rfl, hc, fun _ => hx⟩) rfl
          · rw [if_neg hx] at h; cases h
        · cases h
          exact jm_s_ret (Or.inl ⟨x, _, rfl, hc, fun z => by rw [hz] at z; cases z⟩) rfl
      case areturn =>
        replace h := jm_a_s h
        obtain ⟨x, T, rfl, h⟩ := h
        replace h := jm_e_s h
        obtain ⟨rfl, h⟩ := h
        cases h
        exact jm_s_ret (Or.inr (Or.inl ⟨x, _, rfl, hc⟩)) rfl
      case return_ =>
        replace h := jm_e_s h
        obtain ⟨rfl, h⟩ := h
        cases h
        exact jm_s_ret (Or.inr (Or.inr ⟨_, rfl, hc⟩)) rfl
      all_goals (cases h)
end JMC
