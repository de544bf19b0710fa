def jm_Rl (D : va_G) (cA : Nat → ClassId) (A : Nat → Prop) (ad : Nat → Nat → Nat) (M : jm_M) (H : Heap) : Prop := va_P D vwCl (jm_ws cA ad M) H ∧ va_D A (jm_ws cA ad M)
def jm_ra (ra : Nat → Nat) (ad : Nat → Nat → Nat) : Prop := ∀ k, 3 ≤ (jm_kd k).1 → (jm_kd k).1 ≤ 6 → ad k 0 = ra k
def jm_re (i ix : Nat) (r : Option jm_V) : Prop := (∃ x e, r = some (.inl x) ∧ (jm_code i)[ix]? = some (.ireturn, e) ∧ (jm_rz i = true → x = nI 0 ∨ x = nI 1)) ∨ (∃ x e, r = some (.inr x) ∧ (jm_code i)[ix]? = some (.areturn, e)) ∨ (∃ e, r = none ∧ (jm_code i)[ix]? = some (.return_, e))
section JMW
variable (l : Launch) (D : va_G) (cA : Nat → ClassId) (A : Nat → Prop) (ra n0 : Nat → Nat) (f0 : Nat → Nat → Int32)
/-- what stands fast while a method runs -/
def jm_Cx (p : Program) (R : Room) (s : State) (m : MethodId) (args : Array Value) (meth : Method) (c : Code) (d i : Nat) : Prop :=
  p.tables.exec = Jvm.exec ∧ c.code = jm_by i ∧ c.maxLocals = jm_mL i ∧ s.vm.findClass (jm_own i) = some m.cls ∧ (∀ w ∈ jm_Wall, w.before args s = true) ∧ (jm_ni i = true → meth.name = "<init>") ∧ jm_G D cA A ra n0 f0 s ∧ d ≤ R.frames ∧ 36 * d ≤ R.locals ∧ (∀ q, s.heap.size ≤ q → A q)
def jm_Wd (d i ix : Nat) (L : List (Option jm_V)) (S : List jm_V) (M : jm_M) (r : Option jm_V) (M' : jm_M) : Prop :=
  ∀ (p : Program) (e : Env) (R : Room) (s : State) (m : MethodId) (args : Array Value) (below : List Frame) (meth : Method) (c : Code) (CE SE : Nat) (Q : State → Prop) (M0 : jm_M) (ad0 : Nat → Nat → Nat),
    jm_Cx D cA A ra n0 f0 p R s m args meth c d i →
    (∀ (ad : Nat → Nat → Nat) (H : Heap) (locs : List Loc) (ls : Array Slot) (ix' : Nat), jm_ext M0 ad0 ad → jm_ra ra ad → jm_Rl D cA A ad M' H → va_S A s.heap H locs → jm_re i ix' r → W p l e R s m args below meth c H locs CE SE Q (F0 m (jm_pc i ix') ls (r.toList.map (jm_vl ad)))) →
    CE ≤ R.cells → SE ≤ R.slots →
    ∀ (ad : Nat → Nat → Nat) (H : Heap) (locs : List Loc) (cells slots : Nat) (ls : Array Slot),
      jm_wf n0 f0 M → jm_okS M S → jm_okL M L → jm_gr M0 M → jm_ext M0 ad0 ad → jm_ra ra ad → jm_Rl D cA A ad M H → va_S A s.heap H locs → jm_LR ad ls (jm_mL i) L → cells + (jm_al M').length = CE + (jm_al M).length → slots + jm_sl M' = SE + jm_sl M →
      W p l e R s m args below meth c H locs cells slots Q (F0 m (jm_pc i ix) ls (S.map (jm_vl ad)))
def jm_sd (d i ix : Nat) (L : List (Option jm_V)) (S : List jm_V) (M : jm_M) (r : Option jm_V) (M' : jm_M) : Prop :=
  jm_gr M M' ∧ (jm_wf n0 f0 M → jm_okS M S → jm_okL M L → jm_wf n0 f0 M' ∧ ∀ v, r = some v → jm_okV M' v) ∧ jm_Wd l D cA A ra n0 f0 d i ix L S M r M'
end JMW
section JMX
variable {l : Launch} {D : va_G} {cA : Nat → ClassId} {A : Nat → Prop} {ra n0 : Nat → Nat} {f0 : Nat → Nat → Int32} {d i ix ix2 : Nat} {L L2 : List (Option jm_V)} {S S2 : List jm_V} {M M2 : jm_M} {r : Option jm_V} {M' : jm_M}
theorem jm_sd_mem (h : jm_sd l D cA A ra n0 f0 d i ix2 L2 S2 M2 r M') (hg : jm_gr M M2)
    (hok : jm_wf n0 f0 M → jm_okS M S → jm_okL M L → jm_wf n0 f0 M2 ∧ jm_okS M2 S2 ∧ jm_okL M2 L2)
    (hW : ∀ (p : Program) (e : Env) (R : Room) (s : State) (m : MethodId) (args : Array Value) (below : List Frame) (meth : Method) (c : Code) (Q : State → Prop) (ad : Nat → Nat → Nat) (H : Heap) (locs : List Loc) (cells slots : Nat) (ls : Array Slot),
      jm_Cx D cA A ra n0 f0 p R s m args meth c d i → jm_wf n0 f0 M → jm_okS M S → jm_okL M L → jm_ra ra ad → jm_Rl D cA A ad M H → va_S A s.heap H locs → jm_LR ad ls (jm_mL i) L → cells + ((jm_al M2).length - (jm_al M).length) ≤ R.cells → slots + (jm_sl M2 - jm_sl M) ≤ R.slots →
      (∀ (ad2 : Nat → Nat → Nat) (H2 : Heap) (locs2 : List Loc) (ls2 : Array Slot), jm_ext M ad ad2 → jm_ra ra ad2 → jm_Rl D cA A ad2 M2 H2 → va_S A s.heap H2 locs2 → jm_LR ad2 ls2 (jm_mL i) L2 → W p l e R s m args below meth c H2 locs2 (cells + ((jm_al M2).length - (jm_al M).length)) (slots + (jm_sl M2 - jm_sl M)) Q (F0 m (jm_pc i ix2) ls2 (S2.map (jm_vl ad2)))) →
      W p l e R s m args below meth c H locs cells slots Q (F0 m (jm_pc i ix) ls (S.map (jm_vl ad)))) : jm_sd l D cA A ra n0 f0 d i ix L S M r M' := by
  refine ⟨hg.tr h.1, fun a b c => ?_, ?_⟩
  · obtain ⟨a2, b2, c2⟩ := hok a b c
    exact h.2.1 a2 b2 c2
  · intro p e R s m args below meth c CE SE Q M0 ad0 hC hend hcE hsE ad H locs cells slots ls hwf hoS hoL hg0 hext hra hRl hS hLR hc hs
    obtain ⟨w2, s2, l2⟩ := hok hwf hoS hoL
    have ga := hg.2.1
    have gb := hg.2.2
    have gc := h.1.2.1
    have gd := h.1.2.2
    refine hW p e R s m args below meth c Q ad H locs cells slots ls hC hwf hoS hoL hra hRl hS hLR (by omega) (by omega) ?_
    intro ad2 H2 locs2 ls2 e2 ra2 R2 S2' LR2
    exact h.2.2 p e R s m args below meth c CE SE Q M0 ad0 hC hend hcE hsE ad2 H2 locs2 _ _ ls2 w2 s2 l2 (hg0.tr hg) (jm_ext.tr hg0.1 hext e2) ra2 R2 S2' LR2 (by omega) (by omega)
/-- an instruction that leaves the memory as it is -/
theorem jm_sd_one (h : jm_sd l D cA A ra n0 f0 d i ix2 L2 S2 M r M')
    (hok : jm_wf n0 f0 M → jm_okS M S → jm_okL M L → jm_okS M S2 ∧ jm_okL M L2)
    (hW : ∀ (p : Program) (e : Env) (R : Room) (s : State) (m : MethodId) (args : Array Value) (below : List Frame) (meth : Method) (c : Code) (Q : State → Prop) (ad : Nat → Nat → Nat) (H : Heap) (locs : List Loc) (cells slots : Nat) (ls : Array Slot),
      jm_Cx D cA A ra n0 f0 p R s m args meth c d i → jm_wf n0 f0 M → jm_okS M S → jm_okL M L → jm_ra ra ad → jm_Rl D cA A ad M H → va_S A s.heap H locs → jm_LR ad ls (jm_mL i) L → cells ≤ R.cells → slots ≤ R.slots →
      (∀ ls2 : Array Slot, jm_LR ad ls2 (jm_mL i) L2 → W p l e R s m args below meth c H locs cells slots Q (F0 m (jm_pc i ix2) ls2 (S2.map (jm_vl ad)))) →
      W p l e R s m args below meth c H locs cells slots Q (F0 m (jm_pc i ix) ls (S.map (jm_vl ad)))) : jm_sd l D cA A ra n0 f0 d i ix L S M r M' := by
  refine jm_sd_mem h (jm_gr.rf M) (fun a b c => ⟨a, hok a b c⟩) ?_
  intro p e R s m args below meth c Q ad H locs cells slots ls hC hwf hoS hoL hra hRl hS hLR h1 h2 k
  rw [Nat.sub_self, Nat.add_zero] at h1 h2
  refine hW p e R s m args below meth c Q ad H locs cells slots ls hC hwf hoS hoL hra hRl hS hLR h1 h2 ?_
  intro ls2 hl2
  have := k ad H locs ls2 (jm_ext.rf M ad) hra hRl hS hl2
  rw [Nat.sub_self, Nat.add_zero, Nat.sub_self, Nat.add_zero] at this
  exact this
variable {pc len a b : Nat} {v : Int32} {x y : Int32}
theorem jm_pc_of {ins : Instr} (hc : (jm_code i)[ix]? = some (ins, pc, len, a, b, v)) : jm_pc i ix = pc := by
  unfold jm_pc
  rw [hc]
theorem jm_ck {ins : Instr} (hc : (jm_code i)[ix]? = some (ins, pc, len, a, b, v)) (hN : jm_isN ins = false := by rfl) : decode (jm_by i) pc = .ok (ins, len) ∧ jm_pc i ix = pc ∧ (jm_sz ins = true → len = jm_len ins) ∧ (jm_sq ins = true → jm_pc i (ix + 1) = pc + len) ∧ jm_chk2 i pc a b v ins = true := by
  have h := jm_chk_all i ix _ hc
  simp only [jm_chk, hN, Bool.false_or, Bool.and_eq_true, Bool.or_eq_true, Bool.not_eq_true', decide_eq_true_eq] at h
  obtain ⟨⟨⟨h1, h2⟩, h3⟩, h4⟩ := h
  refine ⟨h1, jm_pc_of hc, fun hz => ?_, fun hz => ?_, h4⟩
  · rcases h2 with h2 | h2
    · rw [hz] at h2; cases h2
    · exact Nat.eq_of_beq_eq_true h2
  · rcases h3 with h3 | h3
    · rw [hz] at h3; cases h3
    · exact Nat.eq_of_beq_eq_true h3
theorem jm_ck1 {ins : Instr} (hc : (jm_code i)[ix]? = some (ins, pc, len, a, b, v)) (hz : jm_sz ins = true) (hq : jm_sq ins = true) (hN : jm_isN ins = false := by rfl) : decode (jm_by i) pc = .ok (ins, jm_len ins) ∧ jm_pc i ix = pc ∧ jm_pc i (ix + 1) = pc + jm_len ins ∧ jm_chk2 i pc a b v ins = true := by
  obtain ⟨h1, h2, h3, h4, h5⟩ := jm_ck hc hN
  have h3 := h3 hz
  have h4 := h4 hq
  subst h3
  exact ⟨h1, h2, h4, h5⟩
theorem jm_s_iconst {z : Int} (hc : (jm_code i)[ix]? = some (.iconst z, pc, len, a, b, v)) (h : jm_sd l D cA A ra n0 f0 d i (ix + 1) L (.inl v :: S) M r M') : jm_sd l D cA A ra n0 f0 d i ix L S M r M' := by
  obtain ⟨hd, hp, hn, h0⟩ := jm_ck1 hc rfl rfl
  refine jm_sd_one h (fun _ oS oL => ⟨jm_okS_c (jm_okV_i _ _) oS, oL⟩) ?_
  intro p e R s m args below meth c Q ad H locs cells slots ls hC hwf hoS hoL hra hRl hS hLR h1 h2 k
  rw [hp]
  have k := k ls hLR
  rw [hn] at k
  exact lv_iconst hC.1 hC.2.1 hd (of_decide_eq_true h0) k
theorem jm_s_bipush {z : Int} (hc : (jm_code i)[ix]? = some (.bipush z, pc, len, a, b, v)) (h : jm_sd l D cA A ra n0 f0 d i (ix + 1) L (.inl v :: S) M r M') : jm_sd l D cA A ra n0 f0 d i ix L S M r M' := by
  obtain ⟨hd, hp, hn, h0⟩ := jm_ck1 hc rfl rfl
  refine jm_sd_one h (fun _ oS oL => ⟨jm_okS_c (jm_okV_i _ _) oS, oL⟩) ?_
  intro p e R s m args below meth c Q ad H locs cells slots ls hC hwf hoS hoL hra hRl hS hLR h1 h2 k
  rw [hp]
  have k := k ls hLR
  rw [hn] at k
  exact lv_bipush hC.1 hC.2.1 hd (of_decide_eq_true h0) k
theorem jm_s_sipush {z : Int} (hc : (jm_code i)[ix]? = some (.sipush z, pc, len, a, b, v)) (h : jm_sd l D cA A ra n0 f0 d i (ix + 1) L (.inl v :: S) M r M') : jm_sd l D cA A ra n0 f0 d i ix L S M r M' := by
  obtain ⟨hd, hp, hn, h0⟩ := jm_ck1 hc rfl rfl
  refine jm_sd_one h (fun _ oS oL => ⟨jm_okS_c (jm_okV_i _ _) oS, oL⟩) ?_
  intro p e R s m args below meth c Q ad H locs cells slots ls hC hwf hoS hoL hra hRl hS hLR h1 h2 k
  rw [hp]
  have k := k ls hLR
  rw [hn] at k
  exact lv_sipush hC.1 hC.2.1 hd (of_decide_eq_true h0) k
theorem jm_s_null (hc : (jm_code i)[ix]? = some (.aconst_null, pc, len, a, b, v)) (h : jm_sd l D cA A ra n0 f0 d i (ix + 1) L (.inr none :: S) M r M') : jm_sd l D cA A ra n0 f0 d i ix L S M r M' := by
  obtain ⟨hd, hp, hn, h0⟩ := jm_ck1 hc rfl rfl
  refine jm_sd_one h (fun _ oS oL => ⟨jm_okS_c (jm_okV_n _) oS, oL⟩) ?_
  intro p e R s m args below meth c Q ad H locs cells slots ls hC hwf hoS hoL hra hRl hS hLR h1 h2 k
  rw [hp]
  have k := k ls hLR
  rw [hn] at k
  exact lv_null hC.1 hC.2.1 hd k
theorem jm_s_iload_n {k0 : Fin 4} (hx : jm_ld L a = some (.inl x)) (hc : (jm_code i)[ix]? = some (.iload_n k0, pc, len, a, b, v)) (h : jm_sd l D cA A ra n0 f0 d i (ix + 1) L (.inl x :: S) M r M') : jm_sd l D cA A ra n0 f0 d i ix L S M r M' := by
  obtain ⟨hd, hp, hn, h0⟩ := jm_ck1 hc rfl rfl
  refine jm_sd_one h (fun _ oS oL => ⟨jm_okS_c (jm_okV_i _ _) oS, oL⟩) ?_
  intro p e R s m args below meth c Q ad H locs cells slots ls hC hwf hoS hoL hra hRl hS hLR h1 h2 k
  rw [hp]
  have k := k ls hLR
  rw [hn] at k
  exact lv_iload_n hC.1 hC.2.1 hd (Nat.eq_of_beq_eq_true h0) (hLR.at hx) k
theorem jm_s_iload {k0 : Nat} (hx : jm_ld L a = some (.inl x)) (hc : (jm_code i)[ix]? = some (.iload k0, pc, len, a, b, v)) (h : jm_sd l D cA A ra n0 f0 d i (ix + 1) L (.inl x :: S) M r M') : jm_sd l D cA A ra n0 f0 d i ix L S M r M' := by
  obtain ⟨hd, hp, hn, h0⟩ := jm_ck1 hc rfl rfl
  have h0 := Nat.eq_of_beq_eq_true h0
  subst h0
  refine jm_sd_one h (fun _ oS oL => ⟨jm_okS_c (jm_okV_i _ _) oS, oL⟩) ?_
  intro p e R s m args below meth c Q ad H locs cells slots ls hC hwf hoS hoL hra hRl hS hLR h1 h2 k
  rw [hp]
  have k := k ls hLR
  rw [hn] at k
  exact lv_iload hC.1 hC.2.1 hd (hLR.at hx) k
theorem jm_s_aload_n {k0 : Fin 4} {x : jm_R} (hx : jm_ld L a = some (.inr x)) (hc : (jm_code i)[ix]? = some (.aload_n k0, pc, len, a, b, v)) (h : jm_sd l D cA A ra n0 f0 d i (ix + 1) L (.inr x :: S) M r M') : jm_sd l D cA A ra n0 f0 d i ix L S M r M' := by
  obtain ⟨hd, hp, hn, h0⟩ := jm_ck1 hc rfl rfl
  refine jm_sd_one h (fun _ oS oL => ⟨jm_okS_c (jm_okL_ld oL hx) oS, oL⟩) ?_
  intro p e R s m args below meth c Q ad H locs cells slots ls hC hwf hoS hoL hra hRl hS hLR h1 h2 k
  rw [hp]
  have k := k ls hLR
  rw [hn] at k
  have hv := hLR.at hx
  cases x with
  | none => exact lv_aload_nN hC.1 hC.2.1 hd (Nat.eq_of_beq_eq_true h0) hv k
  | some q => exact lv_aload_n hC.1 hC.2.1 hd (Nat.eq_of_beq_eq_true h0) hv k
theorem jm_s_aload {k0 : Nat} {x : jm_R} (hx : jm_ld L a = some (.inr x)) (hc : (jm_code i)[ix]? = some (.aload k0, pc, len, a, b, v)) (h : jm_sd l D cA A ra n0 f0 d i (ix + 1) L (.inr x :: S) M r M') : jm_sd l D cA A ra n0 f0 d i ix L S M r M' := by
  obtain ⟨hd, hp, hn, h0⟩ := jm_ck1 hc rfl rfl
  have h0 := Nat.eq_of_beq_eq_true h0
  subst h0
  refine jm_sd_one h (fun _ oS oL => ⟨jm_okS_c (jm_okL_ld oL hx) oS, oL⟩) ?_
  intro p e R s m args below meth c Q ad H locs cells slots ls hC hwf hoS hoL hra hRl hS hLR h1 h2 k
  rw [hp]
  have k := k ls hLR
  rw [hn] at k
  have hv := hLR.at hx
  cases x with
  | none => exact lv_aloadN hC.1 hC.2.1 hd hv k
  | some q => exact lv_aload hC.1 hC.2.1 hd hv k
theorem jm_s_istore_n {k0 : Fin 4} (hc : (jm_code i)[ix]? = some (.istore_n k0, pc, len, a, b, v)) (h : jm_sd l D cA A ra n0 f0 d i (ix + 1) (L.set a (some (.inl x))) S M r M') : jm_sd l D cA A ra n0 f0 d i ix L (.inl x :: S) M r M' := by
  obtain ⟨hd, hp, hn, h0⟩ := jm_ck1 hc rfl rfl
  simp only [jm_chk2, Bool.and_eq_true] at h0
  have h01 := Nat.eq_of_beq_eq_true h0.1
  have h02 : a < jm_mL i := Nat.le_of_ble_eq_true h0.2
  refine jm_sd_one h (fun _ oS oL => ⟨jm_okS_t oS, jm_okL_set oL (jm_okV_i _ _)⟩) ?_
  intro p e R s m args below meth c Q ad H locs cells slots ls hC hwf hoS hoL hra hRl hS hLR h1 h2 k
  rw [hp]
  refine lv_istore_n hC.1 hC.2.1 hd h01 hLR.2 h02 rfl fun ls2 hl2 => ?_
  have k := k ls2 (hLR.set (v := .inl x) h02 hl2)
  rw [hn] at k
  exact k
theorem jm_s_istore {k0 : Nat} (hc : (jm_code i)[ix]? = some (.istore k0, pc, len, a, b, v)) (h : jm_sd l D cA A ra n0 f0 d i (ix + 1) (L.set a (some (.inl x))) S M r M') : jm_sd l D cA A ra n0 f0 d i ix L (.inl x :: S) M r M' := by
  obtain ⟨hd, hp, hn, h0⟩ := jm_ck1 hc rfl rfl
  simp only [jm_chk2, Bool.and_eq_true] at h0
  have h01 := Nat.eq_of_beq_eq_true h0.1
  have h02 : a < jm_mL i := Nat.le_of_ble_eq_true h0.2
  subst h01
  refine jm_sd_one h (fun _ oS oL => ⟨jm_okS_t oS, jm_okL_set oL (jm_okV_i _ _)⟩) ?_
  intro p e R s m args below meth c Q ad H locs cells slots ls hC hwf hoS hoL hra hRl hS hLR h1 h2 k
  rw [hp]
  refine lv_istore hC.1 hC.2.1 hd hLR.2 h02 rfl fun ls2 hl2 => ?_
  have k := k ls2 (hLR.set (v := .inl x) h02 hl2)
  rw [hn] at k
  exact k
theorem jm_s_astore_n {k0 : Fin 4} {x : jm_R} (hc : (jm_code i)[ix]? = some (.astore_n k0, pc, len, a, b, v)) (h : jm_sd l D cA A ra n0 f0 d i (ix + 1) (L.set a (some (.inr x))) S M r M') : jm_sd l D cA A ra n0 f0 d i ix L (.inr x :: S) M r M' := by
  obtain ⟨hd, hp, hn, h0⟩ := jm_ck1 hc rfl rfl
  simp only [jm_chk2, Bool.and_eq_true] at h0
  have h01 := Nat.eq_of_beq_eq_true h0.1
  have h02 : a < jm_mL i := Nat.le_of_ble_eq_true h0.2
  refine jm_sd_one h (fun _ oS oL => ⟨jm_okS_t oS, jm_okL_set oL (jm_okS_h oS)⟩) ?_
  intro p e R s m args below meth c Q ad H locs cells slots ls hC hwf hoS hoL hra hRl hS hLR h1 h2 k
  rw [hp]
  cases x with
  | none =>
    refine lv_astore_nN hC.1 hC.2.1 hd h01 hLR.2 h02 rfl fun ls2 hl2 => ?_
    have k := k ls2 (hLR.set (v := .inr none) h02 hl2)
    rw [hn] at k
    exact k
  | some q =>
    refine lv_astore_n hC.1 hC.2.1 hd h01 hLR.2 h02 rfl fun ls2 hl2 => ?_
    have k := k ls2 (hLR.set (v := .inr (some q)) h02 hl2)
    rw [hn] at k
    exact k
theorem jm_s_astore {k0 : Nat} {x : jm_R} (hc : (jm_code i)[ix]? = some (.astore k0, pc, len, a, b, v)) (h : jm_sd l D cA A ra n0 f0 d i (ix + 1) (L.set a (some (.inr x))) S M r M') : jm_sd l D cA A ra n0 f0 d i ix L (.inr x :: S) M r M' := by
  obtain ⟨hd, hp, hn, h0⟩ := jm_ck1 hc rfl rfl
  simp only [jm_chk2, Bool.and_eq_true] at h0
  have h01 := Nat.eq_of_beq_eq_true h0.1
  have h02 : a < jm_mL i := Nat.le_of_ble_eq_true h0.2
  subst h01
  refine jm_sd_one h (fun _ oS oL => ⟨jm_okS_t oS, jm_okL_set oL (jm_okS_h oS)⟩) ?_
  intro p e R s m args below meth c Q ad H locs cells slots ls hC hwf hoS hoL hra hRl hS hLR h1 h2 k
  rw [hp]
  cases x with
  | none =>
    refine lv_astoreN hC.1 hC.2.1 hd hLR.2 h02 rfl fun ls2 hl2 => ?_
    have k := k ls2 (hLR.set (v := .inr none) h02 hl2)
    rw [hn] at k
    exact k
  | some q =>
    refine lv_astore hC.1 hC.2.1 hd hLR.2 h02 rfl fun ls2 hl2 => ?_
    have k := k ls2 (hLR.set (v := .inr (some q)) h02 hl2)
    rw [hn] at k
    exact k
theorem jm_lv_at {ad : Nat → Nat → Nat} (hx : jm_ld L a = some (.inl x)) : ∃ k : Nat, (jm_lv ad L)[k]? = some (a, .int x) := List.getElem?_of_mem (jm_lv_mem.mpr ⟨.inl x, jm_ld_s hx, rfl⟩)
theorem jm_s_iinc {k0 : Nat} {z : Int} (hx : jm_ld L a = some (.inl x)) (hc : (jm_code i)[ix]? = some (.iinc k0 z, pc, len, a, b, v)) (h : jm_sd l D cA A ra n0 f0 d i (ix + 1) (L.set a (some (.inl (x + v)))) S M r M') : jm_sd l D cA A ra n0 f0 d i ix L S M r M' := by
  obtain ⟨hd, hp, hn, h0⟩ := jm_ck1 hc rfl rfl
  simp only [jm_chk2, Bool.and_eq_true, decide_eq_true_eq] at h0
  have h01 := Nat.eq_of_beq_eq_true h0.1.1
  have h02 : a < jm_mL i := Nat.le_of_ble_eq_true h0.1.2
  have h03 := h0.2
  subst h01
  refine jm_sd_one h (fun _ oS oL => ⟨oS, jm_okL_set oL (jm_okV_i _ _)⟩) ?_
  intro p e R s m args below meth c Q ad H locs cells slots ls hC hwf hoS hoL hra hRl hS hLR h1 h2 k
  rw [hp]
  obtain ⟨t, ht⟩ := jm_lv_at (ad := ad) hx
  refine lv_iinc hC.1 hC.2.1 hd hLR.2 ht (show x + Int32.ofInt z = x + v by rw [h03]) h02 rfl fun ls2 hl2 => ?_
  have k := k ls2 (hLR.set (v := .inl (x + v)) h02 hl2)
  rw [hn] at k
  exact k
theorem jm_s_iadd (hc : (jm_code i)[ix]? = some (.iadd, pc, len, a, b, v)) (h : jm_sd l D cA A ra n0 f0 d i (ix + 1) L (.inl (x + y) :: S) M r M') : jm_sd l D cA A ra n0 f0 d i ix L (.inl y :: .inl x :: S) M r M' := by
  obtain ⟨hd, hp, hn, h0⟩ := jm_ck1 hc rfl rfl
  refine jm_sd_one h (fun _ oS oL => ⟨jm_okS_c (jm_okV_i _ _) (jm_okS_t (jm_okS_t oS)), oL⟩) ?_
  intro p e R s m args below meth c Q ad H locs cells slots ls hC hwf hoS hoL hra hRl hS hLR h1 h2 k
  rw [hp]
  have k := k ls hLR
  rw [hn] at k
  exact lv_iadd hC.1 hC.2.1 hd k
theorem jm_s_isub (hc : (jm_code i)[ix]? = some (.isub, pc, len, a, b, v)) (h : jm_sd l D cA A ra n0 f0 d i (ix + 1) L (.inl (x - y) :: S) M r M') : jm_sd l D cA A ra n0 f0 d i ix L (.inl y :: .inl x :: S) M r M' := by
  obtain ⟨hd, hp, hn, h0⟩ := jm_ck1 hc rfl rfl
  refine jm_sd_one h (fun _ oS oL => ⟨jm_okS_c (jm_okV_i _ _) (jm_okS_t (jm_okS_t oS)), oL⟩) ?_
  intro p e R s m args below meth c Q ad H locs cells slots ls hC hwf hoS hoL hra hRl hS hLR h1 h2 k
  rw [hp]
  have k := k ls hLR
  rw [hn] at k
  exact lv_isub hC.1 hC.2.1 hd k
theorem jm_s_imul (hc : (jm_code i)[ix]? = some (.imul, pc, len, a, b, v)) (h : jm_sd l D cA A ra n0 f0 d i (ix + 1) L (.inl (x * y) :: S) M r M') : jm_sd l D cA A ra n0 f0 d i ix L (.inl y :: .inl x :: S) M r M' := by
  obtain ⟨hd, hp, hn, h0⟩ := jm_ck1 hc rfl rfl
  refine jm_sd_one h (fun _ oS oL => ⟨jm_okS_c (jm_okV_i _ _) (jm_okS_t (jm_okS_t oS)), oL⟩) ?_
  intro p e R s m args below meth c Q ad H locs cells slots ls hC hwf hoS hoL hra hRl hS hLR h1 h2 k
  rw [hp]
  have k := k ls hLR
  rw [hn] at k
  exact lv_imul hC.1 hC.2.1 hd k
theorem jm_s_iand (hc : (jm_code i)[ix]? = some (.iand, pc, len, a, b, v)) (h : jm_sd l D cA A ra n0 f0 d i (ix + 1) L (.inl (x &&& y) :: S) M r M') : jm_sd l D cA A ra n0 f0 d i ix L (.inl y :: .inl x :: S) M r M' := by
  obtain ⟨hd, hp, hn, h0⟩ := jm_ck1 hc rfl rfl
  refine jm_sd_one h (fun _ oS oL => ⟨jm_okS_c (jm_okV_i _ _) (jm_okS_t (jm_okS_t oS)), oL⟩) ?_
  intro p e R s m args below meth c Q ad H locs cells slots ls hC hwf hoS hoL hra hRl hS hLR h1 h2 k
  rw [hp]
  have k := k ls hLR
  rw [hn] at k
  exact lv_iand hC.1 hC.2.1 hd k
theorem jm_s_ishr (hc : (jm_code i)[ix]? = some (.ishr, pc, len, a, b, v)) (h : jm_sd l D cA A ra n0 f0 d i (ix + 1) L (.inl (x >>> (y &&& 31)) :: S) M r M') : jm_sd l D cA A ra n0 f0 d i ix L (.inl y :: .inl x :: S) M r M' := by
  obtain ⟨hd, hp, hn, h0⟩ := jm_ck1 hc rfl rfl
  refine jm_sd_one h (fun _ oS oL => ⟨jm_okS_c (jm_okV_i _ _) (jm_okS_t (jm_okS_t oS)), oL⟩) ?_
  intro p e R s m args below meth c Q ad H locs cells slots ls hC hwf hoS hoL hra hRl hS hLR h1 h2 k
  rw [hp]
  have k := k ls hLR
  rw [hn] at k
  exact lv_ishr hC.1 hC.2.1 hd k
theorem jm_s_idiv (hy : ¬ y = nI 0) (hc : (jm_code i)[ix]? = some (.idiv, pc, len, a, b, v)) (h : jm_sd l D cA A ra n0 f0 d i (ix + 1) L (.inl (x / y) :: S) M r M') : jm_sd l D cA A ra n0 f0 d i ix L (.inl y :: .inl x :: S) M r M' := by
  obtain ⟨hd, hp, hn, h0⟩ := jm_ck1 hc rfl rfl
  refine jm_sd_one h (fun _ oS oL => ⟨jm_okS_c (jm_okV_i _ _) (jm_okS_t (jm_okS_t oS)), oL⟩) ?_
  intro p e R s m args below meth c Q ad H locs cells slots ls hC hwf hoS hoL hra hRl hS hLR h1 h2 k
  rw [hp]
  have k := k ls hLR
  rw [hn] at k
  exact lv_idiv hC.1 hC.2.1 hd hy k
theorem jm_s_dup {w : jm_V} (hc : (jm_code i)[ix]? = some (.dup, pc, len, a, b, v)) (h : jm_sd l D cA A ra n0 f0 d i (ix + 1) L (w :: w :: S) M r M') : jm_sd l D cA A ra n0 f0 d i ix L (w :: S) M r M' := by
  obtain ⟨hd, hp, hn, h0⟩ := jm_ck1 hc rfl rfl
  refine jm_sd_one h (fun _ oS oL => ⟨jm_okS_c (jm_okS_h oS) oS, oL⟩) ?_
  intro p e R s m args below meth c Q ad H locs cells slots ls hC hwf hoS hoL hra hRl hS hLR h1 h2 k
  rw [hp]
  have k := k ls hLR
  rw [hn] at k
  exact lv_dup hC.1 hC.2.1 hd (jm_vl_cat _ _) k
theorem jm_s_pop {w : jm_V} (hc : (jm_code i)[ix]? = some (.pop, pc, len, a, b, v)) (h : jm_sd l D cA A ra n0 f0 d i (ix + 1) L S M r M') : jm_sd l D cA A ra n0 f0 d i ix L (w :: S) M r M' := by
  obtain ⟨hd, hp, hn, h0⟩ := jm_ck1 hc rfl rfl
  refine jm_sd_one h (fun _ oS oL => ⟨jm_okS_t oS, oL⟩) ?_
  intro p e R s m args below meth c Q ad H locs cells slots ls hC hwf hoS hoL hra hRl hS hLR h1 h2 k
  rw [hp]
  have k := k ls hLR
  rw [hn] at k
  exact lv_pop hC.1 hC.2.1 hd (jm_vl_cat _ _) k
theorem jm_s_dup_x1 {w u : jm_V} (hc : (jm_code i)[ix]? = some (.dup_x1, pc, len, a, b, v)) (h : jm_sd l D cA A ra n0 f0 d i (ix + 1) L (w :: u :: w :: S) M r M') : jm_sd l D cA A ra n0 f0 d i ix L (w :: u :: S) M r M' := by
  obtain ⟨hd, hp, hn, h0⟩ := jm_ck1 hc rfl rfl
  refine jm_sd_one h (fun _ oS oL => ⟨jm_okS_c (jm_okS_h oS) (jm_okS_c (jm_okS_h (jm_okS_t oS)) (jm_okS_c (jm_okS_h oS) (jm_okS_t (jm_okS_t oS)))), oL⟩) ?_
  intro p e R s m args below meth c Q ad H locs cells slots ls hC hwf hoS hoL hra hRl hS hLR h1 h2 k
  rw [hp]
  have k := k ls hLR
  rw [hn] at k
  exact lv_dup_x1 hC.1 hC.2.1 hd (jm_vl_cat _ _) (jm_vl_cat _ _) k
theorem jm_s_dup2 {w u : jm_V} (hc : (jm_code i)[ix]? = some (.dup2, pc, len, a, b, v)) (h : jm_sd l D cA A ra n0 f0 d i (ix + 1) L (w :: u :: w :: u :: S) M r M') : jm_sd l D cA A ra n0 f0 d i ix L (w :: u :: S) M r M' := by
  obtain ⟨hd, hp, hn, h0⟩ := jm_ck1 hc rfl rfl
  refine jm_sd_one h (fun _ oS oL => ⟨jm_okS_c (jm_okS_h oS) (jm_okS_c (jm_okS_h (jm_okS_t oS)) oS), oL⟩) ?_
  intro p e R s m args below meth c Q ad H locs cells slots ls hC hwf hoS hoL hra hRl hS hLR h1 h2 k
  rw [hp]
  have k := k ls hLR
  rw [hn] at k
  exact lv_dup2_11 hC.1 hC.2.1 hd (jm_vl_cat _ _) (jm_vl_cat _ _) k
theorem jm_s_dup_x2 {w u z : jm_V} (hc : (jm_code i)[ix]? = some (.dup_x2, pc, len, a, b, v)) (h : jm_sd l D cA A ra n0 f0 d i (ix + 1) L (w :: u :: z :: w :: S) M r M') : jm_sd l D cA A ra n0 f0 d i ix L (w :: u :: z :: S) M r M' := by
  obtain ⟨hd, hp, hn, h0⟩ := jm_ck1 hc rfl rfl
  refine jm_sd_one h (fun _ oS oL => ⟨jm_okS_c (jm_okS_h oS) (jm_okS_c (jm_okS_h (jm_okS_t oS)) (jm_okS_c (jm_okS_h (jm_okS_t (jm_okS_t oS))) (jm_okS_c (jm_okS_h oS) (jm_okS_t (jm_okS_t (jm_okS_t oS)))))), oL⟩) ?_
  intro p e R s m args below meth c Q ad H locs cells slots ls hC hwf hoS hoL hra hRl hS hLR h1 h2 k
  rw [hp]
  have k := k ls hLR
  rw [hn] at k
  exact lv_dup_x2 hC.1 hC.2.1 hd (jm_vl_cat _ _) (jm_vl_cat _ _) (jm_vl_cat _ _) k
theorem jm_s_if_eq {off : Int} (hc : (jm_code i)[ix]? = some (.ifCond .eq off, pc, len, a, b, v)) (ht : x = nI 0 → jm_sd l D cA A ra n0 f0 d i a L S M r M') (hf : ¬ x = nI 0 → jm_sd l D cA A ra n0 f0 d i (ix + 1) L S M r M') : jm_sd l D cA A ra n0 f0 d i ix L (.inl x :: S) M r M' := by
  obtain ⟨hd, hp, hn, h0⟩ := jm_ck1 hc rfl rfl
  have h0 : (pc : Int) + off = (jm_pc i a : Int) := of_decide_eq_true h0
  by_cases hq : x = nI 0
  · refine jm_sd_one (ht hq) (fun _ oS oL => ⟨jm_okS_t oS, oL⟩) ?_
    intro p e R s m args below meth c Q ad H locs cells slots ls hC hwf hoS hoL hra hRl hS hLR h1 h2 k
    rw [hp]
    have k := k ls hLR
    exact lv_if_eq hC.1 hC.2.1 hd h0 (fun _ => k) (fun q => absurd hq q)
  · refine jm_sd_one (hf hq) (fun _ oS oL => ⟨jm_okS_t oS, oL⟩) ?_
    intro p e R s m args below meth c Q ad H locs cells slots ls hC hwf hoS hoL hra hRl hS hLR h1 h2 k
    rw [hp]
    have k := k ls hLR
    rw [hn] at k
    exact lv_if_eq hC.1 hC.2.1 hd h0 (fun q => absurd q hq) (fun _ => k)
theorem jm_s_icmp_eq {off : Int} (hc : (jm_code i)[ix]? = some (.if_icmp .eq off, pc, len, a, b, v)) (ht : x = y → jm_sd l D cA A ra n0 f0 d i a L S M r M') (hf : ¬ x = y → jm_sd l D cA A ra n0 f0 d i (ix + 1) L S M r M') : jm_sd l D cA A ra n0 f0 d i ix L (.inl y :: .inl x :: S) M r M' := by
  obtain ⟨hd, hp, hn, h0⟩ := jm_ck1 hc rfl rfl
  have h0 : (pc : Int) + off = (jm_pc i a : Int) := of_decide_eq_true h0
  by_cases hq : x = y
  · refine jm_sd_one (ht hq) (fun _ oS oL => ⟨jm_okS_t (jm_okS_t oS), oL⟩) ?_
    intro p e R s m args below meth c Q ad H locs cells slots ls hC hwf hoS hoL hra hRl hS hLR h1 h2 k
    rw [hp]
    have k := k ls hLR
    exact lv_icmp_eq hC.1 hC.2.1 hd h0 (fun _ => k) (fun q => absurd hq q)
  · refine jm_sd_one (hf hq) (fun _ oS oL => ⟨jm_okS_t (jm_okS_t oS), oL⟩) ?_
    intro p e R s m args below meth c Q ad H locs cells slots ls hC hwf hoS hoL hra hRl hS hLR h1 h2 k
    rw [hp]
    have k := k ls hLR
    rw [hn] at k
    exact lv_icmp_eq hC.1 hC.2.1 hd h0 (fun q => absurd q hq) (fun _ => k)
theorem jm_s_if_ne {off : Int} (hc : (jm_code i)[ix]? = some (.ifCond .ne off, pc, len, a, b, v)) (ht : ¬ x = nI 0 → jm_sd l D cA A ra n0 f0 d i a L S M r M') (hf : x = nI 0 → jm_sd l D cA A ra n0 f0 d i (ix + 1) L S M r M') : jm_sd l D cA A ra n0 f0 d i ix L (.inl x :: S) M r M' := by
  obtain ⟨hd, hp, hn, h0⟩ := jm_ck1 hc rfl rfl
  have h0 : (pc : Int) + off = (jm_pc i a : Int) := of_decide_eq_true h0
  by_cases hq : x = nI 0
  · refine jm_sd_one (hf hq) (fun _ oS oL => ⟨jm_okS_t oS, oL⟩) ?_
    intro p e R s m args below meth c Q ad H locs cells slots ls hC hwf hoS hoL hra hRl hS hLR h1 h2 k
    rw [hp]
    have k := k ls hLR
    rw [hn] at k
    exact lv_if_ne hC.1 hC.2.1 hd h0 (fun q => absurd hq q) (fun _ => k)
  · refine jm_sd_one (ht hq) (fun _ oS oL => ⟨jm_okS_t oS, oL⟩) ?_
    intro p e R s m args below meth c Q ad H locs cells slots ls hC hwf hoS hoL hra hRl hS hLR h1 h2 k
    rw [hp]
    have k := k ls hLR
    exact lv_if_ne hC.1 hC.2.1 hd h0 (fun _ => k) (fun q => absurd q hq)
theorem jm_s_icmp_ne {off : Int} (hc : (jm_code i)[ix]? = some (.if_icmp .ne off, pc, len, a, b, v)) (ht : ¬ x = y → jm_sd l D cA A ra n0 f0 d i a L S M r M') (hf : x = y → jm_sd l D cA A ra n0 f0 d i (ix + 1) L S M r M') : jm_sd l D cA A ra n0 f0 d i ix L (.inl y :: .inl x :: S) M r M' := by
  obtain ⟨hd, hp, hn, h0⟩ := jm_ck1 hc rfl rfl
  have h0 : (pc : Int) + off = (jm_pc i a : Int) := of_decide_eq_true h0
  by_cases hq : x = y
  · refine jm_sd_one (hf hq) (fun _ oS oL => ⟨jm_okS_t (jm_okS_t oS), oL⟩) ?_
    intro p e R s m args below meth c Q ad H locs cells slots ls hC hwf hoS hoL hra hRl hS hLR h1 h2 k
    rw [hp]
    have k := k ls hLR
    rw [hn] at k
    exact lv_icmp_ne hC.1 hC.2.1 hd h0 (fun q => absurd hq q) (fun _ => k)
  · refine jm_sd_one (ht hq) (fun _ oS oL => ⟨jm_okS_t (jm_okS_t oS), oL⟩) ?_
    intro p e R s m args below meth c Q ad H locs cells slots ls hC hwf hoS hoL hra hRl hS hLR h1 h2 k
    rw [hp]
    have k := k ls hLR
    exact lv_icmp_ne hC.1 hC.2.1 hd h0 (fun _ => k) (fun q => absurd q hq)
theorem jm_s_if_lt {off : Int} (hc : (jm_code i)[ix]? = some (.ifCond .lt off, pc, len, a, b, v)) (ht : x < nI 0 → jm_sd l D cA A ra n0 f0 d i a L S M r M') (hf : ¬ x < nI 0 → jm_sd l D cA A ra n0 f0 d i (ix + 1) L S M r M') : jm_sd l D cA A ra n0 f0 d i ix L (.inl x :: S) M r M' := by
  obtain ⟨hd, hp, hn, h0⟩ := jm_ck1 hc rfl rfl
  have h0 : (pc : Int) + off = (jm_pc i a : Int) := of_decide_eq_true h0
  by_cases hq : x < nI 0
  · refine jm_sd_one (ht hq) (fun _ oS oL => ⟨jm_okS_t oS, oL⟩) ?_
    intro p e R s m args below meth c Q ad H locs cells slots ls hC hwf hoS hoL hra hRl hS hLR h1 h2 k
    rw [hp]
    have k := k ls hLR
    exact lv_if_lt hC.1 hC.2.1 hd h0 (fun _ => k) (fun q => absurd hq q)
  · refine jm_sd_one (hf hq) (fun _ oS oL => ⟨jm_okS_t oS, oL⟩) ?_
    intro p e R s m args below meth c Q ad H locs cells slots ls hC hwf hoS hoL hra hRl hS hLR h1 h2 k
    rw [hp]
    have k := k ls hLR
    rw [hn] at k
    exact lv_if_lt hC.1 hC.2.1 hd h0 (fun q => absurd q hq) (fun _ => k)
theorem jm_s_icmp_lt {off : Int} (hc : (jm_code i)[ix]? = some (.if_icmp .lt off, pc, len, a, b, v)) (ht : x < y → jm_sd l D cA A ra n0 f0 d i a L S M r M') (hf : ¬ x < y → jm_sd l D cA A ra n0 f0 d i (ix + 1) L S M r M') : jm_sd l D cA A ra n0 f0 d i ix L (.inl y :: .inl x :: S) M r M' := by
  obtain ⟨hd, hp, hn, h0⟩ := jm_ck1 hc rfl rfl
  have h0 : (pc : Int) + off = (jm_pc i a : Int) := of_decide_eq_true h0
  by_cases hq : x < y
  · refine jm_sd_one (ht hq) (fun _ oS oL => ⟨jm_okS_t (jm_okS_t oS), oL⟩) ?_
    intro p e R s m args below meth c Q ad H locs cells slots ls hC hwf hoS hoL hra hRl hS hLR h1 h2 k
    rw [hp]
    have k := k ls hLR
    exact lv_icmp_lt hC.1 hC.2.1 hd h0 (fun _ => k) (fun q => absurd hq q)
  · refine jm_sd_one (hf hq) (fun _ oS oL => ⟨jm_okS_t (jm_okS_t oS), oL⟩) ?_
    intro p e R s m args below meth c Q ad H locs cells slots ls hC hwf hoS hoL hra hRl hS hLR h1 h2 k
    rw [hp]
    have k := k ls hLR
    rw [hn] at k
    exact lv_icmp_lt hC.1 hC.2.1 hd h0 (fun q => absurd q hq) (fun _ => k)
theorem jm_s_if_ge {off : Int} (hc : (jm_code i)[ix]? = some (.ifCond .ge off, pc, len, a, b, v)) (ht : nI 0 ≤ x → jm_sd l D cA A ra n0 f0 d i a L S M r M') (hf : ¬ nI 0 ≤ x → jm_sd l D cA A ra n0 f0 d i (ix + 1) L S M r M') : jm_sd l D cA A ra n0 f0 d i ix L (.inl x :: S) M r M' := by
  obtain ⟨hd, hp, hn, h0⟩ := jm_ck1 hc rfl rfl
  have h0 : (pc : Int) + off = (jm_pc i a : Int) := of_decide_eq_true h0
  by_cases hq : nI 0 ≤ x
  · refine jm_sd_one (ht hq) (fun _ oS oL => ⟨jm_okS_t oS, oL⟩) ?_
    intro p e R s m args below meth c Q ad H locs cells slots ls hC hwf hoS hoL hra hRl hS hLR h1 h2 k
    rw [hp]
    have k := k ls hLR
    exact lv_if_ge hC.1 hC.2.1 hd h0 (fun _ => k) (fun q => absurd hq q)
  · refine jm_sd_one (hf hq) (fun _ oS oL => ⟨jm_okS_t oS, oL⟩) ?_
    intro p e R s m args below meth c Q ad H locs cells slots ls hC hwf hoS hoL hra hRl hS hLR h1 h2 k
    rw [hp]
    have k := k ls hLR
    rw [hn] at k
    exact lv_if_ge hC.1 hC.2.1 hd h0 (fun q => absurd q hq) (fun _ => k)
theorem jm_s_icmp_ge {off : Int} (hc : (jm_code i)[ix]? = some (.if_icmp .ge off, pc, len, a, b, v)) (ht : y ≤ x → jm_sd l D cA A ra n0 f0 d i a L S M r M') (hf : ¬ y ≤ x → jm_sd l D cA A ra n0 f0 d i (ix + 1) L S M r M') : jm_sd l D cA A ra n0 f0 d i ix L (.inl y :: .inl x :: S) M r M' := by
  obtain ⟨hd, hp, hn, h0⟩ := jm_ck1 hc rfl rfl
  have h0 : (pc : Int) + off = (jm_pc i a : Int) := of_decide_eq_true h0
  by_cases hq : y ≤ x
  · refine jm_sd_one (ht hq) (fun _ oS oL => ⟨jm_okS_t (jm_okS_t oS), oL⟩) ?_
    intro p e R s m args below meth c Q ad H locs cells slots ls hC hwf hoS hoL hra hRl hS hLR h1 h2 k
    rw [hp]
    have k := k ls hLR
    exact lv_icmp_ge hC.1 hC.2.1 hd h0 (fun _ => k) (fun q => absurd hq q)
  · refine jm_sd_one (hf hq) (fun _ oS oL => ⟨jm_okS_t (jm_okS_t oS), oL⟩) ?_
    intro p e R s m args below meth c Q ad H locs cells slots ls hC hwf hoS hoL hra hRl hS hLR h1 h2 k
    rw [hp]
    have k := k ls hLR
    rw [hn] at k
    exact lv_icmp_ge hC.1 hC.2.1 hd h0 (fun q => absurd q hq) (fun _ => k)
theorem jm_s_if_gt {off : Int} (hc : (jm_code i)[ix]? = some (.ifCond .gt off, pc, len, a, b, v)) (ht : nI 0 < x → jm_sd l D cA A ra n0 f0 d i a L S M r M') (hf : ¬ nI 0 < x → jm_sd l D cA A ra n0 f0 d i (ix + 1) L S M r M') : jm_sd l D cA A ra n0 f0 d i ix L (.inl x :: S) M r M' := by
  obtain ⟨hd, hp, hn, h0⟩ := jm_ck1 hc rfl rfl
  have h0 : (pc : Int) + off = (jm_pc i a : Int) := of_decide_eq_true h0
  by_cases hq : nI 0 < x
  · refine jm_sd_one (ht hq) (fun _ oS oL => ⟨jm_okS_t oS, oL⟩) ?_
    intro p e R s m args below meth c Q ad H locs cells slots ls hC hwf hoS hoL hra hRl hS hLR h1 h2 k
    rw [hp]
    have k := k ls hLR
    exact lv_if_gt hC.1 hC.2.1 hd h0 (fun _ => k) (fun q => absurd hq q)
  · refine jm_sd_one (hf hq) (fun _ oS oL => ⟨jm_okS_t oS, oL⟩) ?_
    intro p e R s m args below meth c Q ad H locs cells slots ls hC hwf hoS hoL hra hRl hS hLR h1 h2 k
    rw [hp]
    have k := k ls hLR
    rw [hn] at k
    exact lv_if_gt hC.1 hC.2.1 hd h0 (fun q => absurd q hq) (fun _ => k)
theorem jm_s_icmp_gt {off : Int} (hc : (jm_code i)[ix]? = some (.if_icmp .gt off, pc, len, a, b, v)) (ht : y < x → jm_sd l D cA A ra n0 f0 d i a L S M r M') (hf : ¬ y < x → jm_sd l D cA A ra n0 f0 d i (ix + 1) L S M r M') : jm_sd l D cA A ra n0 f0 d i ix L (.inl y :: .inl x :: S) M r M' := by
  obtain ⟨hd, hp, hn, h0⟩ := jm_ck1 hc rfl rfl
  have h0 : (pc : Int) + off = (jm_pc i a : Int) := of_decide_eq_true h0
  by_cases hq : y < x
  · refine jm_sd_one (ht hq) (fun _ oS oL => ⟨jm_okS_t (jm_okS_t oS), oL⟩) ?_
    intro p e R s m args below meth c Q ad H locs cells slots ls hC hwf hoS hoL hra hRl hS hLR h1 h2 k
    rw [hp]
    have k := k ls hLR
    exact lv_icmp_gt hC.1 hC.2.1 hd h0 (fun _ => k) (fun q => absurd hq q)
  · refine jm_sd_one (hf hq) (fun _ oS oL => ⟨jm_okS_t (jm_okS_t oS), oL⟩) ?_
    intro p e R s m args below meth c Q ad H locs cells slots ls hC hwf hoS hoL hra hRl hS hLR h1 h2 k
    rw [hp]
    have k := k ls hLR
    rw [hn] at k
    exact lv_icmp_gt hC.1 hC.2.1 hd h0 (fun q => absurd q hq) (fun _ => k)
theorem jm_s_if_le {off : Int} (hc : (jm_code i)[ix]? = some (.ifCond .le off, pc, len, a, b, v)) (ht : x ≤ nI 0 → jm_sd l D cA A ra n0 f0 d i a L S M r M') (hf : ¬ x ≤ nI 0 → jm_sd l D cA A ra n0 f0 d i (ix + 1) L S M r M') : jm_sd l D cA A ra n0 f0 d i ix L (.inl x :: S) M r M' := by
  obtain ⟨hd, hp, hn, h0⟩ := jm_ck1 hc rfl rfl
  have h0 : (pc : Int) + off = (jm_pc i a : Int) := of_decide_eq_true h0
  by_cases hq : x ≤ nI 0
  · refine jm_sd_one (ht hq) (fun _ oS oL => ⟨jm_okS_t oS, oL⟩) ?_
    intro p e R s m args below meth c Q ad H locs cells slots ls hC hwf hoS hoL hra hRl hS hLR h1 h2 k
    rw [hp]
    have k := k ls hLR
    exact lv_if_le hC.1 hC.2.1 hd h0 (fun _ => k) (fun q => absurd hq q)
  · refine jm_sd_one (hf hq) (fun _ oS oL => ⟨jm_okS_t oS, oL⟩) ?_
    intro p e R s m args below meth c Q ad H locs cells slots ls hC hwf hoS hoL hra hRl hS hLR h1 h2 k
    rw [hp]
    have k := k ls hLR
    rw [hn] at k
    exact lv_if_le hC.1 hC.2.1 hd h0 (fun q => absurd q hq) (fun _ => k)
theorem jm_s_icmp_le {off : Int} (hc : (jm_code i)[ix]? = some (.if_icmp .le off, pc, len, a, b, v)) (ht : x ≤ y → jm_sd l D cA A ra n0 f0 d i a L S M r M') (hf : ¬ x ≤ y → jm_sd l D cA A ra n0 f0 d i (ix + 1) L S M r M') : jm_sd l D cA A ra n0 f0 d i ix L (.inl y :: .inl x :: S) M r M' := by
  obtain ⟨hd, hp, hn, h0⟩ := jm_ck1 hc rfl rfl
  have h0 : (pc : Int) + off = (jm_pc i a : Int) := of_decide_eq_true h0
  by_cases hq : x ≤ y
  · refine jm_sd_one (ht hq) (fun _ oS oL => ⟨jm_okS_t (jm_okS_t oS), oL⟩) ?_
    intro p e R s m args below meth c Q ad H locs cells slots ls hC hwf hoS hoL hra hRl hS hLR h1 h2 k
    rw [hp]
    have k := k ls hLR
    exact lv_icmp_le hC.1 hC.2.1 hd h0 (fun _ => k) (fun q => absurd hq q)
  · refine jm_sd_one (hf hq) (fun _ oS oL => ⟨jm_okS_t (jm_okS_t oS), oL⟩) ?_
    intro p e R s m args below meth c Q ad H locs cells slots ls hC hwf hoS hoL hra hRl hS hLR h1 h2 k
    rw [hp]
    have k := k ls hLR
    rw [hn] at k
    exact lv_icmp_le hC.1 hC.2.1 hd h0 (fun q => absurd q hq) (fun _ => k)
theorem jm_s_goto {off : Int} (hc : (jm_code i)[ix]? = some (.goto off, pc, len, a, b, v)) (h : jm_sd l D cA A ra n0 f0 d i a L S M r M') : jm_sd l D cA A ra n0 f0 d i ix L S M r M' := by
  obtain ⟨hd, hp, hz, -, h0⟩ := jm_ck hc
  have hz := hz rfl
  subst hz
  have h0 : (pc : Int) + off = (jm_pc i a : Int) := of_decide_eq_true h0
  refine jm_sd_one h (fun _ oS oL => ⟨oS, oL⟩) ?_
  intro p e R s m args below meth c Q ad H locs cells slots ls hC hwf hoS hoL hra hRl hS hLR h1 h2 k
  rw [hp]
  exact lv_goto hC.1 hC.2.1 hd h0 (k ls hLR)
theorem jm_s_acmp_eq {off : Int} {z : jm_R} (hc : (jm_code i)[ix]? = some (.if_acmp .eq off, pc, len, a, b, v)) (h : jm_sd l D cA A ra n0 f0 d i a L S M r M') : jm_sd l D cA A ra n0 f0 d i ix L (.inr z :: .inr z :: S) M r M' := by
  obtain ⟨hd, hp, hn, h0⟩ := jm_ck1 hc rfl rfl
  have h0 : (pc : Int) + off = (jm_pc i a : Int) := of_decide_eq_true h0
  refine jm_sd_one h (fun _ oS oL => ⟨jm_okS_t (jm_okS_t oS), oL⟩) ?_
  intro p e R s m args below meth c Q ad H locs cells slots ls hC hwf hoS hoL hra hRl hS hLR h1 h2 k
  rw [hp]
  exact lv_acmp_eq hC.1 hC.2.1 hd h0 (fun _ => k ls hLR) (fun q => absurd rfl q)
theorem jm_s_acmp_ne {off : Int} {z : jm_R} (hc : (jm_code i)[ix]? = some (.if_acmp .ne off, pc, len, a, b, v)) (h : jm_sd l D cA A ra n0 f0 d i (ix + 1) L S M r M') : jm_sd l D cA A ra n0 f0 d i ix L (.inr z :: .inr z :: S) M r M' := by
  obtain ⟨hd, hp, hn, h0⟩ := jm_ck1 hc rfl rfl
  have h0 : (pc : Int) + off = (jm_pc i a : Int) := of_decide_eq_true h0
  refine jm_sd_one h (fun _ oS oL => ⟨jm_okS_t (jm_okS_t oS), oL⟩) ?_
  intro p e R s m args below meth c Q ad H locs cells slots ls hC hwf hoS hoL hra hRl hS hLR h1 h2 k
  rw [hp]
  have k := k ls hLR
  rw [hn] at k
  exact lv_acmp_ne hC.1 hC.2.1 hd h0 (fun q => absurd rfl q) (fun _ => k)
theorem jm_s_tabOut {dflt lo hi : Int} {offs : Array Int} (hc : (jm_code i)[ix]? = some (.tableswitch dflt lo hi offs, pc, len, a, b, v)) (hx : x.toInt < lo ∨ hi < x.toInt) (h : jm_sd l D cA A ra n0 f0 d i a L S M r M') : jm_sd l D cA A ra n0 f0 d i ix L (.inl x :: S) M r M' := by
  obtain ⟨hd, hp, -, -, h0⟩ := jm_ck hc
  simp only [jm_chk2, Bool.and_eq_true, decide_eq_true_eq] at h0
  refine jm_sd_one h (fun _ oS oL => ⟨jm_okS_t oS, oL⟩) ?_
  intro p e R s m args below meth c Q ad H locs cells slots ls hC hwf hoS hoL hra hRl hS hLR h1 h2 k
  rw [hp]
  exact lv_tableOut hC.1 hC.2.1 hd hx h0.1 (k ls hLR)
theorem jm_s_tabIn {dflt lo hi : Int} {offs : Array Int} {t : Nat} (hc : (jm_code i)[ix]? = some (.tableswitch dflt lo hi offs, pc, len, a, b, v)) (hx : ¬ (x.toInt < lo ∨ hi < x.toInt)) (ht : (jm_sw b)[(x.toInt - lo).toNat]? = some t) (h : jm_sd l D cA A ra n0 f0 d i t L S M r M') : jm_sd l D cA A ra n0 f0 d i ix L (.inl x :: S) M r M' := by
  obtain ⟨hd, hp, -, -, h0⟩ := jm_ck hc
  simp only [jm_chk2, Bool.and_eq_true, decide_eq_true_eq] at h0
  refine jm_sd_one h (fun _ oS oL => ⟨jm_okS_t oS, oL⟩) ?_
  intro p e R s m args below meth c Q ad H locs cells slots ls hC hwf hoS hoL hra hRl hS hLR h1 h2 k
  rw [hp]
  have e1 : offs[(x.toInt - lo).toNat]? = some ((jm_pc i t : Int) - pc) := by
    rw [← Array.getElem?_toList, h0.2, List.getElem?_map, ht]
    rfl
  exact lv_tableIn hC.1 hC.2.1 hd (fun q => hx (Or.inl q)) (fun q => hx (Or.inr q)) e1 (by omega) (k ls hLR)
theorem jm_lk_s {t : List (Int32 × Nat)} {dflt : Nat} {f : Nat → jm_Z} {z : Option jm_V × jm_M} (h : jm_lk t dflt x f = some z) (g : Nat → Int) : ∃ u, f u = some z ∧ Op.lookupswitch.offset (t.map fun q => (q.1.toInt, g q.2)) (g dflt) x.toInt = g u := by
  induction t with
  | nil => exact ⟨dflt, h, rfl⟩
  | cons q r ih =>
    obtain ⟨k, u⟩ := q
    unfold jm_lk at h
    by_cases hk : x = k
    · rw [if_pos hk] at h
      refine ⟨u, h, ?_⟩
      rw [List.map_cons, Op.lookupswitch.offset_cons, if_pos (by rw [hk])]
    · rw [if_neg hk] at h
      obtain ⟨u', h1, h2⟩ := ih h
      refine ⟨u', h1, ?_⟩
      rw [List.map_cons, lv_osw hk rfl]
      exact h2
theorem jm_s_lk {dflt : Int} {ps : Array (Int × Int)} {t : Nat} (hc : (jm_code i)[ix]? = some (.lookupswitch dflt ps, pc, len, a, b, v)) (ht : Op.lookupswitch.offset ((jm_sx b).map fun q => (q.1.toInt, (jm_pc i q.2 : Int) - pc)) ((jm_pc i a : Int) - pc) x.toInt = (jm_pc i t : Int) - pc) (h : jm_sd l D cA A ra n0 f0 d i t L S M r M') : jm_sd l D cA A ra n0 f0 d i ix L (.inl x :: S) M r M' := by
  obtain ⟨hd, hp, -, -, h0⟩ := jm_ck hc
  simp only [jm_chk2, Bool.and_eq_true, decide_eq_true_eq] at h0
  refine jm_sd_one h (fun _ oS oL => ⟨jm_okS_t oS, oL⟩) ?_
  intro p e R s m args below meth c Q ad H locs cells slots ls hC hwf hoS hoL hra hRl hS hLR h1 h2 k
  rw [hp]
  refine lv_lookup hC.1 hC.2.1 hd h0.1.1 (off := (jm_pc i t : Int) - pc) ?_ (by omega) (k ls hLR)
  rw [h0.2, ← ht]
  congr 1
  omega
theorem jm_s_ret (hr : jm_re i ix r) (hS : S = r.toList) : jm_sd l D cA A ra n0 f0 d i ix L S M r M := by
  subst hS
  refine ⟨jm_gr.rf M, fun hwf oS _ => ⟨hwf, fun v hv => oS v (by rw [hv]; exact List.mem_cons_self)⟩, ?_⟩
  intro p e R s m args below meth c CE SE Q M0 ad0 hC hend hcE hsE ad H locs cells slots ls hwf hoS hoL hg0 hext hra hRl hS hLR hc hs
  have e1 : cells = CE := by omega
  have e2 : slots = SE := by omega
  subst e1 e2
  exact hend ad H locs ls ix hext hra hRl hS hr
end JMX
