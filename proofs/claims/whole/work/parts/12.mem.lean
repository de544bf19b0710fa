/-! The small machine is sound: fields, arrays, new cells. -/
section JMY
variable {l : Launch} {D : va_G} {cA : Nat → ClassId} {A : Nat → Prop} {ra n0 : Nat → Nat} {f0 : Nat → Nat → Int32} {d i ix ix2 : Nat} {L L2 : List (Option jm_V)} {S S2 : List jm_V} {M M2 : jm_M} {r : Option jm_V} {M' : jm_M}
variable {pc len a b : Nat} {v : Int32} {x y : Int32} {idx : Nat} {q : Nat × Nat}
theorem jm_cl_s {k ci : Nat} (h : jm_cl k ci = true) : (jm_kd k).1 = 0 ∧ (jm_kd k).2.1 = ci := by
  unfold jm_cl at h
  rw [Bool.and_eq_true] at h
  exact ⟨Nat.eq_of_beq_eq_true h.1, Nat.eq_of_beq_eq_true h.2⟩
theorem jm_ar_s {k g t : Nat} (h : jm_ar k g t = true) : (jm_kd k).1 = g ∧ (jm_kd k).2.1 = t := by
  unfold jm_ar at h
  rw [Bool.and_eq_true] at h
  exact ⟨Nat.eq_of_beq_eq_true h.1, Nat.eq_of_beq_eq_true h.2⟩
theorem jm_in_s {j : Int32} {n : Nat} (h : jm_in j n = true) : vp_in j n := by
  unfold jm_in at h
  rw [Bool.and_eq_true, Bool.not_eq_true', decide_eq_false_iff_not] at h
  intro hq
  rcases hq with hq | hq
  · exact h.1 hq
  · have := Nat.le_of_ble_eq_true h.2
    omega
theorem jm_okS_q (oS : jm_okS M (.inr (some q) :: S)) : q.2 < jm_c M q.1 := jm_okS_h oS (some q) rfl q rfl
/-- an object's row in the world -/
theorem jm_obj (hwf : jm_wf n0 f0 M) (hq : q.2 < jm_c M q.1) (h0 : (jm_kd q.1).1 = 0) (cA : Nat → ClassId) (ad : Nat → Nat → Nat) : ∃ p : Nat, (jm_al M)[p]? = some q ∧ (jm_ws cA ad M)[p]? = some (ad q.1 q.2, .inr ((jm_kd q.1).2.1, (List.range (jm_kd q.1).2.2).map (jm_fv ad M (jm_kd q.1).2.1 q.1 q.2))) := by
  obtain ⟨p, h1, h2⟩ := jm_at ((hwf.2.1 q).mpr ⟨by omega, hq⟩) cA ad
  rw [jm_E_o h0] at h2
  exact ⟨p, h1, h2⟩
theorem jm_arI (hwf : jm_wf n0 f0 M) (hq : q.2 < jm_c M q.1) (h0 : (jm_kd q.1).1 = 1) (cA : Nat → ClassId) (ad : Nat → Nat → Nat) : ∃ p : Nat, (jm_al M)[p]? = some q ∧ (jm_ws cA ad M)[p]? = some (ad q.1 q.2, .inl (cA (jm_kd q.1).2.1, jm_n M q.1 q.2, .inl (jm_I M q.1 q.2))) := by
  obtain ⟨p, h1, h2⟩ := jm_at ((hwf.2.1 q).mpr ⟨by omega, hq⟩) cA ad
  rw [jm_E_i h0] at h2
  exact ⟨p, h1, h2⟩
theorem jm_arR (hwf : jm_wf n0 f0 M) (hq : q.2 < jm_c M q.1) (h0 : (jm_kd q.1).1 = 2) (cA : Nat → ClassId) (ad : Nat → Nat → Nat) : ∃ p : Nat, (jm_al M)[p]? = some q ∧ (jm_ws cA ad M)[p]? = some (ad q.1 q.2, .inl (cA (jm_kd q.1).2.1, jm_n M q.1 q.2, .inr (.inr (.inr (.inr fun j => jm_rf ad (jm_F M q.1 q.2 j)))))) := by
  obtain ⟨p, h1, h2⟩ := jm_at ((hwf.2.1 q).mpr ⟨by omega, hq⟩) cA ad
  rw [jm_E_r h0] at h2
  exact ⟨p, h1, h2⟩
/-- the memory stays in order when a number or a sound reference is put into a cell that was made -/
theorem jm_wf_setI (hwf : jm_wf n0 f0 M) {j : Nat} (ht : (jm_kd q.1).1 ≤ 2) : jm_wf n0 f0 (jm_setI M q.1 q.2 j x) := by
  refine ⟨hwf.1, hwf.2.1, hwf.2.2.1, fun k h1 h2 => ?_, hwf.2.2.2.2⟩
  obtain ⟨a1, a2, a3⟩ := hwf.2.2.2.1 k h1 h2
  refine ⟨a1, a2, fun t => ?_⟩
  rw [← a3 t]
  exact jm_u3_n _ _ _ _ _ (fun e => by have e1 := e.1; subst e1; omega)
theorem jm_wf_setF (hwf : jm_wf n0 f0 M) {j : Nat} {z : jm_R} (hz : jm_okR M z) (hs : (jm_kd q.1).1 = 2 → jm_as (jm_kd q.1).2.1 z = true) : jm_wf n0 f0 (jm_setF M q.1 q.2 j z) := by
  refine ⟨fun k t u => ?_, hwf.2.1, hwf.2.2.1, hwf.2.2.2.1, fun k t u hk => ?_⟩
  rotate_left
  · show jm_as _ (jm_u3 M.2.1 q.1 q.2 j z k t u) = true
    by_cases h : k = q.1 ∧ t = q.2 ∧ u = j
    · rw [h.1, h.2.1, h.2.2, jm_u3_s]
      rw [h.1] at hk
      exact hs hk
    · rw [jm_u3_n _ _ _ _ _ h]
      exact hwf.2.2.2.2 k t u hk
  show jm_okR M (jm_u3 M.2.1 q.1 q.2 j z k t u)
  by_cases h : k = q.1 ∧ t = q.2 ∧ u = j
  · rw [h.1, h.2.1, h.2.2, jm_u3_s]
    exact hz
  · rw [jm_u3_n _ _ _ _ _ h]
    exact hwf.1 k t u
theorem jm_gr_setI {j : Nat} : jm_gr M (jm_setI M q.1 q.2 j x) := ⟨fun _ => Nat.le_refl _, Nat.le_refl _, Nat.le_refl _⟩
theorem jm_gr_setF {j : Nat} {z : jm_R} : jm_gr M (jm_setF M q.1 q.2 j z) := ⟨fun _ => Nat.le_refl _, Nat.le_refl _, Nat.le_refl _⟩
theorem jm_s_getI (hc : (jm_code i)[ix]? = some (.getfield idx, pc, len, a, b, v)) (hq : jm_cl q.1 a = true) (hf : jm_fi a b = true) (h : jm_sd l D cA A ra n0 f0 d i (ix + 1) L (.inl (jm_I M q.1 q.2 b) :: S) M r M') : jm_sd l D cA A ra n0 f0 d i ix L (.inr (some q) :: S) M r M' := by
  obtain ⟨hd, hp, hn, h0⟩ := jm_ck1 hc rfl rfl
  obtain ⟨C, T, N, ref, w1, w2, w3, w4⟩ : jm_fOK i idx a b := jm_wd hc
  obtain ⟨k0, rfl⟩ := jm_cl_s hq
  refine jm_sd_one h (fun _ oS oL => ⟨jm_okS_c (jm_okV_i _ _) (jm_okS_t oS), oL⟩) ?_
  intro p e R s m args below meth c Q ad H locs cells slots ls hC hwf hoS hoL hra hRl hS hLR h1 h2 k
  rw [hp]
  have k := k ls hLR
  rw [hn] at k
  obtain ⟨p0, -, hw⟩ := jm_obj hwf (jm_okS_q hoS) k0 cA ad
  have hN : (jm_kd q.1).2.2 = N := jm_kdN k0 w1
  refine va_get (D := D) (cl := vwCl) (v := .int (jm_I M q.1 q.2 b)) (C := C) (T := T) (N := N) hC.1 hC.2.1 hC.2.2.2.2.1 (jm_clW w1) hC.2.2.2.1 hC.2.2.2.2.2.2.1.1 hRl.1 p0 hw w1 b w2 (hC.2.2.2.2.1 _ w3) (jm_same hC.2.2.2.2.1 w4) ?_ hd k
  rw [List.getElem?_map, hN, List.getElem?_range w2]
  show some (jm_fv _ _ _ _ _ _) = _
  unfold jm_fv
  rw [hf]
  rfl
theorem jm_s_getR (hc : (jm_code i)[ix]? = some (.getfield idx, pc, len, a, b, v)) (hq : jm_cl q.1 a = true) (hf : jm_fi a b = false) (h : jm_sd l D cA A ra n0 f0 d i (ix + 1) L (.inr (jm_F M q.1 q.2 b) :: S) M r M') : jm_sd l D cA A ra n0 f0 d i ix L (.inr (some q) :: S) M r M' := by
  obtain ⟨hd, hp, hn, h0⟩ := jm_ck1 hc rfl rfl
  obtain ⟨C, T, N, ref, w1, w2, w3, w4⟩ : jm_fOK i idx a b := jm_wd hc
  obtain ⟨k0, rfl⟩ := jm_cl_s hq
  refine jm_sd_one h (fun hwf oS oL => ⟨jm_okS_c (jm_okV_r (hwf.1 _ _ _)) (jm_okS_t oS), oL⟩) ?_
  intro p e R s m args below meth c Q ad H locs cells slots ls hC hwf hoS hoL hra hRl hS hLR h1 h2 k
  rw [hp]
  have k := k ls hLR
  rw [hn] at k
  obtain ⟨p0, -, hw⟩ := jm_obj hwf (jm_okS_q hoS) k0 cA ad
  have hN : (jm_kd q.1).2.2 = N := jm_kdN k0 w1
  refine va_get (D := D) (cl := vwCl) (v := va_rf (jm_rf ad (jm_F M q.1 q.2 b))) (C := C) (T := T) (N := N) hC.1 hC.2.1 hC.2.2.2.2.1 (jm_clW w1) hC.2.2.2.1 hC.2.2.2.2.2.2.1.1 hRl.1 p0 hw w1 b w2 (hC.2.2.2.2.1 _ w3) (jm_same hC.2.2.2.2.1 w4) ?_ hd k
  rw [List.getElem?_map, hN, List.getElem?_range w2]
  show some (jm_fv _ _ _ _ _ _) = _
  unfold jm_fv
  rw [hf]
  rfl
/-- a field is put: either row of the kit -/
theorem jm_putW {p : Program} {e : Env} {R : Room} {s : State} {m : MethodId} {args : Array Value} {below : List Frame} {meth : Method} {c : Code} {Q : State → Prop} {ad : Nat → Nat → Nat} {H : Heap} {locs : List Loc} {cells slots : Nat} {ls : Array Slot} {w : Value} {rest : List Value}
    (hd : decode (jm_by i) pc = .ok (.putfield idx, 3)) (hw : jm_pOK i idx a b) (k0 : (jm_kd q.1).1 = 0) (ka : (jm_kd q.1).2.1 = a) (hC : jm_Cx D cA A ra n0 f0 p R s m args meth c d i) (hwf : jm_wf n0 f0 M) (hq : q.2 < jm_c M q.1) (hRl : jm_Rl D cA A ad M H) (hS : va_S A s.heap H locs)
    (hty : ∀ ty : FieldType, ((jm_fi a b = true → ty = .int) ∧ (jm_fi a b = false → (∃ n, ty = .object n) ∨ ∃ t, ty = .array t)) → narrow ty w = w ∧ fits ty w = true)
    (hM2 : jm_al M2 = jm_al M) (hE : ∀ q', q' ≠ q → jm_E cA ad M2 q' = jm_E cA ad M q') (hfb : jm_fv ad M2 a q.1 q.2 b = w) (hfo : ∀ j, j ≠ b → jm_fv ad M2 a q.1 q.2 j = jm_fv ad M a q.1 q.2 j)
    (k : ∀ (H2 : Heap) (locs2 : List Loc), jm_Rl D cA A ad M2 H2 → va_S A s.heap H2 locs2 → W p l e R s m args below meth c H2 locs2 cells slots Q (F0 m (pc + 3) ls rest)) :
    W p l e R s m args below meth c H locs cells slots Q (F0 m pc ls (w :: .ref (ad q.1 q.2) :: rest)) := by
  obtain ⟨C, T, N, ref, w1, w2, w3, w4, w5⟩ := hw
  obtain ⟨u1, ty, u2, u3, u4⟩ := jm_clOK w1
  subst ka
  obtain ⟨p0, hp0, hw0⟩ := jm_obj hwf hq k0 cA ad
  have hN : (jm_kd q.1).2.2 = N := jm_kdN k0 w1
  obtain ⟨t1, t2⟩ := hty (ty b) (u4 b w2)
  have hlen : b < ((List.range (jm_kd q.1).2.2).map (jm_fv ad M (jm_kd q.1).2.1 q.1 q.2)).length := by rw [List.length_map, List.length_range, hN]; exact w2
  have hset : (jm_ws cA ad M).set p0 (ad q.1 q.2, .inr ((jm_kd q.1).2.1, ((List.range (jm_kd q.1).2.2).map (jm_fv ad M (jm_kd q.1).2.1 q.1 q.2)).set b w)) = jm_ws cA ad M2 := by
    refine jm_ws_set hM2 hwf.2.2.1 hp0 ?_ hE
    rw [jm_E_o k0]
    congr 2
    rw [← hfb]
    exact (jm_range_set _ _ _ _ (by rw [hN]; exact w2) hfo).symm
  have kk : ∀ (H1 : Heap) (locs1 : List Loc), va_P D vwCl ((jm_ws cA ad M).set p0 (ad q.1 q.2, .inr ((jm_kd q.1).2.1, ((List.range (jm_kd q.1).2.2).map (jm_fv ad M (jm_kd q.1).2.1 q.1 q.2)).set b w))) H1 → va_D A ((jm_ws cA ad M).set p0 (ad q.1 q.2, .inr ((jm_kd q.1).2.1, ((List.range (jm_kd q.1).2.2).map (jm_fv ad M (jm_kd q.1).2.1 q.1 q.2)).set b w))) → va_S A s.heap H1 locs1 → W p l e R s m args below meth c H1 locs1 cells slots Q (F0 m (pc + 3) ls rest) := by
    rw [hset]
    exact fun H1 locs1 g1 g2 g3 => k H1 locs1 ⟨g1, g2⟩ g3
  rcases w5 with w5 | ⟨w5, w6, w7⟩
  · exact va_put (D := D) (cl := vwCl) (v := w) (ty := ty b) (C := C) (T := T) (N := N) hC.1 hC.2.1 hC.2.2.2.2.1 u1 ty u2 u3 hC.2.2.2.1 hC.2.2.2.2.2.2.1.1 hRl.1 hRl.2 hS p0 hw0 w1 b w2 (hC.2.2.2.2.1 _ w3) (jm_same hC.2.2.2.2.1 w4) w5 (u2 b w2) t1 t2 hlen hd kk
  · exact va_putF (D := D) (cl := vwCl) (v := w) (ty := ty b) (C := C) (T := T) (N := N) hC.1 hC.2.1 hC.2.2.2.2.1 u1 ty u2 u3 hC.2.2.2.1 hC.2.2.2.2.2.2.1.1 hRl.1 hRl.2 hS p0 hw0 w1 b w2 (hC.2.2.2.2.1 _ w3) (jm_same hC.2.2.2.2.1 w4) w5 (hC.2.2.2.2.2.1 w6) w7 (u2 b w2) t1 t2 hlen hd kk
theorem jm_zero (n : Nat) : n + (0 : Nat) = n := rfl
theorem jm_s_putI (hc : (jm_code i)[ix]? = some (.putfield idx, pc, len, a, b, v)) (hq : jm_cl q.1 a = true) (hf : jm_fi a b = true) (h : jm_sd l D cA A ra n0 f0 d i (ix + 1) L S (jm_setI M q.1 q.2 b x) r M') : jm_sd l D cA A ra n0 f0 d i ix L (.inl x :: .inr (some q) :: S) M r M' := by
  obtain ⟨hd, hp, hn, h0⟩ := jm_ck1 hc rfl rfl
  obtain ⟨k0, k1⟩ := jm_cl_s hq
  refine jm_sd_mem h jm_gr_setI (fun hwf oS oL => ⟨jm_wf_setI hwf (by omega), jm_okS_t (jm_okS_t oS), oL⟩) ?_
  intro p e R s m args below meth c Q ad H locs cells slots ls hC hwf hoS hoL hra hRl hS hLR h1 h2 k
  rw [hp]
  refine jm_putW (M2 := jm_setI M q.1 q.2 b x) (w := .int x) hd (jm_wd hc) k0 k1 hC hwf (jm_okS_q (jm_okS_t hoS)) hRl hS ?_ rfl (fun q' hq' => jm_E_setI hq') ?_ ?_ ?_
  · intro ty ht
    rw [ht.1 hf]
    exact ⟨rfl, rfl⟩
  · unfold jm_fv
    rw [hf]
    show Value.int (jm_u3 _ _ _ _ _ _ _ _) = _
    rw [jm_u3_s]
  · intro j hj
    unfold jm_fv
    show (bif _ then Value.int (jm_u3 _ _ _ _ _ _ _ _) else _) = _
    rw [jm_u3_n _ _ _ _ _ (fun e => hj e.2.2)]
    rfl
  · intro H2 locs2 g1 g2
    have k := k ad H2 locs2 ls (jm_ext.rf M ad) hra g1 g2 hLR
    rw [hn, show jm_al (jm_setI M q.1 q.2 b x) = jm_al M from rfl, show jm_sl (jm_setI M q.1 q.2 b x) = jm_sl M from rfl, Nat.sub_self, Nat.sub_self] at k
    exact k
theorem jm_s_putR {z : jm_R} (hc : (jm_code i)[ix]? = some (.putfield idx, pc, len, a, b, v)) (hq : jm_cl q.1 a = true) (hf : jm_fi a b = false) (h : jm_sd l D cA A ra n0 f0 d i (ix + 1) L S (jm_setF M q.1 q.2 b z) r M') : jm_sd l D cA A ra n0 f0 d i ix L (.inr z :: .inr (some q) :: S) M r M' := by
  obtain ⟨hd, hp, hn, h0⟩ := jm_ck1 hc rfl rfl
  obtain ⟨k0, k1⟩ := jm_cl_s hq
  refine jm_sd_mem h jm_gr_setF (fun hwf oS oL => ⟨jm_wf_setF hwf (jm_okS_h oS z rfl) (fun e => by omega), jm_okS_t (jm_okS_t oS), oL⟩) ?_
  intro p e R s m args below meth c Q ad H locs cells slots ls hC hwf hoS hoL hra hRl hS hLR h1 h2 k
  rw [hp]
  refine jm_putW (M2 := jm_setF M q.1 q.2 b z) (w := va_rf (jm_rf ad z)) hd (jm_wd hc) k0 k1 hC hwf (jm_okS_q (jm_okS_t hoS)) hRl hS ?_ rfl (fun q' hq' => jm_E_setF hq') ?_ ?_ ?_
  · intro ty ht
    rcases ht.2 hf with ⟨n, rfl⟩ | ⟨t, rfl⟩ <;> cases z <;> exact ⟨rfl, rfl⟩
  · unfold jm_fv
    rw [hf]
    show va_rf (jm_rf _ (jm_u3 _ _ _ _ _ _ _ _)) = _
    rw [jm_u3_s]
  · intro j hj
    unfold jm_fv
    show (bif _ then _ else va_rf (jm_rf _ (jm_u3 _ _ _ _ _ _ _ _))) = _
    rw [jm_u3_n _ _ _ _ _ (fun e => hj e.2.2)]
    rfl
  · intro H2 locs2 g1 g2
    have k := k ad H2 locs2 ls (jm_ext.rf M ad) hra g1 g2 hLR
    rw [hn, show jm_al (jm_setF M q.1 q.2 b z) = jm_al M from rfl, show jm_sl (jm_setF M q.1 q.2 b z) = jm_sl M from rfl, Nat.sub_self, Nat.sub_self] at k
    exact k
/-! arrays -/
theorem jm_s_ild {j : Int32} (hc : (jm_code i)[ix]? = some (.iaload, pc, len, a, b, v)) (hq : (jm_ar q.1 1 0 || Nat.beq (jm_kd q.1).1 3 || Nat.beq (jm_kd q.1).1 4) = true) (hj : jm_in j (jm_n M q.1 q.2) = true) (h : jm_sd l D cA A ra n0 f0 d i (ix + 1) L (.inl (jm_I M q.1 q.2 j.toNatClampNeg) :: S) M r M') : jm_sd l D cA A ra n0 f0 d i ix L (.inl j :: .inr (some q) :: S) M r M' := by
  obtain ⟨hd, hp, hn, h0⟩ := jm_ck1 hc rfl rfl
  refine jm_sd_one h (fun _ oS oL => ⟨jm_okS_c (jm_okV_i _ _) (jm_okS_t (jm_okS_t oS)), oL⟩) ?_
  intro p e R s m args below meth c Q ad H locs cells slots ls hC hwf hoS hoL hra hRl hS hLR h1 h2 k
  rw [hp]
  have k := k ls hLR
  rw [hn] at k
  have hj := jm_in_s hj
  have hqc := jm_okS_q (jm_okS_t hoS)
  rw [Bool.or_eq_true, Bool.or_eq_true] at hq
  have hG := hC.2.2.2.2.2.2.1
  rcases hq with (hq | hq) | hq
  · obtain ⟨k0, k1⟩ := jm_ar_s hq
    obtain ⟨p0, -, hw⟩ := jm_arI hwf hqc k0 cA ad
    rw [k1] at hw
    exact va_iald hC.1 hC.2.1 hG.1 hRl.1 p0 0 hw (jm_tys0 cA) hj hd k
  · have k0 := Nat.eq_of_beq_eq_true hq
    obtain ⟨a1, a2, a3⟩ := hwf.2.2.2.1 q.1 (by omega) (by omega)
    have hq2 : q.2 = 0 := by omega
    rw [hq2] at hj k
    rw [a2] at hj
    have e1 : ad q.1 0 = ra q.1 := hra q.1 (by omega) (by omega)
    refine W.eq (g2 := F0 m pc ls (.int j :: .ref (ra q.1) :: S.map (jm_vl ad))) (by rw [← e1]; show F0 m pc ls (.int j :: .ref (ad q.1 q.2) :: _) = _; rw [hq2]) ?_
    exact va_ti hC.1 hC.2.1 (hG.2.2.2.2.1 q.1 k0) hS hj (v := .int (jm_I M q.1 0 j.toNatClampNeg)) (by rw [a3]) hd k
  · have k0 := Nat.eq_of_beq_eq_true hq
    obtain ⟨a1, a2, a3⟩ := hwf.2.2.2.1 q.1 (by omega) (by omega)
    have hq2 : q.2 = 0 := by omega
    rw [hq2] at hj k
    rw [a2] at hj
    have e1 : ad q.1 0 = ra q.1 := hra q.1 (by omega) (by omega)
    obtain ⟨g1, g2, g3⟩ := hG.2.2.2.2.2.2 q.1 k0
    refine W.eq (g2 := F0 m pc ls (.int j :: .ref (ra q.1) :: S.map (jm_vl ad))) (by rw [← e1]; show F0 m pc ls (.int j :: .ref (ad q.1 q.2) :: _) = _; rw [hq2]) ?_
    refine va_sld hC.1 hC.2.1 g1 g2 g3 hS hj hd ?_
    rw [← a3]
    exact k
theorem jm_s_zld {j : Int32} (hc : (jm_code i)[ix]? = some (.baload, pc, len, a, b, v)) (hq : jm_ar q.1 1 1 = true) (hj : jm_in j (jm_n M q.1 q.2) = true) (h : jm_sd l D cA A ra n0 f0 d i (ix + 1) L (.inl (jm_I M q.1 q.2 j.toNatClampNeg) :: S) M r M') : jm_sd l D cA A ra n0 f0 d i ix L (.inl j :: .inr (some q) :: S) M r M' := by
  obtain ⟨hd, hp, hn, h0⟩ := jm_ck1 hc rfl rfl
  refine jm_sd_one h (fun _ oS oL => ⟨jm_okS_c (jm_okV_i _ _) (jm_okS_t (jm_okS_t oS)), oL⟩) ?_
  intro p e R s m args below meth c Q ad H locs cells slots ls hC hwf hoS hoL hra hRl hS hLR h1 h2 k
  rw [hp]
  have k := k ls hLR
  rw [hn] at k
  obtain ⟨k0, k1⟩ := jm_ar_s hq
  obtain ⟨p0, -, hw⟩ := jm_arI hwf (jm_okS_q (jm_okS_t hoS)) k0 cA ad
  rw [k1] at hw
  exact va_zald hC.1 hC.2.1 hC.2.2.2.2.2.2.1.1 hRl.1 p0 1 hw (jm_tys1 cA) (jm_in_s hj) hd k
theorem jm_s_ald {j : Int32} (hc : (jm_code i)[ix]? = some (.aaload, pc, len, a, b, v)) (hq : Nat.beq (jm_kd q.1).1 2 = true) (hj : jm_in j (jm_n M q.1 q.2) = true) (h : jm_sd l D cA A ra n0 f0 d i (ix + 1) L (.inr (jm_F M q.1 q.2 j.toNatClampNeg) :: S) M r M') : jm_sd l D cA A ra n0 f0 d i ix L (.inl j :: .inr (some q) :: S) M r M' := by
  obtain ⟨hd, hp, hn, h0⟩ := jm_ck1 hc rfl rfl
  refine jm_sd_one h (fun hwf oS oL => ⟨jm_okS_c (jm_okV_r (hwf.1 _ _ _)) (jm_okS_t (jm_okS_t oS)), oL⟩) ?_
  intro p e R s m args below meth c Q ad H locs cells slots ls hC hwf hoS hoL hra hRl hS hLR h1 h2 k
  rw [hp]
  have k := k ls hLR
  rw [hn] at k
  have k0 := Nat.eq_of_beq_eq_true hq
  obtain ⟨p0, -, hw⟩ := jm_arR hwf (jm_okS_q (jm_okS_t hoS)) k0 cA ad
  obtain ⟨E, hE⟩ := jm_tysR cA k0
  exact va_aldq hC.1 hC.2.1 hC.2.2.2.2.2.2.1.1 hRl.1 p0 _ hw hE (jm_in_s hj) hd k
theorem jm_upd_I {j : Nat} : jm_I (jm_setI M q.1 q.2 j x) q.1 q.2 = upd (jm_I M q.1 q.2) j x := by
  funext t
  show jm_u3 _ _ _ _ _ _ _ _ = _
  by_cases h : t = j
  · subst h
    rw [jm_u3_s, pk_us]
  · rw [jm_u3_n _ _ _ _ _ (fun e => h e.2.2), pk_un h]
    rfl
theorem jm_s_ist {j : Int32} (hc : (jm_code i)[ix]? = some (.iastore, pc, len, a, b, v)) (hq : jm_ar q.1 1 0 = true) (hj : jm_in j (jm_n M q.1 q.2) = true) (h : jm_sd l D cA A ra n0 f0 d i (ix + 1) L S (jm_setI M q.1 q.2 j.toNatClampNeg x) r M') : jm_sd l D cA A ra n0 f0 d i ix L (.inl x :: .inl j :: .inr (some q) :: S) M r M' := by
  obtain ⟨hd, hp, hn, h0⟩ := jm_ck1 hc rfl rfl
  obtain ⟨k0, k1⟩ := jm_ar_s hq
  refine jm_sd_mem h jm_gr_setI (fun hwf oS oL => ⟨jm_wf_setI hwf (by omega), jm_okS_t (jm_okS_t (jm_okS_t oS)), oL⟩) ?_
  intro p e R s m args below meth c Q ad H locs cells slots ls hC hwf hoS hoL hra hRl hS hLR h1 h2 k
  rw [hp]
  obtain ⟨p0, hp0, hw⟩ := jm_arI hwf (jm_okS_q (jm_okS_t (jm_okS_t hoS))) k0 cA ad
  rw [k1] at hw
  refine va_iast hC.1 hC.2.1 hC.2.2.2.2.2.2.1.1 hRl.1 hRl.2 hS p0 0 hw (jm_tys0 cA) (jm_in_s hj) hd ?_
  rw [jm_ws_set (M := M) (cA := cA) (ad := ad) (N := jm_setI M q.1 q.2 j.toNatClampNeg x) rfl hwf.2.2.1 hp0 (by rw [jm_E_i k0, jm_upd_I, k1]; rfl) (fun q' hq' => jm_E_setI hq')]
  intro H2 locs2 g1 g2 g3
  have k := k ad H2 locs2 ls (jm_ext.rf M ad) hra ⟨g1, g2⟩ g3 hLR
  rw [hn, show jm_al (jm_setI M q.1 q.2 j.toNatClampNeg x) = jm_al M from rfl, show jm_sl (jm_setI M q.1 q.2 j.toNatClampNeg x) = jm_sl M from rfl, Nat.sub_self, Nat.sub_self] at k
  exact k
theorem jm_s_zst {j : Int32} (hc : (jm_code i)[ix]? = some (.bastore, pc, len, a, b, v)) (hq : jm_ar q.1 1 1 = true) (hj : jm_in j (jm_n M q.1 q.2) = true) (h : jm_sd l D cA A ra n0 f0 d i (ix + 1) L S (jm_setI M q.1 q.2 j.toNatClampNeg (vp_nar .boolean x)) r M') : jm_sd l D cA A ra n0 f0 d i ix L (.inl x :: .inl j :: .inr (some q) :: S) M r M' := by
  obtain ⟨hd, hp, hn, h0⟩ := jm_ck1 hc rfl rfl
  obtain ⟨k0, k1⟩ := jm_ar_s hq
  refine jm_sd_mem h jm_gr_setI (fun hwf oS oL => ⟨jm_wf_setI hwf (by omega), jm_okS_t (jm_okS_t (jm_okS_t oS)), oL⟩) ?_
  intro p e R s m args below meth c Q ad H locs cells slots ls hC hwf hoS hoL hra hRl hS hLR h1 h2 k
  rw [hp]
  obtain ⟨p0, hp0, hw⟩ := jm_arI hwf (jm_okS_q (jm_okS_t (jm_okS_t hoS))) k0 cA ad
  rw [k1] at hw
  refine va_zast hC.1 hC.2.1 hC.2.2.2.2.2.2.1.1 hRl.1 hRl.2 hS p0 1 hw (jm_tys1 cA) (jm_in_s hj) hd ?_
  rw [jm_ws_set (M := M) (cA := cA) (ad := ad) (N := jm_setI M q.1 q.2 j.toNatClampNeg (vp_nar .boolean x)) rfl hwf.2.2.1 hp0 (by rw [jm_E_i k0, jm_upd_I, k1]; rfl) (fun q' hq' => jm_E_setI hq')]
  intro H2 locs2 g1 g2 g3
  have k := k ad H2 locs2 ls (jm_ext.rf M ad) hra ⟨g1, g2⟩ g3 hLR
  rw [hn, show jm_al (jm_setI M q.1 q.2 j.toNatClampNeg (vp_nar .boolean x)) = jm_al M from rfl, show jm_sl (jm_setI M q.1 q.2 j.toNatClampNeg (vp_nar .boolean x)) = jm_sl M from rfl, Nat.sub_self, Nat.sub_self] at k
  exact k
theorem jm_upd_F {j : Nat} {z : jm_R} {ad : Nat → Nat → Nat} : (fun t => jm_rf ad (jm_F (jm_setF M q.1 q.2 j z) q.1 q.2 t)) = va_up (fun t => jm_rf ad (jm_F M q.1 q.2 t)) j (jm_rf ad z) := by
  funext t
  show jm_rf ad (jm_u3 _ _ _ _ _ _ _ _) = _
  by_cases h : t = j
  · subst h
    rw [jm_u3_s, va_up_self]
  · rw [jm_u3_n _ _ _ _ _ (fun e => h e.2.2), va_up_ne _ _ h]
    rfl
/-- an object may lie in a row of Objects -/
theorem jm_any0 {E : String} {t : Nat} {u : Nat × Nat} {s : State} {H : Heap} {ad : Nat → Nat → Nat} (has : jm_as t (some u) = true) (hE : (jm_tys cA)[t]? = some (cA t, .object E)) (huc : u.2 < jm_c M u.1) (hwf : jm_wf n0 f0 M) (hG : jm_G D cA A ra n0 f0 s) (hRl : jm_Rl D cA A ad M H) : va_Any E s H (ad u.1 u.2) := by
  obtain ⟨C, T, N, u0, u1, u2⟩ := jm_asOK has hE
  obtain ⟨p1, -, hw1⟩ := jm_obj hwf huc u0 cA ad
  refine va_rAny hG.1 hRl.1 hw1 u1 (fun comp c0 e1 e2 => ?_)
  rcases u2 with u2 | u2
  · have e3 : C = E := u2
    subst e3
    cases e1.symm.trans e2
    have hat := (hG.1.1 _ _ u1).2
    cases e1.symm.trans hat.1
    exact va_assign hat
  · obtain ⟨c1, t1, e3, e4, e5⟩ := Cond.castable_spec (va_Nw.use (A := #[]) rfl (hG.2.1.2.1 _ u2))
    cases e2.symm.trans e3
    cases e1.symm.trans e4
    exact e5
theorem jm_anyO {u : Nat × Nat} {s : State} {H : Heap} {ad : Nat → Nat → Nat} (has : jm_as jm_tO (some u) = true) (huc : u.2 < jm_c M u.1) (hwf : jm_wf n0 f0 M) (hG : jm_G D cA A ra n0 f0 s) (hRl : jm_Rl D cA A ad M H) : va_Any "java/lang/Object" s H (ad u.1 u.2) := jm_any0 has (jm_tysO cA) huc hwf hG hRl
theorem jm_s_ast {j : Int32} {z : jm_R} (hc : (jm_code i)[ix]? = some (.aastore, pc, len, a, b, v)) (hq : (Nat.beq (jm_kd q.1).1 2 && jm_as (jm_kd q.1).2.1 z) = true) (hj : jm_in j (jm_n M q.1 q.2) = true) (h : jm_sd l D cA A ra n0 f0 d i (ix + 1) L S (jm_setF M q.1 q.2 j.toNatClampNeg z) r M') : jm_sd l D cA A ra n0 f0 d i ix L (.inr z :: .inl j :: .inr (some q) :: S) M r M' := by
  obtain ⟨hd, hp, hn, h0⟩ := jm_ck1 hc rfl rfl
  rw [Bool.and_eq_true] at hq
  have k0 := Nat.eq_of_beq_eq_true hq.1
  refine jm_sd_mem h jm_gr_setF (fun hwf oS oL => ⟨jm_wf_setF hwf (jm_okS_h oS z rfl) (fun _ => hq.2), jm_okS_t (jm_okS_t (jm_okS_t oS)), oL⟩) ?_
  intro p e R s m args below meth c Q ad H locs cells slots ls hC hwf hoS hoL hra hRl hS hLR h1 h2 k
  rw [hp]
  obtain ⟨p0, hp0, hw⟩ := jm_arR hwf (jm_okS_q (jm_okS_t (jm_okS_t hoS))) k0 cA ad
  obtain ⟨E, hE⟩ := jm_tysR cA k0
  have hset := jm_ws_set (M := M) (cA := cA) (ad := ad) (N := jm_setF M q.1 q.2 j.toNatClampNeg z) rfl hwf.2.2.1 hp0 (E := .inl (cA (jm_kd q.1).2.1, jm_n M q.1 q.2, .inr (.inr (.inr (.inr (va_up (fun t => jm_rf ad (jm_F M q.1 q.2 t)) j.toNatClampNeg (jm_rf ad z))))))) (by rw [jm_E_r k0, jm_upd_F]; rfl) (fun q' hq' => jm_E_setF hq')
  have kk : ∀ (H2 : Heap) (locs2 : List Loc), jm_Rl D cA A ad (jm_setF M q.1 q.2 j.toNatClampNeg z) H2 → va_S A s.heap H2 locs2 → W p l e R s m args below meth c H2 locs2 cells slots Q (F0 m (pc + 1) ls (S.map (jm_vl ad))) := by
    intro H2 locs2 g1 g2
    have k := k ad H2 locs2 ls (jm_ext.rf M ad) hra g1 g2 hLR
    rw [hn, show jm_al (jm_setF M q.1 q.2 j.toNatClampNeg z) = jm_al M from rfl, show jm_sl (jm_setF M q.1 q.2 j.toNatClampNeg z) = jm_sl M from rfl, Nat.sub_self, Nat.sub_self] at k
    exact k
  cases z with
  | none =>
    refine va_astqN hC.1 hC.2.1 hC.2.2.2.2.2.2.1.1 hRl.1 hRl.2 hS p0 _ hw hE (jm_in_s hj) hd ?_
    have hset' : (jm_ws cA ad M).set p0 (ad q.1 q.2, .inl (cA (jm_kd q.1).2.1, jm_n M q.1 q.2, .inr (.inr (.inr (.inr (va_up (fun t => jm_rf ad (jm_F M q.1 q.2 t)) j.toNatClampNeg none)))))) = jm_ws cA ad (jm_setF M q.1 q.2 j.toNatClampNeg none) := hset
    rw [hset']
    exact fun H2 locs2 g1 g2 g3 => kk H2 locs2 ⟨g1, g2⟩ g3
  | some u =>
    have huc : u.2 < jm_c M u.1 := jm_okS_h hoS (some u) rfl u rfl
    have hany := jm_any0 hq.2 hE huc hwf hC.2.2.2.2.2.2.1 hRl
    refine va_astqM hC.1 hC.2.1 hC.2.2.2.2.2.2.1.1 hRl.1 hRl.2 hS p0 _ hw hE hany (jm_in_s hj) hd ?_
    have hset' : (jm_ws cA ad M).set p0 (ad q.1 q.2, .inl (cA (jm_kd q.1).2.1, jm_n M q.1 q.2, .inr (.inr (.inr (.inr (va_up (fun t => jm_rf ad (jm_F M q.1 q.2 t)) j.toNatClampNeg (some (ad u.1 u.2)))))))) = jm_ws cA ad (jm_setF M q.1 q.2 j.toNatClampNeg (some u)) := hset
    rw [hset']
    exact fun H2 locs2 g1 g2 g3 => kk H2 locs2 ⟨g1, g2⟩ g3
theorem jm_s_len (hc : (jm_code i)[ix]? = some (.arraylength, pc, len, a, b, v)) (hq : (Nat.beq (jm_kd q.1).1 0 || Nat.ble 6 (jm_kd q.1).1) = false) (h : jm_sd l D cA A ra n0 f0 d i (ix + 1) L (.inl (Int32.ofNat (jm_n M q.1 q.2)) :: S) M r M') : jm_sd l D cA A ra n0 f0 d i ix L (.inr (some q) :: S) M r M' := by
  obtain ⟨hd, hp, hn, h0⟩ := jm_ck1 hc rfl rfl
  refine jm_sd_one h (fun _ oS oL => ⟨jm_okS_c (jm_okV_i _ _) (jm_okS_t oS), oL⟩) ?_
  intro p e R s m args below meth c Q ad H locs cells slots ls hC hwf hoS hoL hra hRl hS hLR h1 h2 k
  rw [hp]
  have k := k ls hLR
  rw [hn] at k
  rw [Bool.or_eq_false_iff] at hq
  have z0 : (jm_kd q.1).1 ≠ 0 := fun e => by rw [e] at hq; exact absurd hq.1 (by decide)
  have z6 : ¬ 6 ≤ (jm_kd q.1).1 := fun e => by rw [Nat.ble_eq_true_of_le e] at hq; exact absurd hq.2 (by decide)
  have hqc := jm_okS_q hoS
  have hG := hC.2.2.2.2.2.2.1
  by_cases t1 : (jm_kd q.1).1 = 1
  · obtain ⟨p0, -, hw⟩ := jm_arI hwf hqc t1 cA ad
    obtain ⟨ty, hty⟩ := jm_tysK cA (k := q.1) (Or.inl t1)
    exact va_alen hC.1 hC.2.1 hG.1 hRl.1 p0 _ hw hty rfl hd k
  by_cases t2 : (jm_kd q.1).1 = 2
  · obtain ⟨p0, -, hw⟩ := jm_arR hwf hqc t2 cA ad
    obtain ⟨ty, hty⟩ := jm_tysK cA (k := q.1) (Or.inr t2)
    exact va_alen hC.1 hC.2.1 hG.1 hRl.1 p0 _ hw hty rfl hd k
  obtain ⟨a1, a2, a3⟩ := hwf.2.2.2.1 q.1 (by omega) (by omega)
  have hq2 : q.2 = 0 := by omega
  have e1 : ad q.1 0 = ra q.1 := hra q.1 (by omega) (by omega)
  rw [hq2, a2] at k
  refine W.eq (g2 := F0 m pc ls (.ref (ra q.1) :: S.map (jm_vl ad))) (by rw [← e1]; show F0 m pc ls (.ref (ad q.1 q.2) :: _) = _; rw [hq2]) ?_
  by_cases t3 : (jm_kd q.1).1 = 3
  · exact va_tlen hC.1 hC.2.1 (hG.2.2.2.2.1 q.1 t3) hS rfl hd k
  by_cases t4 : (jm_kd q.1).1 = 4
  · obtain ⟨g1, g2, g3⟩ := hG.2.2.2.2.2.2 q.1 t4
    exact va_slen hC.1 hC.2.1 g1 g2 g3 hS hd k
  · exact va_tlen hC.1 hC.2.1 (hG.2.2.2.2.2.1 q.1 (by omega)) hS rfl hd k
theorem jm_s_gets (hc : (jm_code i)[ix]? = some (.getstatic idx, pc, len, a, b, v)) (h : jm_sd l D cA A ra n0 f0 d i (ix + 1) L (.inr (some (a, 0)) :: S) M r M') : jm_sd l D cA A ra n0 f0 d i ix L S M r M' := by
  obtain ⟨hd, hp, hn, h0⟩ := jm_ck1 hc rfl rfl
  obtain ⟨t3, t5, C, n, dd, ref, w1, w2, w3⟩ : jm_zOK i idx a := jm_wd hc
  refine jm_sd_one h (fun hwf oS oL => ⟨jm_okS_c (jm_okV_r (fun q hq => by cases hq; rw [(hwf.2.2.2.1 a t3 t5).1]; exact Nat.zero_lt_one)) oS, oL⟩) ?_
  intro p e R s m args below meth c Q ad H locs cells slots ls hC hwf hoS hoL hra hRl hS hLR h1 h2 k
  rw [hp]
  have k := k ls hLR
  rw [hn] at k
  refine va_gets hC.1 hC.2.1 (hC.2.2.2.2.2.2.1.2.2.2.1 _ w1) hS hC.2.2.2.1 (hC.2.2.2.2.1 _ w2) (jm_same hC.2.2.2.2.1 w3) hd ?_
  rw [← hra a t3 t5]
  exact k
theorem jm_s_cast {z : jm_R} (hc : (jm_code i)[ix]? = some (.checkcast idx, pc, len, a, b, v)) (ha : Nat.ble 100 a = false) (hz : ∀ q, z = some q → jm_cl q.1 a = true) (h : jm_sd l D cA A ra n0 f0 d i (ix + 1) L (.inr z :: S) M r M') : jm_sd l D cA A ra n0 f0 d i ix L (.inr z :: S) M r M' := by
  obtain ⟨hd, hp, hn, h0⟩ := jm_ck1 hc rfl rfl
  have w := jm_wd hc
  obtain ⟨C, T, N, w1, w2⟩ : jm_kOK i idx a := w.1 ha
  refine jm_sd_one h (fun hwf oS oL => ⟨oS, oL⟩) ?_
  intro p e R s m args below meth c Q ad H locs cells slots ls hC hwf hoS hoL hra hRl hS hLR h1 h2 k
  rw [hp]
  have k := k ls hLR
  rw [hn] at k
  cases z with
  | none => exact lv_castN hC.1 hC.2.1 hd k
  | some q =>
    obtain ⟨k0, k1⟩ := jm_cl_s (hz q rfl)
    obtain ⟨p0, -, hw⟩ := jm_obj hwf (jm_okS_q hoS) k0 cA ad
    rw [k1] at hw
    exact va_castS hC.1 hC.2.1 hC.2.2.2.1 (hC.2.2.2.2.1 _ w2) (hC.2.2.2.2.2.2.1.1.1 a _ w1).2 (va_recv hC.2.2.2.2.2.2.1.1 hRl.1 w1 hw) hd k
/-! new cells -/
theorem jm_c_mk {k n sl t : Nat} : jm_c (jm_mk M k n sl) t = if t = k then jm_c M k + 1 else jm_c M t := rfl
theorem jm_gr_mk {k n sl : Nat} : jm_gr M (jm_mk M k n sl) := by
  refine ⟨fun t => ?_, ?_, Nat.le_add_right _ _⟩
  · rw [jm_c_mk]
    by_cases h : t = k
    · subst h; rw [if_pos rfl]; omega
    · rw [if_neg h]; exact Nat.le_refl _
  · show _ ≤ (jm_al M ++ [_]).length
    rw [List.length_append]
    omega
theorem jm_wf_mk {k n sl : Nat} (hwf : jm_wf n0 f0 M) (ht : (jm_kd k).1 ≤ 2) : jm_wf n0 f0 (jm_mk M k n sl) := by
  refine ⟨fun k' i' j' => ?_, fun q => ?_, ?_, fun t h1 h2 => ?_, fun k' i' j' hk => ?_⟩
  · show jm_okR _ (if k' = k ∧ i' = jm_c M k then none else M.2.1 k' i' j')
    by_cases h : k' = k ∧ i' = jm_c M k
    · rw [if_pos h]; exact fun q hq => by cases hq
    · rw [if_neg h]; exact (hwf.1 k' i' j').up jm_gr_mk.1
  · show q ∈ jm_al M ++ [(k, jm_c M k)] ↔ _ ∧ q.2 < (if q.1 = k then jm_c M k + 1 else jm_c M q.1)
    rw [List.mem_append, List.mem_singleton, hwf.2.1 q]
    by_cases h : q.1 = k
    · rw [if_pos h, h]
      constructor
      · rintro (⟨a1, a2⟩ | a1)
        · exact ⟨ht, by omega⟩
        · rw [a1]; exact ⟨ht, Nat.lt_succ_self _⟩
      · intro ⟨_, a2⟩
        by_cases h3 : q.2 = jm_c M k
        · exact Or.inr (Prod.ext h h3)
        · exact Or.inl ⟨ht, by omega⟩
    · rw [if_neg h]
      constructor
      · rintro (a1 | a1)
        · exact a1
        · rw [a1] at h; exact absurd rfl h
      · exact Or.inl
  · show (jm_al M ++ [(k, jm_c M k)]).Nodup
    rw [List.nodup_append]
    refine ⟨hwf.2.2.1, List.nodup_cons.mpr ⟨List.not_mem_nil, List.nodup_nil⟩, fun x hx y hy => ?_⟩
    rw [List.mem_singleton] at hy
    subst hy
    intro e
    subst e
    have := ((hwf.2.1 _).mp hx).2
    exact absurd this (Nat.lt_irrefl _)
  · obtain ⟨a1, a2, a3⟩ := hwf.2.2.2.1 t h1 h2
    have hne : ¬ t = k := fun e => by subst e; omega
    refine ⟨?_, ?_, fun j => ?_⟩
    · rw [jm_c_mk, if_neg hne]; exact a1
    · show (if t = k ∧ 0 = jm_c M k then n else M.2.2.1 t 0) = _
      rw [if_neg (fun e => hne e.1)]; exact a2
    · show (if t = k ∧ 0 = jm_c M k then 0 else M.1 t 0 j) = _
      rw [if_neg (fun e => hne e.1)]; exact a3 j
  · show jm_as _ (if k' = k ∧ i' = jm_c M k then none else M.2.1 k' i' j') = true
    by_cases h : k' = k ∧ i' = jm_c M k
    · rw [if_pos h]; exact jm_as0 _
    · rw [if_neg h]; exact hwf.2.2.2.2 k' i' j' hk
def jm_up (ad : Nat → Nat → Nat) (k i a : Nat) : Nat → Nat → Nat := fun k' i' => if k' = k ∧ i' = i then a else ad k' i'
theorem jm_ext_up {ad : Nat → Nat → Nat} {k a : Nat} : jm_ext M ad (jm_up ad k (jm_c M k) a) := by
  intro k' i' h
  show (if _ then _ else _) = _
  rw [if_neg]
  intro e
  rw [e.1] at h
  omega
theorem jm_E_ext {ad ad' : Nat → Nat → Nat} (hwf : jm_wf n0 f0 M) (h : jm_ext M ad ad') (q : Nat × Nat) : jm_E cA ad' M q = jm_E cA ad M q := by
  have hf : ∀ j, jm_rf ad' (jm_F M q.1 q.2 j) = jm_rf ad (jm_F M q.1 q.2 j) := fun j => jm_rf_ext h (hwf.1 _ _ _)
  unfold jm_E
  have h2 : jm_fv ad' M (jm_kd q.1).2.1 q.1 q.2 = jm_fv ad M (jm_kd q.1).2.1 q.1 q.2 := by
    funext j
    unfold jm_fv
    rw [hf]
  rw [h2]
  simp only [hf]
theorem jm_ws_mk {ad : Nat → Nat → Nat} {k n sl t : Nat} (hwf : jm_wf n0 f0 M) (ht : (jm_kd k).1 ≤ 2) : jm_ws cA (jm_up ad k (jm_c M k) t) (jm_mk M k n sl) = jm_ws cA ad M ++ [(t, jm_E cA (jm_up ad k (jm_c M k) t) (jm_mk M k n sl) (k, jm_c M k))] := by
  show (jm_al M ++ [(k, jm_c M k)]).map _ = _
  rw [List.map_append]
  congr 1
  · refine List.map_congr_left fun q hq => ?_
    have h1 := ((hwf.2.1 q).mp hq).2
    have hne : ¬ (q.1 = k ∧ q.2 = jm_c M k) := fun e => by rw [e.1] at h1; omega
    have e1 : jm_up ad k (jm_c M k) t q.1 q.2 = ad q.1 q.2 := if_neg hne
    rw [e1]
    congr 1
    rw [← jm_E_ext hwf (jm_ext_up (ad := ad) (k := k) (a := t)) q]
    refine jm_E_same ?_ ?_ ?_
    · funext j; exact if_neg hne
    · funext j; exact if_neg hne
    · exact if_neg hne
  · show [(jm_up ad k (jm_c M k) t k (jm_c M k), _)] = _
    rw [show jm_up ad k (jm_c M k) t k (jm_c M k) = t from if_pos ⟨rfl, rfl⟩]
theorem jm_ra_up {ad : Nat → Nat → Nat} {k i0 t : Nat} (h : jm_ra ra ad) (ht : (jm_kd k).1 ≤ 2) : jm_ra ra (jm_up ad k i0 t) := by
  intro k' h1 h2
  show (if _ then _ else _) = _
  rw [if_neg]
  · exact h k' h1 h2
  · intro e
    rw [e.1] at h1
    omega
theorem jm_okS_new {k n sl : Nat} (oS : jm_okS M S) : jm_okS (jm_mk M k n sl) (.inr (some (k, jm_c M k)) :: S) := by
  refine jm_okS_c (jm_okV_r fun q hq => ?_) (oS.up jm_gr_mk.1)
  cases hq
  show jm_c M k < jm_c (jm_mk M k n sl) k
  rw [jm_c_mk, if_pos rfl]
  exact Nat.lt_succ_self _
theorem jm_vl_new {ad : Nat → Nat → Nat} {k t : Nat} : jm_vl (jm_up ad k (jm_c M k) t) (.inr (some (k, jm_c M k))) = .ref t := by
  show Value.ref (jm_up ad k (jm_c M k) t k (jm_c M k)) = _
  rw [show jm_up ad k (jm_c M k) t k (jm_c M k) = t from if_pos ⟨rfl, rfl⟩]
theorem jm_s_new (hc : (jm_code i)[ix]? = some (.new idx, pc, len, a, b, v)) (h : jm_sd l D cA A ra n0 f0 d i (ix + 1) L (.inr (some (a, jm_c M a)) :: S) (jm_mk M a 0 b) r M') : jm_sd l D cA A ra n0 f0 d i ix L S M r M' := by
  obtain ⟨hd, hp, hn, h0⟩ := jm_ck1 hc rfl rfl
  obtain ⟨C, T, w0, wb, w1, w2, w3, w4⟩ : jm_nOK i idx a b := jm_wd hc
  obtain ⟨u1, ty, u2, u3, u4⟩ := jm_clOK w1
  refine jm_sd_mem h jm_gr_mk (fun hwf oS oL => ⟨jm_wf_mk hwf (by omega), jm_okS_new oS, oL.up jm_gr_mk.1⟩) ?_
  intro p e R s m args below meth c Q ad H locs cells slots ls hC hwf hoS hoL hra hRl hS hLR h1 h2 k
  rw [hp]
  have el : (jm_al (jm_mk M a 0 b)).length - (jm_al M).length = 1 := by
    show (jm_al M ++ [_]).length - _ = 1
    rw [List.length_append, List.length_singleton]; omega
  have es : jm_sl (jm_mk M a 0 b) - jm_sl M = b := by
    show jm_sl M + b - _ = b
    omega
  rw [el] at h1
  rw [es] at h2
  refine va_new (fs := (List.range b).map (jm_fv ad (jm_mk M a 0 b) (jm_kd a).2.1 a (jm_c M a))) hC.1 hC.2.1 hC.2.2.2.2.1 u1 ty u2 hC.2.2.2.1 (hC.2.2.2.2.1 _ w2) (hC.2.2.2.2.1 _ w3) (hC.2.2.2.2.1 _ w4) hC.2.2.2.2.2.2.1.1 hRl.1 hRl.2 hS hC.2.2.2.2.2.2.2.2.2 w1 ?_ h1 h2 hd ?_
  · intro j hj
    unfold vp_V
    rw [List.getD_eq_getElem?_getD, List.getElem?_map, List.getElem?_range hj]
    show _ = jm_fv _ _ _ _ _ _
    unfold jm_fv
    have e1 : jm_I (jm_mk M a 0 b) a (jm_c M a) j = 0 := if_pos ⟨rfl, rfl⟩
    have e2 : jm_F (jm_mk M a 0 b) a (jm_c M a) j = none := if_pos ⟨rfl, rfl⟩
    rw [e1, e2]
    cases hf : jm_fi (jm_kd a).2.1 j with
    | true => rw [(u4 j hj).1 hf]; rfl
    | false => rcases (u4 j hj).2 hf with ⟨n, e3⟩ | ⟨t, e3⟩ <;> rw [e3] <;> rfl
  · intro t H2 g1 g2 g3
    have hE : jm_E cA (jm_up ad a (jm_c M a) t) (jm_mk M a 0 b) (a, jm_c M a) = .inr ((jm_kd a).2.1, (List.range b).map (jm_fv ad (jm_mk M a 0 b) (jm_kd a).2.1 a (jm_c M a))) := by
      rw [jm_E_o (q := (a, jm_c M a)) w0]
      show Sum.inr ((jm_kd a).2.1, (List.range (jm_kd a).2.2).map _) = _
      rw [wb]
      congr 3
      funext j
      unfold jm_fv
      rw [show jm_F (jm_mk M a 0 b) a (jm_c M a) j = none from if_pos ⟨rfl, rfl⟩]
      rfl
    have hws := jm_ws_mk (cA := cA) (ad := ad) (n := 0) (sl := b) (t := t) hwf (show (jm_kd a).1 ≤ 2 by omega)
    rw [hE] at hws
    have k := k (jm_up ad a (jm_c M a) t) H2 locs ls jm_ext_up (jm_ra_up hra (by omega)) ⟨by rw [hws]; exact g1, by rw [hws]; exact g2⟩ g3 (hLR.ext jm_ext_up hoL)
    rw [hn, el, es, List.map_cons, jm_vl_new, jm_S_ext jm_ext_up hoS] at k
    exact k
theorem jm_el {k n sl : Nat} : (jm_al (jm_mk M k n sl)).length - (jm_al M).length = 1 := by
  show (jm_al M ++ [_]).length - _ = 1
  rw [List.length_append, List.length_singleton]; omega
theorem jm_es {k n sl : Nat} : jm_sl (jm_mk M k n sl) - jm_sl M = sl := by
  show jm_sl M + sl - _ = sl
  omega
theorem jm_s_newz {at0 : ArrayType} (hc : (jm_code i)[ix]? = some (.newarray at0, pc, len, a, b, v)) (hx : jm_in x 10001 = true) (h : jm_sd l D cA A ra n0 f0 d i (ix + 1) L (.inr (some (a, jm_c M a)) :: S) (jm_mk M a x.toNatClampNeg x.toNatClampNeg) r M') : jm_sd l D cA A ra n0 f0 d i ix L (.inl x :: S) M r M' := by
  obtain ⟨hd, hp, hn, h0⟩ := jm_ck1 hc rfl rfl
  obtain ⟨w0, w1, w2⟩ : jm_aOK a at0 := jm_wd hc
  have hx := jm_in_s hx
  have hx0 : ¬ x < 0 := fun z => hx (Or.inl z)
  have hx1 : x.toNatClampNeg ≤ 10000 := by
    have : ¬ 10001 ≤ x.toNatClampNeg := fun z => hx (Or.inr z)
    omega
  refine jm_sd_mem h jm_gr_mk (fun hwf oS oL => ⟨jm_wf_mk hwf (by omega), jm_okS_new (jm_okS_t oS), oL.up jm_gr_mk.1⟩) ?_
  intro p e R s m args below meth c Q ad H locs cells slots ls hC hwf hoS hoL hra hRl hS hLR h1 h2 k
  rw [hp]
  rw [jm_el] at h1
  rw [jm_es] at h2
  have hK := hC.2.2.2.2.2.2.1.1
  have key : ∀ (ty : FieldType) (t0 : Nat), newarray.typeOf at0 = ty → (jm_kd a).2.1 = t0 → (jm_tys cA)[t0]? = some (cA t0, ty) → componentBytes ty ≤ 4 → defaultValue ty = .int 0 → (∀ c1 c2 : ClassId, va_RA s c1 ty → va_RA s c2 ty → c1 = c2) → W p l e R s m args below meth c H locs cells slots Q (F0 m pc ls (.int x :: S.map (jm_vl ad))) := by
    intro ty t0 e1 e2 e3 e4 e5 e6
    refine va_newa (a0 := (x.toNatClampNeg, .inl (fun _ => 0))) hC.1 hC.2.1 (hC.2.2.2.2.1 _ w2) e1 hK hRl.1 hRl.2 hS hC.2.2.2.2.2.2.2.2.2 (fun c1 => by rw [vp_cell_i, e5]) hx0 rfl (by
      have := Nat.mul_le_mul hx1 e4
      omega) h1 h2 hd ?_
    intro t c1 H2 g0 g1 g2 g3
    have hc1 : c1 = cA t0 := by
      refine e6 _ _ (g0.2 (jm_tys cA).length (c1, ty) ?_).2 (hK.2 t0 _ e3).2
      rw [List.getElem?_append_right (Nat.le_refl _), Nat.sub_self]
      rfl
    subst hc1
    have hE : jm_E cA (jm_up ad a (jm_c M a) t) (jm_mk M a x.toNatClampNeg x.toNatClampNeg) (a, jm_c M a) = .inl (cA t0, x.toNatClampNeg, .inl (fun _ => 0)) := by
      rw [jm_E_i (q := (a, jm_c M a)) w0]
      show Sum.inl (cA (jm_kd a).2.1, jm_n (jm_mk M a x.toNatClampNeg x.toNatClampNeg) a (jm_c M a), Sum.inl (jm_I (jm_mk M a x.toNatClampNeg x.toNatClampNeg) a (jm_c M a))) = _
      rw [e2, show jm_n (jm_mk M a x.toNatClampNeg x.toNatClampNeg) a (jm_c M a) = x.toNatClampNeg from if_pos ⟨rfl, rfl⟩]
      congr 4
      funext j
      exact if_pos ⟨rfl, rfl⟩
    have hws := jm_ws_mk (cA := cA) (ad := ad) (n := x.toNatClampNeg) (sl := x.toNatClampNeg) (t := t) hwf (show (jm_kd a).1 ≤ 2 by omega)
    rw [hE] at hws
    have k := k (jm_up ad a (jm_c M a) t) H2 locs ls jm_ext_up (jm_ra_up hra (by omega)) ⟨by rw [hws]; exact g1, by rw [hws]; exact g2⟩ g3 (hLR.ext jm_ext_up hoL)
    rw [hn, jm_el, jm_es, List.map_cons, jm_vl_new, jm_S_ext jm_ext_up (jm_okS_t hoS)] at k
    exact k
  rcases w1 with ⟨w3, w4⟩ | ⟨w3, w4⟩
  · subst w3
    exact key .int 0 rfl w4 (jm_tys0 cA) (by decide) rfl (fun c1 c2 z1 z2 => Option.some.inj (z1.symm.trans z2))
  · subst w3
    exact key .boolean 1 rfl w4 (jm_tys1 cA) (by decide) rfl (fun c1 c2 z1 z2 => Option.some.inj (z1.symm.trans z2))
theorem jm_s_newq (hc : (jm_code i)[ix]? = some (.anewarray idx, pc, len, a, b, v)) (hx : jm_in x 10001 = true) (h : jm_sd l D cA A ra n0 f0 d i (ix + 1) L (.inr (some (a, jm_c M a)) :: S) (jm_mk M a x.toNatClampNeg x.toNatClampNeg) r M') : jm_sd l D cA A ra n0 f0 d i ix L (.inl x :: S) M r M' := by
  obtain ⟨hd, hp, hn, h0⟩ := jm_ck1 hc rfl rfl
  obtain ⟨w0, C, w1, w2, w3⟩ : jm_qOK i idx a := jm_wd hc
  have hx := jm_in_s hx
  have hx0 : ¬ x < 0 := fun z => hx (Or.inl z)
  have hx1 : x.toNatClampNeg ≤ 10000 := by
    have : ¬ 10001 ≤ x.toNatClampNeg := fun z => hx (Or.inr z)
    omega
  refine jm_sd_mem h jm_gr_mk (fun hwf oS oL => ⟨jm_wf_mk hwf (by omega), jm_okS_new (jm_okS_t oS), oL.up jm_gr_mk.1⟩) ?_
  intro p e R s m args below meth c Q ad H locs cells slots ls hC hwf hoS hoL hra hRl hS hLR h1 h2 k
  rw [hp]
  rw [jm_el] at h1
  rw [jm_es] at h2
  have hK := hC.2.2.2.2.2.2.1.1
  refine va_newq hC.1 hC.2.1 hC.2.2.2.1 (hC.2.2.2.2.1 _ w2) (hC.2.2.2.2.2.2.1.2.2.1 C w3) hK hRl.1 hRl.2 hS hC.2.2.2.2.2.2.2.2.2 hx0 rfl (by omega) h1 h2 hd ?_
  intro t c1 H2 g0 g1 g2 g3
  have hc1 : c1 = cA (jm_kd a).2.1 := by
    obtain ⟨_, _, _, _, _, z1⟩ := (g0.2 (jm_tys cA).length (c1, .object C) (by
      rw [List.getElem?_append_right (Nat.le_refl _), Nat.sub_self]
      rfl)).2
    obtain ⟨_, _, _, _, _, z2⟩ := (hK.2 _ _ (w1 cA)).2
    exact Option.some.inj (z1.symm.trans z2)
  subst hc1
  have hE : jm_E cA (jm_up ad a (jm_c M a) t) (jm_mk M a x.toNatClampNeg x.toNatClampNeg) (a, jm_c M a) = .inl (cA (jm_kd a).2.1, x.toNatClampNeg, .inr (.inr (.inr (.inr (fun _ => none))))) := by
    rw [jm_E_r (q := (a, jm_c M a)) w0]
    show Sum.inl (cA (jm_kd a).2.1, jm_n (jm_mk M a x.toNatClampNeg x.toNatClampNeg) a (jm_c M a), _) = _
    rw [show jm_n (jm_mk M a x.toNatClampNeg x.toNatClampNeg) a (jm_c M a) = x.toNatClampNeg from if_pos ⟨rfl, rfl⟩]
    congr 7
    funext j
    show jm_rf _ (jm_F (jm_mk M a x.toNatClampNeg x.toNatClampNeg) a (jm_c M a) j) = none
    rw [show jm_F (jm_mk M a x.toNatClampNeg x.toNatClampNeg) a (jm_c M a) j = none from if_pos ⟨rfl, rfl⟩]
    rfl
  have hws := jm_ws_mk (cA := cA) (ad := ad) (n := x.toNatClampNeg) (sl := x.toNatClampNeg) (t := t) hwf (show (jm_kd a).1 ≤ 2 by omega)
  rw [hE] at hws
  have k := k (jm_up ad a (jm_c M a) t) H2 locs ls jm_ext_up (jm_ra_up hra (by omega)) ⟨by rw [hws]; exact g1, by rw [hws]; exact g2⟩ g3 (hLR.ext jm_ext_up hoL)
  rw [hn, jm_el, jm_es, List.map_cons, jm_vl_new, jm_S_ext jm_ext_up (jm_okS_t hoS)] at k
  exact k
theorem jm_s_ldc (hb : Nat.beq b 1 = false) (hc : (jm_code i)[ix]? = some (.ldc idx, pc, len, a, b, v)) (h : jm_sd l D cA A ra n0 f0 d i (ix + 1) L (.inl v :: S) M r M') : jm_sd l D cA A ra n0 f0 d i ix L S M r M' := by
  obtain ⟨hd, hp, hn, h0⟩ := jm_ck1 hc rfl rfl
  have w := jm_wd hc
  have w1 : Cond.constant (jm_own i) idx v ∈ jm_Wall := w.1 hb
  refine jm_sd_one h (fun _ oS oL => ⟨jm_okS_c (jm_okV_i _ _) oS, oL⟩) ?_
  intro p e R s m args below meth c Q ad H locs cells slots ls hC hwf hoS hoL hra hRl hS hLR h1 h2 k
  rw [hp]
  have k := k ls hLR
  rw [hn] at k
  exact lv_ldc hC.1 hC.2.1 hC.2.2.2.1 (hC.2.2.2.2.1 _ w1) hd k
theorem jm_s_oinit (hc : (jm_code i)[ix]? = some (.invokespecial idx, pc, len, 900, b, v)) (hl : S.length ≤ 8) (h : jm_sd l D cA A ra n0 f0 (d + 1) i (ix + 1) L S M r M') : jm_sd l D cA A ra n0 f0 (d + 1) i ix L (.inr (some q) :: S) M r M' := by
  obtain ⟨hd, hp, hn, h0⟩ := jm_ck1 hc rfl rfl
  have w := jm_wd hc
  obtain ⟨w1, w2, w3⟩ : jm_oOK i idx := w.1 rfl
  refine jm_sd_one h (fun _ oS oL => ⟨jm_okS_t oS, oL⟩) ?_
  intro p e R s m args below meth c Q ad H locs cells slots ls hC hwf hoS hoL hra hRl hS hLR h1 h2 k
  rw [hp]
  have k := k ls hLR
  rw [hn] at k
  have f1 := hC.2.2.2.2.2.2.2.1
  have f2 := hC.2.2.2.2.2.2.2.2.1
  refine W.objInit hC.1 hC.2.1 hC.2.2.2.1 (hC.2.2.2.2.1 _ w1) (hC.2.2.2.2.1 _ w2) (hC.2.2.2.2.1 _ w3) (g := F0 m pc ls (.ref (ad q.1 q.2) :: S.map (jm_vl ad))) rfl (by rw [hC.2.2.1]; exact hLR.2.1) rfl hd (by omega) ?_ k
  show 2 * 0 + ((S.map (jm_vl ad)).map fun v => v.category).sum + 12 ≤ R.locals
  rw [jm_S_sum]
  omega
theorem jm_s_max (hc : (jm_code i)[ix]? = some (.invokestatic idx, pc, len, 901, b, v)) (hl : S.length ≤ 8) (h : jm_sd l D cA A ra n0 f0 (d + 1) i (ix + 1) L (.inl (if x < y then y else x) :: S) M r M') : jm_sd l D cA A ra n0 f0 (d + 1) i ix L (.inl y :: .inl x :: S) M r M' := by
  obtain ⟨hd, hp, hn, h0⟩ := jm_ck1 hc rfl rfl
  have w := jm_wd hc
  obtain ⟨w1, w2, w3, w4⟩ : jm_xOK i idx := w.1 rfl
  refine jm_sd_one h (fun _ oS oL => ⟨jm_okS_c (jm_okV_i _ _) (jm_okS_t (jm_okS_t oS)), oL⟩) ?_
  intro p e R s m args below meth c Q ad H locs cells slots ls hC hwf hoS hoL hra hRl hS hLR h1 h2 k
  rw [hp]
  have k := k ls hLR
  rw [hn] at k
  have f1 := hC.2.2.2.2.2.2.2.1
  have f2 := hC.2.2.2.2.2.2.2.2.1
  exact va_mmax hC.1 hC.2.1 (by rw [hC.2.2.1]; exact hLR.2.1.symm) hC.2.2.2.1 (hC.2.2.2.2.1 _ w1) (hC.2.2.2.2.1 _ w2) (hC.2.2.2.2.1 _ w3) (hC.2.2.2.2.1 _ w4) (by omega) (by rw [jm_S_sum]; omega) h1 h2 hd k
theorem jm_s_min (hc : (jm_code i)[ix]? = some (.invokestatic idx, pc, len, 902, b, v)) (hl : S.length ≤ 8) (h : jm_sd l D cA A ra n0 f0 (d + 1) i (ix + 1) L (.inl (if y < x then y else x) :: S) M r M') : jm_sd l D cA A ra n0 f0 (d + 1) i ix L (.inl y :: .inl x :: S) M r M' := by
  obtain ⟨hd, hp, hn, h0⟩ := jm_ck1 hc rfl rfl
  have w := jm_wd hc
  obtain ⟨w1, w2, w3, w4⟩ : jm_iOK i idx := w.2.1 rfl
  refine jm_sd_one h (fun _ oS oL => ⟨jm_okS_c (jm_okV_i _ _) (jm_okS_t (jm_okS_t oS)), oL⟩) ?_
  intro p e R s m args below meth c Q ad H locs cells slots ls hC hwf hoS hoL hra hRl hS hLR h1 h2 k
  rw [hp]
  have k := k ls hLR
  rw [hn] at k
  have f1 := hC.2.2.2.2.2.2.2.1
  have f2 := hC.2.2.2.2.2.2.2.2.1
  exact va_mmin hC.1 hC.2.1 (by rw [hC.2.2.1]; exact hLR.2.1.symm) hC.2.2.2.1 (hC.2.2.2.2.1 _ w1) (hC.2.2.2.2.1 _ w2) (hC.2.2.2.2.1 _ w3) (hC.2.2.2.2.1 _ w4) (by omega) (by rw [jm_S_sum]; omega) h1 h2 hd k
theorem jm_s_ldcM (hb : Nat.beq b 1 = true) (hc : (jm_code i)[ix]? = some (.ldc idx, pc, len, a, b, v)) (h : jm_sd l D cA A ra n0 f0 d i (ix + 1) L (.inr (some (a, 0)) :: S) M r M') : jm_sd l D cA A ra n0 f0 d i ix L S M r M' := by
  obtain ⟨hd, hp, hn, h0⟩ := jm_ck1 hc rfl rfl
  have w := jm_wd hc
  obtain ⟨rfl, w1⟩ := w.2 hb
  have t6 := jm_kMi6
  refine jm_sd_one h (fun hwf oS oL => ⟨jm_okS_c (jm_okV_r (fun q hq => by cases hq; rw [(hwf.2.2.2.1 jm_kMi (by omega) (by omega)).1]; exact Nat.zero_lt_one)) oS, oL⟩) ?_
  intro p e R s m args below meth c Q ad H locs cells slots ls hC hwf hoS hoL hra hRl hS hLR h1 h2 k
  rw [hp]
  have k := k ls hLR
  rw [hn] at k
  refine va_ldcM hC.1 hC.2.1 hC.2.2.2.1 (hC.2.2.2.2.1 _ w1) (hC.2.2.2.2.2.2.1.2.1.2.2.1) hd ?_
  rw [← hra jm_kMi (by omega) (by omega)]
  exact k
theorem jm_s_castA {z : jm_R} (hc : (jm_code i)[ix]? = some (.checkcast idx, pc, len, a, b, v)) (ha : Nat.ble 100 a = true) (hz : ∀ q, z = some q → jm_ar q.1 2 (a - 100) = true) (h : jm_sd l D cA A ra n0 f0 d i (ix + 1) L (.inr z :: S) M r M') : jm_sd l D cA A ra n0 f0 d i ix L (.inr z :: S) M r M' := by
  obtain ⟨hd, hp, hn, h0⟩ := jm_ck1 hc rfl rfl
  have w := jm_wd hc
  obtain ⟨E, nm, w1, w2, w3⟩ : jm_kaOK i idx a := w.2 ha
  refine jm_sd_one h (fun hwf oS oL => ⟨oS, oL⟩) ?_
  intro p e R s m args below meth c Q ad H locs cells slots ls hC hwf hoS hoL hra hRl hS hLR h1 h2 k
  rw [hp]
  have k := k ls hLR
  rw [hn] at k
  cases z with
  | none => exact lv_castN hC.1 hC.2.1 hd k
  | some q =>
    obtain ⟨k0, k1⟩ := jm_ar_s (hz q rfl)
    obtain ⟨p0, -, hw⟩ := jm_arR hwf (jm_okS_q hoS) k0 cA ad
    rw [k1] at hw
    exact va_castA hC.1 hC.2.1 hC.2.2.2.1 (hC.2.2.2.2.1 _ w2) hRl.1 p0 hw (va_nmO (hC.2.2.2.2.2.2.1.1.2 _ _ (w1 cA)).2 w3) hd k
theorem jm_s_getC (hc : (jm_code i)[ix]? = some (.invokevirtual idx, pc, len, 904, b, v)) (hq : jm_ar q.1 2 jm_tO = true) (hl : S.length ≤ 8) (h : jm_sd l D cA A ra n0 f0 (d + 1) i (ix + 1) L (.inr (some (jm_kMi, 0)) :: S) M r M') : jm_sd l D cA A ra n0 f0 (d + 1) i ix L (.inr (some q) :: S) M r M' := by
  obtain ⟨hd, hp, hn, h0⟩ := jm_ck1 hc rfl rfl
  have w := jm_wd hc
  obtain ⟨w1, w2, w3, w4⟩ : jm_gOK i idx := w.1 rfl
  have t6 := jm_kMi6
  refine jm_sd_one h (fun hwf oS oL => ⟨jm_okS_c (jm_okV_r (fun q hq => by cases hq; rw [(hwf.2.2.2.1 jm_kMi (by omega) (by omega)).1]; exact Nat.zero_lt_one)) (jm_okS_t oS), oL⟩) ?_
  intro p e R s m args below meth c Q ad H locs cells slots ls hC hwf hoS hoL hra hRl hS hLR h1 h2 k
  rw [hp]
  have k := k ls hLR
  rw [hn] at k
  obtain ⟨k0, k1⟩ := jm_ar_s hq
  obtain ⟨p0, -, hw⟩ := jm_arR hwf (jm_okS_q hoS) k0 cA ad
  rw [k1] at hw
  have hG := hC.2.2.2.2.2.2.1
  have f1 := hC.2.2.2.2.2.2.2.1
  have f2 := hC.2.2.2.2.2.2.2.2.1
  refine va_getC hC.1 hC.2.1 (by rw [hC.2.2.1]; exact hLR.2.1.symm) hC.2.2.2.1 (hC.2.2.2.2.1 _ w1) (va_Dc.use hG.2.1.2.2.2) (hC.2.2.2.2.1 _ w2) (hC.2.2.2.2.1 _ w3) (hC.2.2.2.2.1 _ w4) hG.2.1.2.2.1 ⟨_, hRl.1 p0 _ hw, rfl, va_nmO (hG.1.2 _ _ (jm_tysO cA)).2 rfl⟩ (by omega) (by rw [jm_S_sum]; omega) hd ?_
  rw [← hra jm_kMi (by omega) (by omega)]
  exact k
theorem jm_s_copy {n dp sp : Int32} {q p : Nat × Nat} (hc : (jm_code i)[ix]? = some (.invokestatic idx, pc, len, 903, b, v)) (hq : jm_ar q.1 2 jm_tO = true) (hp0 : jm_ar p.1 2 jm_tO = true) (hsp : jm_in sp 20000 = true) (hdp : jm_in dp 20000 = true) (hnn : jm_in n 20000 = true) (hsn : sp.toNatClampNeg + n.toNatClampNeg ≤ jm_n M p.1 p.2) (hdn : dp.toNatClampNeg + n.toNatClampNeg ≤ jm_n M q.1 q.2) (hl : S.length ≤ 8)
    (h : jm_sd l D cA A ra n0 f0 (d + 1) i (ix + 1) L S (jm_cp M p sp.toNatClampNeg q dp.toNatClampNeg n.toNatClampNeg) r M') : jm_sd l D cA A ra n0 f0 (d + 1) i ix L (.inl n :: .inl dp :: .inr (some q) :: .inl sp :: .inr (some p) :: S) M r M' := by
  obtain ⟨hd, hp, hn, h0⟩ := jm_ck1 hc rfl rfl
  have w := jm_wd hc
  obtain ⟨w1, w2, w3, w4⟩ : jm_yOK i idx := w.2.2.1 rfl
  obtain ⟨k0, k1⟩ := jm_ar_s hq
  obtain ⟨j0, j1⟩ := jm_ar_s hp0
  refine jm_sd_mem h ⟨fun _ => Nat.le_refl _, Nat.le_refl _, Nat.le_refl _⟩ (fun hwf oS oL => ⟨⟨fun k t u => ?_, hwf.2.1, hwf.2.2.1, hwf.2.2.2.1, fun k t u hk => ?_⟩, jm_okS_t (jm_okS_t (jm_okS_t (jm_okS_t (jm_okS_t oS)))), oL⟩) ?_
  · show jm_okR M (if k = q.1 ∧ t = q.2 ∧ _ ∧ _ then _ else _)
    by_cases hz : k = q.1 ∧ t = q.2 ∧ dp.toNatClampNeg ≤ u ∧ u < dp.toNatClampNeg + n.toNatClampNeg
    · rw [if_pos hz]; exact hwf.1 _ _ _
    · rw [if_neg hz]; exact hwf.1 _ _ _
  · show jm_as _ (if k = q.1 ∧ t = q.2 ∧ _ ∧ _ then _ else _) = true
    by_cases hz : k = q.1 ∧ t = q.2 ∧ dp.toNatClampNeg ≤ u ∧ u < dp.toNatClampNeg + n.toNatClampNeg
    · rw [if_pos hz, hz.1, k1, ← j1]; exact hwf.2.2.2.2 _ _ _ j0
    · rw [if_neg hz]; exact hwf.2.2.2.2 _ _ _ hk
  · intro p' e R s m args below meth c Q ad H locs cells slots ls hC hwf hoS hoL hra hRl hS hLR h1 h2 k
    rw [hp]
    have hqc : q.2 < jm_c M q.1 := jm_okS_q (jm_okS_t (jm_okS_t hoS))
    have hpc : p.2 < jm_c M p.1 := jm_okS_q (jm_okS_t (jm_okS_t (jm_okS_t (jm_okS_t hoS))))
    obtain ⟨p1, hp1, hw1⟩ := jm_arR hwf hqc k0 cA ad
    obtain ⟨p2, -, hw2⟩ := jm_arR hwf hpc j0 cA ad
    rw [k1] at hw1
    rw [j1] at hw2
    have hG := hC.2.2.2.2.2.2.1
    have f1 := hC.2.2.2.2.2.2.2.1
    have f2 := hC.2.2.2.2.2.2.2.2.1
    have hel : ∀ t : Nat, t < n.toNatClampNeg → ∀ y : Nat, (fun j => jm_rf ad (jm_F M p.1 p.2 j)) (sp.toNatClampNeg + t) = some y → va_Any "java/lang/Object" s H y := by
      intro t _ y hy
      cases hu : jm_F M p.1 p.2 (sp.toNatClampNeg + t) with
      | none =>
        have hy : jm_rf ad (jm_F M p.1 p.2 (sp.toNatClampNeg + t)) = some y := hy
        rw [hu] at hy; cases hy
      | some u =>
        have hy : jm_rf ad (jm_F M p.1 p.2 (sp.toNatClampNeg + t)) = some y := hy
        rw [hu] at hy
        cases hy
        have has := hwf.2.2.2.2 p.1 p.2 (sp.toNatClampNeg + t) j0
        rw [hu, j1] at has
        exact jm_anyO (cA := cA) has (by have := hwf.1 p.1 p.2 (sp.toNatClampNeg + t); rw [hu] at this; exact this u rfl) hwf hG hRl
    refine va_copyM hC.1 hC.2.1 (by rw [hC.2.2.1]; exact hLR.2.1.symm) hC.2.2.2.1 (hC.2.2.2.2.1 _ w1) (hC.2.2.2.2.1 _ w2) (hC.2.2.2.2.1 _ w3) (hC.2.2.2.2.1 _ w4) hG.1 hRl.1 hRl.2 hS p2 p1 _ _ hw2 hw1 (jm_tysO cA) (jm_tysO cA) (fun z => jm_in_s hsp (Or.inl z)) (fun z => jm_in_s hdp (Or.inl z)) (fun z => jm_in_s hnn (Or.inl z)) hsn hdn hel (by omega) (by
      rw [jm_S_sum]
      have : nativeFrameWords "java/lang/System" "arraycopy" 5 ≤ 17 := by decide
      omega) hd ?_
    have hset : (jm_ws cA ad M).set p1 (ad q.1 q.2, .inl (cA jm_tO, jm_n M q.1 q.2, .inr (.inr (.inr (.inr (va_cpy (fun j => jm_rf ad (jm_F M p.1 p.2 j)) (fun j => jm_rf ad (jm_F M q.1 q.2 j)) sp.toNatClampNeg dp.toNatClampNeg n.toNatClampNeg)))))) = jm_ws cA ad (jm_cp M p sp.toNatClampNeg q dp.toNatClampNeg n.toNatClampNeg) := by
      refine jm_ws_set rfl hwf.2.2.1 hp1 ?_ ?_
      · rw [jm_E_r k0, k1]
        show Sum.inl (cA jm_tO, jm_n M q.1 q.2, _) = _
        congr 7
        funext j
        show jm_rf ad (if q.1 = q.1 ∧ q.2 = q.2 ∧ dp.toNatClampNeg ≤ j ∧ j < dp.toNatClampNeg + n.toNatClampNeg then _ else _) = _
        unfold va_cpy
        by_cases hz : dp.toNatClampNeg ≤ j ∧ j < dp.toNatClampNeg + n.toNatClampNeg
        · rw [if_pos ⟨rfl, rfl, hz⟩, if_pos hz]; rfl
        · rw [if_neg (fun e => hz e.2.2), if_neg hz]; rfl
      · intro q' hq'
        refine jm_E_same rfl ?_ rfl
        funext j
        exact if_neg (fun e => hq' (Prod.ext e.1 e.2.1))
    rw [hset]
    intro H2 locs2 g1 g2 g3
    have k := k ad H2 locs2 ls (jm_ext.rf M ad) hra ⟨g1, g2⟩ g3 hLR
    rw [hn, show jm_al (jm_cp M p sp.toNatClampNeg q dp.toNatClampNeg n.toNatClampNeg) = jm_al M from rfl, show jm_sl (jm_cp M p sp.toNatClampNeg q dp.toNatClampNeg n.toNatClampNeg) = jm_sl M from rfl, Nat.sub_self, Nat.sub_self] at k
    exact k
end JMY
