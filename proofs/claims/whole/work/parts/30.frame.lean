/-! A group of methods that only ever meets cells of its own kinds leaves all other kinds as they are. -/
def jf_R (G : Nat → Bool) (x : jm_R) : Prop := ∀ q, x = some q → G q.1 = true
def jf_V (G : Nat → Bool) (v : jm_V) : Prop := ∀ x, v = .inr x → jf_R G x
def jf_S (G : Nat → Bool) (S : List jm_V) : Prop := ∀ v ∈ S, jf_V G v
def jf_L (G : Nat → Bool) (L : List (Option jm_V)) : Prop := ∀ v, some v ∈ L → jf_V G v
def jf_M (G : Nat → Bool) (M : jm_M) : Prop := ∀ k i j, G k = true → jf_R G (jm_F M k i j)
def jf_fr (G : Nat → Bool) (M N : jm_M) : Prop := ∀ k, G k = false → jm_I N k = jm_I M k ∧ jm_F N k = jm_F M k ∧ jm_n N k = jm_n M k ∧ jm_c N k = jm_c M k
def jf_e (G P : Nat → Bool) (e : jm_T) : Bool := match e with
  | (ins, _, _, a, b, _) => match ins with
    | .new _ => G a
    | .newarray _ => G a
    | .anewarray _ => G a
    | .getstatic _ => G a
    | .ldc _ => !Nat.beq b 1 || G a
    | .invokevirtual _ => bif Nat.beq a 904 then G jm_kMi else P a
    | .invokespecial _ => Nat.beq a 900 || P a
    | .invokestatic _ => Nat.beq a 901 || Nat.beq a 902 || Nat.beq a 903 || P a
    | _ => true
section JF
variable {G P : Nat → Bool} {M N : jm_M} {S T : List jm_V} {L : List (Option jm_V)}
theorem jf_Vi (x : Int32) : jf_V G (.inl x) := fun y hy => by cases hy
theorem jf_Vn : jf_V G (.inr none) := fun y hy => by cases hy; exact fun q hq => by cases hq
theorem jf_Vr {x : jm_R} (h : jf_R G x) : jf_V G (.inr x) := fun y hy => by cases hy; exact h
theorem jf_Rs {q : Nat × Nat} (h : G q.1 = true) : jf_R G (some q) := fun p hp => by cases hp; exact h
theorem jf_c {v : jm_V} (h : jf_V G v) (hS : jf_S G S) : jf_S G (v :: S) := fun w hw => by
  rcases List.mem_cons.mp hw with rfl | hw
  · exact h
  · exact hS w hw
theorem jf_t {v : jm_V} (hS : jf_S G (v :: S)) : jf_S G S := fun w hw => hS w (List.mem_cons_of_mem _ hw)
theorem jf_h {v : jm_V} (hS : jf_S G (v :: S)) : jf_V G v := hS v List.mem_cons_self
theorem jf_q {q : Nat × Nat} (hS : jf_S G (.inr (some q) :: S)) : G q.1 = true := jf_h hS (some q) rfl q rfl
theorem jf_Ls {a : Nat} {v : jm_V} (hL : jf_L G L) (h : jf_V G v) : jf_L G (L.set a (some v)) := fun w hw => by
  rcases List.mem_or_eq_of_mem_set hw with h1 | h1
  · exact hL w h1
  · cases h1; exact h
theorem jf_ld {a : Nat} {v : jm_V} (hL : jf_L G L) (h : jm_ld L a = some v) : jf_V G v := hL v (List.mem_of_getElem? (jm_ld_s h))
theorem jf_rf (M : jm_M) : jf_fr G M M := fun _ _ => ⟨rfl, rfl, rfl, rfl⟩
theorem jf_tr {O : jm_M} (h : jf_fr G M N) (h2 : jf_fr G N O) : jf_fr G M O := fun k hk => ⟨(h2 k hk).1.trans (h k hk).1, (h2 k hk).2.1.trans (h k hk).2.1, (h2 k hk).2.2.1.trans (h k hk).2.2.1, (h2 k hk).2.2.2.trans (h k hk).2.2.2⟩
theorem jf_setI {q : Nat × Nat} {j : Nat} {x : Int32} (hq : G q.1 = true) : jf_fr G M (jm_setI M q.1 q.2 j x) := fun k hk => by
  refine ⟨?_, rfl, rfl, rfl⟩
  funext i' j'
  exact jm_u3_n _ _ _ _ _ (fun e => by rw [e.1, hq] at hk; cases hk)
theorem jf_setF {q : Nat × Nat} {j : Nat} {x : jm_R} (hq : G q.1 = true) : jf_fr G M (jm_setF M q.1 q.2 j x) := fun k hk => by
  refine ⟨rfl, ?_, rfl, rfl⟩
  funext i' j'
  exact jm_u3_n _ _ _ _ _ (fun e => by rw [e.1, hq] at hk; cases hk)
theorem jf_MF {q : Nat × Nat} {j : Nat} {x : jm_R} (hM : jf_M G M) (hx : jf_R G x) : jf_M G (jm_setF M q.1 q.2 j x) := fun k i' j' hk => by
  show jf_R G (jm_u3 _ _ _ _ _ _ _ _)
  by_cases h : k = q.1 ∧ i' = q.2 ∧ j' = j
  · rw [h.1, h.2.1, h.2.2, jm_u3_s]; exact hx
  · rw [jm_u3_n _ _ _ _ _ h]; exact hM k i' j' hk
theorem jf_mk {a n sl : Nat} (ha : G a = true) : jf_fr G M (jm_mk M a n sl) := fun k hk => by
  have hne : ¬ k = a := fun e => by rw [e, ha] at hk; cases hk
  refine ⟨?_, ?_, ?_, ?_⟩
  · funext i' j'; exact if_neg (fun e => hne e.1)
  · funext i' j'; exact if_neg (fun e => hne e.1)
  · funext i'; exact if_neg (fun e => hne e.1)
  · exact if_neg hne
theorem jf_Mk {a n sl : Nat} (hM : jf_M G M) : jf_M G (jm_mk M a n sl) := fun k i' j' hk => by
  show jf_R G (if k = a ∧ i' = jm_c M a then none else M.2.1 k i' j')
  by_cases h : k = a ∧ i' = jm_c M a
  · rw [if_pos h]; exact fun q hq => by cases hq
  · rw [if_neg h]; exact hM k i' j' hk
theorem jf_cp {p q : Nat × Nat} {sp dp n : Nat} (hq : G q.1 = true) : jf_fr G M (jm_cp M p sp q dp n) := fun k hk => by
  refine ⟨rfl, ?_, rfl, rfl⟩
  funext i' j'
  exact if_neg (fun e => by rw [e.1, hq] at hk; cases hk)
theorem jf_Mcp {p q : Nat × Nat} {sp dp n : Nat} (hM : jf_M G M) (hp : G p.1 = true) : jf_M G (jm_cp M p sp q dp n) := fun k i' j' hk => by
  show jf_R G (if k = q.1 ∧ i' = q.2 ∧ dp ≤ j' ∧ j' < dp + n then M.2.1 p.1 p.2 (sp + (j' - dp)) else M.2.1 k i' j')
  by_cases h : k = q.1 ∧ i' = q.2 ∧ dp ≤ j' ∧ j' < dp + n
  · rw [if_pos h]; exact hM _ _ _ hp
  · rw [if_neg h]; exact hM k i' j' hk
def jf_C (G : Nat → Bool) (M : jm_M) (r : Option jm_V) (N : jm_M) : Prop := (∀ v, r = some v → jf_V G v) ∧ jf_M G N ∧ jf_fr G M N
theorem jf_C.via {r : Option jm_V} {O : jm_M} (h : jf_fr G M N) (h2 : jf_C G N r O) : jf_C G M r O := ⟨h2.1, h2.2.1, jf_tr h h2.2.2⟩
theorem jf_loc {j : Nat} {vs : List jm_V} (h : jf_S G vs) : jf_L G (jm_loc j vs) := by
  intro v hv
  unfold jm_loc at hv
  rcases List.mem_append.mp hv with hv | hv
  · obtain ⟨w, hw, e⟩ := List.mem_map.mp hv
    cases e
    exact h v hw
  · rw [List.mem_replicate] at hv
    cases hv.2
theorem jf_app {r : Option jm_V} (h1 : ∀ v, r = some v → jf_V G v) (h2 : jf_S G S) : jf_S G (r.toList ++ S) := fun v hv => by
  rcases List.mem_append.mp hv with h | h
  · cases r with
    | none => cases h
    | some w =>
      rcases List.mem_cons.mp h with e | e
      · subst e; exact h1 v rfl
      · cases e
  · exact h2 v h
set_option maxHeartbeats 4000000 in
set_option maxRecDepth 100000 in
theorem jf_frame (hT : ∀ (i ix : Nat) (e : jm_T), P i = true → (jm_code i)[ix]? = some e → jf_e G P e = true) : ∀ (n d i ix : Nat) (L : List (Option jm_V)) (S : List jm_V) (M : jm_M) (r : Option jm_V) (N : jm_M), jm_run n d i ix L S M = some (r, N) → P i = true → jf_S G S → jf_L G L → jf_M G M → jf_C G M r N := by
  intro n
  induction n with
  | zero => intro d i ix L S M r N h; cases h
  | succ n ih =>
    intro d i ix L S M r N h hP hS hL hM
    replace h : jm_st (jm_run n) d i ix L S M = some (r, N) := h
    unfold jm_st at h
    cases hc : (jm_code i)[ix]? with
    | none => rw [hc] at h; cases h
    | some en =>
      have he := hT i ix en hP hc
      obtain ⟨ins, pc, len, a, b, v⟩ := en
      rw [hc] at h
      have ih : ∀ {d i ix : Nat} {L : List (Option jm_V)} {S : List jm_V} {M : jm_M} {r : Option jm_V} {N : jm_M}, jm_run n d i ix L S M = some (r, N) → P i = true → jf_S G S → jf_L G L → jf_M G M → jf_C G M r N := fun h => ih _ _ _ _ _ _ _ _ h
      cases ins
      case iconst z =>
        exact ih h hP (jf_c (jf_Vi _) hS) hL hM
      case bipush z =>
        exact ih h hP (jf_c (jf_Vi _) hS) hL hM
      case sipush z =>
        exact ih h hP (jf_c (jf_Vi _) hS) hL hM
      case ldc z =>
        replace h := jm_bt h
        rcases h with ⟨hb, h⟩ | ⟨hb, h⟩
        · replace he : (!Nat.beq b 1 || G a) = true := he
          rw [hb] at he
          exact ih h hP (jf_c (jf_Vr (jf_Rs he)) hS) hL hM
        · exact ih h hP (jf_c (jf_Vi _) hS) hL hM
      case if_acmp c off =>
        cases c
        · replace h := jm_a_s h
          obtain ⟨y, T, rfl, h⟩ := h
          replace h := jm_a_s h
          obtain ⟨x, T, rfl, h⟩ := h
          by_cases hz : x = y
          · rw [if_pos hz] at h
            exact ih h hP (jf_t (jf_t hS)) hL hM
          · rw [if_neg hz] at h; cases h
        · replace h := jm_a_s h
          obtain ⟨y, T, rfl, h⟩ := h
          replace h := jm_a_s h
          obtain ⟨x, T, rfl, h⟩ := h
          by_cases hz : x = y
          · rw [if_pos hz] at h
            exact ih h hP (jf_t (jf_t hS)) hL hM
          · rw [if_neg hz] at h; cases h
      case aconst_null =>
        exact ih h hP (jf_c jf_Vn hS) hL hM
      case iload_n z =>
        replace h := jm_vi_s h
        obtain ⟨x, hx, h⟩ := h
        exact ih h hP (jf_c (jf_Vi _) hS) hL hM
      case iload z =>
        replace h := jm_vi_s h
        obtain ⟨x, hx, h⟩ := h
        exact ih h hP (jf_c (jf_Vi _) hS) hL hM
      case aload_n z =>
        replace h := jm_vr_s h
        obtain ⟨x, hx, h⟩ := h
        exact ih h hP (jf_c (jf_ld hL hx) hS) hL hM
      case aload z =>
        replace h := jm_vr_s h
        obtain ⟨x, hx, h⟩ := h
        exact ih h hP (jf_c (jf_ld hL hx) hS) hL hM
      case istore_n z =>
        replace h := jm_1_s h
        obtain ⟨x, T, rfl, h⟩ := h
        exact ih h hP (jf_t hS) (jf_Ls hL (jf_Vi _)) hM
      case istore z =>
        replace h := jm_1_s h
        obtain ⟨x, T, rfl, h⟩ := h
        exact ih h hP (jf_t hS) (jf_Ls hL (jf_Vi _)) hM
      case astore_n z =>
        replace h := jm_a_s h
        obtain ⟨x, T, rfl, h⟩ := h
        exact ih h hP (jf_t hS) (jf_Ls hL (jf_h hS)) hM
      case astore z =>
        replace h := jm_a_s h
        obtain ⟨x, T, rfl, h⟩ := h
        exact ih h hP (jf_t hS) (jf_Ls hL (jf_h hS)) hM
      case iinc z w =>
        replace h := jm_vi_s h
        obtain ⟨x, hx, h⟩ := h
        exact ih h hP hS (jf_Ls hL (jf_Vi _)) hM
      case iadd =>
        replace h := jm_1_s h
        obtain ⟨y, T, rfl, h⟩ := h
        replace h := jm_1_s h
        obtain ⟨x, T, rfl, h⟩ := h
        exact ih h hP (jf_c (jf_Vi _) (jf_t (jf_t hS))) hL hM
      case isub =>
        replace h := jm_1_s h
        obtain ⟨y, T, rfl, h⟩ := h
        replace h := jm_1_s h
        obtain ⟨x, T, rfl, h⟩ := h
        exact ih h hP (jf_c (jf_Vi _) (jf_t (jf_t hS))) hL hM
      case imul =>
        replace h := jm_1_s h
        obtain ⟨y, T, rfl, h⟩ := h
        replace h := jm_1_s h
        obtain ⟨x, T, rfl, h⟩ := h
        exact ih h hP (jf_c (jf_Vi _) (jf_t (jf_t hS))) hL hM
      case iand =>
        replace h := jm_1_s h
        obtain ⟨y, T, rfl, h⟩ := h
        replace h := jm_1_s h
        obtain ⟨x, T, rfl, h⟩ := h
        exact ih h hP (jf_c (jf_Vi _) (jf_t (jf_t hS))) hL hM
      case ishr =>
        replace h := jm_1_s h
        obtain ⟨y, T, rfl, h⟩ := h
        replace h := jm_1_s h
        obtain ⟨x, T, rfl, h⟩ := h
        exact ih h hP (jf_c (jf_Vi _) (jf_t (jf_t hS))) hL hM
      case idiv =>
        replace h := jm_1_s h
        obtain ⟨y, T, rfl, h⟩ := h
        replace h := jm_1_s h
        obtain ⟨x, T, rfl, h⟩ := h
        by_cases hy : y = nI 0
        · rw [if_pos hy] at h; cases h
        · rw [if_neg hy] at h
          exact ih h hP (jf_c (jf_Vi _) (jf_t (jf_t hS))) hL hM
      case dup =>
        replace h := jm_w_s h
        obtain ⟨w, T, rfl, h⟩ := h
        exact ih h hP (jf_c (jf_h hS) hS) hL hM
      case pop =>
        replace h := jm_w_s h
        obtain ⟨w, T, rfl, h⟩ := h
        exact ih h hP (jf_t hS) hL hM
      case dup_x1 =>
        replace h := jm_w_s h
        obtain ⟨w, T, rfl, h⟩ := h
        replace h := jm_w_s h
        obtain ⟨u, T, rfl, h⟩ := h
        exact ih h hP (jf_c (jf_h hS) (jf_c (jf_h (jf_t hS)) (jf_c (jf_h hS) (jf_t (jf_t hS))))) hL hM
      case dup2 =>
        replace h := jm_w_s h
        obtain ⟨w, T, rfl, h⟩ := h
        replace h := jm_w_s h
        obtain ⟨u, T, rfl, h⟩ := h
        exact ih h hP (jf_c (jf_h hS) (jf_c (jf_h (jf_t hS)) hS)) hL hM
      case dup_x2 =>
        replace h := jm_w_s h
        obtain ⟨w, T, rfl, h⟩ := h
        replace h := jm_w_s h
        obtain ⟨u, T, rfl, h⟩ := h
        replace h := jm_w_s h
        obtain ⟨z, T, rfl, h⟩ := h
        exact ih h hP (jf_c (jf_h hS) (jf_c (jf_h (jf_t hS)) (jf_c (jf_h (jf_t (jf_t hS))) (jf_c (jf_h hS) (jf_t (jf_t (jf_t hS))))))) hL hM
      case ifCond c off =>
        cases c
        · replace h := jm_1_s h
          obtain ⟨x, T, rfl, h⟩ := h
          by_cases z : x = nI 0
          · rw [if_pos z] at h; exact ih h hP (jf_t hS) hL hM
          · rw [if_neg z] at h; exact ih h hP (jf_t hS) hL hM
        · replace h := jm_1_s h
          obtain ⟨x, T, rfl, h⟩ := h
          by_cases z : x = nI 0
          · rw [if_pos z] at h; exact ih h hP (jf_t hS) hL hM
          · rw [if_neg z] at h; exact ih h hP (jf_t hS) hL hM
        · replace h := jm_1_s h
          obtain ⟨x, T, rfl, h⟩ := h
          by_cases z : x < nI 0
          · rw [if_pos z] at h; exact ih h hP (jf_t hS) hL hM
          · rw [if_neg z] at h; exact ih h hP (jf_t hS) hL hM
        · replace h := jm_1_s h
          obtain ⟨x, T, rfl, h⟩ := h
          by_cases z : nI 0 ≤ x
          · rw [if_pos z] at h; exact ih h hP (jf_t hS) hL hM
          · rw [if_neg z] at h; exact ih h hP (jf_t hS) hL hM
        · replace h := jm_1_s h
          obtain ⟨x, T, rfl, h⟩ := h
          by_cases z : nI 0 < x
          · rw [if_pos z] at h; exact ih h hP (jf_t hS) hL hM
          · rw [if_neg z] at h; exact ih h hP (jf_t hS) hL hM
        · replace h := jm_1_s h
          obtain ⟨x, T, rfl, h⟩ := h
          by_cases z : x ≤ nI 0
          · rw [if_pos z] at h; exact ih h hP (jf_t hS) hL hM
          · rw [if_neg z] at h; exact ih h hP (jf_t hS) hL hM
      case if_icmp c off =>
        cases c
        · replace h := jm_1_s h
          obtain ⟨y, T, rfl, h⟩ := h
          replace h := jm_1_s h
          obtain ⟨x, T, rfl, h⟩ := h
          by_cases z : x = y
          · rw [if_pos z] at h; exact ih h hP (jf_t (jf_t hS)) hL hM
          · rw [if_neg z] at h; exact ih h hP (jf_t (jf_t hS)) hL hM
        · replace h := jm_1_s h
          obtain ⟨y, T, rfl, h⟩ := h
          replace h := jm_1_s h
          obtain ⟨x, T, rfl, h⟩ := h
          by_cases z : x = y
          · rw [if_pos z] at h; exact ih h hP (jf_t (jf_t hS)) hL hM
          · rw [if_neg z] at h; exact ih h hP (jf_t (jf_t hS)) hL hM
        · replace h := jm_1_s h
          obtain ⟨y, T, rfl, h⟩ := h
          replace h := jm_1_s h
          obtain ⟨x, T, rfl, h⟩ := h
          by_cases z : x < y
          · rw [if_pos z] at h; exact ih h hP (jf_t (jf_t hS)) hL hM
          · rw [if_neg z] at h; exact ih h hP (jf_t (jf_t hS)) hL hM
        · replace h := jm_1_s h
          obtain ⟨y, T, rfl, h⟩ := h
          replace h := jm_1_s h
          obtain ⟨x, T, rfl, h⟩ := h
          by_cases z : y ≤ x
          · rw [if_pos z] at h; exact ih h hP (jf_t (jf_t hS)) hL hM
          · rw [if_neg z] at h; exact ih h hP (jf_t (jf_t hS)) hL hM
        · replace h := jm_1_s h
          obtain ⟨y, T, rfl, h⟩ := h
          replace h := jm_1_s h
          obtain ⟨x, T, rfl, h⟩ := h
          by_cases z : y < x
          · rw [if_pos z] at h; exact ih h hP (jf_t (jf_t hS)) hL hM
          · rw [if_neg z] at h; exact ih h hP (jf_t (jf_t hS)) hL hM
        · replace h := jm_1_s h
          obtain ⟨y, T, rfl, h⟩ := h
          replace h := jm_1_s h
          obtain ⟨x, T, rfl, h⟩ := h
          by_cases z : x ≤ y
          · rw [if_pos z] at h; exact ih h hP (jf_t (jf_t hS)) hL hM
          · rw [if_neg z] at h; exact ih h hP (jf_t (jf_t hS)) hL hM
      case goto off =>
        exact ih h hP hS hL hM
      case tableswitch df lo hi offs =>
        replace h := jm_1_s h
        obtain ⟨x, T, rfl, h⟩ := h
        by_cases hx : x.toInt < lo ∨ hi < x.toInt
        · rw [if_pos hx] at h
          exact ih h hP (jf_t hS) hL hM
        · rw [if_neg hx] at h
          replace h := jm_o_s h
          obtain ⟨t, ht, h⟩ := h
          exact ih h hP (jf_t hS) hL hM
      case lookupswitch df ps =>
        replace h := jm_1_s h
        obtain ⟨x, T, rfl, h⟩ := h
        replace h := jm_lk_s h (fun t => (jm_pc i t : Int) - pc)
        obtain ⟨u, h, h2⟩ := h
        exact ih h hP (jf_t hS) hL hM
      case iaload =>
        replace h := jm_1_s h
        obtain ⟨j, T, rfl, h⟩ := h
        replace h := jm_a_s h
        obtain ⟨x, T, rfl, h⟩ := h
        replace h := jm_q_s h
        obtain ⟨q, rfl, h⟩ := h
        replace h := jm_btn h
        obtain ⟨hq, h⟩ := h
        replace h := jm_ix_s h
        obtain ⟨hj, h⟩ := h
        exact ih h hP (jf_c (jf_Vi _) (jf_t (jf_t hS))) hL hM
      case baload =>
        replace h := jm_1_s h
        obtain ⟨j, T, rfl, h⟩ := h
        replace h := jm_a_s h
        obtain ⟨x, T, rfl, h⟩ := h
        replace h := jm_q_s h
        obtain ⟨q, rfl, h⟩ := h
        replace h := jm_btn h
        obtain ⟨hq, h⟩ := h
        replace h := jm_ix_s h
        obtain ⟨hj, h⟩ := h
        exact ih h hP (jf_c (jf_Vi _) (jf_t (jf_t hS))) hL hM
      case aaload =>
        replace h := jm_1_s h
        obtain ⟨j, T, rfl, h⟩ := h
        replace h := jm_a_s h
        obtain ⟨x, T, rfl, h⟩ := h
        replace h := jm_q_s h
        obtain ⟨q, rfl, h⟩ := h
        replace h := jm_btn h
        obtain ⟨hq, h⟩ := h
        replace h := jm_ix_s h
        obtain ⟨hj, h⟩ := h
        exact ih h hP (jf_c (jf_Vr (hM _ _ _ (jf_q (jf_t hS)))) (jf_t (jf_t hS))) hL hM
      case iastore =>
        replace h := jm_1_s h
        obtain ⟨y, T, rfl, h⟩ := h
        replace h := jm_1_s h
        obtain ⟨j, T, rfl, h⟩ := h
        replace h := jm_a_s h
        obtain ⟨x, T, rfl, h⟩ := h
        replace h := jm_q_s h
        obtain ⟨q, rfl, h⟩ := h
        replace h := jm_btn h
        obtain ⟨hq, h⟩ := h
        replace h := jm_ix_s h
        obtain ⟨hj, h⟩ := h
        exact (ih h hP (jf_t (jf_t (jf_t hS))) hL hM).via (jf_setI (jf_q (jf_t (jf_t hS))))
      case bastore =>
        replace h := jm_1_s h
        obtain ⟨y, T, rfl, h⟩ := h
        replace h := jm_1_s h
        obtain ⟨j, T, rfl, h⟩ := h
        replace h := jm_a_s h
        obtain ⟨x, T, rfl, h⟩ := h
        replace h := jm_q_s h
        obtain ⟨q, rfl, h⟩ := h
        replace h := jm_btn h
        obtain ⟨hq, h⟩ := h
        replace h := jm_ix_s h
        obtain ⟨hj, h⟩ := h
        exact (ih h hP (jf_t (jf_t (jf_t hS))) hL hM).via (jf_setI (jf_q (jf_t (jf_t hS))))
      case aastore =>
        replace h := jm_a_s h
        obtain ⟨y, T, rfl, h⟩ := h
        replace h := jm_1_s h
        obtain ⟨j, T, rfl, h⟩ := h
        replace h := jm_a_s h
        obtain ⟨x, T, rfl, h⟩ := h
        replace h := jm_q_s h
        obtain ⟨q, rfl, h⟩ := h
        replace h := jm_btn h
        obtain ⟨hq, h⟩ := h
        replace h := jm_ix_s h
        obtain ⟨hj, h⟩ := h
        exact (ih h hP (jf_t (jf_t (jf_t hS))) hL (jf_MF hM (jf_h hS y rfl))).via (jf_setF (jf_q (jf_t (jf_t hS))))
      case arraylength =>
        replace h := jm_a_s h
        obtain ⟨x, T, rfl, h⟩ := h
        replace h := jm_q_s h
        obtain ⟨q, rfl, h⟩ := h
        replace h := jm_bt h
        rcases h with ⟨_, h⟩ | ⟨hq, h⟩
        · cases h
        · exact ih h hP (jf_c (jf_Vi _) (jf_t hS)) hL hM
      case getfield z =>
        replace h := jm_a_s h
        obtain ⟨x, T, rfl, h⟩ := h
        replace h := jm_q_s h
        obtain ⟨q, rfl, h⟩ := h
        replace h := jm_btn h
        obtain ⟨hq, h⟩ := h
        replace h := jm_bt h
        rcases h with ⟨hf, h⟩ | ⟨hf, h⟩
        · exact ih h hP (jf_c (jf_Vi _) (jf_t hS)) hL hM
        · exact ih h hP (jf_c (jf_Vr (hM _ _ _ (jf_q hS))) (jf_t hS)) hL hM
      case putfield z =>
        replace h := jm_w_s h
        obtain ⟨y, T, rfl, h⟩ := h
        replace h := jm_a_s h
        obtain ⟨x, T, rfl, h⟩ := h
        replace h := jm_q_s h
        obtain ⟨q, rfl, h⟩ := h
        replace h := jm_btn h
        obtain ⟨hq, h⟩ := h
        cases y with
        | inl y =>
          replace h := jm_btn h
          obtain ⟨hf, h⟩ := h
          exact (ih h hP (jf_t (jf_t hS)) hL hM).via (jf_setI (jf_q (jf_t hS)))
        | inr y =>
          replace h := jm_bt h
          rcases h with ⟨_, h⟩ | ⟨hf, h⟩
          · cases h
          · exact (ih h hP (jf_t (jf_t hS)) hL (jf_MF hM (jf_h hS y rfl))).via (jf_setF (jf_q (jf_t hS)))
      case getstatic z =>
        exact ih h hP (jf_c (jf_Vr (jf_Rs he)) hS) hL hM
      case new z =>
        exact (ih h hP (jf_c (jf_Vr (jf_Rs he)) hS) hL (jf_Mk hM)).via (jf_mk he)
      case newarray z =>
        replace h := jm_1_s h
        obtain ⟨x, T, rfl, h⟩ := h
        replace h := jm_ix_s h
        obtain ⟨hx, h⟩ := h
        exact (ih h hP (jf_c (jf_Vr (jf_Rs he)) (jf_t hS)) hL (jf_Mk hM)).via (jf_mk he)
      case anewarray z =>
        replace h := jm_1_s h
        obtain ⟨x, T, rfl, h⟩ := h
        replace h := jm_ix_s h
        obtain ⟨hx, h⟩ := h
        exact (ih h hP (jf_c (jf_Vr (jf_Rs he)) (jf_t hS)) hL (jf_Mk hM)).via (jf_mk he)
      case checkcast z =>
        replace h := jm_a_s h
        obtain ⟨x, T, rfl, h⟩ := h
        cases x with
        | none => exact ih h hP hS hL hM
        | some q =>
          replace h := jm_btn h
          obtain ⟨hq, h⟩ := h
          exact ih h hP hS hL hM
      case invokevirtual z =>
        replace h := jm_bt h
        rcases h with ⟨ha, h⟩ | ⟨ha, h⟩
        · replace he : (bif Nat.beq a 904 then G jm_kMi else P a) = true := he
          rw [ha] at he
          replace h := jm_d_s h
          obtain ⟨d1, rfl, h⟩ := h
          replace h := jm_a_s h
          obtain ⟨x, T, rfl, h⟩ := h
          replace h := jm_q_s h
          obtain ⟨q, rfl, h⟩ := h
          replace h := jm_btn h
          obtain ⟨hl, h⟩ := h
          exact ih h hP (jf_c (jf_Vr (jf_Rs he)) (jf_t hS)) hL hM
        · replace he : (bif Nat.beq a 904 then G jm_kMi else P a) = true := he
          rw [ha] at he
          replace h := jm_btn h
          obtain ⟨hr, h⟩ := h
          replace h := jm_call_s h
          obtain ⟨d1, vs, T, r1, M1, rfl, rfl, hl, hT1, h1, h2⟩ := h
          obtain ⟨c1, c2, c3⟩ := ih h1 he (fun v hv => by cases hv) (jf_loc (fun v hv => hS v (List.mem_append_left _ (List.mem_reverse.mpr hv)))) hM
          exact (ih h2 hP (jf_app c1 (fun v hv => hS v (List.mem_append_right _ hv))) hL c2).via c3
      case invokespecial z =>
        replace h := jm_bt h
        rcases h with ⟨ha, h⟩ | ⟨ha, h⟩
        · replace h := jm_d_s h
          obtain ⟨d1, rfl, h⟩ := h
          replace h := jm_a_s h
          obtain ⟨x, T, rfl, h⟩ := h
          replace h := jm_q_s h
          obtain ⟨q, rfl, h⟩ := h
          replace h := jm_btn h
          obtain ⟨hl, h⟩ := h
          exact ih h hP (jf_t hS) hL hM
        · replace he : (Nat.beq a 900 || P a) = true := he
          rw [ha] at he
          replace h := jm_btn h
          obtain ⟨hr, h⟩ := h
          replace h := jm_call_s h
          obtain ⟨d1, vs, T, r1, M1, rfl, rfl, hl, hT1, h1, h2⟩ := h
          obtain ⟨c1, c2, c3⟩ := ih h1 he (fun v hv => by cases hv) (jf_loc (fun v hv => hS v (List.mem_append_left _ (List.mem_reverse.mpr hv)))) hM
          exact (ih h2 hP (jf_app c1 (fun v hv => hS v (List.mem_append_right _ hv))) hL c2).via c3
      case invokestatic z =>
        replace h := jm_bt h
        rcases h with ⟨ha, h⟩ | ⟨ha, h⟩
        · replace h := jm_d_s h
          obtain ⟨d1, rfl, h⟩ := h
          replace h := jm_1_s h
          obtain ⟨y, T, rfl, h⟩ := h
          replace h := jm_1_s h
          obtain ⟨x, T, rfl, h⟩ := h
          replace h := jm_btn h
          obtain ⟨hl, h⟩ := h
          exact ih h hP (jf_c (jf_Vi _) (jf_t (jf_t hS))) hL hM
        replace h := jm_bt h
        rcases h with ⟨ha2, h⟩ | ⟨ha2, h⟩
        · replace h := jm_d_s h
          obtain ⟨d1, rfl, h⟩ := h
          replace h := jm_1_s h
          obtain ⟨y, T, rfl, h⟩ := h
          replace h := jm_1_s h
          obtain ⟨x, T, rfl, h⟩ := h
          replace h := jm_btn h
          obtain ⟨hl, h⟩ := h
          exact ih h hP (jf_c (jf_Vi _) (jf_t (jf_t hS))) hL hM
        replace h := jm_bt h
        rcases h with ⟨ha3, h⟩ | ⟨ha3, h⟩
        · replace h := jm_d_s h
          obtain ⟨d1, rfl, h⟩ := h
          replace h := jm_1_s h
          obtain ⟨n1, T, rfl, h⟩ := h
          replace h := jm_1_s h
          obtain ⟨dp, T, rfl, h⟩ := h
          replace h := jm_a_s h
          obtain ⟨y, T, rfl, h⟩ := h
          replace h := jm_1_s h
          obtain ⟨sp, T, rfl, h⟩ := h
          replace h := jm_a_s h
          obtain ⟨x, T, rfl, h⟩ := h
          replace h := jm_q_s h
          obtain ⟨q, rfl, h⟩ := h
          replace h := jm_q_s h
          obtain ⟨p, rfl, h⟩ := h
          replace h := jm_btn h
          obtain ⟨hl, h⟩ := h
          exact (ih h hP (jf_t (jf_t (jf_t (jf_t (jf_t hS))))) hL (jf_Mcp hM (jf_q (jf_t (jf_t (jf_t (jf_t hS))))))).via (jf_cp (jf_q (jf_t (jf_t hS))))
        · replace he : (Nat.beq a 901 || Nat.beq a 902 || Nat.beq a 903 || P a) = true := he
          rw [ha, ha2, ha3] at he
          replace h := jm_call_s h
          obtain ⟨d1, vs, T, r1, M1, rfl, rfl, hl, hT1, h1, h2⟩ := h
          obtain ⟨c1, c2, c3⟩ := ih h1 he (fun v hv => by cases hv) (jf_loc (fun v hv => hS v (List.mem_append_left _ (List.mem_reverse.mpr hv)))) hM
          exact (ih h2 hP (jf_app c1 (fun v hv => hS v (List.mem_append_right _ hv))) hL c2).via c3
      case ireturn =>
        replace h := jm_1_s h
        obtain ⟨x, T, rfl, h⟩ := h
        replace h := jm_e_s h
        obtain ⟨rfl, h⟩ := h
        replace h := jm_bt h
        rcases h with ⟨hz, h⟩ | ⟨hz, h⟩
        · by_cases hx : x = nI 0 ∨ x = nI 1
          · rw [if_pos hx] at h
            cases h
            exact ⟨fun v hv => by cases hv; exact jf_Vi _, hM, jf_rf M⟩
          · rw [if_neg hx] at h; cases h
        · cases h
          exact ⟨fun v hv => by cases hv; exact jf_Vi _, hM, jf_rf M⟩
      case areturn =>
        replace h := jm_a_s h
        obtain ⟨x, T, rfl, h⟩ := h
        replace h := jm_e_s h
        obtain ⟨rfl, h⟩ := h
        cases h
        exact ⟨fun v hv => by cases hv; exact jf_h hS, hM, jf_rf M⟩
      case return_ =>
        replace h := jm_e_s h
        obtain ⟨rfl, h⟩ := h
        cases h
        exact ⟨fun v hv => (by cases hv), hM, jf_rf M⟩
      all_goals (cases h)
theorem jf_D (hT : ∀ (i ix : Nat) (e : jm_T), P i = true → (jm_code i)[ix]? = some e → jf_e G P e = true) {d i ix : Nat} {r : Option jm_V} (h : jm_D d i ix L S M = some (r, N)) (hP : P i = true) (hS : jf_S G S) (hL : jf_L G L) (hM : jf_M G M) : jf_C G M r N := by
  obtain ⟨n, hn⟩ := jm_D_some.mp h
  exact jf_frame hT n _ _ _ _ _ _ _ _ hn hP hS hL hM
end JF
/-- the class's kinds and methods; the reference's -/
def jf_gX (k : Nat) : Bool := Nat.ble k 30 || (Nat.ble 71 k && Nat.ble k 76)
def jf_pX (i : Nat) : Bool := Nat.blt i 98
def jf_gY (k : Nat) : Bool := Nat.ble 31 k && Nat.ble k 70
def jf_pY (i : Nat) : Bool := Nat.ble 98 i && Nat.blt i 149
theorem jf_tX0 : ∀ i, i < 98 → (jm_code i).all (jf_e jf_gX jf_pX) = true := by decide +kernel
theorem jf_tX (i ix : Nat) (e : jm_T) (h : jf_pX i = true) (hc : (jm_code i)[ix]? = some e) : jf_e jf_gX jf_pX e = true := List.all_eq_true.mp (jf_tX0 i (Nat.le_of_ble_eq_true h)) e (List.mem_of_getElem? hc)
theorem jf_tY0 : ∀ i, i < 149 → 98 ≤ i → (jm_code i).all (jf_e jf_gY jf_pY) = true := by decide +kernel
theorem jf_tY (i ix : Nat) (e : jm_T) (h : jf_pY i = true) (hc : (jm_code i)[ix]? = some e) : jf_e jf_gY jf_pY e = true := by
  unfold jf_pY at h
  rw [Bool.and_eq_true] at h
  exact List.all_eq_true.mp (jf_tY0 i (Nat.le_of_ble_eq_true h.2) (Nat.le_of_ble_eq_true h.1)) e (List.mem_of_getElem? hc)
