/-! A small machine over the tables of the part before it: memory by kinds of cells, a step, its limit. -/
def jm_I (M : jm_M) (k i j : Nat) : Int32 := M.1 k i j
def jm_F (M : jm_M) (k i j : Nat) : jm_R := M.2.1 k i j
def jm_n (M : jm_M) (k i : Nat) : Nat := M.2.2.1 k i
def jm_c (M : jm_M) (k : Nat) : Nat := M.2.2.2.1 k
def jm_al (M : jm_M) : List (Nat × Nat) := M.2.2.2.2.1
def jm_sl (M : jm_M) : Nat := M.2.2.2.2.2
def jm_u3 {α : Type} (f : Nat → Nat → Nat → α) (k i j : Nat) (x : α) : Nat → Nat → Nat → α := fun k' i' j' => if k' = k ∧ i' = i ∧ j' = j then x else f k' i' j'
def jm_setI (M : jm_M) (k i j : Nat) (x : Int32) : jm_M := (jm_u3 M.1 k i j x, M.2)
def jm_setF (M : jm_M) (k i j : Nat) (x : jm_R) : jm_M := (M.1, jm_u3 M.2.1 k i j x, M.2.2)
/-- a new cell of kind k: its number is the count so far; length n, so many slots -/
def jm_mk (M : jm_M) (k n sl : Nat) : jm_M :=
  (fun k' i' j' => if k' = k ∧ i' = jm_c M k then 0 else M.1 k' i' j',
   fun k' i' j' => if k' = k ∧ i' = jm_c M k then none else M.2.1 k' i' j',
   fun k' i' => if k' = k ∧ i' = jm_c M k then n else M.2.2.1 k' i',
   fun k' => if k' = k then jm_c M k + 1 else jm_c M k',
   jm_al M ++ [(k, jm_c M k)], jm_sl M + sl)
/-- a row of references copied -/
def jm_cp (M : jm_M) (p : Nat × Nat) (sp : Nat) (q : Nat × Nat) (dp n : Nat) : jm_M :=
  (M.1, fun k' i' j' => if k' = q.1 ∧ i' = q.2 ∧ dp ≤ j' ∧ j' < dp + n then M.2.1 p.1 p.2 (sp + (j' - dp)) else M.2.1 k' i' j', M.2.2)
def jm_in (j : Int32) (n : Nat) : Bool := !decide (j < 0) && Nat.blt j.toNatClampNeg n
def jm_ld (L : List (Option jm_V)) (a : Nat) : Option jm_V := match L[a]? with
  | some (some v) => some v
  | _ => none
def jm_loc (j : Nat) (vs : List jm_V) : List (Option jm_V) := vs.map some ++ List.replicate (jm_mL j - vs.length) none
def jm_cl (k ci : Nat) : Bool := Nat.beq (jm_kd k).1 0 && Nat.beq (jm_kd k).2.1 ci
def jm_ar (k g t : Nat) : Bool := Nat.beq (jm_kd k).1 g && Nat.beq (jm_kd k).2.1 t
def jm_rc (j : Nat) (S : List jm_V) : Bool := match S with
  | .inr (some q) :: _ => jm_cl q.1 (jm_mc j)
  | _ => false
abbrev jm_Z : Type := Option (Option jm_V × jm_M)
abbrev jm_K : Type := Nat → Nat → Nat → List (Option jm_V) → List jm_V → jm_M → jm_Z
def jm_bind (x : jm_Z) (f : Option jm_V → jm_M → jm_Z) : jm_Z := match x with
  | some (r, M) => f r M
  | none => none
/-- an int on top, a reference on top, anything on top -/
def jm_1 (S : List jm_V) (f : Int32 → List jm_V → jm_Z) : jm_Z := match S with
  | .inl x :: S => f x S
  | _ => none
def jm_a (S : List jm_V) (f : jm_R → List jm_V → jm_Z) : jm_Z := match S with
  | .inr x :: S => f x S
  | _ => none
def jm_w (S : List jm_V) (f : jm_V → List jm_V → jm_Z) : jm_Z := match S with
  | x :: S => f x S
  | _ => none
def jm_e (S : List jm_V) (f : jm_Z) : jm_Z := match S with
  | [] => f
  | _ => none
/-- a reference that is not null; a value as an int, as a reference -/
def jm_q (x : jm_R) (f : Nat × Nat → jm_Z) : jm_Z := match x with
  | some q => f q
  | none => none
def jm_q0 (x : jm_R) (g : jm_Z) (f : Nat × Nat → jm_Z) : jm_Z := match x with
  | some q => f q
  | none => g
def jm_vi (v : Option jm_V) (f : Int32 → jm_Z) : jm_Z := match v with
  | some (.inl x) => f x
  | _ => none
def jm_vr (v : Option jm_V) (f : jm_R → jm_Z) : jm_Z := match v with
  | some (.inr x) => f x
  | _ => none
def jm_d (d : Nat) (f : Nat → jm_Z) : jm_Z := match d with
  | d' + 1 => f d'
  | 0 => none
def jm_o (x : Option Nat) (f : Nat → jm_Z) : jm_Z := match x with
  | some q => f q
  | none => none
def jm_v2 (v : jm_V) (f : Int32 → jm_Z) (g : jm_R → jm_Z) : jm_Z := match v with
  | .inl x => f x
  | .inr x => g x
def jm_lk (t : List (Int32 × Nat)) (dflt : Nat) (x : Int32) (f : Nat → jm_Z) : jm_Z := match t with
  | [] => f dflt
  | (k, g) :: r => if x = k then f g else jm_lk r dflt x f
/-- n values off the stack, method a called with them -/
def jm_call (K : jm_K) (d i ix a n : Nat) (L : List (Option jm_V)) (S : List jm_V) (M : jm_M) : jm_Z := jm_d d fun d' =>
  bif Nat.ble n S.length && Nat.ble (S.length - n) 8 then
    jm_bind (K d' a 0 (jm_loc a (S.take n).reverse) [] M) (fun r M1 => K d i (ix + 1) L (r.toList ++ S.drop n) M1)
  else none
def jm_ix (j : Int32) (n : Nat) (f : Nat → jm_Z) : jm_Z := bif jm_in j n then f j.toNatClampNeg else none
/-- one step; K is what comes behind it -/
def jm_st (K : jm_K) (d i ix : Nat) (L : List (Option jm_V)) (S : List jm_V) (M : jm_M) : jm_Z :=
  match (jm_code i)[ix]? with
  | none => none
  | some (ins, _, _, a, b, v) => match ins with
    | .iconst _ => K d i (ix + 1) L (.inl v :: S) M
    | .bipush _ => K d i (ix + 1) L (.inl v :: S) M
    | .sipush _ => K d i (ix + 1) L (.inl v :: S) M
    | .ldc _ => bif Nat.beq b 1 then K d i (ix + 1) L (.inr (some (a, 0)) :: S) M else K d i (ix + 1) L (.inl v :: S) M
    | .aconst_null => K d i (ix + 1) L (.inr none :: S) M
    | .iload_n _ => jm_vi (jm_ld L a) fun x => K d i (ix + 1) L (.inl x :: S) M
    | .iload _ => jm_vi (jm_ld L a) fun x => K d i (ix + 1) L (.inl x :: S) M
    | .aload_n _ => jm_vr (jm_ld L a) fun x => K d i (ix + 1) L (.inr x :: S) M
    | .aload _ => jm_vr (jm_ld L a) fun x => K d i (ix + 1) L (.inr x :: S) M
    | .istore_n _ => jm_1 S fun x S => K d i (ix + 1) (L.set a (some (.inl x))) S M
    | .istore _ => jm_1 S fun x S => K d i (ix + 1) (L.set a (some (.inl x))) S M
    | .astore_n _ => jm_a S fun x S => K d i (ix + 1) (L.set a (some (.inr x))) S M
    | .astore _ => jm_a S fun x S => K d i (ix + 1) (L.set a (some (.inr x))) S M
    | .iinc _ _ => jm_vi (jm_ld L a) fun x => K d i (ix + 1) (L.set a (some (.inl (x + v)))) S M
    | .iadd => jm_1 S fun y S => jm_1 S fun x S => K d i (ix + 1) L (.inl (x + y) :: S) M
    | .isub => jm_1 S fun y S => jm_1 S fun x S => K d i (ix + 1) L (.inl (x - y) :: S) M
    | .imul => jm_1 S fun y S => jm_1 S fun x S => K d i (ix + 1) L (.inl (x * y) :: S) M
    | .iand => jm_1 S fun y S => jm_1 S fun x S => K d i (ix + 1) L (.inl (x &&& y) :: S) M
    | .ishr => jm_1 S fun y S => jm_1 S fun x S => K d i (ix + 1) L (.inl (x >>> (y &&& 31)) :: S) M
    | .idiv => jm_1 S fun y S => jm_1 S fun x S => if y = nI 0 then none else K d i (ix + 1) L (.inl (x / y) :: S) M
    | .dup => jm_w S fun w S => K d i (ix + 1) L (w :: w :: S) M
    | .pop => jm_w S fun _ S => K d i (ix + 1) L S M
    | .dup_x1 => jm_w S fun w S => jm_w S fun u S => K d i (ix + 1) L (w :: u :: w :: S) M
    | .dup2 => jm_w S fun w S => jm_w S fun u S => K d i (ix + 1) L (w :: u :: w :: u :: S) M
    | .dup_x2 => jm_w S fun w S => jm_w S fun u S => jm_w S fun z S => K d i (ix + 1) L (w :: u :: z :: w :: S) M
    | .ifCond .eq _ => jm_1 S fun x S => if x = nI 0 then K d i a L S M else K d i (ix + 1) L S M
    | .ifCond .ne _ => jm_1 S fun x S => if x = nI 0 then K d i (ix + 1) L S M else K d i a L S M
    | .ifCond .lt _ => jm_1 S fun x S => if x < nI 0 then K d i a L S M else K d i (ix + 1) L S M
    | .ifCond .ge _ => jm_1 S fun x S => if nI 0 ≤ x then K d i a L S M else K d i (ix + 1) L S M
    | .ifCond .gt _ => jm_1 S fun x S => if nI 0 < x then K d i a L S M else K d i (ix + 1) L S M
    | .ifCond .le _ => jm_1 S fun x S => if x ≤ nI 0 then K d i a L S M else K d i (ix + 1) L S M
    | .if_icmp .eq _ => jm_1 S fun y S => jm_1 S fun x S => if x = y then K d i a L S M else K d i (ix + 1) L S M
    | .if_icmp .ne _ => jm_1 S fun y S => jm_1 S fun x S => if x = y then K d i (ix + 1) L S M else K d i a L S M
    | .if_icmp .lt _ => jm_1 S fun y S => jm_1 S fun x S => if x < y then K d i a L S M else K d i (ix + 1) L S M
    | .if_icmp .ge _ => jm_1 S fun y S => jm_1 S fun x S => if y ≤ x then K d i a L S M else K d i (ix + 1) L S M
    | .if_icmp .gt _ => jm_1 S fun y S => jm_1 S fun x S => if y < x then K d i a L S M else K d i (ix + 1) L S M
    | .if_icmp .le _ => jm_1 S fun y S => jm_1 S fun x S => if x ≤ y then K d i a L S M else K d i (ix + 1) L S M
    | .if_acmp .eq _ => jm_a S fun y S => jm_a S fun x S => if x = y then K d i a L S M else none
    | .if_acmp .ne _ => jm_a S fun y S => jm_a S fun x S => if x = y then K d i (ix + 1) L S M else none
    | .goto _ => K d i a L S M
    | .tableswitch _ lo hi _ => jm_1 S fun x S => if x.toInt < lo ∨ hi < x.toInt then K d i a L S M else jm_o ((jm_sw b)[(x.toInt - lo).toNat]?) fun t => K d i t L S M
    | .lookupswitch _ _ => jm_1 S fun x S => jm_lk (jm_sx b) a x fun t => K d i t L S M
    | .iaload => jm_1 S fun j S => jm_a S fun x S => jm_q x fun q => bif jm_ar q.1 1 0 || Nat.beq (jm_kd q.1).1 3 || Nat.beq (jm_kd q.1).1 4 then jm_ix j (jm_n M q.1 q.2) fun t => K d i (ix + 1) L (.inl (jm_I M q.1 q.2 t) :: S) M else none
    | .baload => jm_1 S fun j S => jm_a S fun x S => jm_q x fun q => bif jm_ar q.1 1 1 then jm_ix j (jm_n M q.1 q.2) fun t => K d i (ix + 1) L (.inl (jm_I M q.1 q.2 t) :: S) M else none
    | .aaload => jm_1 S fun j S => jm_a S fun x S => jm_q x fun q => bif Nat.beq (jm_kd q.1).1 2 then jm_ix j (jm_n M q.1 q.2) fun t => K d i (ix + 1) L (.inr (jm_F M q.1 q.2 t) :: S) M else none
    | .iastore => jm_1 S fun y S => jm_1 S fun j S => jm_a S fun x S => jm_q x fun q => bif jm_ar q.1 1 0 then jm_ix j (jm_n M q.1 q.2) fun t => K d i (ix + 1) L S (jm_setI M q.1 q.2 t y) else none
    | .bastore => jm_1 S fun y S => jm_1 S fun j S => jm_a S fun x S => jm_q x fun q => bif jm_ar q.1 1 1 then jm_ix j (jm_n M q.1 q.2) fun t => K d i (ix + 1) L S (jm_setI M q.1 q.2 t (vp_nar .boolean y)) else none
    | .aastore => jm_a S fun y S => jm_1 S fun j S => jm_a S fun x S => jm_q x fun q => bif Nat.beq (jm_kd q.1).1 2 && jm_as (jm_kd q.1).2.1 y then jm_ix j (jm_n M q.1 q.2) fun t => K d i (ix + 1) L S (jm_setF M q.1 q.2 t y) else none
    | .arraylength => jm_a S fun x S => jm_q x fun q => bif Nat.beq (jm_kd q.1).1 0 || Nat.ble 6 (jm_kd q.1).1 then none else K d i (ix + 1) L (.inl (Int32.ofNat (jm_n M q.1 q.2)) :: S) M
    | .getfield _ => jm_a S fun x S => jm_q x fun q => bif jm_cl q.1 a then (bif jm_fi a b then K d i (ix + 1) L (.inl (jm_I M q.1 q.2 b) :: S) M else K d i (ix + 1) L (.inr (jm_F M q.1 q.2 b) :: S) M) else none
    | .putfield _ => jm_w S fun y S => jm_a S fun x S => jm_q x fun q => bif jm_cl q.1 a then jm_v2 y (fun z => bif jm_fi a b then K d i (ix + 1) L S (jm_setI M q.1 q.2 b z) else none) (fun z => bif jm_fi a b then none else K d i (ix + 1) L S (jm_setF M q.1 q.2 b z)) else none
    | .getstatic _ => K d i (ix + 1) L (.inr (some (a, 0)) :: S) M
    | .new _ => K d i (ix + 1) L (.inr (some (a, jm_c M a)) :: S) (jm_mk M a 0 b)
    | .newarray _ => jm_1 S fun x S => jm_ix x 10001 fun t => K d i (ix + 1) L (.inr (some (a, jm_c M a)) :: S) (jm_mk M a t t)
    | .anewarray _ => jm_1 S fun x S => jm_ix x 10001 fun t => K d i (ix + 1) L (.inr (some (a, jm_c M a)) :: S) (jm_mk M a t t)
    | .checkcast _ => jm_a S fun x S => jm_q0 x (K d i (ix + 1) L (.inr none :: S) M) fun q => bif (bif Nat.ble 100 a then jm_ar q.1 2 (a - 100) else jm_cl q.1 a) then K d i (ix + 1) L (.inr (some q) :: S) M else none
    | .invokevirtual _ => bif Nat.beq a 904 then (jm_d d fun _ => jm_a S fun x S => jm_q x fun q => bif jm_ar q.1 2 jm_tO && Nat.ble S.length 8 then K d i (ix + 1) L (.inr (some (jm_kMi, 0)) :: S) M else none) else bif jm_rc a (S.drop b) then jm_call K d i ix a (b + 1) L S M else none
    | .invokespecial _ => bif Nat.beq a 900 then (jm_d d fun _ => jm_a S fun x S => jm_q x fun _ => bif Nat.ble S.length 8 then K d i (ix + 1) L S M else none) else bif jm_rc a (S.drop b) then jm_call K d i ix a (b + 1) L S M else none
    | .invokestatic _ => bif Nat.beq a 901 then (jm_d d fun _ => jm_1 S fun y S => jm_1 S fun x S => bif Nat.ble S.length 8 then K d i (ix + 1) L (.inl (if x < y then y else x) :: S) M else none) else bif Nat.beq a 902 then (jm_d d fun _ => jm_1 S fun y S => jm_1 S fun x S => bif Nat.ble S.length 8 then K d i (ix + 1) L (.inl (if y < x then y else x) :: S) M else none) else bif Nat.beq a 903 then (jm_d d fun _ => jm_1 S fun n S => jm_1 S fun dp S => jm_a S fun y S => jm_1 S fun sp S => jm_a S fun x S => jm_q y fun q => jm_q x fun p => bif jm_ar q.1 2 jm_tO && jm_ar p.1 2 jm_tO && (jm_in sp 20000 && jm_in dp 20000 && jm_in n 20000) && Nat.ble (sp.toNatClampNeg + n.toNatClampNeg) (jm_n M p.1 p.2) && Nat.ble (dp.toNatClampNeg + n.toNatClampNeg) (jm_n M q.1 q.2) && Nat.ble S.length 8 then K d i (ix + 1) L S (jm_cp M p sp.toNatClampNeg q dp.toNatClampNeg n.toNatClampNeg) else none) else jm_call K d i ix a b L S M
    | .ireturn => jm_1 S fun x S => jm_e S (bif jm_rz i then (if x = nI 0 ∨ x = nI 1 then some (some (.inl x), M) else none) else some (some (.inl x), M))
    | .areturn => jm_a S fun x S => jm_e S (some (some (.inr x), M))
    | .return_ => jm_e S (some (none, M))
    | _ => none
def jm_run : Nat → jm_K
  | 0 => fun _ _ _ _ _ _ => none
  | n + 1 => jm_st (jm_run n)
/-- K knows at least what J knows -/
def jm_le (J K : jm_K) : Prop := ∀ d i ix L S M z, J d i ix L S M = some z → K d i ix L S M = some z
/-- what jm_st is as a function of what comes behind it: it grows with it, and looks at it in few places -/
def jm_fin (F : jm_K → jm_Z) : Prop := (∀ J K, jm_le J K → ∀ z, F J = some z → F K = some z) ∧ ∀ (K : jm_K) (R : Nat → jm_K), (∀ n k, jm_le (R n) (R (n + k))) → (∀ d i ix L S M z, K d i ix L S M = some z → ∃ n, R n d i ix L S M = some z) → ∀ z, F K = some z → ∃ n, F (R n) = some z
theorem jm_fin_c (x : jm_Z) : jm_fin (fun _ => x) := ⟨fun _ _ _ _ h => h, fun _ _ _ _ _ h => ⟨0, h⟩⟩
theorem jm_fin_k (d i ix : Nat) (L : List (Option jm_V)) (S : List jm_V) (M : jm_M) : jm_fin (fun K => K d i ix L S M) := ⟨fun _ _ h z hz => h _ _ _ _ _ _ z hz, fun _ _ _ h z hz => h _ _ _ _ _ _ z hz⟩
theorem jm_fin_b (c : Bool) {F G : jm_K → jm_Z} (hF : jm_fin F) (hG : jm_fin G) : jm_fin (fun K => bif c then F K else G K) := by
  cases c
  · exact hG
  · exact hF
theorem jm_fin_i {c : Prop} {inst : Decidable c} {F G : jm_K → jm_Z} (hF : jm_fin F) (hG : jm_fin G) : jm_fin (fun K => if c then F K else G K) := by
  by_cases h : c
  · simp only [if_pos h]; exact hF
  · simp only [if_neg h]; exact hG
theorem jm_fin_ix (j : Int32) (n : Nat) {F : jm_K → Nat → jm_Z} (h : ∀ t, jm_fin (fun K => F K t)) : jm_fin (fun K => jm_ix j n (F K)) := jm_fin_b _ (h _) (jm_fin_c _)
theorem jm_fin_q0 (x : jm_R) {G : jm_K → jm_Z} {F : jm_K → Nat × Nat → jm_Z} (hG : jm_fin G) (hF : ∀ q, jm_fin (fun K => F K q)) : jm_fin (fun K => jm_q0 x (G K) (F K)) := by
  cases x
  · exact hG
  · exact hF _
theorem jm_fin_v2 (v : jm_V) {F : jm_K → Int32 → jm_Z} {G : jm_K → jm_R → jm_Z} (hF : ∀ x, jm_fin (fun K => F K x)) (hG : ∀ q, jm_fin (fun K => G K q)) : jm_fin (fun K => jm_v2 v (F K) (G K)) := by
  cases v
  · exact hF _
  · exact hG _
theorem jm_fin_lk (t : List (Int32 × Nat)) (d : Nat) (x : Int32) {F : jm_K → Nat → jm_Z} (h : ∀ t, jm_fin (fun K => F K t)) : jm_fin (fun K => jm_lk t d x (F K)) := by
  induction t with
  | nil => exact h _
  | cons p r ih => exact jm_fin_i (h _) ih
theorem jm_bind_s {x : jm_Z} {f : Option jm_V → jm_M → jm_Z} {z : Option jm_V × jm_M} (h : jm_bind x f = some z) : ∃ r M, x = some (r, M) ∧ f r M = some z := by
  unfold jm_bind at h
  split at h
  · exact ⟨_, _, rfl, h⟩
  · cases h
theorem jm_fin_bind {F : jm_K → jm_Z} {G : jm_K → Option jm_V → jm_M → jm_Z} (hF : jm_fin F) (hG : ∀ r M, jm_fin (fun K => G K r M)) : jm_fin (fun K => jm_bind (F K) (G K)) := by
  refine ⟨fun J K h z hz => ?_, fun K R hR hK z hz => ?_⟩
  · obtain ⟨r, M, h1, h2⟩ := jm_bind_s hz
    show jm_bind (F K) (G K) = some z
    rw [hF.1 J K h _ h1]
    exact (hG r M).1 J K h _ h2
  · obtain ⟨r, M, h1, h2⟩ := jm_bind_s hz
    obtain ⟨n1, e1⟩ := hF.2 K R hR hK _ h1
    obtain ⟨n2, e2⟩ := (hG r M).2 K R hR hK _ h2
    refine ⟨n1 + n2, ?_⟩
    show jm_bind (F (R (n1 + n2))) (G (R (n1 + n2))) = some z
    rw [hF.1 _ _ (hR n1 n2) _ e1]
    have := (hG r M).1 _ _ (hR n2 n1) _ e2
    rw [Nat.add_comm n2 n1] at this
    exact this
theorem jm_1_s {S : List jm_V} {f : Int32 → List jm_V → jm_Z} {z : Option jm_V × jm_M} (h : jm_1 S f = some z) : ∃ x T, S = .inl x :: T ∧ f x T = some z := by
  unfold jm_1 at h
  split at h
  · exact ⟨_, _, rfl, h⟩
  · cases h
theorem jm_fin_1 (S : List jm_V) {F : jm_K → Int32 → List jm_V → jm_Z} (h : ∀ x T, jm_fin (fun K => F K x T)) : jm_fin (fun K => jm_1 S (F K)) := by
  unfold jm_1
  split
  · exact h _ _
  · exact jm_fin_c _
theorem jm_a_s {S : List jm_V} {f : jm_R → List jm_V → jm_Z} {z : Option jm_V × jm_M} (h : jm_a S f = some z) : ∃ x T, S = .inr x :: T ∧ f x T = some z := by
  unfold jm_a at h
  split at h
  · exact ⟨_, _, rfl, h⟩
  · cases h
theorem jm_fin_a (S : List jm_V) {F : jm_K → jm_R → List jm_V → jm_Z} (h : ∀ x T, jm_fin (fun K => F K x T)) : jm_fin (fun K => jm_a S (F K)) := by
  unfold jm_a
  split
  · exact h _ _
  · exact jm_fin_c _
theorem jm_w_s {S : List jm_V} {f : jm_V → List jm_V → jm_Z} {z : Option jm_V × jm_M} (h : jm_w S f = some z) : ∃ x T, S = x :: T ∧ f x T = some z := by
  unfold jm_w at h
  split at h
  · exact ⟨_, _, rfl, h⟩
  · cases h
theorem jm_fin_w (S : List jm_V) {F : jm_K → jm_V → List jm_V → jm_Z} (h : ∀ x T, jm_fin (fun K => F K x T)) : jm_fin (fun K => jm_w S (F K)) := by
  unfold jm_w
  split
  · exact h _ _
  · exact jm_fin_c _
theorem jm_q_s {S : jm_R} {f : Nat × Nat → jm_Z} {z : Option jm_V × jm_M} (h : jm_q S f = some z) : ∃ x, S = some x ∧ f x = some z := by
  unfold jm_q at h
  split at h
  · exact ⟨_, rfl, h⟩
  · cases h
theorem jm_fin_q (S : jm_R) {F : jm_K → Nat × Nat → jm_Z} (h : ∀ x, jm_fin (fun K => F K x)) : jm_fin (fun K => jm_q S (F K)) := by
  unfold jm_q
  split
  · exact h _
  · exact jm_fin_c _
theorem jm_vi_s {S : Option jm_V} {f : Int32 → jm_Z} {z : Option jm_V × jm_M} (h : jm_vi S f = some z) : ∃ x, S = some (.inl x) ∧ f x = some z := by
  unfold jm_vi at h
  split at h
  · exact ⟨_, rfl, h⟩
  · cases h
theorem jm_fin_vi (S : Option jm_V) {F : jm_K → Int32 → jm_Z} (h : ∀ x, jm_fin (fun K => F K x)) : jm_fin (fun K => jm_vi S (F K)) := by
  unfold jm_vi
  split
  · exact h _
  · exact jm_fin_c _
theorem jm_vr_s {S : Option jm_V} {f : jm_R → jm_Z} {z : Option jm_V × jm_M} (h : jm_vr S f = some z) : ∃ x, S = some (.inr x) ∧ f x = some z := by
  unfold jm_vr at h
  split at h
  · exact ⟨_, rfl, h⟩
  · cases h
theorem jm_fin_vr (S : Option jm_V) {F : jm_K → jm_R → jm_Z} (h : ∀ x, jm_fin (fun K => F K x)) : jm_fin (fun K => jm_vr S (F K)) := by
  unfold jm_vr
  split
  · exact h _
  · exact jm_fin_c _
theorem jm_d_s {S : Nat} {f : Nat → jm_Z} {z : Option jm_V × jm_M} (h : jm_d S f = some z) : ∃ x, S = x + 1 ∧ f x = some z := by
  unfold jm_d at h
  split at h
  · exact ⟨_, rfl, h⟩
  · cases h
theorem jm_fin_d (S : Nat) {F : jm_K → Nat → jm_Z} (h : ∀ x, jm_fin (fun K => F K x)) : jm_fin (fun K => jm_d S (F K)) := by
  unfold jm_d
  split
  · exact h _
  · exact jm_fin_c _
theorem jm_o_s {S : Option Nat} {f : Nat → jm_Z} {z : Option jm_V × jm_M} (h : jm_o S f = some z) : ∃ x, S = some x ∧ f x = some z := by
  unfold jm_o at h
  split at h
  · exact ⟨_, rfl, h⟩
  · cases h
theorem jm_fin_o (S : Option Nat) {F : jm_K → Nat → jm_Z} (h : ∀ x, jm_fin (fun K => F K x)) : jm_fin (fun K => jm_o S (F K)) := by
  unfold jm_o
  split
  · exact h _
  · exact jm_fin_c _
theorem jm_e_s {S : List jm_V} {f : jm_Z} {z : Option jm_V × jm_M} (h : jm_e S f = some z) : S = [] ∧ f = some z := by
  unfold jm_e at h
  split at h
  · exact ⟨rfl, h⟩
  · cases h
theorem jm_fin_call (d i ix a n : Nat) (L : List (Option jm_V)) (S : List jm_V) (M : jm_M) : jm_fin (fun K => jm_call K d i ix a n L S M) :=
  jm_fin_d d (fun _ => jm_fin_b _ (jm_fin_bind (jm_fin_k _ _ _ _ _ _) (fun _ _ => jm_fin_k _ _ _ _ _ _)) (jm_fin_c _))
set_option maxHeartbeats 4000000 in
theorem jm_st_f (d i ix : Nat) (L : List (Option jm_V)) (S : List jm_V) (M : jm_M) : jm_fin (fun K => jm_st K d i ix L S M) := by
  unfold jm_st
  cases (jm_code i)[ix]? with
  | none => exact jm_fin_c _
  | some e =>
    obtain ⟨ins, pc, len, a, b, v⟩ := e
    cases ins
    case ifCond c off => cases c <;> exact jm_fin_1 _ (fun _ _ => jm_fin_i (jm_fin_k _ _ _ _ _ _) (jm_fin_k _ _ _ _ _ _))
    case if_acmp c off => cases c <;> exact jm_fin_a _ (fun _ _ => jm_fin_a _ (fun _ _ => jm_fin_i (jm_fin_k _ _ _ _ _ _) (jm_fin_c _)))
    case if_icmp c off => cases c <;> exact jm_fin_1 _ (fun _ _ => jm_fin_1 _ (fun _ _ => jm_fin_i (jm_fin_k _ _ _ _ _ _) (jm_fin_k _ _ _ _ _ _)))
    all_goals first
      | exact jm_fin_k _ _ _ _ _ _
      | exact jm_fin_c _
      | exact jm_fin_vi _ (fun _ => jm_fin_k _ _ _ _ _ _)
      | exact jm_fin_vr _ (fun _ => jm_fin_k _ _ _ _ _ _)
      | exact jm_fin_1 _ (fun _ _ => jm_fin_k _ _ _ _ _ _)
      | exact jm_fin_a _ (fun _ _ => jm_fin_k _ _ _ _ _ _)
      | exact jm_fin_w _ (fun _ _ => jm_fin_k _ _ _ _ _ _)
      | exact jm_fin_1 _ (fun _ _ => jm_fin_1 _ (fun _ _ => jm_fin_k _ _ _ _ _ _))
      | exact jm_fin_1 _ (fun _ _ => jm_fin_1 _ (fun _ _ => jm_fin_i (jm_fin_c _) (jm_fin_k _ _ _ _ _ _)))
      | exact jm_fin_w _ (fun _ _ => jm_fin_w _ (fun _ _ => jm_fin_k _ _ _ _ _ _))
      | exact jm_fin_w _ (fun _ _ => jm_fin_w _ (fun _ _ => jm_fin_w _ (fun _ _ => jm_fin_k _ _ _ _ _ _)))
      | exact jm_fin_1 _ (fun _ _ => jm_fin_i (jm_fin_k _ _ _ _ _ _) (jm_fin_o _ (fun _ => jm_fin_k _ _ _ _ _ _)))
      | exact jm_fin_1 _ (fun _ _ => jm_fin_lk _ _ _ (fun _ => jm_fin_k _ _ _ _ _ _))
      | exact jm_fin_1 _ (fun _ _ => jm_fin_a _ (fun _ _ => jm_fin_q _ (fun _ => jm_fin_b _ (jm_fin_ix _ _ (fun _ => jm_fin_k _ _ _ _ _ _)) (jm_fin_c _))))
      | exact jm_fin_1 _ (fun _ _ => jm_fin_1 _ (fun _ _ => jm_fin_a _ (fun _ _ => jm_fin_q _ (fun _ => jm_fin_b _ (jm_fin_ix _ _ (fun _ => jm_fin_k _ _ _ _ _ _)) (jm_fin_c _)))))
      | exact jm_fin_a _ (fun _ _ => jm_fin_1 _ (fun _ _ => jm_fin_a _ (fun _ _ => jm_fin_q _ (fun _ => jm_fin_b _ (jm_fin_ix _ _ (fun _ => jm_fin_k _ _ _ _ _ _)) (jm_fin_c _)))))
      | exact jm_fin_a _ (fun _ _ => jm_fin_q _ (fun _ => jm_fin_b _ (jm_fin_c _) (jm_fin_k _ _ _ _ _ _)))
      | exact jm_fin_a _ (fun _ _ => jm_fin_q _ (fun _ => jm_fin_b _ (jm_fin_b _ (jm_fin_k _ _ _ _ _ _) (jm_fin_k _ _ _ _ _ _)) (jm_fin_c _)))
      | exact jm_fin_w _ (fun _ _ => jm_fin_a _ (fun _ _ => jm_fin_q _ (fun _ => jm_fin_b _ (jm_fin_v2 _ (fun _ => jm_fin_b _ (jm_fin_k _ _ _ _ _ _) (jm_fin_c _)) (fun _ => jm_fin_b _ (jm_fin_c _) (jm_fin_k _ _ _ _ _ _))) (jm_fin_c _))))
      | exact jm_fin_1 _ (fun _ _ => jm_fin_ix _ _ (fun _ => jm_fin_k _ _ _ _ _ _))
      | exact jm_fin_a _ (fun _ _ => jm_fin_q0 _ (jm_fin_k _ _ _ _ _ _) (fun _ => jm_fin_b _ (jm_fin_k _ _ _ _ _ _) (jm_fin_c _)))
      | exact jm_fin_b _ (jm_fin_call _ _ _ _ _ _ _ _) (jm_fin_c _)
      | exact jm_fin_b _ (jm_fin_d _ (fun _ => jm_fin_a _ (fun _ _ => jm_fin_q _ (fun _ => jm_fin_b _ (jm_fin_k _ _ _ _ _ _) (jm_fin_c _))))) (jm_fin_b _ (jm_fin_call _ _ _ _ _ _ _ _) (jm_fin_c _))
      | exact jm_fin_b _ (jm_fin_d _ (fun _ => jm_fin_1 _ (fun _ _ => jm_fin_1 _ (fun _ _ => jm_fin_b _ (jm_fin_k _ _ _ _ _ _) (jm_fin_c _))))) (jm_fin_b _ (jm_fin_d _ (fun _ => jm_fin_1 _ (fun _ _ => jm_fin_1 _ (fun _ _ => jm_fin_b _ (jm_fin_k _ _ _ _ _ _) (jm_fin_c _))))) (jm_fin_b _ (jm_fin_d _ (fun _ => jm_fin_1 _ (fun _ _ => jm_fin_1 _ (fun _ _ => jm_fin_a _ (fun _ _ => jm_fin_1 _ (fun _ _ => jm_fin_a _ (fun _ _ => jm_fin_q _ (fun _ => jm_fin_q _ (fun _ => jm_fin_b _ (jm_fin_k _ _ _ _ _ _) (jm_fin_c _)))))))))) (jm_fin_call _ _ _ _ _ _ _ _)))
      | exact jm_fin_b _ (jm_fin_k _ _ _ _ _ _) (jm_fin_k _ _ _ _ _ _)
      | exact jm_fin_b _ (jm_fin_d _ (fun _ => jm_fin_a _ (fun _ _ => jm_fin_q _ (fun _ => jm_fin_b _ (jm_fin_k _ _ _ _ _ _) (jm_fin_c _))))) (jm_fin_b _ (jm_fin_call _ _ _ _ _ _ _ _) (jm_fin_c _))
theorem jm_run_s (n : Nat) : jm_le (jm_run n) (jm_run (n + 1)) := by
  induction n with
  | zero => intro d i ix L S M z h; cases h
  | succ n ih => exact fun d i ix L S M z h => (jm_st_f d i ix L S M).1 _ _ ih z h
theorem jm_run_le (n k : Nat) : jm_le (jm_run n) (jm_run (n + k)) := by
  induction k with
  | zero => exact fun _ _ _ _ _ _ _ h => h
  | succ k ih => exact fun d i ix L S M z h => jm_run_s (n + k) d i ix L S M z (ih d i ix L S M z h)
/-- the limit: what the machine comes to, if it comes to an end -/
noncomputable def jm_D : jm_K := fun d i ix L S M => match Classical.propDecidable (∃ z n, jm_run n d i ix L S M = some z) with
  | isTrue h => some (Classical.choose h)
  | isFalse _ => none
theorem jm_D_some {d i ix : Nat} {L : List (Option jm_V)} {S : List jm_V} {M : jm_M} {z : Option jm_V × jm_M} : jm_D d i ix L S M = some z ↔ ∃ n, jm_run n d i ix L S M = some z := by
  unfold jm_D
  constructor
  · intro h
    split at h
    · rename_i hz _
      have := Classical.choose_spec hz
      rw [Option.some.inj h] at this
      exact this
    · cases h
  · intro ⟨n, h⟩
    split
    · rename_i hz _
      obtain ⟨n', h'⟩ := Classical.choose_spec hz
      have a1 := jm_run_le n n' _ _ _ _ _ _ _ h
      have a2 := jm_run_le n' n _ _ _ _ _ _ _ h'
      rw [Nat.add_comm n' n, a1] at a2
      exact a2.symm
    · rename_i hz _
      exact absurd ⟨z, n, h⟩ hz
/-- the limit is what a step makes of it -/
theorem jm_D_st (d i ix : Nat) (L : List (Option jm_V)) (S : List jm_V) (M : jm_M) : jm_D d i ix L S M = jm_st jm_D d i ix L S M := by
  have key : ∀ z, jm_D d i ix L S M = some z ↔ jm_st jm_D d i ix L S M = some z := by
    intro z
    constructor
    · intro h
      obtain ⟨n, hn⟩ := jm_D_some.mp h
      cases n with
      | zero => cases hn
      | succ n => exact (jm_st_f d i ix L S M).1 _ _ (fun _ _ _ _ _ _ _ h => jm_D_some.mpr ⟨n, h⟩) z hn
    · intro h
      obtain ⟨n, hn⟩ := (jm_st_f d i ix L S M).2 jm_D jm_run jm_run_le (fun _ _ _ _ _ _ _ h => jm_D_some.mp h) z h
      exact jm_D_some.mpr ⟨n + 1, hn⟩
  cases h : jm_D d i ix L S M with
  | some z => exact ((key z).mp h).symm
  | none =>
    cases h2 : jm_st jm_D d i ix L S M with
    | some z => rw [(key z).mpr h2] at h; cases h
    | none => rfl
theorem jm_D_fix : jm_D = jm_st jm_D := by
  funext d i ix L S M
  exact jm_D_st d i ix L S M
/-- k steps -/
noncomputable def jm_it : Nat → jm_K
  | 0 => jm_D
  | k + 1 => jm_st (jm_it k)
theorem jm_it_D (k : Nat) : jm_it k = jm_D := by
  induction k with
  | zero => rfl
  | succ k ih => show jm_st (jm_it k) = jm_D; rw [ih]; exact jm_D_fix.symm
