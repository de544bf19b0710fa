/-! The small machine is sound: one instruction after the other. -/
def jm_pc (i ix : Nat) : Nat := match (jm_code i)[ix]? with
  | some e => e.2.1
  | none => 0
def jm_len (ins : Instr) : Nat := match ins with
  | .bipush _ | .ldc _ | .iload _ | .aload _ | .istore _ | .astore _ | .newarray _ => 2
  | .sipush _ | .iinc _ _ | .ifCond _ _ | .if_icmp _ _ | .if_acmp _ _ | .goto _ | .getfield _ | .putfield _ | .getstatic _ | .new _ | .anewarray _ | .checkcast _ | .invokevirtual _ | .invokespecial _ | .invokestatic _ => 3
  | _ => 1
/-- what a program can look at of an instruction: its bytes, its length, what stands behind it, its numbers -/
def jm_chk2 (i pc a b : Nat) (v : Int32) (ins : Instr) : Bool := match ins with
  | .iconst z => decide (Int32.ofInt z = v)
  | .bipush z => decide ((Int8.ofInt z).toInt32 = v)
  | .sipush z => decide ((Int16.ofInt z).toInt32 = v)
  | .iload_n k => Nat.beq k.val a
  | .aload_n k => Nat.beq k.val a
  | .istore_n k => Nat.beq k.val a && Nat.blt a (jm_mL i)
  | .astore_n k => Nat.beq k.val a && Nat.blt a (jm_mL i)
  | .iload k => Nat.beq k a
  | .aload k => Nat.beq k a
  | .istore k => Nat.beq k a && Nat.blt a (jm_mL i)
  | .astore k => Nat.beq k a && Nat.blt a (jm_mL i)
  | .iinc k z => Nat.beq k a && Nat.blt a (jm_mL i) && decide (Int32.ofInt z = v)
  | .ifCond _ off => decide ((pc : Int) + off = (jm_pc i a : Int))
  | .if_icmp _ off => decide ((pc : Int) + off = (jm_pc i a : Int))
  | .if_acmp _ off => decide ((pc : Int) + off = (jm_pc i a : Int))
  | .goto off => decide ((pc : Int) + off = (jm_pc i a : Int))
  | .tableswitch dflt _ _ offs => decide ((pc : Int) + dflt = (jm_pc i a : Int)) && decide (offs.toList = (jm_sw b).map fun t => (jm_pc i t : Int) - pc)
  | .lookupswitch dflt ps => (ps.toList.zip (ps.toList.drop 1)).all (fun (a, next) => a.1 < next.1) && decide ((pc : Int) + dflt = (jm_pc i a : Int)) && decide (ps.toList = (jm_sx b).map fun q => (q.1.toInt, (jm_pc i q.2 : Int) - pc))
  | .ireturn => Nat.beq (jm_rk i) 1 || Nat.beq (jm_rk i) 2
  | .areturn => Nat.beq (jm_rk i) 3
  | .return_ => Nat.beq (jm_rk i) 0
  | _ => true
def jm_sq (ins : Instr) : Bool := match ins with
  | .goto _ | .ireturn | .areturn | .return_ | .tableswitch _ _ _ _ | .lookupswitch _ _ => false
  | _ => true
def jm_sz (ins : Instr) : Bool := match ins with
  | .tableswitch _ _ _ _ | .lookupswitch _ _ => false
  | _ => true
def jm_isN (ins : Instr) : Bool := match ins with
  | .nop => true
  | _ => false
def jm_chk (i ix : Nat) (e : jm_T) : Bool := match e with
  | (ins, pc, len, a, b, v) => jm_isN ins || (decide (decode (jm_by i) pc = .ok (ins, len)) && (!jm_sz ins || Nat.beq len (jm_len ins)) && (!jm_sq ins || Nat.beq (jm_pc i (ix + 1)) (pc + len)) && jm_chk2 i pc a b v ins)
/-- a whole method, by its rows -/
def jm_chkM (i : Nat) : Prop := ∀ ix, ix < (jm_code i).length → ∀ e, (jm_code i)[ix]? = some e → jm_chk i ix e = true
/-! What the tables must say of an instruction that names something; what stands fast of a state. -/
def jm_lOK (i idx j : Nat) : Prop := Cond.methodLink (jm_own i) idx (jm_y j) ∈ jm_Wall ∨ ∃ host, (jm_own i, idx, jm_y j, host) ∈ jm_nwM
def jm_fOK (i idx a b : Nat) : Prop := ∃ (C : String) (T : u_T) (N : Nat) (ref : String), vwCl[a]? = some (C, T, N) ∧ b < N ∧ Cond.fieldLink (jm_own i) idx ref (T b).2.1 (T b).2.2.1 ∈ jm_Wall ∧ (ref = (T b).1 ∨ Cond.sameField ref (T b).1 (T b).2.1 (T b).2.2.1 ∈ jm_Wall)
def jm_pOK (i idx a b : Nat) : Prop := ∃ (C : String) (T : u_T) (N : Nat) (ref : String), vwCl[a]? = some (C, T, N) ∧ b < N ∧ Cond.fieldLink (jm_own i) idx ref (T b).2.1 (T b).2.2.1 ∈ jm_Wall ∧ (ref = (T b).1 ∨ Cond.sameField ref (T b).1 (T b).2.1 (T b).2.2.1 ∈ jm_Wall) ∧ ((T b).2.2.2 = false ∨ ((T b).2.2.2 = true ∧ jm_ni i = true ∧ (T b).1 = jm_own i))
def jm_zOK (i idx a : Nat) : Prop := 3 ≤ (jm_kd a).1 ∧ (jm_kd a).1 ≤ 6 ∧ ∃ (C n dd ref : String), (C, n, dd, a) ∈ jm_zs ∧ Cond.fieldLink (jm_own i) idx ref n dd ∈ jm_Wall ∧ (ref = C ∨ Cond.sameField ref C n dd ∈ jm_Wall)
def jm_nOK (i idx a b : Nat) : Prop := ∃ (C : String) (T : u_T), (jm_kd a).1 = 0 ∧ (jm_kd a).2.2 = b ∧ vwCl[(jm_kd a).2.1]? = some (C, T, b) ∧ Cond.classLink (jm_own i) idx C ∈ jm_Wall ∧ Cond.instantiable C b ∈ jm_Wall ∧ Cond.initialized C ∈ jm_Wall
def jm_aOK (a : Nat) (at0 : ArrayType) : Prop := (jm_kd a).1 = 1 ∧ ((at0 = .int ∧ (jm_kd a).2.1 = 0) ∨ (at0 = .boolean ∧ (jm_kd a).2.1 = 1)) ∧ Cond.arrayClass (newarray.typeOf at0) ∈ jm_Wall
def jm_qOK (i idx a : Nat) : Prop := (jm_kd a).1 = 2 ∧ ∃ C : String, (∀ cA : Nat → ClassId, (jm_tys cA)[(jm_kd a).2.1]? = some (cA (jm_kd a).2.1, .object C)) ∧ Cond.classLink (jm_own i) idx C ∈ jm_Wall ∧ C ∈ jm_ao
def jm_kOK (i idx a : Nat) : Prop := ∃ (C : String) (T : u_T) (N : Nat), vwCl[a]? = some (C, T, N) ∧ Cond.classLink (jm_own i) idx C ∈ jm_Wall
def jm_kaOK (i idx a : Nat) : Prop := ∃ E nm : String, (∀ cA : Nat → ClassId, (jm_tys cA)[a - 100]? = some (cA (a - 100), .object E)) ∧ Cond.classLink (jm_own i) idx nm ∈ jm_Wall ∧ "[" ++ (FieldType.object E).toString = nm
def jm_oOK (i idx : Nat) : Prop := Cond.methodLink (jm_own i) idx Lib.objectInit ∈ jm_Wall ∧ Cond.instanceMethod Lib.objectInit ∈ jm_Wall ∧ Cond.code Lib.objectInit ⟨#[0xb1]⟩ 1 none ∈ jm_Wall
def jm_xOK (i idx : Nat) : Prop := Cond.methodLink (jm_own i) idx Lib.Math.max.name ∈ jm_Wall ∧ Cond.static Lib.Math.max.name ∈ jm_Wall ∧ Cond.initialized "java/lang/Math" ∈ jm_Wall ∧ Cond.code Lib.Math.max.name Lib.Math.max.code 2 (some .int) ∈ jm_Wall
def jm_iOK (i idx : Nat) : Prop := Cond.methodLink (jm_own i) idx Lib.Math.min.name ∈ jm_Wall ∧ Cond.static Lib.Math.min.name ∈ jm_Wall ∧ Cond.initialized "java/lang/Math" ∈ jm_Wall ∧ Cond.code Lib.Math.min.name Lib.Math.min.code 2 (some .int) ∈ jm_Wall
def jm_yOK (i idx : Nat) : Prop := Cond.methodLink (jm_own i) idx arraycopyName ∈ jm_Wall ∧ Cond.native arraycopyName ∈ jm_Wall ∧ Cond.static arraycopyName ∈ jm_Wall ∧ Cond.initialized "java/lang/System" ∈ jm_Wall
def jm_gOK (i idx : Nat) : Prop := Cond.methodLink (jm_own i) idx ⟨"java/lang/Object", "getClass", "()Ljava/lang/Class;"⟩ ∈ jm_Wall ∧ Cond.selects "[Ljava/lang/Object;" ⟨"java/lang/Object", "getClass", "()Ljava/lang/Class;"⟩ ⟨"java/lang/Object", "getClass", "()Ljava/lang/Class;"⟩ ∈ jm_Wall ∧ Cond.instanceMethod ⟨"java/lang/Object", "getClass", "()Ljava/lang/Class;"⟩ ∈ jm_Wall ∧ Cond.native ⟨"java/lang/Object", "getClass", "()Ljava/lang/Class;"⟩ ∈ jm_Wall
/-- a method: its code, its name, where its code begins -/
def jm_mOK (j : Nat) : Prop := Cond.code (jm_y j) (jm_by j) (jm_mL j) (jm_rt j) ∈ jm_Wall ∧ plainFor (jm_y j) = true ∧ ((jm_y j).cls ≠ "java/lang/invoke/MethodHandle" ∧ (jm_y j).cls ≠ "java/lang/invoke/VarHandle" ∧ Cond.initialized (jm_y j).cls ∈ jm_Wall) ∧ jm_pc j 0 = 0 ∧ jm_mL j + 19 ≤ 36 ∧ jm_own j = (jm_y j).cls ∧ (jm_ni j = true → (jm_y j).name = "<init>")
def jm_vOK (i idx j b : Nat) : Prop := jm_mOK j ∧ jm_lOK i idx j ∧ Cond.instanceMethod (jm_y j) ∈ jm_Wall ∧ (∃ (C : String) (T : u_T) (N : Nat), vwCl[jm_mc j]? = some (C, T, N) ∧ C = (jm_y j).cls ∧ Cond.selects C (jm_y j) (jm_y j) ∈ jm_Wall) ∧ (parseMethodDescriptor (jm_y j).desc).map (fun d => d.parameters.length) = some b ∧ b + 1 ≤ jm_mL j
def jm_cOK (i idx j b : Nat) : Prop := jm_mOK j ∧ jm_lOK i idx j ∧ Cond.instanceMethod (jm_y j) ∈ jm_Wall ∧ (jm_y j).name = "<init>" ∧ jm_rt j = none ∧ (parseMethodDescriptor (jm_y j).desc).map (fun d => d.parameters.length) = some b ∧ b + 1 ≤ jm_mL j
def jm_tOK (i idx j b : Nat) : Prop := jm_mOK j ∧ jm_lOK i idx j ∧ Cond.static (jm_y j) ∈ jm_Wall ∧ (parseMethodDescriptor (jm_y j).desc).map (fun d => d.parameters.length) = some b ∧ b ≤ jm_mL j
def jm_wOK (i a b : Nat) (v : Int32) (ins : Instr) : Prop := match ins with
  | .ldc idx => (Nat.beq b 1 = false → Cond.constant (jm_own i) idx v ∈ jm_Wall) ∧ (Nat.beq b 1 = true → a = jm_kMi ∧ Cond.classLink (jm_own i) idx "[Ljava/lang/Object;" ∈ jm_Wall)
  | .getfield idx => jm_fOK i idx a b
  | .putfield idx => jm_pOK i idx a b
  | .getstatic idx => jm_zOK i idx a
  | .new idx => jm_nOK i idx a b
  | .newarray at0 => jm_aOK a at0
  | .anewarray idx => jm_qOK i idx a
  | .checkcast idx => (Nat.ble 100 a = false → jm_kOK i idx a) ∧ (Nat.ble 100 a = true → jm_kaOK i idx a)
  | .invokevirtual idx => (a = 904 → jm_gOK i idx) ∧ (¬ a = 904 → jm_vOK i idx a b)
  | .invokespecial idx => (a = 900 → jm_oOK i idx) ∧ (¬ a = 900 → jm_cOK i idx a b)
  | .invokestatic idx => (a = 901 → jm_xOK i idx) ∧ (a = 902 → jm_iOK i idx) ∧ (a = 903 → jm_yOK i idx) ∧ (¬ a = 901 → ¬ a = 902 → ¬ a = 903 → jm_tOK i idx a b)
  | _ => True
def jm_isP (ins : Instr) : Bool := match ins with
  | .ldc _ | .getfield _ | .putfield _ | .getstatic _ | .new _ | .newarray _ | .anewarray _ | .checkcast _ | .invokevirtual _ | .invokespecial _ | .invokestatic _ => true
  | _ => false
theorem jm_wOK_of {i a b : Nat} {v : Int32} {ins : Instr} (h : jm_isP ins = true → jm_wOK i a b v ins) : jm_wOK i a b v ins := by
  cases hp : jm_isP ins with
  | true => exact h hp
  | false => cases ins <;> first | exact trivial | cases hp
def jm_G (D : va_G) (cA : Nat → ClassId) (A : Nat → Prop) (ra n0 : Nat → Nat) (f0 : Nat → Nat → Int32) (U : State) : Prop :=
  va_K D vwCl (jm_tys cA) U ∧ ((∀ w ∈ jm_nwM, va_Nw (.methodLinkNest w.1 w.2.1 w.2.2.1 w.2.2.2) U) ∧ (∀ w ∈ jm_nwC, va_Nw (.castable w.1 w.2) U) ∧ va_Mi "[Ljava/lang/Object;" (ra jm_kMi) U ∧ va_Dc U) ∧ (∀ C ∈ jm_ao, va_AO C U) ∧ (∀ z ∈ jm_zs, va_Z z.1 z.2.1 z.2.2.1 (.ref (ra z.2.2.2)) A U U.heap) ∧ (∀ k, (jm_kd k).1 = 3 → va_T .int (ra k) (n0 k) (fun j => .int (f0 k j)) A U U.heap) ∧ (∀ k, (jm_kd k).1 = 5 → va_T (.object "java/lang/Object") (ra k) (n0 k) (fun _ => .null) A U U.heap) ∧ (∀ k, (jm_kd k).1 = 4 → va_X (ra k) (n0 k) (f0 k) U U.heap ∧ ra k < U.heap.size ∧ ¬ A (ra k))
theorem jm_G.moved {D : va_G} {cA : Nat → ClassId} {A : Nat → Prop} {ra n0 : Nat → Nat} {f0 : Nat → Nat → Int32} {s U : State} (h : jm_G D cA A ra n0 f0 s) (hW : s.WarmedH U.vm) (hz : s.heap.size ≤ U.heap.size) (hk : ∀ q : Nat, q < s.heap.size → ¬ A q → U.heap[q]? = s.heap[q]?) : jm_G D cA A ra n0 f0 U := by
  obtain ⟨h1, ⟨h2, h3, h4, h5⟩, h6, h7, h8, h9, h10⟩ := h
  have ha := hW.alike
  refine ⟨va_K.moved ha h1, ⟨fun w hw => va_Nw.warmM hW (h2 w hw), fun w hw => va_Nw.warmC hW (h3 w hw), va_Mi.moved ha h4, va_Dc.moved ha h5⟩, fun C hC => va_AO.moved ha (h6 C hC), fun z hz1 => va_Z.moved ha ((h7 z hz1).kept hk), fun k hk1 => va_T.moved ha ((h8 k hk1).kept hk), fun k hk1 => va_T.moved ha ((h9 k hk1).kept hk), fun k hk1 => ?_⟩
  obtain ⟨a1, a2, a3⟩ := h10 k hk1
  exact ⟨va_X.moved ha (a1.kept (hk _ a2 a3)), Nat.lt_of_lt_of_le a2 hz, a3⟩
theorem jm_G.same {D : va_G} {cA : Nat → ClassId} {A : Nat → Prop} {ra n0 : Nat → Nat} {f0 : Nat → Nat → Int32} {U : State} (h : jm_G D cA A ra n0 f0 U) (g : JFrame) (mk : MethodId) (a : Array Value) : jm_G D cA A ra n0 f0 (U.calling g mk a) := by
  obtain ⟨h1, ⟨h2, h3, h4, h5⟩, h6, h7, h8, h9, h10⟩ := h
  have ha : U.vm.Alike (U.calling g mk a).vm := Vm.Alike.refl U.vm
  refine ⟨va_K.moved ha h1, ⟨fun w hw => va_Nw.same rfl rfl (h2 w hw), fun w hw => va_Nw.same rfl rfl (h3 w hw), va_Mi.moved ha h4, va_Dc.moved ha h5⟩, fun C hC => va_AO.moved ha (h6 C hC), fun z hz1 => va_Z.moved ha (h7 z hz1), fun k hk1 => va_T.moved ha (h8 k hk1), fun k hk1 => va_T.moved ha (h9 k hk1), fun k hk1 => ?_⟩
  obtain ⟨a1, a2, a3⟩ := h10 k hk1
  exact ⟨va_X.moved ha a1, a2, a3⟩
theorem jm_same {args : Array Value} {s : State} {ref own n d : String} (hts : ∀ w ∈ jm_Wall, w.before args s = true) (h : ref = own ∨ Cond.sameField ref own n d ∈ jm_Wall) : ∀ x, s.fieldFound? own n d = some x → s.fieldFound? ref n d = some x := by
  intro x hx
  rcases h with h | h
  · rw [h]; exact hx
  · exact u_same (hts _ h) x hx
theorem jm_wallG : ∀ w ∈ jm_Wall, (w.onTables && w.keeps) = true ∨ ∃ ty, w = .arrayClass ty := by
  intro w hw
  have := (List.mem_filter.mp hw).2
  unfold jm_gw at this
  rw [Bool.or_eq_true] at this
  rcases this with h | h
  · exact Or.inl h
  · cases w <;> first | exact Or.inr ⟨_, rfl⟩ | cases h
theorem jm_rtI {i pc a b : Nat} {v : Int32} (h : jm_chk2 i pc a b v .ireturn = true) : jm_rt i = some .int ∨ (jm_rt i = some .boolean ∧ jm_rz i = true) := by
  unfold jm_rt jm_rz
  have h : (Nat.beq (jm_rk i) 1 || Nat.beq (jm_rk i) 2) = true := h
  rw [Bool.or_eq_true] at h
  rcases h with h | h
  · rw [Nat.eq_of_beq_eq_true h]; exact Or.inl rfl
  · rw [Nat.eq_of_beq_eq_true h]; exact Or.inr ⟨rfl, rfl⟩
theorem jm_rtV {i pc a b : Nat} {v : Int32} (h : jm_chk2 i pc a b v .return_ = true) : jm_rt i = none := by
  unfold jm_rt
  rw [Nat.eq_of_beq_eq_true (show Nat.beq (jm_rk i) 0 = true from h)]
  rfl
theorem jm_rtA {i pc a b : Nat} {v : Int32} (h : jm_chk2 i pc a b v .areturn = true) : ∃ rt, jm_rt i = some rt ∧ ((∃ n, rt = .object n) ∨ ∃ t, rt = .array t) := by
  unfold jm_rt
  rw [Nat.eq_of_beq_eq_true (show Nat.beq (jm_rk i) 3 = true from h)]
  exact ⟨_, rfl, jm_rcOK i⟩
