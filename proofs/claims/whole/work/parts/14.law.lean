/-! The law over the small machine. -/
def jl_A : List Nat := [7, 7, 7, 7, 7, 7, 6, 7, 7, 6, 7, 0]
def jl_B : List Nat := [1000, 7, 7, 7, 7, 15, 7, 7, 0, 7, 0, 0]
def jl_C : List Nat := [0, 7, 7, 7, 7, 0, 0, 0, 0, 7, 0, 0]
/-- the memory at the law's entry: the class's tables and the script -/
def jl_M0 (L : Nat) (xs : Nat → Int32) : jm_M :=
  (fun k _ j => if k = 71 then nI (jl_A.getD j 0) else if k = 72 then nI (jl_B.getD j 0) else if k = 73 then nI (jl_C.getD j 0) else if k = 75 then xs j else 0,
   fun _ _ _ => none, fun k _ => if k = 71 ∨ k = 72 ∨ k = 73 then 12 else if k = 75 then L else 0, fun k => if 71 ≤ k ∧ k ≤ 76 then 1 else 0, [], 0)
theorem jl_tags : ∀ k, k < 77 → ((jm_kd k).1 ≤ 2 → ¬ (71 ≤ k ∧ k ≤ 76)) ∧ (3 ≤ (jm_kd k).1 → (jm_kd k).1 ≤ 6 → 71 ≤ k ∧ k ≤ 76) := by decide +kernel
theorem jl_wf (L : Nat) (xs : Nat → Int32) : jm_wf (fun k => jm_n (jl_M0 L xs) k 0) (fun k j => jm_I (jl_M0 L xs) k 0 j) (jl_M0 L xs) := by
  refine ⟨fun _ _ _ q hq => (by cases hq), fun q => ?_, List.nodup_nil, fun k h1 h2 => ?_, fun _ _ _ _ => rfl⟩
  · constructor
    · intro h; cases h
    · intro ⟨h1, h2⟩
      exfalso
      have h2 : q.2 < (if 71 ≤ q.1 ∧ q.1 ≤ 76 then 1 else 0) := h2
      by_cases hk : q.1 < 77
      · rw [if_neg ((jl_tags q.1 hk).1 h1)] at h2; omega
      · rw [jm_kd_big hk] at h1; exact absurd h1 (by decide)
  · refine ⟨?_, rfl, fun _ => rfl⟩
    show (if 71 ≤ k ∧ k ≤ 76 then 1 else 0) = 1
    by_cases hk : k < 77
    · rw [if_pos ((jl_tags k hk).2 h1 h2)]
    · rw [jm_kd_big hk] at h2; exact absurd h2 (by decide)
set_option maxRecDepth 100000 in
theorem jl_TA {args : Array Value} {s : State} {A : Nat → Prop} (hs : ∀ c ∈ flatC (Jvm.Cond.and given_1 narrow_1), c.before args s = true) (hA : ∀ a : Nat, a < s.heap.size → ¬ A a) : ∃ t : Nat, (Term.static "EpochLeaves$Procedure" "GREATEST_A" "[I").eval args s none [] s = some (.ref t) ∧ va_T .int t 12 (fun j => .int (nI (jl_A.getD j 0))) A s s.heap := by
  refine va_Tof (by decide) (hs (Cond.arrayOf (Jvm.Term.static "EpochLeaves$Procedure" "GREATEST_A" "[I") .int) (by decide +kernel)) (va_eqt (z := 12) (hs (Cond.eq (.length (Jvm.Term.static "EpochLeaves$Procedure" "GREATEST_A" "[I")) (.int 12)) (by decide +kernel))) ?_ hA
  exact lt_s (lt_s (lt_s (lt_s (lt_s (lt_s (lt_s (lt_s (lt_s (lt_s (lt_s (lt_s (lt_0) (va_eqt (z := 7) (hs (Cond.eq (.elem (Jvm.Term.static "EpochLeaves$Procedure" "GREATEST_A" "[I") (.int 0)) (.int 7)) (by decide +kernel)))) (va_eqt (z := 7) (hs (Cond.eq (.elem (Jvm.Term.static "EpochLeaves$Procedure" "GREATEST_A" "[I") (.int 1)) (.int 7)) (by decide +kernel)))) (va_eqt (z := 7) (hs (Cond.eq (.elem (Jvm.Term.static "EpochLeaves$Procedure" "GREATEST_A" "[I") (.int 2)) (.int 7)) (by decide +kernel)))) (va_eqt (z := 7) (hs (Cond.eq (.elem (Jvm.Term.static "EpochLeaves$Procedure" "GREATEST_A" "[I") (.int 3)) (.int 7)) (by decide +kernel)))) (va_eqt (z := 7) (hs (Cond.eq (.elem (Jvm.Term.static "EpochLeaves$Procedure" "GREATEST_A" "[I") (.int 4)) (.int 7)) (by decide +kernel)))) (va_eqt (z := 7) (hs (Cond.eq (.elem (Jvm.Term.static "EpochLeaves$Procedure" "GREATEST_A" "[I") (.int 5)) (.int 7)) (by decide +kernel)))) (va_eqt (z := 6) (hs (Cond.eq (.elem (Jvm.Term.static "EpochLeaves$Procedure" "GREATEST_A" "[I") (.int 6)) (.int 6)) (by decide +kernel)))) (va_eqt (z := 7) (hs (Cond.eq (.elem (Jvm.Term.static "EpochLeaves$Procedure" "GREATEST_A" "[I") (.int 7)) (.int 7)) (by decide +kernel)))) (va_eqt (z := 7) (hs (Cond.eq (.elem (Jvm.Term.static "EpochLeaves$Procedure" "GREATEST_A" "[I") (.int 8)) (.int 7)) (by decide +kernel)))) (va_eqt (z := 6) (hs (Cond.eq (.elem (Jvm.Term.static "EpochLeaves$Procedure" "GREATEST_A" "[I") (.int 9)) (.int 6)) (by decide +kernel)))) (va_eqt (z := 7) (hs (Cond.eq (.elem (Jvm.Term.static "EpochLeaves$Procedure" "GREATEST_A" "[I") (.int 10)) (.int 7)) (by decide +kernel)))) (va_eqt (z := 0) (hs (Cond.eq (.elem (Jvm.Term.static "EpochLeaves$Procedure" "GREATEST_A" "[I") (.int 11)) (.int 0)) (by decide +kernel)))
set_option maxRecDepth 100000 in
theorem jl_TB {args : Array Value} {s : State} {A : Nat → Prop} (hs : ∀ c ∈ flatC (Jvm.Cond.and given_1 narrow_1), c.before args s = true) (hA : ∀ a : Nat, a < s.heap.size → ¬ A a) : ∃ t : Nat, (Term.static "EpochLeaves$Procedure" "GREATEST_B" "[I").eval args s none [] s = some (.ref t) ∧ va_T .int t 12 (fun j => .int (nI (jl_B.getD j 0))) A s s.heap := by
  refine va_Tof (by decide) (hs (Cond.arrayOf (Jvm.Term.static "EpochLeaves$Procedure" "GREATEST_B" "[I") .int) (by decide +kernel)) (va_eqt (z := 12) (hs (Cond.eq (.length (Jvm.Term.static "EpochLeaves$Procedure" "GREATEST_B" "[I")) (.int 12)) (by decide +kernel))) ?_ hA
  exact lt_s (lt_s (lt_s (lt_s (lt_s (lt_s (lt_s (lt_s (lt_s (lt_s (lt_s (lt_s (lt_0) (va_eqt (z := 1000) (hs (Cond.eq (.elem (Jvm.Term.static "EpochLeaves$Procedure" "GREATEST_B" "[I") (.int 0)) (.int 1000)) (by decide +kernel)))) (va_eqt (z := 7) (hs (Cond.eq (.elem (Jvm.Term.static "EpochLeaves$Procedure" "GREATEST_B" "[I") (.int 1)) (.int 7)) (by decide +kernel)))) (va_eqt (z := 7) (hs (Cond.eq (.elem (Jvm.Term.static "EpochLeaves$Procedure" "GREATEST_B" "[I") (.int 2)) (.int 7)) (by decide +kernel)))) (va_eqt (z := 7) (hs (Cond.eq (.elem (Jvm.Term.static "EpochLeaves$Procedure" "GREATEST_B" "[I") (.int 3)) (.int 7)) (by decide +kernel)))) (va_eqt (z := 7) (hs (Cond.eq (.elem (Jvm.Term.static "EpochLeaves$Procedure" "GREATEST_B" "[I") (.int 4)) (.int 7)) (by decide +kernel)))) (va_eqt (z := 15) (hs (Cond.eq (.elem (Jvm.Term.static "EpochLeaves$Procedure" "GREATEST_B" "[I") (.int 5)) (.int 15)) (by decide +kernel)))) (va_eqt (z := 7) (hs (Cond.eq (.elem (Jvm.Term.static "EpochLeaves$Procedure" "GREATEST_B" "[I") (.int 6)) (.int 7)) (by decide +kernel)))) (va_eqt (z := 7) (hs (Cond.eq (.elem (Jvm.Term.static "EpochLeaves$Procedure" "GREATEST_B" "[I") (.int 7)) (.int 7)) (by decide +kernel)))) (va_eqt (z := 0) (hs (Cond.eq (.elem (Jvm.Term.static "EpochLeaves$Procedure" "GREATEST_B" "[I") (.int 8)) (.int 0)) (by decide +kernel)))) (va_eqt (z := 7) (hs (Cond.eq (.elem (Jvm.Term.static "EpochLeaves$Procedure" "GREATEST_B" "[I") (.int 9)) (.int 7)) (by decide +kernel)))) (va_eqt (z := 0) (hs (Cond.eq (.elem (Jvm.Term.static "EpochLeaves$Procedure" "GREATEST_B" "[I") (.int 10)) (.int 0)) (by decide +kernel)))) (va_eqt (z := 0) (hs (Cond.eq (.elem (Jvm.Term.static "EpochLeaves$Procedure" "GREATEST_B" "[I") (.int 11)) (.int 0)) (by decide +kernel)))
set_option maxRecDepth 100000 in
theorem jl_TC {args : Array Value} {s : State} {A : Nat → Prop} (hs : ∀ c ∈ flatC (Jvm.Cond.and given_1 narrow_1), c.before args s = true) (hA : ∀ a : Nat, a < s.heap.size → ¬ A a) : ∃ t : Nat, (Term.static "EpochLeaves$Procedure" "GREATEST_C" "[I").eval args s none [] s = some (.ref t) ∧ va_T .int t 12 (fun j => .int (nI (jl_C.getD j 0))) A s s.heap := by
  refine va_Tof (by decide) (hs (Cond.arrayOf (Jvm.Term.static "EpochLeaves$Procedure" "GREATEST_C" "[I") .int) (by decide +kernel)) (va_eqt (z := 12) (hs (Cond.eq (.length (Jvm.Term.static "EpochLeaves$Procedure" "GREATEST_C" "[I")) (.int 12)) (by decide +kernel))) ?_ hA
  exact lt_s (lt_s (lt_s (lt_s (lt_s (lt_s (lt_s (lt_s (lt_s (lt_s (lt_s (lt_s (lt_0) (va_eqt (z := 0) (hs (Cond.eq (.elem (Jvm.Term.static "EpochLeaves$Procedure" "GREATEST_C" "[I") (.int 0)) (.int 0)) (by decide +kernel)))) (va_eqt (z := 7) (hs (Cond.eq (.elem (Jvm.Term.static "EpochLeaves$Procedure" "GREATEST_C" "[I") (.int 1)) (.int 7)) (by decide +kernel)))) (va_eqt (z := 7) (hs (Cond.eq (.elem (Jvm.Term.static "EpochLeaves$Procedure" "GREATEST_C" "[I") (.int 2)) (.int 7)) (by decide +kernel)))) (va_eqt (z := 7) (hs (Cond.eq (.elem (Jvm.Term.static "EpochLeaves$Procedure" "GREATEST_C" "[I") (.int 3)) (.int 7)) (by decide +kernel)))) (va_eqt (z := 7) (hs (Cond.eq (.elem (Jvm.Term.static "EpochLeaves$Procedure" "GREATEST_C" "[I") (.int 4)) (.int 7)) (by decide +kernel)))) (va_eqt (z := 0) (hs (Cond.eq (.elem (Jvm.Term.static "EpochLeaves$Procedure" "GREATEST_C" "[I") (.int 5)) (.int 0)) (by decide +kernel)))) (va_eqt (z := 0) (hs (Cond.eq (.elem (Jvm.Term.static "EpochLeaves$Procedure" "GREATEST_C" "[I") (.int 6)) (.int 0)) (by decide +kernel)))) (va_eqt (z := 0) (hs (Cond.eq (.elem (Jvm.Term.static "EpochLeaves$Procedure" "GREATEST_C" "[I") (.int 7)) (.int 0)) (by decide +kernel)))) (va_eqt (z := 0) (hs (Cond.eq (.elem (Jvm.Term.static "EpochLeaves$Procedure" "GREATEST_C" "[I") (.int 8)) (.int 0)) (by decide +kernel)))) (va_eqt (z := 7) (hs (Cond.eq (.elem (Jvm.Term.static "EpochLeaves$Procedure" "GREATEST_C" "[I") (.int 9)) (.int 7)) (by decide +kernel)))) (va_eqt (z := 0) (hs (Cond.eq (.elem (Jvm.Term.static "EpochLeaves$Procedure" "GREATEST_C" "[I") (.int 10)) (.int 0)) (by decide +kernel)))) (va_eqt (z := 0) (hs (Cond.eq (.elem (Jvm.Term.static "EpochLeaves$Procedure" "GREATEST_C" "[I") (.int 11)) (.int 0)) (by decide +kernel)))
set_option maxRecDepth 100000 in
theorem jl_TE {args : Array Value} {s : State} {A : Nat → Prop} (hs : ∀ c ∈ flatC (Jvm.Cond.and given_1 narrow_1), c.before args s = true) (hA : ∀ a : Nat, a < s.heap.size → ¬ A a) : ∃ t : Nat, (Term.static "java/util/ArrayList" "DEFAULTCAPACITY_EMPTY_ELEMENTDATA" "[Ljava/lang/Object;").eval args s none [] s = some (.ref t) ∧ va_T (.object "java/lang/Object") t 0 (fun _ => .null) A s s.heap :=
  va_Tof (by decide) (hs (Cond.arrayOf (Jvm.Term.static "java/util/ArrayList" "DEFAULTCAPACITY_EMPTY_ELEMENTDATA" "[Ljava/lang/Object;") (.object "java/lang/Object")) (by decide +kernel)) (va_eqt (z := 0) (hs (Cond.eq (.length (Jvm.Term.static "java/util/ArrayList" "DEFAULTCAPACITY_EMPTY_ELEMENTDATA" "[Ljava/lang/Object;")) (.int 0)) (by decide +kernel))) lt_0 hA
theorem jl_W {args : Array Value} {s : State} (hts : ∀ w ∈ lw_tbl, w.before args s = true) : ∀ w ∈ jm_Wall, w.before args s = true := fun w hw => hts w (List.mem_filter.mp hw).1
theorem jl_K {args : Array Value} {s : State} (hts : ∀ w ∈ lw_tbl, w.before args s = true) : ∃ (D : va_G) (cA : Nat → ClassId), va_K D vwCl (jm_tys cA) s := by
  have hW := jl_W hts
  obtain ⟨c0, i0, k0⟩ := u_known (C := "EpochLeaves") (T := jm_T0) (N := 6) (n := 6) hW jm_us0 (hW _ jw_19)
  obtain ⟨c1, i1, k1⟩ := u_known (C := "EpochLeaves$Procedure") (T := jm_T1) (N := 5) (n := 5) hW jm_us1 (hW _ jw_126)
  obtain ⟨c2, i2, k2⟩ := u_known (C := "EpochLeaves$Worker") (T := jm_T2) (N := 13) (n := 13) hW jm_us2 (hW _ jw_153)
  obtain ⟨c3, i3, k3⟩ := u_known (C := "EpochLeaves$Log") (T := jm_T3) (N := 3) (n := 3) hW jm_us3 (hW _ jw_244)
  obtain ⟨c4, i4, k4⟩ := u_known (C := "java/util/ArrayList") (T := jm_T4) (N := 3) (n := 3) hW jm_us4 (hW _ jw_33)
  obtain ⟨c5, i5, k5⟩ := u_known (C := "EpochLeaves$Store") (T := jm_T5) (N := 7) (n := 7) hW jm_us5 (hW _ jw_59)
  obtain ⟨c6, i6, k6⟩ := u_known (C := "EpochLeaves$Leaf") (T := jm_T6) (N := 4) (n := 4) hW jm_us6 (hW _ jw_66)
  obtain ⟨c7, i7, k7⟩ := u_known (C := "EpochLeaves$Transaction") (T := jm_T7) (N := 7) (n := 7) hW jm_us7 (hW _ jw_159)
  obtain ⟨c8, i8, k8⟩ := u_known (C := "EpochLeavesModel") (T := jm_T8) (N := 43) (n := 43) hW jm_us8 (hW _ jw_680)
  obtain ⟨a0, ka0, co0, f0, g0, e0⟩ := Cond.arrayClass_spec (hW _ jw_92)
  obtain ⟨a1, ka1, co1, f1, g1, e1⟩ := Cond.arrayClass_spec (hW _ jw_815)
  obtain ⟨co2, a2, ka2, f2, x2, g2, e2, m2⟩ := Cond.arrayOver_spec (hts (Jvm.Cond.arrayOver (Jvm.ClassFile.FieldType.object "EpochLeaves$Procedure")) (List.mem_append_right _ (List.mem_of_getElem? (i := 27) (by decide +kernel))))
  obtain ⟨co3, a3, ka3, f3, x3, g3, e3, m3⟩ := Cond.arrayOver_spec (hts (Jvm.Cond.arrayOver (Jvm.ClassFile.FieldType.object "EpochLeaves$Worker")) (List.mem_append_right _ (List.mem_of_getElem? (i := 29) (by decide +kernel))))
  obtain ⟨co4, a4, ka4, f4, x4, g4, e4, m4⟩ := Cond.arrayOver_spec (hts (Jvm.Cond.arrayOver (Jvm.ClassFile.FieldType.object "EpochLeaves$Log")) (List.mem_append_right _ (List.mem_of_getElem? (i := 31) (by decide +kernel))))
  obtain ⟨co5, a5, ka5, f5, x5, g5, e5, m5⟩ := Cond.arrayOver_spec (hts (Jvm.Cond.arrayOver (Jvm.ClassFile.FieldType.object "EpochLeaves$Leaf")) (List.mem_append_right _ (List.mem_of_getElem? (i := 65) (by decide +kernel))))
  obtain ⟨co6, a6, ka6, f6, x6, g6, e6, m6⟩ := Cond.arrayOver_spec (hts (Jvm.Cond.arrayOver (Jvm.ClassFile.FieldType.object "java/lang/Object")) (List.mem_append_right _ (List.mem_of_getElem? (i := 374) (by decide +kernel))))
  refine ⟨(fun c => [c0, c1, c2, c3, c4, c5, c6, c7, c8].getD c 0, fun c => [i0, i1, i2, i3, i4, i5, i6, i7, i8].getD c (fun _ => 0)), fun t => [a0, a1, a2, a3, a4, a5, a6].getD t 0, ?_, ?_⟩
  · intro c q hq
    match c, hq with
    | 0, hq => cases hq; exact k0
    | 1, hq => cases hq; exact k1
    | 2, hq => cases hq; exact k2
    | 3, hq => cases hq; exact k3
    | 4, hq => cases hq; exact k4
    | 5, hq => cases hq; exact k5
    | 6, hq => cases hq; exact k6
    | 7, hq => cases hq; exact k7
    | 8, hq => cases hq; exact k8
    | _ + 9, hq => cases hq
  · intro c q hq
    match c, hq with
    | 0, hq => cases hq; exact ⟨fun n z => ⟨fun k h => (by cases h), ka0, g0, co0, e0⟩, f0⟩
    | 1, hq => cases hq; exact ⟨fun n z => ⟨fun k h => (by cases h), ka1, g1, co1, e1⟩, f1⟩
    | 2, hq => cases hq; exact ⟨fun n z => ⟨fun k h => (by cases h), ka2, g2, co2, e2⟩, ka2, co2, g2, e2, f2, m2⟩
    | 3, hq => cases hq; exact ⟨fun n z => ⟨fun k h => (by cases h), ka3, g3, co3, e3⟩, ka3, co3, g3, e3, f3, m3⟩
    | 4, hq => cases hq; exact ⟨fun n z => ⟨fun k h => (by cases h), ka4, g4, co4, e4⟩, ka4, co4, g4, e4, f4, m4⟩
    | 5, hq => cases hq; exact ⟨fun n z => ⟨fun k h => (by cases h), ka5, g5, co5, e5⟩, ka5, co5, g5, e5, f5, m5⟩
    | 6, hq => cases hq; exact ⟨fun n z => ⟨fun k h => (by cases h), ka6, g6, co6, e6⟩, ka6, co6, g6, e6, f6, m6⟩
    | _ + 7, hq => cases hq
def jl_ra (tA tB tC tE b mi : Nat) (k : Nat) : Nat := if k = 71 then tA else if k = 72 then tB else if k = 73 then tC else if k = 74 then tE else if k = 75 then b else mi
theorem jl_tag3 : ∀ k, k < 77 → ((jm_kd k).1 = 3 → k = 71 ∨ k = 72 ∨ k = 73) ∧ ((jm_kd k).1 = 5 → k = 74) ∧ ((jm_kd k).1 = 4 → k = 75) := by decide +kernel
theorem jl_tag {k : Nat} : ((jm_kd k).1 = 3 → k = 71 ∨ k = 72 ∨ k = 73) ∧ ((jm_kd k).1 = 5 → k = 74) ∧ ((jm_kd k).1 = 4 → k = 75) := by
  by_cases hk : k < 77
  · exact jl_tag3 k hk
  · rw [jm_kd_big hk]
    exact ⟨fun h => absurd h (by decide), fun h => absurd h (by decide), fun h => absurd h (by decide)⟩
theorem jl_G {args : Array Value} {s : State} {b L : Nat} {xs : Nat → Int32} (hts : ∀ w ∈ lw_tbl, w.before args s = true) (hs : ∀ c ∈ flatC (Jvm.Cond.and given_1 narrow_1), c.before args s = true) (hX : va_X b L xs s s.heap) (hb : b < s.heap.size) : ∃ (D : va_G) (cA : Nat → ClassId) (ra : Nat → Nat), ra 75 = b ∧ jm_G D cA (fun q => s.heap.size ≤ q) ra (fun k => jm_n (jl_M0 L xs) k 0) (fun k j => jm_I (jl_M0 L xs) k 0 j) s := by
  have hA : ∀ a : Nat, a < s.heap.size → ¬ s.heap.size ≤ a := fun a h => by omega
  obtain ⟨D, cA, hK⟩ := jl_K hts
  obtain ⟨tA, eA, hTA⟩ := jl_TA (A := fun q => s.heap.size ≤ q) hs hA
  obtain ⟨tB, eB, hTB⟩ := jl_TB (A := fun q => s.heap.size ≤ q) hs hA
  obtain ⟨tC, eC, hTC⟩ := jl_TC (A := fun q => s.heap.size ≤ q) hs hA
  obtain ⟨tE, eE, hTE⟩ := jl_TE (A := fun q => s.heap.size ≤ q) hs hA
  obtain ⟨mi, hmi⟩ := va_Mi.of (C := "[Ljava/lang/Object;") (hs (Cond.isRef (.mirror "[Ljava/lang/Object;")) (by decide +kernel))
  refine ⟨D, cA, jl_ra tA tB tC tE b mi, rfl, hK, ⟨?_, ?_, hmi, va_Dc.of (hts (Jvm.Cond.declares ({ cls := "java/lang/Object", name := "getClass", desc := "()Ljava/lang/Class;" } : Jvm.MethodName)) (List.mem_append_right _ (List.mem_of_getElem? (i := 1014) (by decide +kernel))))⟩, ?_, ?_, ?_, ?_, ?_⟩
  · exact List.forall_mem_cons.mpr ⟨va_Nw.of rfl (hts (Jvm.Cond.methodLinkNest "EpochLeaves" (45 : Nat) ({ cls := "EpochLeaves$Procedure", name := "<init>", desc := "()V" } : Jvm.MethodName) "EpochLeaves") (List.mem_append_right _ (List.mem_of_getElem? (i := 127) (by decide +kernel)))), List.forall_mem_cons.mpr ⟨va_Nw.of rfl (hts (Jvm.Cond.methodLinkNest "EpochLeaves" (49 : Nat) ({ cls := "EpochLeaves$Log", name := "<init>", desc := "()V" } : Jvm.MethodName) "EpochLeaves") (List.mem_append_right _ (List.mem_of_getElem? (i := 245) (by decide +kernel)))), List.forall_mem_cons.mpr ⟨va_Nw.of rfl (hts (Jvm.Cond.methodLinkNest "EpochLeaves$Worker" (125 : Nat) ({ cls := "EpochLeaves", name := "isKey", desc := "(I)Z" } : Jvm.MethodName) "EpochLeaves") (List.mem_append_right _ (List.mem_of_getElem? (i := 420) (by decide +kernel)))), fun _ h => absurd h List.not_mem_nil⟩⟩⟩
  · exact List.forall_mem_cons.mpr ⟨va_Nw.of rfl (hts (Jvm.Cond.castable "EpochLeaves$Transaction" "java/lang/Object") (List.mem_append_right _ (List.mem_of_getElem? (i := 1020) (by decide +kernel)))), fun _ h => absurd h List.not_mem_nil⟩
  · exact List.forall_mem_cons.mpr ⟨va_AO.of (hts (Jvm.Cond.arrayOver (Jvm.ClassFile.FieldType.object "EpochLeaves$Procedure")) (List.mem_append_right _ (List.mem_of_getElem? (i := 27) (by decide +kernel)))), List.forall_mem_cons.mpr ⟨va_AO.of (hts (Jvm.Cond.arrayOver (Jvm.ClassFile.FieldType.object "EpochLeaves$Worker")) (List.mem_append_right _ (List.mem_of_getElem? (i := 29) (by decide +kernel)))), List.forall_mem_cons.mpr ⟨va_AO.of (hts (Jvm.Cond.arrayOver (Jvm.ClassFile.FieldType.object "EpochLeaves$Log")) (List.mem_append_right _ (List.mem_of_getElem? (i := 31) (by decide +kernel)))), List.forall_mem_cons.mpr ⟨va_AO.of (hts (Jvm.Cond.arrayOver (Jvm.ClassFile.FieldType.object "EpochLeaves$Leaf")) (List.mem_append_right _ (List.mem_of_getElem? (i := 65) (by decide +kernel)))), List.forall_mem_cons.mpr ⟨va_AO.of (hts (Jvm.Cond.arrayOver (Jvm.ClassFile.FieldType.object "java/lang/Object")) (List.mem_append_right _ (List.mem_of_getElem? (i := 374) (by decide +kernel)))), fun _ h => absurd h List.not_mem_nil⟩⟩⟩⟩⟩
  · exact List.forall_mem_cons.mpr ⟨va_Zref (hts (Jvm.Cond.laysStatic "EpochLeaves$Procedure" "GREATEST_A" "[I") (List.mem_append_right _ (List.mem_of_getElem? (i := 298) (by decide +kernel)))) (hts (Jvm.Cond.initialized "EpochLeaves$Procedure") (List.mem_append_right _ (List.mem_of_getElem? (i := 7) (by decide +kernel)))) eA hA, List.forall_mem_cons.mpr ⟨va_Zref (hts (Jvm.Cond.laysStatic "EpochLeaves$Procedure" "GREATEST_B" "[I") (List.mem_append_right _ (List.mem_of_getElem? (i := 300) (by decide +kernel)))) (hts (Jvm.Cond.initialized "EpochLeaves$Procedure") (List.mem_append_right _ (List.mem_of_getElem? (i := 7) (by decide +kernel)))) eB hA, List.forall_mem_cons.mpr ⟨va_Zref (hts (Jvm.Cond.laysStatic "EpochLeaves$Procedure" "GREATEST_C" "[I") (List.mem_append_right _ (List.mem_of_getElem? (i := 302) (by decide +kernel)))) (hts (Jvm.Cond.initialized "EpochLeaves$Procedure") (List.mem_append_right _ (List.mem_of_getElem? (i := 7) (by decide +kernel)))) eC hA, List.forall_mem_cons.mpr ⟨va_Zref (hts (Jvm.Cond.laysStatic "java/util/ArrayList" "DEFAULTCAPACITY_EMPTY_ELEMENTDATA" "[Ljava/lang/Object;") (List.mem_append_right _ (List.mem_of_getElem? (i := 45) (by decide +kernel)))) (hts (Jvm.Cond.initialized "java/util/ArrayList") (List.mem_append_right _ (List.mem_of_getElem? (i := 4) (by decide +kernel)))) eE hA, fun _ h => absurd h List.not_mem_nil⟩⟩⟩⟩
  · intro k hk
    rcases jl_tag.1 hk with rfl | rfl | rfl
    · exact hTA
    · exact hTB
    · exact hTC
  · intro k hk
    cases jl_tag.2.1 hk
    exact hTE
  · intro k hk
    cases jl_tag.2.2 hk
    exact ⟨hX, hb, fun h => absurd h (by show ¬ s.heap.size ≤ b; omega)⟩
/-! THE CLAIM OUT OF ONE WALK OF THE LAW'S BODY. Your part is whole_start (and what it stands on); all else here is the same for every law, but numbers. -/
def R_law : String := "EpochLeavesLaw"
def lw_P (b : Addr) (xs : List Int32) (args : Array Value) (s : State) : Prop := args = #[.ref b] ∧ s.IntsAt b xs ∧ xs.length ≤ 3072 ∧ (Jvm.Cond.and given_1 narrow_1).before args s = true
def lw_Q (_ : Array Value) (s : State) (o : Outcome) (t : State) : Prop := o = .returned (some (.int 1)) ∧ Framed s o t [] 600000 7302250
def lw_Z (below : List Frame) (a : Array Value) (s : State) : State → Prop := fun t => ∃ o, t.status = .running ∧ Ended t below o ∧ lw_Q a s o t
/-- the law's own end, with 1 on the stack, nothing written that was there before, its room as the claim has it -/
theorem lw_ret {p : Program} {l : Launch} {e : Env} {s : State} {m : MethodId} {below : List Frame} {meth : Method} {c : Code} {b : Nat} (hx : p.tables.exec = Jvm.exec) (hb : c.code = code) (hr : meth.sig.returnType = ret) (hlocks : meth.locks = false) {pc : Nat} {H : Heap} {ls : Array Slot} (hdg : decode code pc = .ok (.ireturn, 1)) : W p l e room_1 s m #[Value.ref b] below meth c H [] 600000 7302250 (lw_Z below #[Value.ref b] s) (F0 m pc ls [.int 1]) := by
  intro T hT X
  obtain ⟨fs, hret, hrun, hended, hW, hframe⟩ := X.leave (v := some (.int 1)) (hlocks := hlocks) (fun h => by rw [hr] at h; cases h)
  have hmeth' : T.vm.method? m = some meth := X.method'
  refine ⟨T.setFrames fs, ?_, .returned (some (.int 1)), hrun, hended, rfl, ⟨_, rfl⟩, hW, hframe⟩
  jvm_step X.here [X.here.top, hx, hb, hdg, hmeth', hr, ret, narrow_b1]
  (try refine ⟨rfl, ?_⟩); (try refine ⟨rfl, ?_⟩)
  first | (intro acts; rw [hret _ acts rfl rfl rfl]) | rw [hret _ _ rfl rfl rfl]
  exact Steps.refl _
/-- what holds at the law's entry: the machine, the code, the tables' words (any of lw_tbl by 'hts w (by decide +kernel)'), the script of L ints xs at the cell b, what the Statement gives of the start (any of its parts by flat_of_before) -/
def lw_At (p : Program) (s : State) (m : MethodId) (meth : Method) (c : Code) (b L : Nat) (xs : Nat → Int32) : Prop :=
  p.tables.exec = Jvm.exec ∧ c.code = code ∧ meth.sig.returnType = ret ∧ c.maxLocals = 4 ∧ s.vm.findClass R_law = some m.cls ∧ (∀ w ∈ lw_tbl, w.before #[Value.ref b] s = true) ∧ va_X b L xs s s.heap ∧ b < s.heap.size ∧ meth.locks = false ∧ (Jvm.Cond.and given_1 narrow_1).before #[Value.ref b] s = true
/-- the law's body, out of what the small machine comes to -/
theorem jl_start {p : Program} {e : Env} {s : State} {m : MethodId} {below : List Frame} {meth : Method} {c : Code} (l : Launch) {b L : Nat} {xs : Nat → Int32} {M' : jm_M} (hD : jm_D 11 149 0 [some (.inr (some (75, 0))), none, none, none] [] (jl_M0 L xs) = some (some (.inl (nI 1)), M')) (h1 : (jm_al M').length ≤ 600000) (h2 : jm_sl M' ≤ 7302250) (C0 : lw_At p s m meth c b L xs) : W p l e room_1 s m #[Value.ref b] below meth c s.heap [] 0 0 (lw_Z below #[Value.ref b] s) (entryFrame m ([Value.ref b] : List Value).toArray 4) := by
  obtain ⟨hx, hb, hr, hml, hown, hts, hX, hbl, hlocks, hgv⟩ := C0
  have hs := flat_of_before _ hgv
  obtain ⟨D, cA, ra, hra, hG⟩ := jl_G hts hs hX hbl
  obtain ⟨n, hn⟩ := jm_D_some.mp hD
  have hsd := jm_sound (l := l) (D := D) (cA := cA) (A := fun q => s.heap.size ≤ q) (ra := ra) (n0 := fun k => jm_n (jl_M0 L xs) k 0) (f0 := fun k j => jm_I (jl_M0 L xs) k 0 j) _ _ _ _ _ _ _ _ _ hn
  have hCx : jm_Cx D cA (fun q => s.heap.size ≤ q) ra (fun k => jm_n (jl_M0 L xs) k 0) (fun k j => jm_I (jl_M0 L xs) k 0 j) p room_1 s m #[Value.ref b] meth c 11 149 :=
    ⟨hx, hb, hml, hown, jl_W hts, fun h => absurd h (by decide), hG, by decide, by decide, fun q h => h⟩
  have hLR := jm_LR_entry (ad := fun k _ => ra k) (vs := [.inr (some (75, 0))]) (j := 149) (by decide)
  rw [lg_entry_eq]
  have hvs : ([.inr (some (75, 0))] : List jm_V).map (jm_vl (fun k _ => ra k)) = [Value.ref b] := by
    show [Value.ref (ra 75)] = _
    rw [hra]
  rw [hvs] at hLR
  have hLR : jm_LR (fun k _ => ra k) (lg_sl [Value.ref b] ++ List.replicate (4 - (lg_sl [Value.ref b]).length) Slot.unset).toArray 4 [some (.inr (some (75, 0))), none, none, none] := hLR
  generalize (lg_sl [Value.ref b] ++ List.replicate (4 - (lg_sl [Value.ref b]).length) Slot.unset).toArray = ls at hLR ⊢
  have key := hsd.2.2 p e room_1 s m #[Value.ref b] below meth c (jm_al M').length (jm_sl M') (lw_Z below #[Value.ref b] s) (jl_M0 L xs) (fun k _ => ra k) hCx ?_ h1 h2 (fun k _ => ra k) s.heap [] 0 0 ls (jl_wf L xs) (fun v hv => by cases hv) ?_ (jm_gr.rf _) (jm_ext.rf _ _) (fun _ _ _ => rfl) ⟨fun k q h => (by cases h), fun i j p q h => (by cases h), fun k q h => (by cases h)⟩ va_S.rf hLR (by show 0 + _ = _ + 0; omega) (by show 0 + _ = _ + 0; omega)
  · exact key
  · intro ad H locs ls2 ix2 g1 g2 g3 g4 g5
    refine va_forget (fun q hq => g4.2.2 q hq) (W.widen (k := 600000) (n := 7302250) h1 h2 ?_)
    rcases g5 with ⟨x, en, hx1, hc, -⟩ | ⟨x, en, hx1, hc⟩ | ⟨en, hx1, hc⟩
    · obtain ⟨pc, len, a, b2, v⟩ := en
      obtain ⟨hd, hp, hz, -, -⟩ := jm_ck hc
      have hz := hz rfl
      subst hz
      rw [hp]
      exact lw_ret hx hb hr hlocks hd
    · cases hx1
    · cases hx1
  · intro v hv
    rcases List.mem_cons.mp hv with e1 | e1
    · cases e1
      intro y hy
      cases hy
      intro q hq
      cases hq
      show 0 < (if 71 ≤ 75 ∧ 75 ≤ 76 then 1 else 0)
      decide
    · rcases List.mem_cons.mp e1 with e2 | e2
      · cases e2
      · rcases List.mem_cons.mp e2 with e3 | e3
        · cases e3
        · rcases List.mem_cons.mp e3 with e4 | e4
          · cases e4
          · cases e4
