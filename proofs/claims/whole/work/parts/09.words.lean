/-! Words of the tables, by their places. -/
theorem jm_inW {w : Cond} {n : Nat} (h : tables_1[n]? = some w) (hg : jm_gw w = true) : w ∈ jm_Wall := List.mem_filter.mpr ⟨List.mem_append_right _ (List.mem_of_getElem? h), hg⟩
theorem jm_inP {q : MethodName × Nat} (h : q ∈ lw_privs) : Cond.selects q.1.cls q.1 q.1 ∈ jm_Wall := List.mem_filter.mpr ⟨List.mem_append_left _ (List.mem_map.mpr ⟨q, h, rfl⟩), rfl⟩
theorem jw_1 : (Jvm.Cond.initialized "EpochLeaves") ∈ jm_Wall := jm_inW (n := 1) (by decide +kernel) rfl
theorem jw_2 : (Jvm.Cond.initialized "java/util/AbstractCollection") ∈ jm_Wall := jm_inW (n := 2) (by decide +kernel) rfl
theorem jw_3 : (Jvm.Cond.initialized "java/util/AbstractList") ∈ jm_Wall := jm_inW (n := 3) (by decide +kernel) rfl
theorem jw_4 : (Jvm.Cond.initialized "java/util/ArrayList") ∈ jm_Wall := jm_inW (n := 4) (by decide +kernel) rfl
theorem jw_5 : (Jvm.Cond.initialized "EpochLeaves$Store") ∈ jm_Wall := jm_inW (n := 5) (by decide +kernel) rfl
theorem jw_6 : (Jvm.Cond.initialized "EpochLeaves$Leaf") ∈ jm_Wall := jm_inW (n := 6) (by decide +kernel) rfl
theorem jw_7 : (Jvm.Cond.initialized "EpochLeaves$Procedure") ∈ jm_Wall := jm_inW (n := 7) (by decide +kernel) rfl
theorem jw_8 : (Jvm.Cond.initialized "EpochLeaves$Worker") ∈ jm_Wall := jm_inW (n := 8) (by decide +kernel) rfl
theorem jw_9 : (Jvm.Cond.initialized "EpochLeaves$Transaction") ∈ jm_Wall := jm_inW (n := 9) (by decide +kernel) rfl
theorem jw_10 : (Jvm.Cond.initialized "EpochLeaves$Log") ∈ jm_Wall := jm_inW (n := 10) (by decide +kernel) rfl
theorem jw_11 : (Jvm.Cond.initialized "EpochLeavesModel") ∈ jm_Wall := jm_inW (n := 11) (by decide +kernel) rfl
theorem jw_12 : (Jvm.Cond.initialized "jdk/internal/util/ArraysSupport") ∈ jm_Wall := jm_inW (n := 12) (by decide +kernel) rfl
theorem jw_13 : (Jvm.Cond.initialized "java/lang/Math") ∈ jm_Wall := jm_inW (n := 13) (by decide +kernel) rfl
theorem jw_14 : (Jvm.Cond.initialized "java/util/Arrays") ∈ jm_Wall := jm_inW (n := 14) (by decide +kernel) rfl
theorem jw_15 : (Jvm.Cond.initialized "java/lang/System") ∈ jm_Wall := jm_inW (n := 15) (by decide +kernel) rfl
theorem jw_16 : (Jvm.Cond.initialized "java/util/Objects") ∈ jm_Wall := jm_inW (n := 16) (by decide +kernel) rfl
theorem jw_17 : (Jvm.Cond.initialized "jdk/internal/util/Preconditions") ∈ jm_Wall := jm_inW (n := 17) (by decide +kernel) rfl
theorem jw_18 : (Jvm.Cond.classLink "EpochLeavesLaw" (7 : Nat) "EpochLeaves") ∈ jm_Wall := jm_inW (n := 18) (by decide +kernel) rfl
theorem jw_19 : (Jvm.Cond.instantiable "EpochLeaves" (6 : Nat)) ∈ jm_Wall := jm_inW (n := 19) (by decide +kernel) rfl
theorem jw_20 : (Jvm.Cond.methodLink "EpochLeavesLaw" (9 : Nat) ({ cls := "EpochLeaves", name := "<init>", desc := "()V" } : Jvm.MethodName)) ∈ jm_Wall := jm_inW (n := 20) (by decide +kernel) rfl
theorem jw_21 : (Jvm.Cond.instanceMethod ({ cls := "EpochLeaves", name := "<init>", desc := "()V" } : Jvm.MethodName)) ∈ jm_Wall := jm_inW (n := 21) (by decide +kernel) rfl
set_option maxRecDepth 100000 in
theorem jw_22 : (Jvm.Cond.code ({ cls := "EpochLeaves", name := "<init>", desc := "()V" } : Jvm.MethodName) prog_1_method_1_code (2 : Nat) (Option.none : Option Jvm.ClassFile.FieldType)) ∈ jm_Wall := jm_inW (n := 22) (rfl) rfl
theorem jw_23 : (Jvm.Cond.methodLink "EpochLeaves" (1 : Nat) ({ cls := "java/lang/Object", name := "<init>", desc := "()V" } : Jvm.MethodName)) ∈ jm_Wall := jm_inW (n := 23) (by decide +kernel) rfl
theorem jw_24 : (Jvm.Cond.instanceMethod ({ cls := "java/lang/Object", name := "<init>", desc := "()V" } : Jvm.MethodName)) ∈ jm_Wall := jm_inW (n := 24) (by decide +kernel) rfl
set_option maxRecDepth 100000 in
theorem jw_25 : (Jvm.Cond.code ({ cls := "java/lang/Object", name := "<init>", desc := "()V" } : Jvm.MethodName) object_method_1_code (1 : Nat) (Option.none : Option Jvm.ClassFile.FieldType)) ∈ jm_Wall := jm_inW (n := 25) (rfl) rfl
theorem jw_26 : (Jvm.Cond.classLink "EpochLeaves" (9 : Nat) "EpochLeaves$Procedure") ∈ jm_Wall := jm_inW (n := 26) (by decide +kernel) rfl
theorem jw_28 : (Jvm.Cond.classLink "EpochLeaves" (15 : Nat) "EpochLeaves$Worker") ∈ jm_Wall := jm_inW (n := 28) (by decide +kernel) rfl
theorem jw_30 : (Jvm.Cond.classLink "EpochLeaves" (21 : Nat) "EpochLeaves$Log") ∈ jm_Wall := jm_inW (n := 30) (by decide +kernel) rfl
theorem jw_32 : (Jvm.Cond.classLink "EpochLeaves" (27 : Nat) "java/util/ArrayList") ∈ jm_Wall := jm_inW (n := 32) (by decide +kernel) rfl
theorem jw_33 : (Jvm.Cond.instantiable "java/util/ArrayList" (3 : Nat)) ∈ jm_Wall := jm_inW (n := 33) (by decide +kernel) rfl
theorem jw_34 : (Jvm.Cond.methodLink "EpochLeaves" (29 : Nat) ({ cls := "java/util/ArrayList", name := "<init>", desc := "()V" } : Jvm.MethodName)) ∈ jm_Wall := jm_inW (n := 34) (by decide +kernel) rfl
theorem jw_35 : (Jvm.Cond.instanceMethod ({ cls := "java/util/ArrayList", name := "<init>", desc := "()V" } : Jvm.MethodName)) ∈ jm_Wall := jm_inW (n := 35) (by decide +kernel) rfl
set_option maxRecDepth 100000 in
theorem jw_36 : (Jvm.Cond.code ({ cls := "java/util/ArrayList", name := "<init>", desc := "()V" } : Jvm.MethodName) prog_17_method_2_code (1 : Nat) (Option.none : Option Jvm.ClassFile.FieldType)) ∈ jm_Wall := jm_inW (n := 36) (rfl) rfl
theorem jw_37 : (Jvm.Cond.methodLink "java/util/ArrayList" (1 : Nat) ({ cls := "java/util/AbstractList", name := "<init>", desc := "()V" } : Jvm.MethodName)) ∈ jm_Wall := jm_inW (n := 37) (by decide +kernel) rfl
theorem jw_38 : (Jvm.Cond.instanceMethod ({ cls := "java/util/AbstractList", name := "<init>", desc := "()V" } : Jvm.MethodName)) ∈ jm_Wall := jm_inW (n := 38) (by decide +kernel) rfl
set_option maxRecDepth 100000 in
theorem jw_39 : (Jvm.Cond.code ({ cls := "java/util/AbstractList", name := "<init>", desc := "()V" } : Jvm.MethodName) prog_16_method_1_code (1 : Nat) (Option.none : Option Jvm.ClassFile.FieldType)) ∈ jm_Wall := jm_inW (n := 39) (rfl) rfl
theorem jw_40 : (Jvm.Cond.methodLink "java/util/AbstractList" (1 : Nat) ({ cls := "java/util/AbstractCollection", name := "<init>", desc := "()V" } : Jvm.MethodName)) ∈ jm_Wall := jm_inW (n := 40) (by decide +kernel) rfl
theorem jw_41 : (Jvm.Cond.instanceMethod ({ cls := "java/util/AbstractCollection", name := "<init>", desc := "()V" } : Jvm.MethodName)) ∈ jm_Wall := jm_inW (n := 41) (by decide +kernel) rfl
set_option maxRecDepth 100000 in
theorem jw_42 : (Jvm.Cond.code ({ cls := "java/util/AbstractCollection", name := "<init>", desc := "()V" } : Jvm.MethodName) prog_15_method_1_code (1 : Nat) (Option.none : Option Jvm.ClassFile.FieldType)) ∈ jm_Wall := jm_inW (n := 42) (rfl) rfl
theorem jw_43 : (Jvm.Cond.methodLink "java/util/AbstractCollection" (1 : Nat) ({ cls := "java/lang/Object", name := "<init>", desc := "()V" } : Jvm.MethodName)) ∈ jm_Wall := jm_inW (n := 43) (by decide +kernel) rfl
theorem jw_44 : (Jvm.Cond.fieldLink "java/util/ArrayList" (39 : Nat) "java/util/ArrayList" "DEFAULTCAPACITY_EMPTY_ELEMENTDATA" "[Ljava/lang/Object;") ∈ jm_Wall := jm_inW (n := 44) (by decide +kernel) rfl
theorem jw_46 : (Jvm.Cond.fieldLink "java/util/ArrayList" (9 : Nat) "java/util/ArrayList" "elementData" "[Ljava/lang/Object;") ∈ jm_Wall := jm_inW (n := 46) (by decide +kernel) rfl
theorem jw_47 : (Jvm.Cond.fieldLink "java/util/ArrayList" (48 : Nat) "java/util/ArrayList" "size" "I") ∈ jm_Wall := jm_inW (n := 47) (by decide +kernel) rfl
theorem jw_48 : (Jvm.Cond.fieldLink "java/util/AbstractList" (7 : Nat) "java/util/AbstractList" "modCount" "I") ∈ jm_Wall := jm_inW (n := 48) (by decide +kernel) rfl
theorem jw_49 : (Jvm.Cond.fieldLink "java/util/ArrayList" (63 : Nat) "java/util/ArrayList" "modCount" "I") ∈ jm_Wall := jm_inW (n := 49) (by decide +kernel) rfl
theorem jw_50 : (Jvm.Cond.sameField "java/util/ArrayList" "java/util/AbstractList" "modCount" "I") ∈ jm_Wall := jm_inW (n := 50) (by decide +kernel) rfl
theorem jw_51 : (Jvm.Cond.lays "java/util/ArrayList" "java/util/ArrayList" "elementData" "[Ljava/lang/Object;") ∈ jm_Wall := jm_inW (n := 51) (by decide +kernel) rfl
theorem jw_53 : (Jvm.Cond.lays "java/util/ArrayList" "java/util/ArrayList" "size" "I") ∈ jm_Wall := jm_inW (n := 53) (by decide +kernel) rfl
theorem jw_55 : (Jvm.Cond.lays "java/util/ArrayList" "java/util/AbstractList" "modCount" "I") ∈ jm_Wall := jm_inW (n := 55) (by decide +kernel) rfl
theorem jw_58 : (Jvm.Cond.classLink "EpochLeaves" (34 : Nat) "EpochLeaves$Store") ∈ jm_Wall := jm_inW (n := 58) (by decide +kernel) rfl
theorem jw_59 : (Jvm.Cond.instantiable "EpochLeaves$Store" (7 : Nat)) ∈ jm_Wall := jm_inW (n := 59) (by decide +kernel) rfl
theorem jw_60 : (Jvm.Cond.methodLink "EpochLeaves" (36 : Nat) ({ cls := "EpochLeaves$Store", name := "<init>", desc := "()V" } : Jvm.MethodName)) ∈ jm_Wall := jm_inW (n := 60) (by decide +kernel) rfl
theorem jw_61 : (Jvm.Cond.instanceMethod ({ cls := "EpochLeaves$Store", name := "<init>", desc := "()V" } : Jvm.MethodName)) ∈ jm_Wall := jm_inW (n := 61) (by decide +kernel) rfl
set_option maxRecDepth 100000 in
theorem jw_62 : (Jvm.Cond.code ({ cls := "EpochLeaves$Store", name := "<init>", desc := "()V" } : Jvm.MethodName) prog_5_method_1_code (2 : Nat) (Option.none : Option Jvm.ClassFile.FieldType)) ∈ jm_Wall := jm_inW (n := 62) (rfl) rfl
theorem jw_63 : (Jvm.Cond.methodLink "EpochLeaves$Store" (3 : Nat) ({ cls := "java/lang/Object", name := "<init>", desc := "()V" } : Jvm.MethodName)) ∈ jm_Wall := jm_inW (n := 63) (by decide +kernel) rfl
theorem jw_64 : (Jvm.Cond.classLink "EpochLeaves$Store" (24 : Nat) "EpochLeaves$Leaf") ∈ jm_Wall := jm_inW (n := 64) (by decide +kernel) rfl
theorem jw_66 : (Jvm.Cond.instantiable "EpochLeaves$Leaf" (4 : Nat)) ∈ jm_Wall := jm_inW (n := 66) (by decide +kernel) rfl
theorem jw_67 : (Jvm.Cond.methodLink "EpochLeaves$Store" (37 : Nat) ({ cls := "EpochLeaves$Leaf", name := "<init>", desc := "(I)V" } : Jvm.MethodName)) ∈ jm_Wall := jm_inW (n := 67) (by decide +kernel) rfl
theorem jw_68 : (Jvm.Cond.instanceMethod ({ cls := "EpochLeaves$Leaf", name := "<init>", desc := "(I)V" } : Jvm.MethodName)) ∈ jm_Wall := jm_inW (n := 68) (by decide +kernel) rfl
set_option maxRecDepth 100000 in
theorem jw_69 : (Jvm.Cond.code ({ cls := "EpochLeaves$Leaf", name := "<init>", desc := "(I)V" } : Jvm.MethodName) prog_2_method_1_code (2 : Nat) (Option.none : Option Jvm.ClassFile.FieldType)) ∈ jm_Wall := jm_inW (n := 69) (rfl) rfl
theorem jw_70 : (Jvm.Cond.methodLink "EpochLeaves$Leaf" (1 : Nat) ({ cls := "java/lang/Object", name := "<init>", desc := "()V" } : Jvm.MethodName)) ∈ jm_Wall := jm_inW (n := 70) (by decide +kernel) rfl
theorem jw_71 : (Jvm.Cond.fieldLink "EpochLeaves$Leaf" (13 : Nat) "EpochLeaves$Leaf" "name" "I") ∈ jm_Wall := jm_inW (n := 71) (by decide +kernel) rfl
theorem jw_72 : (Jvm.Cond.fieldLink "EpochLeaves" (165 : Nat) "EpochLeaves$Leaf" "name" "I") ∈ jm_Wall := jm_inW (n := 72) (by decide +kernel) rfl
theorem jw_73 : (Jvm.Cond.fieldLink "EpochLeaves$Worker" (175 : Nat) "EpochLeaves$Leaf" "name" "I") ∈ jm_Wall := jm_inW (n := 73) (by decide +kernel) rfl
theorem jw_74 : (Jvm.Cond.fieldLink "EpochLeaves$Leaf" (9 : Nat) "EpochLeaves$Leaf" "keys" "[I") ∈ jm_Wall := jm_inW (n := 74) (by decide +kernel) rfl
theorem jw_75 : (Jvm.Cond.fieldLink "EpochLeaves$Store" (43 : Nat) "EpochLeaves$Leaf" "keys" "[I") ∈ jm_Wall := jm_inW (n := 75) (by decide +kernel) rfl
theorem jw_76 : (Jvm.Cond.fieldLink "EpochLeaves" (176 : Nat) "EpochLeaves$Leaf" "keys" "[I") ∈ jm_Wall := jm_inW (n := 76) (by decide +kernel) rfl
theorem jw_77 : (Jvm.Cond.fieldLink "EpochLeaves$Leaf" (17 : Nat) "EpochLeaves$Leaf" "count" "I") ∈ jm_Wall := jm_inW (n := 77) (by decide +kernel) rfl
theorem jw_78 : (Jvm.Cond.fieldLink "EpochLeaves$Store" (57 : Nat) "EpochLeaves$Leaf" "count" "I") ∈ jm_Wall := jm_inW (n := 78) (by decide +kernel) rfl
theorem jw_79 : (Jvm.Cond.fieldLink "EpochLeaves" (173 : Nat) "EpochLeaves$Leaf" "count" "I") ∈ jm_Wall := jm_inW (n := 79) (by decide +kernel) rfl
theorem jw_80 : (Jvm.Cond.fieldLink "EpochLeaves$Leaf" (20 : Nat) "EpochLeaves$Leaf" "version" "I") ∈ jm_Wall := jm_inW (n := 80) (by decide +kernel) rfl
theorem jw_81 : (Jvm.Cond.fieldLink "EpochLeaves" (170 : Nat) "EpochLeaves$Leaf" "version" "I") ∈ jm_Wall := jm_inW (n := 81) (by decide +kernel) rfl
theorem jw_82 : (Jvm.Cond.fieldLink "EpochLeaves$Worker" (180 : Nat) "EpochLeaves$Leaf" "version" "I") ∈ jm_Wall := jm_inW (n := 82) (by decide +kernel) rfl
theorem jw_83 : (Jvm.Cond.laysFinal "EpochLeaves$Leaf" "EpochLeaves$Leaf" "name" "I") ∈ jm_Wall := jm_inW (n := 83) (by decide +kernel) rfl
theorem jw_85 : (Jvm.Cond.laysFinal "EpochLeaves$Leaf" "EpochLeaves$Leaf" "keys" "[I") ∈ jm_Wall := jm_inW (n := 85) (by decide +kernel) rfl
theorem jw_87 : (Jvm.Cond.lays "EpochLeaves$Leaf" "EpochLeaves$Leaf" "count" "I") ∈ jm_Wall := jm_inW (n := 87) (by decide +kernel) rfl
theorem jw_89 : (Jvm.Cond.lays "EpochLeaves$Leaf" "EpochLeaves$Leaf" "version" "I") ∈ jm_Wall := jm_inW (n := 89) (by decide +kernel) rfl
theorem jw_92 : (Jvm.Cond.arrayClass Jvm.ClassFile.FieldType.int) ∈ jm_Wall := jm_inW (n := 92) (by decide +kernel) rfl
theorem jw_93 : (Jvm.Cond.fieldLink "EpochLeaves$Store" (9 : Nat) "EpochLeaves$Store" "beings" "[I") ∈ jm_Wall := jm_inW (n := 93) (by decide +kernel) rfl
theorem jw_94 : (Jvm.Cond.fieldLink "EpochLeaves" (145 : Nat) "EpochLeaves$Store" "beings" "[I") ∈ jm_Wall := jm_inW (n := 94) (by decide +kernel) rfl
theorem jw_95 : (Jvm.Cond.fieldLink "EpochLeaves$Worker" (186 : Nat) "EpochLeaves$Store" "beings" "[I") ∈ jm_Wall := jm_inW (n := 95) (by decide +kernel) rfl
theorem jw_96 : (Jvm.Cond.fieldLink "EpochLeaves$Store" (15 : Nat) "EpochLeaves$Store" "values" "[I") ∈ jm_Wall := jm_inW (n := 96) (by decide +kernel) rfl
theorem jw_97 : (Jvm.Cond.fieldLink "EpochLeaves" (149 : Nat) "EpochLeaves$Store" "values" "[I") ∈ jm_Wall := jm_inW (n := 97) (by decide +kernel) rfl
theorem jw_98 : (Jvm.Cond.fieldLink "EpochLeaves$Worker" (192 : Nat) "EpochLeaves$Store" "values" "[I") ∈ jm_Wall := jm_inW (n := 98) (by decide +kernel) rfl
theorem jw_99 : (Jvm.Cond.fieldLink "EpochLeaves$Store" (18 : Nat) "EpochLeaves$Store" "stamps" "[I") ∈ jm_Wall := jm_inW (n := 99) (by decide +kernel) rfl
theorem jw_100 : (Jvm.Cond.fieldLink "EpochLeaves" (152 : Nat) "EpochLeaves$Store" "stamps" "[I") ∈ jm_Wall := jm_inW (n := 100) (by decide +kernel) rfl
theorem jw_101 : (Jvm.Cond.fieldLink "EpochLeaves$Worker" (172 : Nat) "EpochLeaves$Store" "stamps" "[I") ∈ jm_Wall := jm_inW (n := 101) (by decide +kernel) rfl
theorem jw_102 : (Jvm.Cond.fieldLink "EpochLeaves$Store" (21 : Nat) "EpochLeaves$Store" "locks" "[I") ∈ jm_Wall := jm_inW (n := 102) (by decide +kernel) rfl
theorem jw_103 : (Jvm.Cond.fieldLink "EpochLeaves" (155 : Nat) "EpochLeaves$Store" "locks" "[I") ∈ jm_Wall := jm_inW (n := 103) (by decide +kernel) rfl
theorem jw_104 : (Jvm.Cond.fieldLink "EpochLeaves$Worker" (206 : Nat) "EpochLeaves$Store" "locks" "[I") ∈ jm_Wall := jm_inW (n := 104) (by decide +kernel) rfl
theorem jw_105 : (Jvm.Cond.fieldLink "EpochLeaves$Store" (26 : Nat) "EpochLeaves$Store" "leaves" "[LEpochLeaves$Leaf;") ∈ jm_Wall := jm_inW (n := 105) (by decide +kernel) rfl
theorem jw_106 : (Jvm.Cond.fieldLink "EpochLeaves$Worker" (215 : Nat) "EpochLeaves$Store" "leaves" "[LEpochLeaves$Leaf;") ∈ jm_Wall := jm_inW (n := 106) (by decide +kernel) rfl
theorem jw_107 : (Jvm.Cond.fieldLink "EpochLeaves$Store" (30 : Nat) "EpochLeaves$Store" "places" "[I") ∈ jm_Wall := jm_inW (n := 107) (by decide +kernel) rfl
theorem jw_108 : (Jvm.Cond.fieldLink "EpochLeaves$Store" (33 : Nat) "EpochLeaves$Store" "leafCount" "I") ∈ jm_Wall := jm_inW (n := 108) (by decide +kernel) rfl
theorem jw_109 : (Jvm.Cond.fieldLink "EpochLeaves" (158 : Nat) "EpochLeaves$Store" "leafCount" "I") ∈ jm_Wall := jm_inW (n := 109) (by decide +kernel) rfl
theorem jw_110 : (Jvm.Cond.fieldLink "EpochLeaves$Worker" (209 : Nat) "EpochLeaves$Store" "leafCount" "I") ∈ jm_Wall := jm_inW (n := 110) (by decide +kernel) rfl
theorem jw_111 : (Jvm.Cond.laysFinal "EpochLeaves$Store" "EpochLeaves$Store" "beings" "[I") ∈ jm_Wall := jm_inW (n := 111) (by decide +kernel) rfl
theorem jw_113 : (Jvm.Cond.laysFinal "EpochLeaves$Store" "EpochLeaves$Store" "values" "[I") ∈ jm_Wall := jm_inW (n := 113) (by decide +kernel) rfl
theorem jw_115 : (Jvm.Cond.laysFinal "EpochLeaves$Store" "EpochLeaves$Store" "stamps" "[I") ∈ jm_Wall := jm_inW (n := 115) (by decide +kernel) rfl
theorem jw_117 : (Jvm.Cond.laysFinal "EpochLeaves$Store" "EpochLeaves$Store" "locks" "[I") ∈ jm_Wall := jm_inW (n := 117) (by decide +kernel) rfl
theorem jw_119 : (Jvm.Cond.laysFinal "EpochLeaves$Store" "EpochLeaves$Store" "leaves" "[LEpochLeaves$Leaf;") ∈ jm_Wall := jm_inW (n := 119) (by decide +kernel) rfl
theorem jw_121 : (Jvm.Cond.laysFinal "EpochLeaves$Store" "EpochLeaves$Store" "places" "[I") ∈ jm_Wall := jm_inW (n := 121) (by decide +kernel) rfl
theorem jw_123 : (Jvm.Cond.lays "EpochLeaves$Store" "EpochLeaves$Store" "leafCount" "I") ∈ jm_Wall := jm_inW (n := 123) (by decide +kernel) rfl
theorem jw_126 : (Jvm.Cond.instantiable "EpochLeaves$Procedure" (5 : Nat)) ∈ jm_Wall := jm_inW (n := 126) (by decide +kernel) rfl
theorem jw_128 : (Jvm.Cond.instanceMethod ({ cls := "EpochLeaves$Procedure", name := "<init>", desc := "()V" } : Jvm.MethodName)) ∈ jm_Wall := jm_inW (n := 128) (by decide +kernel) rfl
set_option maxRecDepth 100000 in
theorem jw_129 : (Jvm.Cond.code ({ cls := "EpochLeaves$Procedure", name := "<init>", desc := "()V" } : Jvm.MethodName) prog_4_method_1_code (1 : Nat) (Option.none : Option Jvm.ClassFile.FieldType)) ∈ jm_Wall := jm_inW (n := 129) (rfl) rfl
theorem jw_130 : (Jvm.Cond.methodLink "EpochLeaves$Procedure" (1 : Nat) ({ cls := "java/lang/Object", name := "<init>", desc := "()V" } : Jvm.MethodName)) ∈ jm_Wall := jm_inW (n := 130) (by decide +kernel) rfl
theorem jw_131 : (Jvm.Cond.fieldLink "EpochLeaves$Procedure" (9 : Nat) "EpochLeaves$Procedure" "ops" "[I") ∈ jm_Wall := jm_inW (n := 131) (by decide +kernel) rfl
theorem jw_132 : (Jvm.Cond.fieldLink "EpochLeaves$Worker" (86 : Nat) "EpochLeaves$Procedure" "ops" "[I") ∈ jm_Wall := jm_inW (n := 132) (by decide +kernel) rfl
theorem jw_133 : (Jvm.Cond.fieldLink "EpochLeaves$Procedure" (13 : Nat) "EpochLeaves$Procedure" "as" "[I") ∈ jm_Wall := jm_inW (n := 133) (by decide +kernel) rfl
theorem jw_134 : (Jvm.Cond.fieldLink "EpochLeaves$Worker" (89 : Nat) "EpochLeaves$Procedure" "as" "[I") ∈ jm_Wall := jm_inW (n := 134) (by decide +kernel) rfl
theorem jw_135 : (Jvm.Cond.fieldLink "EpochLeaves$Procedure" (16 : Nat) "EpochLeaves$Procedure" "bs" "[I") ∈ jm_Wall := jm_inW (n := 135) (by decide +kernel) rfl
theorem jw_136 : (Jvm.Cond.fieldLink "EpochLeaves$Worker" (92 : Nat) "EpochLeaves$Procedure" "bs" "[I") ∈ jm_Wall := jm_inW (n := 136) (by decide +kernel) rfl
theorem jw_137 : (Jvm.Cond.fieldLink "EpochLeaves$Procedure" (19 : Nat) "EpochLeaves$Procedure" "cs" "[I") ∈ jm_Wall := jm_inW (n := 137) (by decide +kernel) rfl
theorem jw_138 : (Jvm.Cond.fieldLink "EpochLeaves$Worker" (95 : Nat) "EpochLeaves$Procedure" "cs" "[I") ∈ jm_Wall := jm_inW (n := 138) (by decide +kernel) rfl
theorem jw_139 : (Jvm.Cond.fieldLink "EpochLeaves$Procedure" (31 : Nat) "EpochLeaves$Procedure" "size" "I") ∈ jm_Wall := jm_inW (n := 139) (by decide +kernel) rfl
theorem jw_140 : (Jvm.Cond.fieldLink "EpochLeaves" (69 : Nat) "EpochLeaves$Procedure" "size" "I") ∈ jm_Wall := jm_inW (n := 140) (by decide +kernel) rfl
theorem jw_141 : (Jvm.Cond.fieldLink "EpochLeaves$Worker" (75 : Nat) "EpochLeaves$Procedure" "size" "I") ∈ jm_Wall := jm_inW (n := 141) (by decide +kernel) rfl
theorem jw_142 : (Jvm.Cond.laysFinal "EpochLeaves$Procedure" "EpochLeaves$Procedure" "ops" "[I") ∈ jm_Wall := jm_inW (n := 142) (by decide +kernel) rfl
theorem jw_144 : (Jvm.Cond.laysFinal "EpochLeaves$Procedure" "EpochLeaves$Procedure" "as" "[I") ∈ jm_Wall := jm_inW (n := 144) (by decide +kernel) rfl
theorem jw_146 : (Jvm.Cond.laysFinal "EpochLeaves$Procedure" "EpochLeaves$Procedure" "bs" "[I") ∈ jm_Wall := jm_inW (n := 146) (by decide +kernel) rfl
theorem jw_148 : (Jvm.Cond.laysFinal "EpochLeaves$Procedure" "EpochLeaves$Procedure" "cs" "[I") ∈ jm_Wall := jm_inW (n := 148) (by decide +kernel) rfl
theorem jw_150 : (Jvm.Cond.lays "EpochLeaves$Procedure" "EpochLeaves$Procedure" "size" "I") ∈ jm_Wall := jm_inW (n := 150) (by decide +kernel) rfl
theorem jw_153 : (Jvm.Cond.instantiable "EpochLeaves$Worker" (13 : Nat)) ∈ jm_Wall := jm_inW (n := 153) (by decide +kernel) rfl
theorem jw_154 : (Jvm.Cond.methodLink "EpochLeaves" (46 : Nat) ({ cls := "EpochLeaves$Worker", name := "<init>", desc := "(I)V" } : Jvm.MethodName)) ∈ jm_Wall := jm_inW (n := 154) (by decide +kernel) rfl
theorem jw_155 : (Jvm.Cond.instanceMethod ({ cls := "EpochLeaves$Worker", name := "<init>", desc := "(I)V" } : Jvm.MethodName)) ∈ jm_Wall := jm_inW (n := 155) (by decide +kernel) rfl
set_option maxRecDepth 100000 in
theorem jw_156 : (Jvm.Cond.code ({ cls := "EpochLeaves$Worker", name := "<init>", desc := "(I)V" } : Jvm.MethodName) prog_7_method_1_code (2 : Nat) (Option.none : Option Jvm.ClassFile.FieldType)) ∈ jm_Wall := jm_inW (n := 156) (rfl) rfl
theorem jw_157 : (Jvm.Cond.methodLink "EpochLeaves$Worker" (3 : Nat) ({ cls := "java/lang/Object", name := "<init>", desc := "()V" } : Jvm.MethodName)) ∈ jm_Wall := jm_inW (n := 157) (by decide +kernel) rfl
theorem jw_158 : (Jvm.Cond.classLink "EpochLeaves$Worker" (23 : Nat) "EpochLeaves$Transaction") ∈ jm_Wall := jm_inW (n := 158) (by decide +kernel) rfl
theorem jw_159 : (Jvm.Cond.instantiable "EpochLeaves$Transaction" (7 : Nat)) ∈ jm_Wall := jm_inW (n := 159) (by decide +kernel) rfl
theorem jw_160 : (Jvm.Cond.methodLink "EpochLeaves$Worker" (25 : Nat) ({ cls := "EpochLeaves$Transaction", name := "<init>", desc := "(I)V" } : Jvm.MethodName)) ∈ jm_Wall := jm_inW (n := 160) (by decide +kernel) rfl
theorem jw_161 : (Jvm.Cond.instanceMethod ({ cls := "EpochLeaves$Transaction", name := "<init>", desc := "(I)V" } : Jvm.MethodName)) ∈ jm_Wall := jm_inW (n := 161) (by decide +kernel) rfl
set_option maxRecDepth 100000 in
theorem jw_162 : (Jvm.Cond.code ({ cls := "EpochLeaves$Transaction", name := "<init>", desc := "(I)V" } : Jvm.MethodName) prog_6_method_1_code (2 : Nat) (Option.none : Option Jvm.ClassFile.FieldType)) ∈ jm_Wall := jm_inW (n := 162) (rfl) rfl
theorem jw_163 : (Jvm.Cond.methodLink "EpochLeaves$Transaction" (3 : Nat) ({ cls := "java/lang/Object", name := "<init>", desc := "()V" } : Jvm.MethodName)) ∈ jm_Wall := jm_inW (n := 163) (by decide +kernel) rfl
theorem jw_164 : (Jvm.Cond.fieldLink "EpochLeaves$Transaction" (22 : Nat) "EpochLeaves$Transaction" "number" "I") ∈ jm_Wall := jm_inW (n := 164) (by decide +kernel) rfl
theorem jw_165 : (Jvm.Cond.fieldLink "EpochLeaves" (92 : Nat) "EpochLeaves$Transaction" "number" "I") ∈ jm_Wall := jm_inW (n := 165) (by decide +kernel) rfl
theorem jw_166 : (Jvm.Cond.fieldLink "EpochLeaves$Transaction" (9 : Nat) "EpochLeaves$Transaction" "kinds" "[I") ∈ jm_Wall := jm_inW (n := 166) (by decide +kernel) rfl
theorem jw_167 : (Jvm.Cond.fieldLink "EpochLeaves$Transaction" (15 : Nat) "EpochLeaves$Transaction" "values" "[I") ∈ jm_Wall := jm_inW (n := 167) (by decide +kernel) rfl
theorem jw_168 : (Jvm.Cond.fieldLink "EpochLeaves$Worker" (189 : Nat) "EpochLeaves$Transaction" "values" "[I") ∈ jm_Wall := jm_inW (n := 168) (by decide +kernel) rfl
theorem jw_169 : (Jvm.Cond.fieldLink "EpochLeaves" (229 : Nat) "EpochLeaves$Transaction" "values" "[I") ∈ jm_Wall := jm_inW (n := 169) (by decide +kernel) rfl
theorem jw_170 : (Jvm.Cond.fieldLink "EpochLeaves$Transaction" (33 : Nat) "EpochLeaves$Transaction" "writeCount" "I") ∈ jm_Wall := jm_inW (n := 170) (by decide +kernel) rfl
theorem jw_171 : (Jvm.Cond.fieldLink "EpochLeaves" (186 : Nat) "EpochLeaves$Transaction" "writeCount" "I") ∈ jm_Wall := jm_inW (n := 171) (by decide +kernel) rfl
theorem jw_172 : (Jvm.Cond.fieldLink "EpochLeaves$Transaction" (18 : Nat) "EpochLeaves$Transaction" "status" "I") ∈ jm_Wall := jm_inW (n := 172) (by decide +kernel) rfl
theorem jw_173 : (Jvm.Cond.fieldLink "EpochLeaves$Log" (44 : Nat) "EpochLeaves$Transaction" "status" "I") ∈ jm_Wall := jm_inW (n := 173) (by decide +kernel) rfl
theorem jw_174 : (Jvm.Cond.fieldLink "EpochLeaves$Worker" (54 : Nat) "EpochLeaves$Transaction" "status" "I") ∈ jm_Wall := jm_inW (n := 174) (by decide +kernel) rfl
theorem jw_175 : (Jvm.Cond.fieldLink "EpochLeaves" (133 : Nat) "EpochLeaves$Transaction" "status" "I") ∈ jm_Wall := jm_inW (n := 175) (by decide +kernel) rfl
theorem jw_176 : (Jvm.Cond.fieldLink "EpochLeaves" (139 : Nat) "EpochLeaves$Transaction" "given" "I") ∈ jm_Wall := jm_inW (n := 176) (by decide +kernel) rfl
theorem jw_177 : (Jvm.Cond.fieldLink "EpochLeaves$Worker" (193 : Nat) "EpochLeaves$Transaction" "given" "I") ∈ jm_Wall := jm_inW (n := 177) (by decide +kernel) rfl
theorem jw_178 : (Jvm.Cond.fieldLink "EpochLeaves$Transaction" (36 : Nat) "EpochLeaves$Transaction" "stamp" "I") ∈ jm_Wall := jm_inW (n := 178) (by decide +kernel) rfl
theorem jw_179 : (Jvm.Cond.fieldLink "EpochLeaves" (136 : Nat) "EpochLeaves$Transaction" "stamp" "I") ∈ jm_Wall := jm_inW (n := 179) (by decide +kernel) rfl
theorem jw_180 : (Jvm.Cond.fieldLink "EpochLeaves$Worker" (229 : Nat) "EpochLeaves$Transaction" "stamp" "I") ∈ jm_Wall := jm_inW (n := 180) (by decide +kernel) rfl
theorem jw_181 : (Jvm.Cond.laysFinal "EpochLeaves$Transaction" "EpochLeaves$Transaction" "number" "I") ∈ jm_Wall := jm_inW (n := 181) (by decide +kernel) rfl
theorem jw_183 : (Jvm.Cond.laysFinal "EpochLeaves$Transaction" "EpochLeaves$Transaction" "kinds" "[I") ∈ jm_Wall := jm_inW (n := 183) (by decide +kernel) rfl
theorem jw_185 : (Jvm.Cond.laysFinal "EpochLeaves$Transaction" "EpochLeaves$Transaction" "values" "[I") ∈ jm_Wall := jm_inW (n := 185) (by decide +kernel) rfl
theorem jw_187 : (Jvm.Cond.lays "EpochLeaves$Transaction" "EpochLeaves$Transaction" "writeCount" "I") ∈ jm_Wall := jm_inW (n := 187) (by decide +kernel) rfl
theorem jw_189 : (Jvm.Cond.lays "EpochLeaves$Transaction" "EpochLeaves$Transaction" "status" "I") ∈ jm_Wall := jm_inW (n := 189) (by decide +kernel) rfl
theorem jw_191 : (Jvm.Cond.lays "EpochLeaves$Transaction" "EpochLeaves$Transaction" "given" "I") ∈ jm_Wall := jm_inW (n := 191) (by decide +kernel) rfl
theorem jw_193 : (Jvm.Cond.lays "EpochLeaves$Transaction" "EpochLeaves$Transaction" "stamp" "I") ∈ jm_Wall := jm_inW (n := 193) (by decide +kernel) rfl
theorem jw_196 : (Jvm.Cond.fieldLink "EpochLeaves$Worker" (36 : Nat) "EpochLeaves$Worker" "sign" "I") ∈ jm_Wall := jm_inW (n := 196) (by decide +kernel) rfl
theorem jw_197 : (Jvm.Cond.fieldLink "EpochLeaves$Worker" (9 : Nat) "EpochLeaves$Worker" "registers" "[I") ∈ jm_Wall := jm_inW (n := 197) (by decide +kernel) rfl
theorem jw_198 : (Jvm.Cond.fieldLink "EpochLeaves" (195 : Nat) "EpochLeaves$Worker" "registers" "[I") ∈ jm_Wall := jm_inW (n := 198) (by decide +kernel) rfl
theorem jw_199 : (Jvm.Cond.fieldLink "EpochLeaves$Worker" (15 : Nat) "EpochLeaves$Worker" "readStamps" "[I") ∈ jm_Wall := jm_inW (n := 199) (by decide +kernel) rfl
theorem jw_200 : (Jvm.Cond.fieldLink "EpochLeaves$Worker" (20 : Nat) "EpochLeaves$Worker" "nodeVersions" "[I") ∈ jm_Wall := jm_inW (n := 200) (by decide +kernel) rfl
theorem jw_201 : (Jvm.Cond.fieldLink "EpochLeaves$Worker" (39 : Nat) "EpochLeaves$Worker" "procedureNumber" "I") ∈ jm_Wall := jm_inW (n := 201) (by decide +kernel) rfl
theorem jw_202 : (Jvm.Cond.fieldLink "EpochLeaves" (207 : Nat) "EpochLeaves$Worker" "procedureNumber" "I") ∈ jm_Wall := jm_inW (n := 202) (by decide +kernel) rfl
theorem jw_203 : (Jvm.Cond.fieldLink "EpochLeaves$Worker" (28 : Nat) "EpochLeaves$Worker" "work" "LEpochLeaves$Transaction;") ∈ jm_Wall := jm_inW (n := 203) (by decide +kernel) rfl
theorem jw_204 : (Jvm.Cond.fieldLink "EpochLeaves" (179 : Nat) "EpochLeaves$Worker" "work" "LEpochLeaves$Transaction;") ∈ jm_Wall := jm_inW (n := 204) (by decide +kernel) rfl
theorem jw_205 : (Jvm.Cond.fieldLink "EpochLeaves$Worker" (32 : Nat) "EpochLeaves$Worker" "state" "I") ∈ jm_Wall := jm_inW (n := 205) (by decide +kernel) rfl
theorem jw_206 : (Jvm.Cond.fieldLink "EpochLeaves" (75 : Nat) "EpochLeaves$Worker" "state" "I") ∈ jm_Wall := jm_inW (n := 206) (by decide +kernel) rfl
theorem jw_207 : (Jvm.Cond.fieldLink "EpochLeaves$Worker" (48 : Nat) "EpochLeaves$Worker" "next" "I") ∈ jm_Wall := jm_inW (n := 207) (by decide +kernel) rfl
theorem jw_208 : (Jvm.Cond.fieldLink "EpochLeaves" (183 : Nat) "EpochLeaves$Worker" "next" "I") ∈ jm_Wall := jm_inW (n := 208) (by decide +kernel) rfl
theorem jw_209 : (Jvm.Cond.fieldLink "EpochLeaves$Worker" (51 : Nat) "EpochLeaves$Worker" "instructionsDone" "I") ∈ jm_Wall := jm_inW (n := 209) (by decide +kernel) rfl
theorem jw_210 : (Jvm.Cond.fieldLink "EpochLeaves$Worker" (42 : Nat) "EpochLeaves$Worker" "readCount" "I") ∈ jm_Wall := jm_inW (n := 210) (by decide +kernel) rfl
theorem jw_211 : (Jvm.Cond.fieldLink "EpochLeaves" (189 : Nat) "EpochLeaves$Worker" "readCount" "I") ∈ jm_Wall := jm_inW (n := 211) (by decide +kernel) rfl
theorem jw_212 : (Jvm.Cond.fieldLink "EpochLeaves$Worker" (45 : Nat) "EpochLeaves$Worker" "nodeCount" "I") ∈ jm_Wall := jm_inW (n := 212) (by decide +kernel) rfl
theorem jw_213 : (Jvm.Cond.fieldLink "EpochLeaves" (192 : Nat) "EpochLeaves$Worker" "nodeCount" "I") ∈ jm_Wall := jm_inW (n := 213) (by decide +kernel) rfl
theorem jw_214 : (Jvm.Cond.fieldLink "EpochLeaves" (102 : Nat) "EpochLeaves$Worker" "ownEpoch" "I") ∈ jm_Wall := jm_inW (n := 214) (by decide +kernel) rfl
theorem jw_215 : (Jvm.Cond.fieldLink "EpochLeaves$Worker" (200 : Nat) "EpochLeaves$Worker" "ownEpoch" "I") ∈ jm_Wall := jm_inW (n := 215) (by decide +kernel) rfl
theorem jw_216 : (Jvm.Cond.fieldLink "EpochLeaves$Worker" (57 : Nat) "EpochLeaves$Worker" "latestStamp" "I") ∈ jm_Wall := jm_inW (n := 216) (by decide +kernel) rfl
theorem jw_217 : (Jvm.Cond.laysFinal "EpochLeaves$Worker" "EpochLeaves$Worker" "sign" "I") ∈ jm_Wall := jm_inW (n := 217) (by decide +kernel) rfl
theorem jw_219 : (Jvm.Cond.laysFinal "EpochLeaves$Worker" "EpochLeaves$Worker" "registers" "[I") ∈ jm_Wall := jm_inW (n := 219) (by decide +kernel) rfl
theorem jw_221 : (Jvm.Cond.laysFinal "EpochLeaves$Worker" "EpochLeaves$Worker" "readStamps" "[I") ∈ jm_Wall := jm_inW (n := 221) (by decide +kernel) rfl
theorem jw_223 : (Jvm.Cond.laysFinal "EpochLeaves$Worker" "EpochLeaves$Worker" "nodeVersions" "[I") ∈ jm_Wall := jm_inW (n := 223) (by decide +kernel) rfl
theorem jw_225 : (Jvm.Cond.lays "EpochLeaves$Worker" "EpochLeaves$Worker" "procedureNumber" "I") ∈ jm_Wall := jm_inW (n := 225) (by decide +kernel) rfl
theorem jw_227 : (Jvm.Cond.lays "EpochLeaves$Worker" "EpochLeaves$Worker" "work" "LEpochLeaves$Transaction;") ∈ jm_Wall := jm_inW (n := 227) (by decide +kernel) rfl
theorem jw_229 : (Jvm.Cond.lays "EpochLeaves$Worker" "EpochLeaves$Worker" "state" "I") ∈ jm_Wall := jm_inW (n := 229) (by decide +kernel) rfl
theorem jw_231 : (Jvm.Cond.lays "EpochLeaves$Worker" "EpochLeaves$Worker" "next" "I") ∈ jm_Wall := jm_inW (n := 231) (by decide +kernel) rfl
theorem jw_233 : (Jvm.Cond.lays "EpochLeaves$Worker" "EpochLeaves$Worker" "instructionsDone" "I") ∈ jm_Wall := jm_inW (n := 233) (by decide +kernel) rfl
theorem jw_235 : (Jvm.Cond.lays "EpochLeaves$Worker" "EpochLeaves$Worker" "readCount" "I") ∈ jm_Wall := jm_inW (n := 235) (by decide +kernel) rfl
theorem jw_237 : (Jvm.Cond.lays "EpochLeaves$Worker" "EpochLeaves$Worker" "nodeCount" "I") ∈ jm_Wall := jm_inW (n := 237) (by decide +kernel) rfl
theorem jw_239 : (Jvm.Cond.lays "EpochLeaves$Worker" "EpochLeaves$Worker" "ownEpoch" "I") ∈ jm_Wall := jm_inW (n := 239) (by decide +kernel) rfl
theorem jw_241 : (Jvm.Cond.lays "EpochLeaves$Worker" "EpochLeaves$Worker" "latestStamp" "I") ∈ jm_Wall := jm_inW (n := 241) (by decide +kernel) rfl
theorem jw_244 : (Jvm.Cond.instantiable "EpochLeaves$Log" (3 : Nat)) ∈ jm_Wall := jm_inW (n := 244) (by decide +kernel) rfl
theorem jw_246 : (Jvm.Cond.instanceMethod ({ cls := "EpochLeaves$Log", name := "<init>", desc := "()V" } : Jvm.MethodName)) ∈ jm_Wall := jm_inW (n := 246) (by decide +kernel) rfl
set_option maxRecDepth 100000 in
theorem jw_247 : (Jvm.Cond.code ({ cls := "EpochLeaves$Log", name := "<init>", desc := "()V" } : Jvm.MethodName) prog_3_method_1_code (1 : Nat) (Option.none : Option Jvm.ClassFile.FieldType)) ∈ jm_Wall := jm_inW (n := 247) (rfl) rfl
theorem jw_248 : (Jvm.Cond.methodLink "EpochLeaves$Log" (3 : Nat) ({ cls := "java/lang/Object", name := "<init>", desc := "()V" } : Jvm.MethodName)) ∈ jm_Wall := jm_inW (n := 248) (by decide +kernel) rfl
theorem jw_249 : (Jvm.Cond.classLink "EpochLeaves$Log" (9 : Nat) "java/util/ArrayList") ∈ jm_Wall := jm_inW (n := 249) (by decide +kernel) rfl
theorem jw_250 : (Jvm.Cond.methodLink "EpochLeaves$Log" (11 : Nat) ({ cls := "java/util/ArrayList", name := "<init>", desc := "()V" } : Jvm.MethodName)) ∈ jm_Wall := jm_inW (n := 250) (by decide +kernel) rfl
theorem jw_251 : (Jvm.Cond.fieldLink "EpochLeaves$Log" (12 : Nat) "EpochLeaves$Log" "kept" "Ljava/util/ArrayList;") ∈ jm_Wall := jm_inW (n := 251) (by decide +kernel) rfl
theorem jw_252 : (Jvm.Cond.fieldLink "EpochLeaves" (198 : Nat) "EpochLeaves$Log" "kept" "Ljava/util/ArrayList;") ∈ jm_Wall := jm_inW (n := 252) (by decide +kernel) rfl
theorem jw_253 : (Jvm.Cond.fieldLink "EpochLeaves$Log" (22 : Nat) "EpochLeaves$Log" "durableCount" "I") ∈ jm_Wall := jm_inW (n := 253) (by decide +kernel) rfl
theorem jw_254 : (Jvm.Cond.fieldLink "EpochLeaves" (201 : Nat) "EpochLeaves$Log" "durableCount" "I") ∈ jm_Wall := jm_inW (n := 254) (by decide +kernel) rfl
theorem jw_255 : (Jvm.Cond.fieldLink "EpochLeaves$Log" (26 : Nat) "EpochLeaves$Log" "mark" "I") ∈ jm_Wall := jm_inW (n := 255) (by decide +kernel) rfl
theorem jw_256 : (Jvm.Cond.fieldLink "EpochLeaves" (204 : Nat) "EpochLeaves$Log" "mark" "I") ∈ jm_Wall := jm_inW (n := 256) (by decide +kernel) rfl
theorem jw_257 : (Jvm.Cond.laysFinal "EpochLeaves$Log" "EpochLeaves$Log" "kept" "Ljava/util/ArrayList;") ∈ jm_Wall := jm_inW (n := 257) (by decide +kernel) rfl
theorem jw_259 : (Jvm.Cond.lays "EpochLeaves$Log" "EpochLeaves$Log" "durableCount" "I") ∈ jm_Wall := jm_inW (n := 259) (by decide +kernel) rfl
theorem jw_261 : (Jvm.Cond.lays "EpochLeaves$Log" "EpochLeaves$Log" "mark" "I") ∈ jm_Wall := jm_inW (n := 261) (by decide +kernel) rfl
theorem jw_264 : (Jvm.Cond.fieldLink "EpochLeaves" (11 : Nat) "EpochLeaves" "procedures" "[LEpochLeaves$Procedure;") ∈ jm_Wall := jm_inW (n := 264) (by decide +kernel) rfl
theorem jw_265 : (Jvm.Cond.fieldLink "EpochLeaves" (17 : Nat) "EpochLeaves" "workers" "[LEpochLeaves$Worker;") ∈ jm_Wall := jm_inW (n := 265) (by decide +kernel) rfl
theorem jw_266 : (Jvm.Cond.fieldLink "EpochLeaves" (23 : Nat) "EpochLeaves" "logs" "[LEpochLeaves$Log;") ∈ jm_Wall := jm_inW (n := 266) (by decide +kernel) rfl
theorem jw_267 : (Jvm.Cond.fieldLink "EpochLeaves" (30 : Nat) "EpochLeaves" "transactions" "Ljava/util/ArrayList;") ∈ jm_Wall := jm_inW (n := 267) (by decide +kernel) rfl
theorem jw_268 : (Jvm.Cond.fieldLink "EpochLeaves" (37 : Nat) "EpochLeaves" "store" "LEpochLeaves$Store;") ∈ jm_Wall := jm_inW (n := 268) (by decide +kernel) rfl
theorem jw_269 : (Jvm.Cond.fieldLink "EpochLeaves" (41 : Nat) "EpochLeaves" "storeEpoch" "I") ∈ jm_Wall := jm_inW (n := 269) (by decide +kernel) rfl
theorem jw_270 : (Jvm.Cond.laysFinal "EpochLeaves" "EpochLeaves" "procedures" "[LEpochLeaves$Procedure;") ∈ jm_Wall := jm_inW (n := 270) (by decide +kernel) rfl
theorem jw_272 : (Jvm.Cond.laysFinal "EpochLeaves" "EpochLeaves" "workers" "[LEpochLeaves$Worker;") ∈ jm_Wall := jm_inW (n := 272) (by decide +kernel) rfl
theorem jw_274 : (Jvm.Cond.laysFinal "EpochLeaves" "EpochLeaves" "logs" "[LEpochLeaves$Log;") ∈ jm_Wall := jm_inW (n := 274) (by decide +kernel) rfl
theorem jw_276 : (Jvm.Cond.laysFinal "EpochLeaves" "EpochLeaves" "transactions" "Ljava/util/ArrayList;") ∈ jm_Wall := jm_inW (n := 276) (by decide +kernel) rfl
theorem jw_278 : (Jvm.Cond.laysFinal "EpochLeaves" "EpochLeaves" "store" "LEpochLeaves$Store;") ∈ jm_Wall := jm_inW (n := 278) (by decide +kernel) rfl
theorem jw_280 : (Jvm.Cond.lays "EpochLeaves" "EpochLeaves" "storeEpoch" "I") ∈ jm_Wall := jm_inW (n := 280) (by decide +kernel) rfl
theorem jw_283 : (Jvm.Cond.methodLink "EpochLeavesLaw" (13 : Nat) ({ cls := "EpochLeaves", name := "code", desc := "(IIIII)I" } : Jvm.MethodName)) ∈ jm_Wall := jm_inW (n := 283) (by decide +kernel) rfl
theorem jw_284 : (Jvm.Cond.instanceMethod ({ cls := "EpochLeaves", name := "code", desc := "(IIIII)I" } : Jvm.MethodName)) ∈ jm_Wall := jm_inW (n := 284) (by decide +kernel) rfl
theorem jw_285 : (Jvm.Cond.selects "EpochLeaves" ({ cls := "EpochLeaves", name := "code", desc := "(IIIII)I" } : Jvm.MethodName) ({ cls := "EpochLeaves", name := "code", desc := "(IIIII)I" } : Jvm.MethodName)) ∈ jm_Wall := jm_inW (n := 285) (by decide +kernel) rfl
set_option maxRecDepth 100000 in
theorem jw_286 : (Jvm.Cond.code ({ cls := "EpochLeaves", name := "code", desc := "(IIIII)I" } : Jvm.MethodName) prog_1_method_2_code (6 : Nat) (Option.some Jvm.ClassFile.FieldType.int)) ∈ jm_Wall := jm_inW (n := 286) (rfl) rfl
theorem jw_287 : (Jvm.Cond.methodLink "EpochLeaves" (50 : Nat) ({ cls := "EpochLeaves", name := "isProcedure", desc := "(I)Z" } : Jvm.MethodName)) ∈ jm_Wall := jm_inW (n := 287) (by decide +kernel) rfl
theorem jw_288 : (Jvm.Cond.static ({ cls := "EpochLeaves", name := "isProcedure", desc := "(I)Z" } : Jvm.MethodName)) ∈ jm_Wall := jm_inW (n := 288) (by decide +kernel) rfl
set_option maxRecDepth 100000 in
theorem jw_289 : (Jvm.Cond.code ({ cls := "EpochLeaves", name := "isProcedure", desc := "(I)Z" } : Jvm.MethodName) prog_1_method_20_code (1 : Nat) (Option.some Jvm.ClassFile.FieldType.boolean)) ∈ jm_Wall := jm_inW (n := 289) (rfl) rfl
theorem jw_290 : (Jvm.Cond.methodLink "EpochLeaves" (54 : Nat) ({ cls := "EpochLeaves$Procedure", name := "isFull", desc := "()Z" } : Jvm.MethodName)) ∈ jm_Wall := jm_inW (n := 290) (by decide +kernel) rfl
theorem jw_291 : (Jvm.Cond.instanceMethod ({ cls := "EpochLeaves$Procedure", name := "isFull", desc := "()Z" } : Jvm.MethodName)) ∈ jm_Wall := jm_inW (n := 291) (by decide +kernel) rfl
theorem jw_292 : (Jvm.Cond.selects "EpochLeaves$Procedure" ({ cls := "EpochLeaves$Procedure", name := "isFull", desc := "()Z" } : Jvm.MethodName) ({ cls := "EpochLeaves$Procedure", name := "isFull", desc := "()Z" } : Jvm.MethodName)) ∈ jm_Wall := jm_inW (n := 292) (by decide +kernel) rfl
set_option maxRecDepth 100000 in
theorem jw_293 : (Jvm.Cond.code ({ cls := "EpochLeaves$Procedure", name := "isFull", desc := "()Z" } : Jvm.MethodName) prog_4_method_3_code (1 : Nat) (Option.some Jvm.ClassFile.FieldType.boolean)) ∈ jm_Wall := jm_inW (n := 293) (rfl) rfl
theorem jw_294 : (Jvm.Cond.methodLink "EpochLeaves" (58 : Nat) ({ cls := "EpochLeaves$Procedure", name := "allows", desc := "(IIII)Z" } : Jvm.MethodName)) ∈ jm_Wall := jm_inW (n := 294) (by decide +kernel) rfl
theorem jw_295 : (Jvm.Cond.static ({ cls := "EpochLeaves$Procedure", name := "allows", desc := "(IIII)Z" } : Jvm.MethodName)) ∈ jm_Wall := jm_inW (n := 295) (by decide +kernel) rfl
set_option maxRecDepth 100000 in
theorem jw_296 : (Jvm.Cond.code ({ cls := "EpochLeaves$Procedure", name := "allows", desc := "(IIII)Z" } : Jvm.MethodName) prog_4_method_2_code (5 : Nat) (Option.some Jvm.ClassFile.FieldType.boolean)) ∈ jm_Wall := jm_inW (n := 296) (rfl) rfl
theorem jw_297 : (Jvm.Cond.fieldLink "EpochLeaves$Procedure" (22 : Nat) "EpochLeaves$Procedure" "GREATEST_A" "[I") ∈ jm_Wall := jm_inW (n := 297) (by decide +kernel) rfl
theorem jw_299 : (Jvm.Cond.fieldLink "EpochLeaves$Procedure" (25 : Nat) "EpochLeaves$Procedure" "GREATEST_B" "[I") ∈ jm_Wall := jm_inW (n := 299) (by decide +kernel) rfl
theorem jw_301 : (Jvm.Cond.fieldLink "EpochLeaves$Procedure" (28 : Nat) "EpochLeaves$Procedure" "GREATEST_C" "[I") ∈ jm_Wall := jm_inW (n := 301) (by decide +kernel) rfl
theorem jw_303 : (Jvm.Cond.methodLink "EpochLeaves" (62 : Nat) ({ cls := "EpochLeaves$Procedure", name := "append", desc := "(IIII)I" } : Jvm.MethodName)) ∈ jm_Wall := jm_inW (n := 303) (by decide +kernel) rfl
theorem jw_304 : (Jvm.Cond.instanceMethod ({ cls := "EpochLeaves$Procedure", name := "append", desc := "(IIII)I" } : Jvm.MethodName)) ∈ jm_Wall := jm_inW (n := 304) (by decide +kernel) rfl
theorem jw_305 : (Jvm.Cond.selects "EpochLeaves$Procedure" ({ cls := "EpochLeaves$Procedure", name := "append", desc := "(IIII)I" } : Jvm.MethodName) ({ cls := "EpochLeaves$Procedure", name := "append", desc := "(IIII)I" } : Jvm.MethodName)) ∈ jm_Wall := jm_inW (n := 305) (by decide +kernel) rfl
set_option maxRecDepth 100000 in
theorem jw_306 : (Jvm.Cond.code ({ cls := "EpochLeaves$Procedure", name := "append", desc := "(IIII)I" } : Jvm.MethodName) prog_4_method_4_code (6 : Nat) (Option.some Jvm.ClassFile.FieldType.int)) ∈ jm_Wall := jm_inW (n := 306) (rfl) rfl
theorem jw_307 : (Jvm.Cond.methodLink "EpochLeavesLaw" (18 : Nat) ({ cls := "EpochLeaves", name := "clear", desc := "(I)Z" } : Jvm.MethodName)) ∈ jm_Wall := jm_inW (n := 307) (by decide +kernel) rfl
theorem jw_308 : (Jvm.Cond.instanceMethod ({ cls := "EpochLeaves", name := "clear", desc := "(I)Z" } : Jvm.MethodName)) ∈ jm_Wall := jm_inW (n := 308) (by decide +kernel) rfl
theorem jw_309 : (Jvm.Cond.selects "EpochLeaves" ({ cls := "EpochLeaves", name := "clear", desc := "(I)Z" } : Jvm.MethodName) ({ cls := "EpochLeaves", name := "clear", desc := "(I)Z" } : Jvm.MethodName)) ∈ jm_Wall := jm_inW (n := 309) (by decide +kernel) rfl
set_option maxRecDepth 100000 in
theorem jw_310 : (Jvm.Cond.code ({ cls := "EpochLeaves", name := "clear", desc := "(I)Z" } : Jvm.MethodName) prog_1_method_3_code (2 : Nat) (Option.some Jvm.ClassFile.FieldType.boolean)) ∈ jm_Wall := jm_inW (n := 310) (rfl) rfl
theorem jw_311 : (Jvm.Cond.methodLink "EpochLeaves" (66 : Nat) ({ cls := "EpochLeaves", name := "isBeingRun", desc := "(I)Z" } : Jvm.MethodName)) ∈ jm_Wall := jm_inW (n := 311) (by decide +kernel) rfl
theorem jw_313 : (Jvm.Cond.instanceMethod ({ cls := "EpochLeaves", name := "isBeingRun", desc := "(I)Z" } : Jvm.MethodName)) ∈ jm_Wall := jm_inW (n := 313) (by decide +kernel) rfl
set_option maxRecDepth 100000 in
theorem jw_314 : (Jvm.Cond.code ({ cls := "EpochLeaves", name := "isBeingRun", desc := "(I)Z" } : Jvm.MethodName) prog_1_method_22_code (3 : Nat) (Option.some Jvm.ClassFile.FieldType.boolean)) ∈ jm_Wall := jm_inW (n := 314) (rfl) rfl
theorem jw_315 : (Jvm.Cond.methodLink "EpochLeavesLaw" (23 : Nat) ({ cls := "EpochLeaves", name := "start", desc := "(IIII)I" } : Jvm.MethodName)) ∈ jm_Wall := jm_inW (n := 315) (by decide +kernel) rfl
theorem jw_316 : (Jvm.Cond.instanceMethod ({ cls := "EpochLeaves", name := "start", desc := "(IIII)I" } : Jvm.MethodName)) ∈ jm_Wall := jm_inW (n := 316) (by decide +kernel) rfl
theorem jw_317 : (Jvm.Cond.selects "EpochLeaves" ({ cls := "EpochLeaves", name := "start", desc := "(IIII)I" } : Jvm.MethodName) ({ cls := "EpochLeaves", name := "start", desc := "(IIII)I" } : Jvm.MethodName)) ∈ jm_Wall := jm_inW (n := 317) (by decide +kernel) rfl
set_option maxRecDepth 100000 in
theorem jw_318 : (Jvm.Cond.code ({ cls := "EpochLeaves", name := "start", desc := "(IIII)I" } : Jvm.MethodName) prog_1_method_4_code (6 : Nat) (Option.some Jvm.ClassFile.FieldType.int)) ∈ jm_Wall := jm_inW (n := 318) (rfl) rfl
theorem jw_319 : (Jvm.Cond.methodLink "EpochLeaves" (72 : Nat) ({ cls := "EpochLeaves", name := "isWorker", desc := "(I)Z" } : Jvm.MethodName)) ∈ jm_Wall := jm_inW (n := 319) (by decide +kernel) rfl
theorem jw_320 : (Jvm.Cond.static ({ cls := "EpochLeaves", name := "isWorker", desc := "(I)Z" } : Jvm.MethodName)) ∈ jm_Wall := jm_inW (n := 320) (by decide +kernel) rfl
set_option maxRecDepth 100000 in
theorem jw_321 : (Jvm.Cond.code ({ cls := "EpochLeaves", name := "isWorker", desc := "(I)Z" } : Jvm.MethodName) prog_1_method_19_code (1 : Nat) (Option.some Jvm.ClassFile.FieldType.boolean)) ∈ jm_Wall := jm_inW (n := 321) (rfl) rfl
theorem jw_322 : (Jvm.Cond.methodLink "EpochLeaves" (78 : Nat) ({ cls := "java/util/ArrayList", name := "size", desc := "()I" } : Jvm.MethodName)) ∈ jm_Wall := jm_inW (n := 322) (by decide +kernel) rfl
theorem jw_323 : (Jvm.Cond.instanceMethod ({ cls := "java/util/ArrayList", name := "size", desc := "()I" } : Jvm.MethodName)) ∈ jm_Wall := jm_inW (n := 323) (by decide +kernel) rfl
theorem jw_324 : (Jvm.Cond.selects "java/util/ArrayList" ({ cls := "java/util/ArrayList", name := "size", desc := "()I" } : Jvm.MethodName) ({ cls := "java/util/ArrayList", name := "size", desc := "()I" } : Jvm.MethodName)) ∈ jm_Wall := jm_inW (n := 324) (by decide +kernel) rfl
set_option maxRecDepth 100000 in
theorem jw_325 : (Jvm.Cond.code ({ cls := "java/util/ArrayList", name := "size", desc := "()I" } : Jvm.MethodName) prog_17_method_8_code (1 : Nat) (Option.some Jvm.ClassFile.FieldType.int)) ∈ jm_Wall := jm_inW (n := 325) (rfl) rfl
theorem jw_326 : (Jvm.Cond.classLink "EpochLeaves" (81 : Nat) "EpochLeaves$Transaction") ∈ jm_Wall := jm_inW (n := 326) (by decide +kernel) rfl
theorem jw_327 : (Jvm.Cond.methodLink "EpochLeaves" (83 : Nat) ({ cls := "EpochLeaves$Transaction", name := "<init>", desc := "(I)V" } : Jvm.MethodName)) ∈ jm_Wall := jm_inW (n := 327) (by decide +kernel) rfl
theorem jw_328 : (Jvm.Cond.methodLink "EpochLeaves" (84 : Nat) ({ cls := "java/util/ArrayList", name := "add", desc := "(Ljava/lang/Object;)Z" } : Jvm.MethodName)) ∈ jm_Wall := jm_inW (n := 328) (by decide +kernel) rfl
theorem jw_329 : (Jvm.Cond.instanceMethod ({ cls := "java/util/ArrayList", name := "add", desc := "(Ljava/lang/Object;)Z" } : Jvm.MethodName)) ∈ jm_Wall := jm_inW (n := 329) (by decide +kernel) rfl
theorem jw_330 : (Jvm.Cond.selects "java/util/ArrayList" ({ cls := "java/util/ArrayList", name := "add", desc := "(Ljava/lang/Object;)Z" } : Jvm.MethodName) ({ cls := "java/util/ArrayList", name := "add", desc := "(Ljava/lang/Object;)Z" } : Jvm.MethodName)) ∈ jm_Wall := jm_inW (n := 330) (by decide +kernel) rfl
set_option maxRecDepth 100000 in
theorem jw_331 : (Jvm.Cond.code ({ cls := "java/util/ArrayList", name := "add", desc := "(Ljava/lang/Object;)Z" } : Jvm.MethodName) prog_17_method_25_code (2 : Nat) (Option.some Jvm.ClassFile.FieldType.boolean)) ∈ jm_Wall := jm_inW (n := 331) (rfl) rfl
theorem jw_332 : (Jvm.Cond.methodLink "java/util/ArrayList" (131 : Nat) ({ cls := "java/util/ArrayList", name := "add", desc := "(Ljava/lang/Object;[Ljava/lang/Object;I)V" } : Jvm.MethodName)) ∈ jm_Wall := jm_inW (n := 332) (by decide +kernel) rfl
theorem jw_334 : (Jvm.Cond.instanceMethod ({ cls := "java/util/ArrayList", name := "add", desc := "(Ljava/lang/Object;[Ljava/lang/Object;I)V" } : Jvm.MethodName)) ∈ jm_Wall := jm_inW (n := 334) (by decide +kernel) rfl
set_option maxRecDepth 100000 in
theorem jw_335 : (Jvm.Cond.code ({ cls := "java/util/ArrayList", name := "add", desc := "(Ljava/lang/Object;[Ljava/lang/Object;I)V" } : Jvm.MethodName) prog_17_method_24_code (4 : Nat) (Option.none : Option Jvm.ClassFile.FieldType)) ∈ jm_Wall := jm_inW (n := 335) (rfl) rfl
theorem jw_336 : (Jvm.Cond.methodLink "java/util/ArrayList" (129 : Nat) ({ cls := "java/util/ArrayList", name := "grow", desc := "()[Ljava/lang/Object;" } : Jvm.MethodName)) ∈ jm_Wall := jm_inW (n := 336) (by decide +kernel) rfl
theorem jw_338 : (Jvm.Cond.instanceMethod ({ cls := "java/util/ArrayList", name := "grow", desc := "()[Ljava/lang/Object;" } : Jvm.MethodName)) ∈ jm_Wall := jm_inW (n := 338) (by decide +kernel) rfl
set_option maxRecDepth 100000 in
theorem jw_339 : (Jvm.Cond.code ({ cls := "java/util/ArrayList", name := "grow", desc := "()[Ljava/lang/Object;" } : Jvm.MethodName) prog_17_method_7_code (1 : Nat) (Option.some (Jvm.ClassFile.FieldType.array (Jvm.ClassFile.FieldType.object "java/lang/Object")))) ∈ jm_Wall := jm_inW (n := 339) (rfl) rfl
theorem jw_340 : (Jvm.Cond.methodLink "java/util/ArrayList" (69 : Nat) ({ cls := "java/util/ArrayList", name := "grow", desc := "(I)[Ljava/lang/Object;" } : Jvm.MethodName)) ∈ jm_Wall := jm_inW (n := 340) (by decide +kernel) rfl
theorem jw_342 : (Jvm.Cond.instanceMethod ({ cls := "java/util/ArrayList", name := "grow", desc := "(I)[Ljava/lang/Object;" } : Jvm.MethodName)) ∈ jm_Wall := jm_inW (n := 342) (by decide +kernel) rfl
set_option maxRecDepth 100000 in
theorem jw_343 : (Jvm.Cond.code ({ cls := "java/util/ArrayList", name := "grow", desc := "(I)[Ljava/lang/Object;" } : Jvm.MethodName) prog_17_method_6_code (4 : Nat) (Option.some (Jvm.ClassFile.FieldType.array (Jvm.ClassFile.FieldType.object "java/lang/Object")))) ∈ jm_Wall := jm_inW (n := 343) (rfl) rfl
theorem jw_344 : (Jvm.Cond.methodLink "java/util/ArrayList" (73 : Nat) ({ cls := "jdk/internal/util/ArraysSupport", name := "newLength", desc := "(III)I" } : Jvm.MethodName)) ∈ jm_Wall := jm_inW (n := 344) (by decide +kernel) rfl
theorem jw_345 : (Jvm.Cond.static ({ cls := "jdk/internal/util/ArraysSupport", name := "newLength", desc := "(III)I" } : Jvm.MethodName)) ∈ jm_Wall := jm_inW (n := 345) (by decide +kernel) rfl
set_option maxRecDepth 100000 in
theorem jw_346 : (Jvm.Cond.code ({ cls := "jdk/internal/util/ArraysSupport", name := "newLength", desc := "(III)I" } : Jvm.MethodName) prog_24_method_27_code (4 : Nat) (Option.some Jvm.ClassFile.FieldType.int)) ∈ jm_Wall := jm_inW (n := 346) (rfl) rfl
theorem jw_347 : (Jvm.Cond.methodLink "jdk/internal/util/ArraysSupport" (194 : Nat) ({ cls := "java/lang/Math", name := "max", desc := "(II)I" } : Jvm.MethodName)) ∈ jm_Wall := jm_inW (n := 347) (by decide +kernel) rfl
theorem jw_348 : (Jvm.Cond.static ({ cls := "java/lang/Math", name := "max", desc := "(II)I" } : Jvm.MethodName)) ∈ jm_Wall := jm_inW (n := 348) (by decide +kernel) rfl
set_option maxRecDepth 100000 in
theorem jw_349 : (Jvm.Cond.code ({ cls := "java/lang/Math", name := "max", desc := "(II)I" } : Jvm.MethodName) prog_13_method_65_code (2 : Nat) (Option.some Jvm.ClassFile.FieldType.int)) ∈ jm_Wall := jm_inW (n := 349) (rfl) rfl
theorem jw_350 : (Jvm.Cond.constant "jdk/internal/util/ArraysSupport" (200 : Nat) (2147483639 : Int32)) ∈ jm_Wall := jm_inW (n := 350) (by decide +kernel) rfl
theorem jw_351 : (Jvm.Cond.methodLink "jdk/internal/util/ArraysSupport" (201 : Nat) ({ cls := "jdk/internal/util/ArraysSupport", name := "hugeLength", desc := "(II)I" } : Jvm.MethodName)) ∈ jm_Wall := jm_inW (n := 351) (by decide +kernel) rfl
theorem jw_352 : (Jvm.Cond.static ({ cls := "jdk/internal/util/ArraysSupport", name := "hugeLength", desc := "(II)I" } : Jvm.MethodName)) ∈ jm_Wall := jm_inW (n := 352) (by decide +kernel) rfl
set_option maxRecDepth 100000 in
theorem jw_353 : (Jvm.Cond.code ({ cls := "jdk/internal/util/ArraysSupport", name := "hugeLength", desc := "(II)I" } : Jvm.MethodName) prog_24_method_28_code (3 : Nat) (Option.some Jvm.ClassFile.FieldType.int)) ∈ jm_Wall := jm_inW (n := 353) (rfl) rfl
theorem jw_354 : (Jvm.Cond.methodLink "java/util/ArrayList" (66 : Nat) ({ cls := "java/util/Arrays", name := "copyOf", desc := "([Ljava/lang/Object;I)[Ljava/lang/Object;" } : Jvm.MethodName)) ∈ jm_Wall := jm_inW (n := 354) (by decide +kernel) rfl
theorem jw_355 : (Jvm.Cond.static ({ cls := "java/util/Arrays", name := "copyOf", desc := "([Ljava/lang/Object;I)[Ljava/lang/Object;" } : Jvm.MethodName)) ∈ jm_Wall := jm_inW (n := 355) (by decide +kernel) rfl
set_option maxRecDepth 100000 in
theorem jw_356 : (Jvm.Cond.code ({ cls := "java/util/Arrays", name := "copyOf", desc := "([Ljava/lang/Object;I)[Ljava/lang/Object;" } : Jvm.MethodName) prog_18_method_119_code (2 : Nat) (Option.some (Jvm.ClassFile.FieldType.array (Jvm.ClassFile.FieldType.object "java/lang/Object")))) ∈ jm_Wall := jm_inW (n := 356) (rfl) rfl
theorem jw_357 : (Jvm.Cond.methodLink "java/util/Arrays" (86 : Nat) ({ cls := "java/lang/Object", name := "getClass", desc := "()Ljava/lang/Class;" } : Jvm.MethodName)) ∈ jm_Wall := jm_inW (n := 357) (by decide +kernel) rfl
theorem jw_358 : (Jvm.Cond.instanceMethod ({ cls := "java/lang/Object", name := "getClass", desc := "()Ljava/lang/Class;" } : Jvm.MethodName)) ∈ jm_Wall := jm_inW (n := 358) (by decide +kernel) rfl
theorem jw_369 : (Jvm.Cond.native ({ cls := "java/lang/Object", name := "getClass", desc := "()Ljava/lang/Class;" } : Jvm.MethodName)) ∈ jm_Wall := jm_inW (n := 369) (by decide +kernel) rfl
theorem jw_370 : (Jvm.Cond.methodLink "java/util/Arrays" (300 : Nat) ({ cls := "java/util/Arrays", name := "copyOf", desc := "([Ljava/lang/Object;ILjava/lang/Class;)[Ljava/lang/Object;" } : Jvm.MethodName)) ∈ jm_Wall := jm_inW (n := 370) (by decide +kernel) rfl
theorem jw_371 : (Jvm.Cond.static ({ cls := "java/util/Arrays", name := "copyOf", desc := "([Ljava/lang/Object;ILjava/lang/Class;)[Ljava/lang/Object;" } : Jvm.MethodName)) ∈ jm_Wall := jm_inW (n := 371) (by decide +kernel) rfl
set_option maxRecDepth 100000 in
theorem jw_372 : (Jvm.Cond.code ({ cls := "java/util/Arrays", name := "copyOf", desc := "([Ljava/lang/Object;ILjava/lang/Class;)[Ljava/lang/Object;" } : Jvm.MethodName) prog_18_method_120_code (4 : Nat) (Option.some (Jvm.ClassFile.FieldType.array (Jvm.ClassFile.FieldType.object "java/lang/Object")))) ∈ jm_Wall := jm_inW (n := 372) (rfl) rfl
theorem jw_373 : (Jvm.Cond.classLink "java/util/Arrays" (110 : Nat) "[Ljava/lang/Object;") ∈ jm_Wall := jm_inW (n := 373) (by decide +kernel) rfl
theorem jw_375 : (Jvm.Cond.classLink "java/util/Arrays" (2 : Nat) "java/lang/Object") ∈ jm_Wall := jm_inW (n := 375) (by decide +kernel) rfl
theorem jw_376 : (Jvm.Cond.methodLink "java/util/Arrays" (304 : Nat) ({ cls := "java/lang/Math", name := "min", desc := "(II)I" } : Jvm.MethodName)) ∈ jm_Wall := jm_inW (n := 376) (by decide +kernel) rfl
theorem jw_377 : (Jvm.Cond.static ({ cls := "java/lang/Math", name := "min", desc := "(II)I" } : Jvm.MethodName)) ∈ jm_Wall := jm_inW (n := 377) (by decide +kernel) rfl
set_option maxRecDepth 100000 in
theorem jw_378 : (Jvm.Cond.code ({ cls := "java/lang/Math", name := "min", desc := "(II)I" } : Jvm.MethodName) prog_13_method_69_code (2 : Nat) (Option.some Jvm.ClassFile.FieldType.int)) ∈ jm_Wall := jm_inW (n := 378) (rfl) rfl
theorem jw_379 : (Jvm.Cond.methodLink "java/util/Arrays" (150 : Nat) ({ cls := "java/lang/System", name := "arraycopy", desc := "(Ljava/lang/Object;ILjava/lang/Object;II)V" } : Jvm.MethodName)) ∈ jm_Wall := jm_inW (n := 379) (by decide +kernel) rfl
theorem jw_380 : (Jvm.Cond.static ({ cls := "java/lang/System", name := "arraycopy", desc := "(Ljava/lang/Object;ILjava/lang/Object;II)V" } : Jvm.MethodName)) ∈ jm_Wall := jm_inW (n := 380) (by decide +kernel) rfl
theorem jw_381 : (Jvm.Cond.native ({ cls := "java/lang/System", name := "arraycopy", desc := "(Ljava/lang/Object;ILjava/lang/Object;II)V" } : Jvm.MethodName)) ∈ jm_Wall := jm_inW (n := 381) (by decide +kernel) rfl
theorem jw_382 : (Jvm.Cond.methodLink "java/util/ArrayList" (79 : Nat) ({ cls := "java/lang/Math", name := "max", desc := "(II)I" } : Jvm.MethodName)) ∈ jm_Wall := jm_inW (n := 382) (by decide +kernel) rfl
theorem jw_383 : (Jvm.Cond.classLink "java/util/ArrayList" (7 : Nat) "java/lang/Object") ∈ jm_Wall := jm_inW (n := 383) (by decide +kernel) rfl
theorem jw_384 : (Jvm.Cond.methodLink "EpochLeaves" (88 : Nat) ({ cls := "EpochLeaves$Worker", name := "begin", desc := "(LEpochLeaves$Transaction;III)V" } : Jvm.MethodName)) ∈ jm_Wall := jm_inW (n := 384) (by decide +kernel) rfl
theorem jw_385 : (Jvm.Cond.instanceMethod ({ cls := "EpochLeaves$Worker", name := "begin", desc := "(LEpochLeaves$Transaction;III)V" } : Jvm.MethodName)) ∈ jm_Wall := jm_inW (n := 385) (by decide +kernel) rfl
theorem jw_386 : (Jvm.Cond.selects "EpochLeaves$Worker" ({ cls := "EpochLeaves$Worker", name := "begin", desc := "(LEpochLeaves$Transaction;III)V" } : Jvm.MethodName) ({ cls := "EpochLeaves$Worker", name := "begin", desc := "(LEpochLeaves$Transaction;III)V" } : Jvm.MethodName)) ∈ jm_Wall := jm_inW (n := 386) (by decide +kernel) rfl
set_option maxRecDepth 100000 in
theorem jw_387 : (Jvm.Cond.code ({ cls := "EpochLeaves$Worker", name := "begin", desc := "(LEpochLeaves$Transaction;III)V" } : Jvm.MethodName) prog_7_method_2_code (6 : Nat) (Option.none : Option Jvm.ClassFile.FieldType)) ∈ jm_Wall := jm_inW (n := 387) (rfl) rfl
theorem jw_388 : (Jvm.Cond.methodLink "EpochLeavesLaw" (28 : Nat) ({ cls := "EpochLeaves", name := "step", desc := "(I)I" } : Jvm.MethodName)) ∈ jm_Wall := jm_inW (n := 388) (by decide +kernel) rfl
theorem jw_389 : (Jvm.Cond.instanceMethod ({ cls := "EpochLeaves", name := "step", desc := "(I)I" } : Jvm.MethodName)) ∈ jm_Wall := jm_inW (n := 389) (by decide +kernel) rfl
theorem jw_390 : (Jvm.Cond.selects "EpochLeaves" ({ cls := "EpochLeaves", name := "step", desc := "(I)I" } : Jvm.MethodName) ({ cls := "EpochLeaves", name := "step", desc := "(I)I" } : Jvm.MethodName)) ∈ jm_Wall := jm_inW (n := 390) (by decide +kernel) rfl
set_option maxRecDepth 100000 in
theorem jw_391 : (Jvm.Cond.code ({ cls := "EpochLeaves", name := "step", desc := "(I)I" } : Jvm.MethodName) prog_1_method_5_code (2 : Nat) (Option.some Jvm.ClassFile.FieldType.int)) ∈ jm_Wall := jm_inW (n := 391) (rfl) rfl
theorem jw_392 : (Jvm.Cond.methodLink "EpochLeaves" (95 : Nat) ({ cls := "EpochLeaves", name := "moveWorker", desc := "(I)I" } : Jvm.MethodName)) ∈ jm_Wall := jm_inW (n := 392) (by decide +kernel) rfl
theorem jw_394 : (Jvm.Cond.instanceMethod ({ cls := "EpochLeaves", name := "moveWorker", desc := "(I)I" } : Jvm.MethodName)) ∈ jm_Wall := jm_inW (n := 394) (by decide +kernel) rfl
set_option maxRecDepth 100000 in
theorem jw_395 : (Jvm.Cond.code ({ cls := "EpochLeaves", name := "moveWorker", desc := "(I)I" } : Jvm.MethodName) prog_1_method_23_code (4 : Nat) (Option.some Jvm.ClassFile.FieldType.int)) ∈ jm_Wall := jm_inW (n := 395) (rfl) rfl
theorem jw_396 : (Jvm.Cond.methodLink "EpochLeaves" (210 : Nat) ({ cls := "EpochLeaves$Worker", name := "move", desc := "(LEpochLeaves$Store;LEpochLeaves$Procedure;I)I" } : Jvm.MethodName)) ∈ jm_Wall := jm_inW (n := 396) (by decide +kernel) rfl
theorem jw_397 : (Jvm.Cond.instanceMethod ({ cls := "EpochLeaves$Worker", name := "move", desc := "(LEpochLeaves$Store;LEpochLeaves$Procedure;I)I" } : Jvm.MethodName)) ∈ jm_Wall := jm_inW (n := 397) (by decide +kernel) rfl
theorem jw_398 : (Jvm.Cond.selects "EpochLeaves$Worker" ({ cls := "EpochLeaves$Worker", name := "move", desc := "(LEpochLeaves$Store;LEpochLeaves$Procedure;I)I" } : Jvm.MethodName) ({ cls := "EpochLeaves$Worker", name := "move", desc := "(LEpochLeaves$Store;LEpochLeaves$Procedure;I)I" } : Jvm.MethodName)) ∈ jm_Wall := jm_inW (n := 398) (by decide +kernel) rfl
set_option maxRecDepth 100000 in
theorem jw_399 : (Jvm.Cond.code ({ cls := "EpochLeaves$Worker", name := "move", desc := "(LEpochLeaves$Store;LEpochLeaves$Procedure;I)I" } : Jvm.MethodName) prog_7_method_5_code (4 : Nat) (Option.some Jvm.ClassFile.FieldType.int)) ∈ jm_Wall := jm_inW (n := 399) (rfl) rfl
theorem jw_400 : (Jvm.Cond.methodLink "EpochLeaves$Worker" (60 : Nat) ({ cls := "EpochLeaves$Worker", name := "goOn", desc := "(LEpochLeaves$Store;LEpochLeaves$Procedure;)I" } : Jvm.MethodName)) ∈ jm_Wall := jm_inW (n := 400) (by decide +kernel) rfl
theorem jw_402 : (Jvm.Cond.instanceMethod ({ cls := "EpochLeaves$Worker", name := "goOn", desc := "(LEpochLeaves$Store;LEpochLeaves$Procedure;)I" } : Jvm.MethodName)) ∈ jm_Wall := jm_inW (n := 402) (by decide +kernel) rfl
set_option maxRecDepth 100000 in
theorem jw_403 : (Jvm.Cond.code ({ cls := "EpochLeaves$Worker", name := "goOn", desc := "(LEpochLeaves$Store;LEpochLeaves$Procedure;)I" } : Jvm.MethodName) prog_7_method_6_code (9 : Nat) (Option.some Jvm.ClassFile.FieldType.int)) ∈ jm_Wall := jm_inW (n := 403) (rfl) rfl
theorem jw_404 : (Jvm.Cond.methodLink "EpochLeaves$Worker" (80 : Nat) ({ cls := "EpochLeaves$Worker", name := "giveAndLock", desc := "(I)V" } : Jvm.MethodName)) ∈ jm_Wall := jm_inW (n := 404) (by decide +kernel) rfl
theorem jw_406 : (Jvm.Cond.instanceMethod ({ cls := "EpochLeaves$Worker", name := "giveAndLock", desc := "(I)V" } : Jvm.MethodName)) ∈ jm_Wall := jm_inW (n := 406) (by decide +kernel) rfl
set_option maxRecDepth 100000 in
theorem jw_407 : (Jvm.Cond.code ({ cls := "EpochLeaves$Worker", name := "giveAndLock", desc := "(I)V" } : Jvm.MethodName) prog_7_method_17_code (2 : Nat) (Option.none : Option Jvm.ClassFile.FieldType)) ∈ jm_Wall := jm_inW (n := 407) (rfl) rfl
theorem jw_408 : (Jvm.Cond.methodLink "EpochLeaves$Worker" (83 : Nat) ({ cls := "EpochLeaves$Worker", name := "abort", desc := "(LEpochLeaves$Store;)I" } : Jvm.MethodName)) ∈ jm_Wall := jm_inW (n := 408) (by decide +kernel) rfl
theorem jw_410 : (Jvm.Cond.instanceMethod ({ cls := "EpochLeaves$Worker", name := "abort", desc := "(LEpochLeaves$Store;)I" } : Jvm.MethodName)) ∈ jm_Wall := jm_inW (n := 410) (by decide +kernel) rfl
set_option maxRecDepth 100000 in
theorem jw_411 : (Jvm.Cond.code ({ cls := "EpochLeaves$Worker", name := "abort", desc := "(LEpochLeaves$Store;)I" } : Jvm.MethodName) prog_7_method_26_code (2 : Nat) (Option.some Jvm.ClassFile.FieldType.int)) ∈ jm_Wall := jm_inW (n := 411) (rfl) rfl
theorem jw_412 : (Jvm.Cond.methodLink "EpochLeaves$Worker" (236 : Nat) ({ cls := "EpochLeaves$Store", name := "unlockAllOf", desc := "(I)V" } : Jvm.MethodName)) ∈ jm_Wall := jm_inW (n := 412) (by decide +kernel) rfl
theorem jw_413 : (Jvm.Cond.instanceMethod ({ cls := "EpochLeaves$Store", name := "unlockAllOf", desc := "(I)V" } : Jvm.MethodName)) ∈ jm_Wall := jm_inW (n := 413) (by decide +kernel) rfl
theorem jw_414 : (Jvm.Cond.selects "EpochLeaves$Store" ({ cls := "EpochLeaves$Store", name := "unlockAllOf", desc := "(I)V" } : Jvm.MethodName) ({ cls := "EpochLeaves$Store", name := "unlockAllOf", desc := "(I)V" } : Jvm.MethodName)) ∈ jm_Wall := jm_inW (n := 414) (by decide +kernel) rfl
set_option maxRecDepth 100000 in
theorem jw_415 : (Jvm.Cond.code ({ cls := "EpochLeaves$Store", name := "unlockAllOf", desc := "(I)V" } : Jvm.MethodName) prog_5_method_10_code (3 : Nat) (Option.none : Option Jvm.ClassFile.FieldType)) ∈ jm_Wall := jm_inW (n := 415) (rfl) rfl
theorem jw_416 : (Jvm.Cond.methodLink "EpochLeaves$Worker" (98 : Nat) ({ cls := "EpochLeaves$Worker", name := "doGet", desc := "(LEpochLeaves$Store;II)I" } : Jvm.MethodName)) ∈ jm_Wall := jm_inW (n := 416) (by decide +kernel) rfl
theorem jw_418 : (Jvm.Cond.instanceMethod ({ cls := "EpochLeaves$Worker", name := "doGet", desc := "(LEpochLeaves$Store;II)I" } : Jvm.MethodName)) ∈ jm_Wall := jm_inW (n := 418) (by decide +kernel) rfl
set_option maxRecDepth 100000 in
theorem jw_419 : (Jvm.Cond.code ({ cls := "EpochLeaves$Worker", name := "doGet", desc := "(LEpochLeaves$Store;II)I" } : Jvm.MethodName) prog_7_method_8_code (4 : Nat) (Option.some Jvm.ClassFile.FieldType.int)) ∈ jm_Wall := jm_inW (n := 419) (rfl) rfl
theorem jw_421 : (Jvm.Cond.static ({ cls := "EpochLeaves", name := "isKey", desc := "(I)Z" } : Jvm.MethodName)) ∈ jm_Wall := jm_inW (n := 421) (by decide +kernel) rfl
set_option maxRecDepth 100000 in
theorem jw_422 : (Jvm.Cond.code ({ cls := "EpochLeaves", name := "isKey", desc := "(I)Z" } : Jvm.MethodName) prog_1_method_18_code (1 : Nat) (Option.some Jvm.ClassFile.FieldType.boolean)) ∈ jm_Wall := jm_inW (n := 422) (rfl) rfl
theorem jw_423 : (Jvm.Cond.methodLink "EpochLeaves$Worker" (129 : Nat) ({ cls := "EpochLeaves$Worker", name := "mustWaitFor", desc := "(LEpochLeaves$Store;I)Z" } : Jvm.MethodName)) ∈ jm_Wall := jm_inW (n := 423) (by decide +kernel) rfl
theorem jw_425 : (Jvm.Cond.instanceMethod ({ cls := "EpochLeaves$Worker", name := "mustWaitFor", desc := "(LEpochLeaves$Store;I)Z" } : Jvm.MethodName)) ∈ jm_Wall := jm_inW (n := 425) (by decide +kernel) rfl
set_option maxRecDepth 100000 in
theorem jw_426 : (Jvm.Cond.code ({ cls := "EpochLeaves$Worker", name := "mustWaitFor", desc := "(LEpochLeaves$Store;I)Z" } : Jvm.MethodName) prog_7_method_12_code (3 : Nat) (Option.some Jvm.ClassFile.FieldType.boolean)) ∈ jm_Wall := jm_inW (n := 426) (rfl) rfl
theorem jw_427 : (Jvm.Cond.methodLink "EpochLeaves$Worker" (162 : Nat) ({ cls := "EpochLeaves$Transaction", name := "writes", desc := "(I)Z" } : Jvm.MethodName)) ∈ jm_Wall := jm_inW (n := 427) (by decide +kernel) rfl
theorem jw_428 : (Jvm.Cond.instanceMethod ({ cls := "EpochLeaves$Transaction", name := "writes", desc := "(I)Z" } : Jvm.MethodName)) ∈ jm_Wall := jm_inW (n := 428) (by decide +kernel) rfl
theorem jw_429 : (Jvm.Cond.selects "EpochLeaves$Transaction" ({ cls := "EpochLeaves$Transaction", name := "writes", desc := "(I)Z" } : Jvm.MethodName) ({ cls := "EpochLeaves$Transaction", name := "writes", desc := "(I)Z" } : Jvm.MethodName)) ∈ jm_Wall := jm_inW (n := 429) (by decide +kernel) rfl
set_option maxRecDepth 100000 in
theorem jw_430 : (Jvm.Cond.code ({ cls := "EpochLeaves$Transaction", name := "writes", desc := "(I)Z" } : Jvm.MethodName) prog_6_method_2_code (2 : Nat) (Option.some Jvm.ClassFile.FieldType.boolean)) ∈ jm_Wall := jm_inW (n := 430) (rfl) rfl
theorem jw_431 : (Jvm.Cond.methodLink "EpochLeaves$Worker" (165 : Nat) ({ cls := "EpochLeaves$Store", name := "isLockedByOther", desc := "(II)Z" } : Jvm.MethodName)) ∈ jm_Wall := jm_inW (n := 431) (by decide +kernel) rfl
theorem jw_432 : (Jvm.Cond.instanceMethod ({ cls := "EpochLeaves$Store", name := "isLockedByOther", desc := "(II)Z" } : Jvm.MethodName)) ∈ jm_Wall := jm_inW (n := 432) (by decide +kernel) rfl
theorem jw_433 : (Jvm.Cond.selects "EpochLeaves$Store" ({ cls := "EpochLeaves$Store", name := "isLockedByOther", desc := "(II)Z" } : Jvm.MethodName) ({ cls := "EpochLeaves$Store", name := "isLockedByOther", desc := "(II)Z" } : Jvm.MethodName)) ∈ jm_Wall := jm_inW (n := 433) (by decide +kernel) rfl
set_option maxRecDepth 100000 in
theorem jw_434 : (Jvm.Cond.code ({ cls := "EpochLeaves$Store", name := "isLockedByOther", desc := "(II)Z" } : Jvm.MethodName) prog_5_method_4_code (3 : Nat) (Option.some Jvm.ClassFile.FieldType.boolean)) ∈ jm_Wall := jm_inW (n := 434) (rfl) rfl
theorem jw_435 : (Jvm.Cond.methodLink "EpochLeaves$Worker" (133 : Nat) ({ cls := "EpochLeaves$Worker", name := "keepSight", desc := "(LEpochLeaves$Store;I)V" } : Jvm.MethodName)) ∈ jm_Wall := jm_inW (n := 435) (by decide +kernel) rfl
theorem jw_437 : (Jvm.Cond.instanceMethod ({ cls := "EpochLeaves$Worker", name := "keepSight", desc := "(LEpochLeaves$Store;I)V" } : Jvm.MethodName)) ∈ jm_Wall := jm_inW (n := 437) (by decide +kernel) rfl
set_option maxRecDepth 100000 in
theorem jw_438 : (Jvm.Cond.code ({ cls := "EpochLeaves$Worker", name := "keepSight", desc := "(LEpochLeaves$Store;I)V" } : Jvm.MethodName) prog_7_method_13_code (3 : Nat) (Option.none : Option Jvm.ClassFile.FieldType)) ∈ jm_Wall := jm_inW (n := 438) (rfl) rfl
theorem jw_439 : (Jvm.Cond.methodLink "EpochLeaves$Worker" (169 : Nat) ({ cls := "EpochLeaves$Store", name := "has", desc := "(I)Z" } : Jvm.MethodName)) ∈ jm_Wall := jm_inW (n := 439) (by decide +kernel) rfl
theorem jw_440 : (Jvm.Cond.instanceMethod ({ cls := "EpochLeaves$Store", name := "has", desc := "(I)Z" } : Jvm.MethodName)) ∈ jm_Wall := jm_inW (n := 440) (by decide +kernel) rfl
theorem jw_441 : (Jvm.Cond.selects "EpochLeaves$Store" ({ cls := "EpochLeaves$Store", name := "has", desc := "(I)Z" } : Jvm.MethodName) ({ cls := "EpochLeaves$Store", name := "has", desc := "(I)Z" } : Jvm.MethodName)) ∈ jm_Wall := jm_inW (n := 441) (by decide +kernel) rfl
set_option maxRecDepth 100000 in
theorem jw_442 : (Jvm.Cond.code ({ cls := "EpochLeaves$Store", name := "has", desc := "(I)Z" } : Jvm.MethodName) prog_5_method_3_code (2 : Nat) (Option.some Jvm.ClassFile.FieldType.boolean)) ∈ jm_Wall := jm_inW (n := 442) (rfl) rfl
theorem jw_443 : (Jvm.Cond.methodLink "EpochLeaves$Worker" (150 : Nat) ({ cls := "EpochLeaves$Store", name := "placeOf", desc := "(I)I" } : Jvm.MethodName)) ∈ jm_Wall := jm_inW (n := 443) (by decide +kernel) rfl
theorem jw_444 : (Jvm.Cond.instanceMethod ({ cls := "EpochLeaves$Store", name := "placeOf", desc := "(I)I" } : Jvm.MethodName)) ∈ jm_Wall := jm_inW (n := 444) (by decide +kernel) rfl
theorem jw_445 : (Jvm.Cond.selects "EpochLeaves$Store" ({ cls := "EpochLeaves$Store", name := "placeOf", desc := "(I)I" } : Jvm.MethodName) ({ cls := "EpochLeaves$Store", name := "placeOf", desc := "(I)I" } : Jvm.MethodName)) ∈ jm_Wall := jm_inW (n := 445) (by decide +kernel) rfl
set_option maxRecDepth 100000 in
theorem jw_446 : (Jvm.Cond.code ({ cls := "EpochLeaves$Store", name := "placeOf", desc := "(I)I" } : Jvm.MethodName) prog_5_method_6_code (3 : Nat) (Option.some Jvm.ClassFile.FieldType.int)) ∈ jm_Wall := jm_inW (n := 446) (rfl) rfl
theorem jw_447 : (Jvm.Cond.methodLink "EpochLeaves$Worker" (154 : Nat) ({ cls := "EpochLeaves$Store", name := "leafAt", desc := "(I)LEpochLeaves$Leaf;" } : Jvm.MethodName)) ∈ jm_Wall := jm_inW (n := 447) (by decide +kernel) rfl
theorem jw_448 : (Jvm.Cond.instanceMethod ({ cls := "EpochLeaves$Store", name := "leafAt", desc := "(I)LEpochLeaves$Leaf;" } : Jvm.MethodName)) ∈ jm_Wall := jm_inW (n := 448) (by decide +kernel) rfl
theorem jw_449 : (Jvm.Cond.selects "EpochLeaves$Store" ({ cls := "EpochLeaves$Store", name := "leafAt", desc := "(I)LEpochLeaves$Leaf;" } : Jvm.MethodName) ({ cls := "EpochLeaves$Store", name := "leafAt", desc := "(I)LEpochLeaves$Leaf;" } : Jvm.MethodName)) ∈ jm_Wall := jm_inW (n := 449) (by decide +kernel) rfl
set_option maxRecDepth 100000 in
theorem jw_450 : (Jvm.Cond.code ({ cls := "EpochLeaves$Store", name := "leafAt", desc := "(I)LEpochLeaves$Leaf;" } : Jvm.MethodName) prog_5_method_5_code (2 : Nat) (Option.some (Jvm.ClassFile.FieldType.object "EpochLeaves$Leaf"))) ∈ jm_Wall := jm_inW (n := 450) (rfl) rfl
theorem jw_451 : (Jvm.Cond.methodLink "EpochLeaves$Worker" (158 : Nat) ({ cls := "EpochLeaves$Worker", name := "keepNode", desc := "(LEpochLeaves$Leaf;)V" } : Jvm.MethodName)) ∈ jm_Wall := jm_inW (n := 451) (by decide +kernel) rfl
theorem jw_453 : (Jvm.Cond.instanceMethod ({ cls := "EpochLeaves$Worker", name := "keepNode", desc := "(LEpochLeaves$Leaf;)V" } : Jvm.MethodName)) ∈ jm_Wall := jm_inW (n := 453) (by decide +kernel) rfl
set_option maxRecDepth 100000 in
theorem jw_454 : (Jvm.Cond.code ({ cls := "EpochLeaves$Worker", name := "keepNode", desc := "(LEpochLeaves$Leaf;)V" } : Jvm.MethodName) prog_7_method_14_code (2 : Nat) (Option.none : Option Jvm.ClassFile.FieldType)) ∈ jm_Wall := jm_inW (n := 454) (rfl) rfl
theorem jw_455 : (Jvm.Cond.methodLink "EpochLeaves$Worker" (137 : Nat) ({ cls := "EpochLeaves$Worker", name := "valueSeen", desc := "(LEpochLeaves$Store;I)I" } : Jvm.MethodName)) ∈ jm_Wall := jm_inW (n := 455) (by decide +kernel) rfl
theorem jw_457 : (Jvm.Cond.instanceMethod ({ cls := "EpochLeaves$Worker", name := "valueSeen", desc := "(LEpochLeaves$Store;I)I" } : Jvm.MethodName)) ∈ jm_Wall := jm_inW (n := 457) (by decide +kernel) rfl
set_option maxRecDepth 100000 in
theorem jw_458 : (Jvm.Cond.code ({ cls := "EpochLeaves$Worker", name := "valueSeen", desc := "(LEpochLeaves$Store;I)I" } : Jvm.MethodName) prog_7_method_16_code (3 : Nat) (Option.some Jvm.ClassFile.FieldType.int)) ∈ jm_Wall := jm_inW (n := 458) (rfl) rfl
theorem jw_459 : (Jvm.Cond.methodLink "EpochLeaves$Worker" (140 : Nat) ({ cls := "EpochLeaves$Worker", name := "seesValue", desc := "(LEpochLeaves$Store;I)Z" } : Jvm.MethodName)) ∈ jm_Wall := jm_inW (n := 459) (by decide +kernel) rfl
theorem jw_461 : (Jvm.Cond.instanceMethod ({ cls := "EpochLeaves$Worker", name := "seesValue", desc := "(LEpochLeaves$Store;I)Z" } : Jvm.MethodName)) ∈ jm_Wall := jm_inW (n := 461) (by decide +kernel) rfl
set_option maxRecDepth 100000 in
theorem jw_462 : (Jvm.Cond.code ({ cls := "EpochLeaves$Worker", name := "seesValue", desc := "(LEpochLeaves$Store;I)Z" } : Jvm.MethodName) prog_7_method_15_code (3 : Nat) (Option.some Jvm.ClassFile.FieldType.boolean)) ∈ jm_Wall := jm_inW (n := 462) (rfl) rfl
theorem jw_463 : (Jvm.Cond.methodLink "EpochLeaves$Worker" (183 : Nat) ({ cls := "EpochLeaves$Transaction", name := "puts", desc := "(I)Z" } : Jvm.MethodName)) ∈ jm_Wall := jm_inW (n := 463) (by decide +kernel) rfl
theorem jw_464 : (Jvm.Cond.instanceMethod ({ cls := "EpochLeaves$Transaction", name := "puts", desc := "(I)Z" } : Jvm.MethodName)) ∈ jm_Wall := jm_inW (n := 464) (by decide +kernel) rfl
theorem jw_465 : (Jvm.Cond.selects "EpochLeaves$Transaction" ({ cls := "EpochLeaves$Transaction", name := "puts", desc := "(I)Z" } : Jvm.MethodName) ({ cls := "EpochLeaves$Transaction", name := "puts", desc := "(I)Z" } : Jvm.MethodName)) ∈ jm_Wall := jm_inW (n := 465) (by decide +kernel) rfl
set_option maxRecDepth 100000 in
theorem jw_466 : (Jvm.Cond.code ({ cls := "EpochLeaves$Transaction", name := "puts", desc := "(I)Z" } : Jvm.MethodName) prog_6_method_3_code (2 : Nat) (Option.some Jvm.ClassFile.FieldType.boolean)) ∈ jm_Wall := jm_inW (n := 466) (rfl) rfl
theorem jw_467 : (Jvm.Cond.methodLink "EpochLeaves$Worker" (102 : Nat) ({ cls := "EpochLeaves$Worker", name := "doPut", desc := "(LEpochLeaves$Store;II)I" } : Jvm.MethodName)) ∈ jm_Wall := jm_inW (n := 467) (by decide +kernel) rfl
theorem jw_469 : (Jvm.Cond.instanceMethod ({ cls := "EpochLeaves$Worker", name := "doPut", desc := "(LEpochLeaves$Store;II)I" } : Jvm.MethodName)) ∈ jm_Wall := jm_inW (n := 469) (by decide +kernel) rfl
set_option maxRecDepth 100000 in
theorem jw_470 : (Jvm.Cond.code ({ cls := "EpochLeaves$Worker", name := "doPut", desc := "(LEpochLeaves$Store;II)I" } : Jvm.MethodName) prog_7_method_9_code (4 : Nat) (Option.some Jvm.ClassFile.FieldType.int)) ∈ jm_Wall := jm_inW (n := 470) (rfl) rfl
theorem jw_471 : (Jvm.Cond.methodLink "EpochLeaves$Worker" (143 : Nat) ({ cls := "EpochLeaves$Transaction", name := "keepPut", desc := "(II)V" } : Jvm.MethodName)) ∈ jm_Wall := jm_inW (n := 471) (by decide +kernel) rfl
theorem jw_472 : (Jvm.Cond.instanceMethod ({ cls := "EpochLeaves$Transaction", name := "keepPut", desc := "(II)V" } : Jvm.MethodName)) ∈ jm_Wall := jm_inW (n := 472) (by decide +kernel) rfl
theorem jw_473 : (Jvm.Cond.selects "EpochLeaves$Transaction" ({ cls := "EpochLeaves$Transaction", name := "keepPut", desc := "(II)V" } : Jvm.MethodName) ({ cls := "EpochLeaves$Transaction", name := "keepPut", desc := "(II)V" } : Jvm.MethodName)) ∈ jm_Wall := jm_inW (n := 473) (by decide +kernel) rfl
set_option maxRecDepth 100000 in
theorem jw_474 : (Jvm.Cond.code ({ cls := "EpochLeaves$Transaction", name := "keepPut", desc := "(II)V" } : Jvm.MethodName) prog_6_method_4_code (3 : Nat) (Option.none : Option Jvm.ClassFile.FieldType)) ∈ jm_Wall := jm_inW (n := 474) (rfl) rfl
theorem jw_475 : (Jvm.Cond.methodLink "EpochLeaves$Transaction" (25 : Nat) ({ cls := "EpochLeaves$Transaction", name := "keepWrite", desc := "(III)V" } : Jvm.MethodName)) ∈ jm_Wall := jm_inW (n := 475) (by decide +kernel) rfl
theorem jw_477 : (Jvm.Cond.instanceMethod ({ cls := "EpochLeaves$Transaction", name := "keepWrite", desc := "(III)V" } : Jvm.MethodName)) ∈ jm_Wall := jm_inW (n := 477) (by decide +kernel) rfl
set_option maxRecDepth 100000 in
theorem jw_478 : (Jvm.Cond.code ({ cls := "EpochLeaves$Transaction", name := "keepWrite", desc := "(III)V" } : Jvm.MethodName) prog_6_method_6_code (4 : Nat) (Option.none : Option Jvm.ClassFile.FieldType)) ∈ jm_Wall := jm_inW (n := 478) (rfl) rfl
theorem jw_479 : (Jvm.Cond.methodLink "EpochLeaves$Transaction" (29 : Nat) ({ cls := "EpochLeaves$Transaction", name := "writes", desc := "(I)Z" } : Jvm.MethodName)) ∈ jm_Wall := jm_inW (n := 479) (by decide +kernel) rfl
theorem jw_480 : (Jvm.Cond.methodLink "EpochLeaves$Worker" (105 : Nat) ({ cls := "EpochLeaves$Worker", name := "doDrop", desc := "(LEpochLeaves$Store;I)I" } : Jvm.MethodName)) ∈ jm_Wall := jm_inW (n := 480) (by decide +kernel) rfl
theorem jw_482 : (Jvm.Cond.instanceMethod ({ cls := "EpochLeaves$Worker", name := "doDrop", desc := "(LEpochLeaves$Store;I)I" } : Jvm.MethodName)) ∈ jm_Wall := jm_inW (n := 482) (by decide +kernel) rfl
set_option maxRecDepth 100000 in
theorem jw_483 : (Jvm.Cond.code ({ cls := "EpochLeaves$Worker", name := "doDrop", desc := "(LEpochLeaves$Store;I)I" } : Jvm.MethodName) prog_7_method_10_code (3 : Nat) (Option.some Jvm.ClassFile.FieldType.int)) ∈ jm_Wall := jm_inW (n := 483) (rfl) rfl
theorem jw_484 : (Jvm.Cond.methodLink "EpochLeaves$Worker" (147 : Nat) ({ cls := "EpochLeaves$Transaction", name := "keepDrop", desc := "(I)V" } : Jvm.MethodName)) ∈ jm_Wall := jm_inW (n := 484) (by decide +kernel) rfl
theorem jw_485 : (Jvm.Cond.instanceMethod ({ cls := "EpochLeaves$Transaction", name := "keepDrop", desc := "(I)V" } : Jvm.MethodName)) ∈ jm_Wall := jm_inW (n := 485) (by decide +kernel) rfl
theorem jw_486 : (Jvm.Cond.selects "EpochLeaves$Transaction" ({ cls := "EpochLeaves$Transaction", name := "keepDrop", desc := "(I)V" } : Jvm.MethodName) ({ cls := "EpochLeaves$Transaction", name := "keepDrop", desc := "(I)V" } : Jvm.MethodName)) ∈ jm_Wall := jm_inW (n := 486) (by decide +kernel) rfl
set_option maxRecDepth 100000 in
theorem jw_487 : (Jvm.Cond.code ({ cls := "EpochLeaves$Transaction", name := "keepDrop", desc := "(I)V" } : Jvm.MethodName) prog_6_method_5_code (2 : Nat) (Option.none : Option Jvm.ClassFile.FieldType)) ∈ jm_Wall := jm_inW (n := 487) (rfl) rfl
theorem jw_488 : (Jvm.Cond.methodLink "EpochLeaves$Worker" (108 : Nat) ({ cls := "java/lang/Math", name := "max", desc := "(II)I" } : Jvm.MethodName)) ∈ jm_Wall := jm_inW (n := 488) (by decide +kernel) rfl
theorem jw_489 : (Jvm.Cond.methodLink "EpochLeaves$Worker" (114 : Nat) ({ cls := "java/lang/Math", name := "min", desc := "(II)I" } : Jvm.MethodName)) ∈ jm_Wall := jm_inW (n := 489) (by decide +kernel) rfl
theorem jw_490 : (Jvm.Cond.methodLink "EpochLeaves$Worker" (117 : Nat) ({ cls := "EpochLeaves$Worker", name := "doSum", desc := "(LEpochLeaves$Store;III)I" } : Jvm.MethodName)) ∈ jm_Wall := jm_inW (n := 490) (by decide +kernel) rfl
theorem jw_492 : (Jvm.Cond.instanceMethod ({ cls := "EpochLeaves$Worker", name := "doSum", desc := "(LEpochLeaves$Store;III)I" } : Jvm.MethodName)) ∈ jm_Wall := jm_inW (n := 492) (by decide +kernel) rfl
set_option maxRecDepth 100000 in
theorem jw_493 : (Jvm.Cond.code ({ cls := "EpochLeaves$Worker", name := "doSum", desc := "(LEpochLeaves$Store;III)I" } : Jvm.MethodName) prog_7_method_11_code (8 : Nat) (Option.some Jvm.ClassFile.FieldType.int)) ∈ jm_Wall := jm_inW (n := 493) (rfl) rfl
theorem jw_494 : (Jvm.Cond.methodLink "EpochLeaves$Worker" (121 : Nat) ({ cls := "EpochLeaves$Worker", name := "reckon", desc := "(III)I" } : Jvm.MethodName)) ∈ jm_Wall := jm_inW (n := 494) (by decide +kernel) rfl
theorem jw_496 : (Jvm.Cond.instanceMethod ({ cls := "EpochLeaves$Worker", name := "reckon", desc := "(III)I" } : Jvm.MethodName)) ∈ jm_Wall := jm_inW (n := 496) (by decide +kernel) rfl
set_option maxRecDepth 100000 in
theorem jw_497 : (Jvm.Cond.code ({ cls := "EpochLeaves$Worker", name := "reckon", desc := "(III)I" } : Jvm.MethodName) prog_7_method_7_code (4 : Nat) (Option.some Jvm.ClassFile.FieldType.int)) ∈ jm_Wall := jm_inW (n := 497) (rfl) rfl
theorem jw_498 : (Jvm.Cond.methodLink "EpochLeaves$Worker" (64 : Nat) ({ cls := "EpochLeaves$Worker", name := "lockOne", desc := "(LEpochLeaves$Store;I)I" } : Jvm.MethodName)) ∈ jm_Wall := jm_inW (n := 498) (by decide +kernel) rfl
theorem jw_500 : (Jvm.Cond.instanceMethod ({ cls := "EpochLeaves$Worker", name := "lockOne", desc := "(LEpochLeaves$Store;I)I" } : Jvm.MethodName)) ∈ jm_Wall := jm_inW (n := 500) (by decide +kernel) rfl
set_option maxRecDepth 100000 in
theorem jw_501 : (Jvm.Cond.code ({ cls := "EpochLeaves$Worker", name := "lockOne", desc := "(LEpochLeaves$Store;I)I" } : Jvm.MethodName) prog_7_method_18_code (4 : Nat) (Option.some Jvm.ClassFile.FieldType.int)) ∈ jm_Wall := jm_inW (n := 501) (rfl) rfl
theorem jw_502 : (Jvm.Cond.methodLink "EpochLeaves$Worker" (196 : Nat) ({ cls := "EpochLeaves$Worker", name := "leastWrite", desc := "(LEpochLeaves$Store;Z)I" } : Jvm.MethodName)) ∈ jm_Wall := jm_inW (n := 502) (by decide +kernel) rfl
theorem jw_504 : (Jvm.Cond.instanceMethod ({ cls := "EpochLeaves$Worker", name := "leastWrite", desc := "(LEpochLeaves$Store;Z)I" } : Jvm.MethodName)) ∈ jm_Wall := jm_inW (n := 504) (by decide +kernel) rfl
set_option maxRecDepth 100000 in
theorem jw_505 : (Jvm.Cond.code ({ cls := "EpochLeaves$Worker", name := "leastWrite", desc := "(LEpochLeaves$Store;Z)I" } : Jvm.MethodName) prog_7_method_19_code (4 : Nat) (Option.some Jvm.ClassFile.FieldType.int)) ∈ jm_Wall := jm_inW (n := 505) (rfl) rfl
theorem jw_506 : (Jvm.Cond.methodLink "EpochLeaves$Worker" (203 : Nat) ({ cls := "EpochLeaves$Worker", name := "addRecord", desc := "(LEpochLeaves$Store;I)V" } : Jvm.MethodName)) ∈ jm_Wall := jm_inW (n := 506) (by decide +kernel) rfl
theorem jw_508 : (Jvm.Cond.instanceMethod ({ cls := "EpochLeaves$Worker", name := "addRecord", desc := "(LEpochLeaves$Store;I)V" } : Jvm.MethodName)) ∈ jm_Wall := jm_inW (n := 508) (by decide +kernel) rfl
set_option maxRecDepth 100000 in
theorem jw_509 : (Jvm.Cond.code ({ cls := "EpochLeaves$Worker", name := "addRecord", desc := "(LEpochLeaves$Store;I)V" } : Jvm.MethodName) prog_7_method_20_code (6 : Nat) (Option.none : Option Jvm.ClassFile.FieldType)) ∈ jm_Wall := jm_inW (n := 509) (rfl) rfl
theorem jw_510 : (Jvm.Cond.methodLink "EpochLeaves$Worker" (212 : Nat) ({ cls := "EpochLeaves$Store", name := "add", desc := "(I)V" } : Jvm.MethodName)) ∈ jm_Wall := jm_inW (n := 510) (by decide +kernel) rfl
theorem jw_511 : (Jvm.Cond.instanceMethod ({ cls := "EpochLeaves$Store", name := "add", desc := "(I)V" } : Jvm.MethodName)) ∈ jm_Wall := jm_inW (n := 511) (by decide +kernel) rfl
theorem jw_512 : (Jvm.Cond.selects "EpochLeaves$Store" ({ cls := "EpochLeaves$Store", name := "add", desc := "(I)V" } : Jvm.MethodName) ({ cls := "EpochLeaves$Store", name := "add", desc := "(I)V" } : Jvm.MethodName)) ∈ jm_Wall := jm_inW (n := 512) (by decide +kernel) rfl
set_option maxRecDepth 100000 in
theorem jw_513 : (Jvm.Cond.code ({ cls := "EpochLeaves$Store", name := "add", desc := "(I)V" } : Jvm.MethodName) prog_5_method_7_code (4 : Nat) (Option.none : Option Jvm.ClassFile.FieldType)) ∈ jm_Wall := jm_inW (n := 513) (rfl) rfl
theorem jw_514 : (Jvm.Cond.methodLink "EpochLeaves$Store" (46 : Nat) ({ cls := "EpochLeaves$Store", name := "placeOf", desc := "(I)I" } : Jvm.MethodName)) ∈ jm_Wall := jm_inW (n := 514) (by decide +kernel) rfl
theorem jw_515 : (Jvm.Cond.methodLink "EpochLeaves$Store" (50 : Nat) ({ cls := "EpochLeaves$Store", name := "leafAt", desc := "(I)LEpochLeaves$Leaf;" } : Jvm.MethodName)) ∈ jm_Wall := jm_inW (n := 515) (by decide +kernel) rfl
theorem jw_516 : (Jvm.Cond.methodLink "EpochLeaves$Store" (54 : Nat) ({ cls := "EpochLeaves$Leaf", name := "insert", desc := "(I)V" } : Jvm.MethodName)) ∈ jm_Wall := jm_inW (n := 516) (by decide +kernel) rfl
theorem jw_517 : (Jvm.Cond.instanceMethod ({ cls := "EpochLeaves$Leaf", name := "insert", desc := "(I)V" } : Jvm.MethodName)) ∈ jm_Wall := jm_inW (n := 517) (by decide +kernel) rfl
theorem jw_518 : (Jvm.Cond.selects "EpochLeaves$Leaf" ({ cls := "EpochLeaves$Leaf", name := "insert", desc := "(I)V" } : Jvm.MethodName) ({ cls := "EpochLeaves$Leaf", name := "insert", desc := "(I)V" } : Jvm.MethodName)) ∈ jm_Wall := jm_inW (n := 518) (by decide +kernel) rfl
set_option maxRecDepth 100000 in
theorem jw_519 : (Jvm.Cond.code ({ cls := "EpochLeaves$Leaf", name := "insert", desc := "(I)V" } : Jvm.MethodName) prog_2_method_3_code (3 : Nat) (Option.none : Option Jvm.ClassFile.FieldType)) ∈ jm_Wall := jm_inW (n := 519) (rfl) rfl
theorem jw_520 : (Jvm.Cond.methodLink "EpochLeaves$Store" (60 : Nat) ({ cls := "EpochLeaves$Store", name := "openLeafAt", desc := "(I)LEpochLeaves$Leaf;" } : Jvm.MethodName)) ∈ jm_Wall := jm_inW (n := 520) (by decide +kernel) rfl
theorem jw_522 : (Jvm.Cond.instanceMethod ({ cls := "EpochLeaves$Store", name := "openLeafAt", desc := "(I)LEpochLeaves$Leaf;" } : Jvm.MethodName)) ∈ jm_Wall := jm_inW (n := 522) (by decide +kernel) rfl
set_option maxRecDepth 100000 in
theorem jw_523 : (Jvm.Cond.code ({ cls := "EpochLeaves$Store", name := "openLeafAt", desc := "(I)LEpochLeaves$Leaf;" } : Jvm.MethodName) prog_5_method_8_code (4 : Nat) (Option.some (Jvm.ClassFile.FieldType.object "EpochLeaves$Leaf"))) ∈ jm_Wall := jm_inW (n := 523) (rfl) rfl
theorem jw_524 : (Jvm.Cond.methodLink "EpochLeaves$Store" (63 : Nat) ({ cls := "EpochLeaves$Leaf", name := "splitInto", desc := "(LEpochLeaves$Leaf;)V" } : Jvm.MethodName)) ∈ jm_Wall := jm_inW (n := 524) (by decide +kernel) rfl
theorem jw_525 : (Jvm.Cond.instanceMethod ({ cls := "EpochLeaves$Leaf", name := "splitInto", desc := "(LEpochLeaves$Leaf;)V" } : Jvm.MethodName)) ∈ jm_Wall := jm_inW (n := 525) (by decide +kernel) rfl
theorem jw_526 : (Jvm.Cond.selects "EpochLeaves$Leaf" ({ cls := "EpochLeaves$Leaf", name := "splitInto", desc := "(LEpochLeaves$Leaf;)V" } : Jvm.MethodName) ({ cls := "EpochLeaves$Leaf", name := "splitInto", desc := "(LEpochLeaves$Leaf;)V" } : Jvm.MethodName)) ∈ jm_Wall := jm_inW (n := 526) (by decide +kernel) rfl
set_option maxRecDepth 100000 in
theorem jw_527 : (Jvm.Cond.code ({ cls := "EpochLeaves$Leaf", name := "splitInto", desc := "(LEpochLeaves$Leaf;)V" } : Jvm.MethodName) prog_2_method_4_code (4 : Nat) (Option.none : Option Jvm.ClassFile.FieldType)) ∈ jm_Wall := jm_inW (n := 527) (rfl) rfl
theorem jw_528 : (Jvm.Cond.methodLink "EpochLeaves$Worker" (68 : Nat) ({ cls := "EpochLeaves$Worker", name := "lookAgain", desc := "(LEpochLeaves$Store;)I" } : Jvm.MethodName)) ∈ jm_Wall := jm_inW (n := 528) (by decide +kernel) rfl
theorem jw_530 : (Jvm.Cond.instanceMethod ({ cls := "EpochLeaves$Worker", name := "lookAgain", desc := "(LEpochLeaves$Store;)I" } : Jvm.MethodName)) ∈ jm_Wall := jm_inW (n := 530) (by decide +kernel) rfl
set_option maxRecDepth 100000 in
theorem jw_531 : (Jvm.Cond.code ({ cls := "EpochLeaves$Worker", name := "lookAgain", desc := "(LEpochLeaves$Store;)I" } : Jvm.MethodName) prog_7_method_21_code (2 : Nat) (Option.some Jvm.ClassFile.FieldType.int)) ∈ jm_Wall := jm_inW (n := 531) (rfl) rfl
theorem jw_532 : (Jvm.Cond.methodLink "EpochLeaves$Worker" (219 : Nat) ({ cls := "EpochLeaves$Worker", name := "readsHold", desc := "(LEpochLeaves$Store;)Z" } : Jvm.MethodName)) ∈ jm_Wall := jm_inW (n := 532) (by decide +kernel) rfl
theorem jw_534 : (Jvm.Cond.instanceMethod ({ cls := "EpochLeaves$Worker", name := "readsHold", desc := "(LEpochLeaves$Store;)Z" } : Jvm.MethodName)) ∈ jm_Wall := jm_inW (n := 534) (by decide +kernel) rfl
set_option maxRecDepth 100000 in
theorem jw_535 : (Jvm.Cond.code ({ cls := "EpochLeaves$Worker", name := "readsHold", desc := "(LEpochLeaves$Store;)Z" } : Jvm.MethodName) prog_7_method_22_code (3 : Nat) (Option.some Jvm.ClassFile.FieldType.boolean)) ∈ jm_Wall := jm_inW (n := 535) (rfl) rfl
theorem jw_536 : (Jvm.Cond.methodLink "EpochLeaves$Worker" (223 : Nat) ({ cls := "EpochLeaves$Worker", name := "nodesHold", desc := "(LEpochLeaves$Store;)Z" } : Jvm.MethodName)) ∈ jm_Wall := jm_inW (n := 536) (by decide +kernel) rfl
theorem jw_538 : (Jvm.Cond.instanceMethod ({ cls := "EpochLeaves$Worker", name := "nodesHold", desc := "(LEpochLeaves$Store;)Z" } : Jvm.MethodName)) ∈ jm_Wall := jm_inW (n := 538) (by decide +kernel) rfl
set_option maxRecDepth 100000 in
theorem jw_539 : (Jvm.Cond.code ({ cls := "EpochLeaves$Worker", name := "nodesHold", desc := "(LEpochLeaves$Store;)Z" } : Jvm.MethodName) prog_7_method_23_code (3 : Nat) (Option.some Jvm.ClassFile.FieldType.boolean)) ∈ jm_Wall := jm_inW (n := 539) (rfl) rfl
theorem jw_540 : (Jvm.Cond.methodLink "EpochLeaves$Worker" (226 : Nat) ({ cls := "EpochLeaves$Worker", name := "nextStamp", desc := "(LEpochLeaves$Store;)I" } : Jvm.MethodName)) ∈ jm_Wall := jm_inW (n := 540) (by decide +kernel) rfl
theorem jw_542 : (Jvm.Cond.instanceMethod ({ cls := "EpochLeaves$Worker", name := "nextStamp", desc := "(LEpochLeaves$Store;)I" } : Jvm.MethodName)) ∈ jm_Wall := jm_inW (n := 542) (by decide +kernel) rfl
set_option maxRecDepth 100000 in
theorem jw_543 : (Jvm.Cond.code ({ cls := "EpochLeaves$Worker", name := "nextStamp", desc := "(LEpochLeaves$Store;)I" } : Jvm.MethodName) prog_7_method_24_code (4 : Nat) (Option.some Jvm.ClassFile.FieldType.int)) ∈ jm_Wall := jm_inW (n := 543) (rfl) rfl
theorem jw_544 : (Jvm.Cond.methodLink "EpochLeaves$Worker" (72 : Nat) ({ cls := "EpochLeaves$Worker", name := "installOne", desc := "(LEpochLeaves$Store;)I" } : Jvm.MethodName)) ∈ jm_Wall := jm_inW (n := 544) (by decide +kernel) rfl
theorem jw_546 : (Jvm.Cond.instanceMethod ({ cls := "EpochLeaves$Worker", name := "installOne", desc := "(LEpochLeaves$Store;)I" } : Jvm.MethodName)) ∈ jm_Wall := jm_inW (n := 546) (by decide +kernel) rfl
set_option maxRecDepth 100000 in
theorem jw_547 : (Jvm.Cond.code ({ cls := "EpochLeaves$Worker", name := "installOne", desc := "(LEpochLeaves$Store;)I" } : Jvm.MethodName) prog_7_method_25_code (3 : Nat) (Option.some Jvm.ClassFile.FieldType.int)) ∈ jm_Wall := jm_inW (n := 547) (rfl) rfl
theorem jw_548 : (Jvm.Cond.methodLink "EpochLeaves$Worker" (232 : Nat) ({ cls := "EpochLeaves$Store", name := "install", desc := "(IZII)V" } : Jvm.MethodName)) ∈ jm_Wall := jm_inW (n := 548) (by decide +kernel) rfl
theorem jw_549 : (Jvm.Cond.instanceMethod ({ cls := "EpochLeaves$Store", name := "install", desc := "(IZII)V" } : Jvm.MethodName)) ∈ jm_Wall := jm_inW (n := 549) (by decide +kernel) rfl
theorem jw_550 : (Jvm.Cond.selects "EpochLeaves$Store" ({ cls := "EpochLeaves$Store", name := "install", desc := "(IZII)V" } : Jvm.MethodName) ({ cls := "EpochLeaves$Store", name := "install", desc := "(IZII)V" } : Jvm.MethodName)) ∈ jm_Wall := jm_inW (n := 550) (by decide +kernel) rfl
set_option maxRecDepth 100000 in
theorem jw_551 : (Jvm.Cond.code ({ cls := "EpochLeaves$Store", name := "install", desc := "(IZII)V" } : Jvm.MethodName) prog_5_method_9_code (5 : Nat) (Option.none : Option Jvm.ClassFile.FieldType)) ∈ jm_Wall := jm_inW (n := 551) (rfl) rfl
theorem jw_552 : (Jvm.Cond.methodLink "EpochLeaves" (108 : Nat) ({ cls := "EpochLeaves", name := "releaseAllDue", desc := "()I" } : Jvm.MethodName)) ∈ jm_Wall := jm_inW (n := 552) (by decide +kernel) rfl
theorem jw_554 : (Jvm.Cond.instanceMethod ({ cls := "EpochLeaves", name := "releaseAllDue", desc := "()I" } : Jvm.MethodName)) ∈ jm_Wall := jm_inW (n := 554) (by decide +kernel) rfl
set_option maxRecDepth 100000 in
theorem jw_555 : (Jvm.Cond.code ({ cls := "EpochLeaves", name := "releaseAllDue", desc := "()I" } : Jvm.MethodName) prog_1_method_25_code (5 : Nat) (Option.some Jvm.ClassFile.FieldType.int)) ∈ jm_Wall := jm_inW (n := 555) (rfl) rfl
theorem jw_556 : (Jvm.Cond.methodLink "EpochLeaves" (111 : Nat) ({ cls := "EpochLeaves", name := "durableEpoch", desc := "()I" } : Jvm.MethodName)) ∈ jm_Wall := jm_inW (n := 556) (by decide +kernel) rfl
theorem jw_558 : (Jvm.Cond.instanceMethod ({ cls := "EpochLeaves", name := "durableEpoch", desc := "()I" } : Jvm.MethodName)) ∈ jm_Wall := jm_inW (n := 558) (by decide +kernel) rfl
set_option maxRecDepth 100000 in
theorem jw_559 : (Jvm.Cond.code ({ cls := "EpochLeaves", name := "durableEpoch", desc := "()I" } : Jvm.MethodName) prog_1_method_24_code (3 : Nat) (Option.some Jvm.ClassFile.FieldType.int)) ∈ jm_Wall := jm_inW (n := 559) (rfl) rfl
theorem jw_560 : (Jvm.Cond.methodLink "EpochLeaves" (214 : Nat) ({ cls := "java/lang/Math", name := "min", desc := "(II)I" } : Jvm.MethodName)) ∈ jm_Wall := jm_inW (n := 560) (by decide +kernel) rfl
theorem jw_561 : (Jvm.Cond.methodLink "EpochLeaves" (129 : Nat) ({ cls := "java/util/ArrayList", name := "get", desc := "(I)Ljava/lang/Object;" } : Jvm.MethodName)) ∈ jm_Wall := jm_inW (n := 561) (by decide +kernel) rfl
theorem jw_562 : (Jvm.Cond.instanceMethod ({ cls := "java/util/ArrayList", name := "get", desc := "(I)Ljava/lang/Object;" } : Jvm.MethodName)) ∈ jm_Wall := jm_inW (n := 562) (by decide +kernel) rfl
theorem jw_563 : (Jvm.Cond.selects "java/util/ArrayList" ({ cls := "java/util/ArrayList", name := "get", desc := "(I)Ljava/lang/Object;" } : Jvm.MethodName) ({ cls := "java/util/ArrayList", name := "get", desc := "(I)Ljava/lang/Object;" } : Jvm.MethodName)) ∈ jm_Wall := jm_inW (n := 563) (by decide +kernel) rfl
set_option maxRecDepth 100000 in
theorem jw_564 : (Jvm.Cond.code ({ cls := "java/util/ArrayList", name := "get", desc := "(I)Ljava/lang/Object;" } : Jvm.MethodName) prog_17_method_20_code (2 : Nat) (Option.some (Jvm.ClassFile.FieldType.object "java/lang/Object"))) ∈ jm_Wall := jm_inW (n := 564) (rfl) rfl
theorem jw_565 : (Jvm.Cond.methodLink "java/util/ArrayList" (118 : Nat) ({ cls := "java/util/Objects", name := "checkIndex", desc := "(II)I" } : Jvm.MethodName)) ∈ jm_Wall := jm_inW (n := 565) (by decide +kernel) rfl
theorem jw_566 : (Jvm.Cond.static ({ cls := "java/util/Objects", name := "checkIndex", desc := "(II)I" } : Jvm.MethodName)) ∈ jm_Wall := jm_inW (n := 566) (by decide +kernel) rfl
set_option maxRecDepth 100000 in
theorem jw_567 : (Jvm.Cond.code ({ cls := "java/util/Objects", name := "checkIndex", desc := "(II)I" } : Jvm.MethodName) prog_21_method_17_code (2 : Nat) (Option.some Jvm.ClassFile.FieldType.int)) ∈ jm_Wall := jm_inW (n := 567) (rfl) rfl
theorem jw_568 : (Jvm.Cond.methodLink "java/util/Objects" (105 : Nat) ({ cls := "jdk/internal/util/Preconditions", name := "checkIndex", desc := "(IILjava/util/function/BiFunction;)I" } : Jvm.MethodName)) ∈ jm_Wall := jm_inW (n := 568) (by decide +kernel) rfl
theorem jw_569 : (Jvm.Cond.static ({ cls := "jdk/internal/util/Preconditions", name := "checkIndex", desc := "(IILjava/util/function/BiFunction;)I" } : Jvm.MethodName)) ∈ jm_Wall := jm_inW (n := 569) (by decide +kernel) rfl
set_option maxRecDepth 100000 in
theorem jw_570 : (Jvm.Cond.code ({ cls := "jdk/internal/util/Preconditions", name := "checkIndex", desc := "(IILjava/util/function/BiFunction;)I" } : Jvm.MethodName) prog_25_method_11_code (3 : Nat) (Option.some Jvm.ClassFile.FieldType.int)) ∈ jm_Wall := jm_inW (n := 570) (rfl) rfl
theorem jw_571 : (Jvm.Cond.methodLink "java/util/ArrayList" (123 : Nat) ({ cls := "java/util/ArrayList", name := "elementData", desc := "(I)Ljava/lang/Object;" } : Jvm.MethodName)) ∈ jm_Wall := jm_inW (n := 571) (by decide +kernel) rfl
theorem jw_572 : (Jvm.Cond.instanceMethod ({ cls := "java/util/ArrayList", name := "elementData", desc := "(I)Ljava/lang/Object;" } : Jvm.MethodName)) ∈ jm_Wall := jm_inW (n := 572) (by decide +kernel) rfl
theorem jw_573 : (Jvm.Cond.selects "java/util/ArrayList" ({ cls := "java/util/ArrayList", name := "elementData", desc := "(I)Ljava/lang/Object;" } : Jvm.MethodName) ({ cls := "java/util/ArrayList", name := "elementData", desc := "(I)Ljava/lang/Object;" } : Jvm.MethodName)) ∈ jm_Wall := jm_inW (n := 573) (by decide +kernel) rfl
set_option maxRecDepth 100000 in
theorem jw_574 : (Jvm.Cond.code ({ cls := "java/util/ArrayList", name := "elementData", desc := "(I)Ljava/lang/Object;" } : Jvm.MethodName) prog_17_method_18_code (2 : Nat) (Option.some (Jvm.ClassFile.FieldType.object "java/lang/Object"))) ∈ jm_Wall := jm_inW (n := 574) (rfl) rfl
theorem jw_575 : (Jvm.Cond.methodLink "EpochLeaves" (220 : Nat) ({ cls := "EpochLeaves$Transaction", name := "epochOfStamp", desc := "()I" } : Jvm.MethodName)) ∈ jm_Wall := jm_inW (n := 575) (by decide +kernel) rfl
theorem jw_576 : (Jvm.Cond.instanceMethod ({ cls := "EpochLeaves$Transaction", name := "epochOfStamp", desc := "()I" } : Jvm.MethodName)) ∈ jm_Wall := jm_inW (n := 576) (by decide +kernel) rfl
theorem jw_577 : (Jvm.Cond.selects "EpochLeaves$Transaction" ({ cls := "EpochLeaves$Transaction", name := "epochOfStamp", desc := "()I" } : Jvm.MethodName) ({ cls := "EpochLeaves$Transaction", name := "epochOfStamp", desc := "()I" } : Jvm.MethodName)) ∈ jm_Wall := jm_inW (n := 577) (by decide +kernel) rfl
set_option maxRecDepth 100000 in
theorem jw_578 : (Jvm.Cond.code ({ cls := "EpochLeaves$Transaction", name := "epochOfStamp", desc := "()I" } : Jvm.MethodName) prog_6_method_7_code (1 : Nat) (Option.some Jvm.ClassFile.FieldType.int)) ∈ jm_Wall := jm_inW (n := 578) (rfl) rfl
theorem jw_579 : (Jvm.Cond.methodLink "EpochLeavesLaw" (33 : Nat) ({ cls := "EpochLeaves", name := "run", desc := "(II)I" } : Jvm.MethodName)) ∈ jm_Wall := jm_inW (n := 579) (by decide +kernel) rfl
theorem jw_580 : (Jvm.Cond.instanceMethod ({ cls := "EpochLeaves", name := "run", desc := "(II)I" } : Jvm.MethodName)) ∈ jm_Wall := jm_inW (n := 580) (by decide +kernel) rfl
theorem jw_581 : (Jvm.Cond.selects "EpochLeaves" ({ cls := "EpochLeaves", name := "run", desc := "(II)I" } : Jvm.MethodName) ({ cls := "EpochLeaves", name := "run", desc := "(II)I" } : Jvm.MethodName)) ∈ jm_Wall := jm_inW (n := 581) (by decide +kernel) rfl
set_option maxRecDepth 100000 in
theorem jw_582 : (Jvm.Cond.code ({ cls := "EpochLeaves", name := "run", desc := "(II)I" } : Jvm.MethodName) prog_1_method_6_code (5 : Nat) (Option.some Jvm.ClassFile.FieldType.int)) ∈ jm_Wall := jm_inW (n := 582) (rfl) rfl
theorem jw_583 : (Jvm.Cond.methodLink "EpochLeavesLaw" (38 : Nat) ({ cls := "EpochLeaves", name := "advance", desc := "()I" } : Jvm.MethodName)) ∈ jm_Wall := jm_inW (n := 583) (by decide +kernel) rfl
theorem jw_584 : (Jvm.Cond.instanceMethod ({ cls := "EpochLeaves", name := "advance", desc := "()I" } : Jvm.MethodName)) ∈ jm_Wall := jm_inW (n := 584) (by decide +kernel) rfl
theorem jw_585 : (Jvm.Cond.selects "EpochLeaves" ({ cls := "EpochLeaves", name := "advance", desc := "()I" } : Jvm.MethodName) ({ cls := "EpochLeaves", name := "advance", desc := "()I" } : Jvm.MethodName)) ∈ jm_Wall := jm_inW (n := 585) (by decide +kernel) rfl
set_option maxRecDepth 100000 in
theorem jw_586 : (Jvm.Cond.code ({ cls := "EpochLeaves", name := "advance", desc := "()I" } : Jvm.MethodName) prog_1_method_7_code (2 : Nat) (Option.some Jvm.ClassFile.FieldType.int)) ∈ jm_Wall := jm_inW (n := 586) (rfl) rfl
theorem jw_587 : (Jvm.Cond.methodLink "EpochLeaves" (99 : Nat) ({ cls := "EpochLeaves$Worker", name := "hasEpoch", desc := "()Z" } : Jvm.MethodName)) ∈ jm_Wall := jm_inW (n := 587) (by decide +kernel) rfl
theorem jw_588 : (Jvm.Cond.instanceMethod ({ cls := "EpochLeaves$Worker", name := "hasEpoch", desc := "()Z" } : Jvm.MethodName)) ∈ jm_Wall := jm_inW (n := 588) (by decide +kernel) rfl
theorem jw_589 : (Jvm.Cond.selects "EpochLeaves$Worker" ({ cls := "EpochLeaves$Worker", name := "hasEpoch", desc := "()Z" } : Jvm.MethodName) ({ cls := "EpochLeaves$Worker", name := "hasEpoch", desc := "()Z" } : Jvm.MethodName)) ∈ jm_Wall := jm_inW (n := 589) (by decide +kernel) rfl
set_option maxRecDepth 100000 in
theorem jw_590 : (Jvm.Cond.code ({ cls := "EpochLeaves$Worker", name := "hasEpoch", desc := "()Z" } : Jvm.MethodName) prog_7_method_3_code (1 : Nat) (Option.some Jvm.ClassFile.FieldType.boolean)) ∈ jm_Wall := jm_inW (n := 590) (rfl) rfl
theorem jw_591 : (Jvm.Cond.methodLink "EpochLeavesLaw" (43 : Nat) ({ cls := "EpochLeaves", name := "flush", desc := "(I)I" } : Jvm.MethodName)) ∈ jm_Wall := jm_inW (n := 591) (by decide +kernel) rfl
theorem jw_592 : (Jvm.Cond.instanceMethod ({ cls := "EpochLeaves", name := "flush", desc := "(I)I" } : Jvm.MethodName)) ∈ jm_Wall := jm_inW (n := 592) (by decide +kernel) rfl
theorem jw_593 : (Jvm.Cond.selects "EpochLeaves" ({ cls := "EpochLeaves", name := "flush", desc := "(I)I" } : Jvm.MethodName) ({ cls := "EpochLeaves", name := "flush", desc := "(I)I" } : Jvm.MethodName)) ∈ jm_Wall := jm_inW (n := 593) (by decide +kernel) rfl
set_option maxRecDepth 100000 in
theorem jw_594 : (Jvm.Cond.code ({ cls := "EpochLeaves", name := "flush", desc := "(I)I" } : Jvm.MethodName) prog_1_method_8_code (3 : Nat) (Option.some Jvm.ClassFile.FieldType.int)) ∈ jm_Wall := jm_inW (n := 594) (rfl) rfl
theorem jw_595 : (Jvm.Cond.methodLink "EpochLeaves" (105 : Nat) ({ cls := "EpochLeaves$Log", name := "makeDurable", desc := "(I)V" } : Jvm.MethodName)) ∈ jm_Wall := jm_inW (n := 595) (by decide +kernel) rfl
theorem jw_596 : (Jvm.Cond.instanceMethod ({ cls := "EpochLeaves$Log", name := "makeDurable", desc := "(I)V" } : Jvm.MethodName)) ∈ jm_Wall := jm_inW (n := 596) (by decide +kernel) rfl
theorem jw_597 : (Jvm.Cond.selects "EpochLeaves$Log" ({ cls := "EpochLeaves$Log", name := "makeDurable", desc := "(I)V" } : Jvm.MethodName) ({ cls := "EpochLeaves$Log", name := "makeDurable", desc := "(I)V" } : Jvm.MethodName)) ∈ jm_Wall := jm_inW (n := 597) (by decide +kernel) rfl
set_option maxRecDepth 100000 in
theorem jw_598 : (Jvm.Cond.code ({ cls := "EpochLeaves$Log", name := "makeDurable", desc := "(I)V" } : Jvm.MethodName) prog_3_method_2_code (2 : Nat) (Option.none : Option Jvm.ClassFile.FieldType)) ∈ jm_Wall := jm_inW (n := 598) (rfl) rfl
theorem jw_599 : (Jvm.Cond.methodLink "EpochLeaves$Log" (18 : Nat) ({ cls := "java/util/ArrayList", name := "size", desc := "()I" } : Jvm.MethodName)) ∈ jm_Wall := jm_inW (n := 599) (by decide +kernel) rfl
theorem jw_600 : (Jvm.Cond.methodLink "EpochLeaves$Log" (29 : Nat) ({ cls := "java/lang/Math", name := "max", desc := "(II)I" } : Jvm.MethodName)) ∈ jm_Wall := jm_inW (n := 600) (by decide +kernel) rfl
theorem jw_601 : (Jvm.Cond.methodLink "EpochLeavesLaw" (47 : Nat) ({ cls := "EpochLeaves", name := "crash", desc := "()I" } : Jvm.MethodName)) ∈ jm_Wall := jm_inW (n := 601) (by decide +kernel) rfl
theorem jw_602 : (Jvm.Cond.instanceMethod ({ cls := "EpochLeaves", name := "crash", desc := "()I" } : Jvm.MethodName)) ∈ jm_Wall := jm_inW (n := 602) (by decide +kernel) rfl
theorem jw_603 : (Jvm.Cond.selects "EpochLeaves" ({ cls := "EpochLeaves", name := "crash", desc := "()I" } : Jvm.MethodName) ({ cls := "EpochLeaves", name := "crash", desc := "()I" } : Jvm.MethodName)) ∈ jm_Wall := jm_inW (n := 603) (by decide +kernel) rfl
set_option maxRecDepth 100000 in
theorem jw_604 : (Jvm.Cond.code ({ cls := "EpochLeaves", name := "crash", desc := "()I" } : Jvm.MethodName) prog_1_method_9_code (3 : Nat) (Option.some Jvm.ClassFile.FieldType.int)) ∈ jm_Wall := jm_inW (n := 604) (rfl) rfl
theorem jw_605 : (Jvm.Cond.methodLink "EpochLeaves" (114 : Nat) ({ cls := "EpochLeaves$Log", name := "loseBehind", desc := "(I)V" } : Jvm.MethodName)) ∈ jm_Wall := jm_inW (n := 605) (by decide +kernel) rfl
theorem jw_606 : (Jvm.Cond.instanceMethod ({ cls := "EpochLeaves$Log", name := "loseBehind", desc := "(I)V" } : Jvm.MethodName)) ∈ jm_Wall := jm_inW (n := 606) (by decide +kernel) rfl
theorem jw_607 : (Jvm.Cond.selects "EpochLeaves$Log" ({ cls := "EpochLeaves$Log", name := "loseBehind", desc := "(I)V" } : Jvm.MethodName) ({ cls := "EpochLeaves$Log", name := "loseBehind", desc := "(I)V" } : Jvm.MethodName)) ∈ jm_Wall := jm_inW (n := 607) (by decide +kernel) rfl
set_option maxRecDepth 100000 in
theorem jw_608 : (Jvm.Cond.code ({ cls := "EpochLeaves$Log", name := "loseBehind", desc := "(I)V" } : Jvm.MethodName) prog_3_method_3_code (3 : Nat) (Option.none : Option Jvm.ClassFile.FieldType)) ∈ jm_Wall := jm_inW (n := 608) (rfl) rfl
theorem jw_609 : (Jvm.Cond.methodLink "EpochLeaves$Log" (35 : Nat) ({ cls := "java/util/ArrayList", name := "get", desc := "(I)Ljava/lang/Object;" } : Jvm.MethodName)) ∈ jm_Wall := jm_inW (n := 609) (by decide +kernel) rfl
theorem jw_610 : (Jvm.Cond.classLink "EpochLeaves$Log" (39 : Nat) "EpochLeaves$Transaction") ∈ jm_Wall := jm_inW (n := 610) (by decide +kernel) rfl
theorem jw_611 : (Jvm.Cond.methodLink "EpochLeaves$Log" (41 : Nat) ({ cls := "EpochLeaves$Transaction", name := "epochOfStamp", desc := "()I" } : Jvm.MethodName)) ∈ jm_Wall := jm_inW (n := 611) (by decide +kernel) rfl
theorem jw_612 : (Jvm.Cond.methodLink "EpochLeaves$Log" (47 : Nat) ({ cls := "java/util/ArrayList", name := "remove", desc := "(I)Ljava/lang/Object;" } : Jvm.MethodName)) ∈ jm_Wall := jm_inW (n := 612) (by decide +kernel) rfl
theorem jw_613 : (Jvm.Cond.instanceMethod ({ cls := "java/util/ArrayList", name := "remove", desc := "(I)Ljava/lang/Object;" } : Jvm.MethodName)) ∈ jm_Wall := jm_inW (n := 613) (by decide +kernel) rfl
theorem jw_614 : (Jvm.Cond.selects "java/util/ArrayList" ({ cls := "java/util/ArrayList", name := "remove", desc := "(I)Ljava/lang/Object;" } : Jvm.MethodName) ({ cls := "java/util/ArrayList", name := "remove", desc := "(I)Ljava/lang/Object;" } : Jvm.MethodName)) ∈ jm_Wall := jm_inW (n := 614) (by decide +kernel) rfl
set_option maxRecDepth 100000 in
theorem jw_615 : (Jvm.Cond.code ({ cls := "java/util/ArrayList", name := "remove", desc := "(I)Ljava/lang/Object;" } : Jvm.MethodName) prog_17_method_29_code (4 : Nat) (Option.some (Jvm.ClassFile.FieldType.object "java/lang/Object"))) ∈ jm_Wall := jm_inW (n := 615) (rfl) rfl
theorem jw_616 : (Jvm.Cond.methodLink "java/util/ArrayList" (144 : Nat) ({ cls := "java/util/ArrayList", name := "fastRemove", desc := "([Ljava/lang/Object;I)V" } : Jvm.MethodName)) ∈ jm_Wall := jm_inW (n := 616) (by decide +kernel) rfl
theorem jw_618 : (Jvm.Cond.instanceMethod ({ cls := "java/util/ArrayList", name := "fastRemove", desc := "([Ljava/lang/Object;I)V" } : Jvm.MethodName)) ∈ jm_Wall := jm_inW (n := 618) (by decide +kernel) rfl
set_option maxRecDepth 100000 in
theorem jw_619 : (Jvm.Cond.code ({ cls := "java/util/ArrayList", name := "fastRemove", desc := "([Ljava/lang/Object;I)V" } : Jvm.MethodName) prog_17_method_39_code (4 : Nat) (Option.none : Option Jvm.ClassFile.FieldType)) ∈ jm_Wall := jm_inW (n := 619) (rfl) rfl
theorem jw_620 : (Jvm.Cond.methodLink "java/util/ArrayList" (112 : Nat) ({ cls := "java/lang/System", name := "arraycopy", desc := "(Ljava/lang/Object;ILjava/lang/Object;II)V" } : Jvm.MethodName)) ∈ jm_Wall := jm_inW (n := 620) (by decide +kernel) rfl
theorem jw_621 : (Jvm.Cond.methodLink "EpochLeaves" (117 : Nat) ({ cls := "EpochLeaves$Worker", name := "loseRun", desc := "()V" } : Jvm.MethodName)) ∈ jm_Wall := jm_inW (n := 621) (by decide +kernel) rfl
theorem jw_622 : (Jvm.Cond.instanceMethod ({ cls := "EpochLeaves$Worker", name := "loseRun", desc := "()V" } : Jvm.MethodName)) ∈ jm_Wall := jm_inW (n := 622) (by decide +kernel) rfl
theorem jw_623 : (Jvm.Cond.selects "EpochLeaves$Worker" ({ cls := "EpochLeaves$Worker", name := "loseRun", desc := "()V" } : Jvm.MethodName) ({ cls := "EpochLeaves$Worker", name := "loseRun", desc := "()V" } : Jvm.MethodName)) ∈ jm_Wall := jm_inW (n := 623) (by decide +kernel) rfl
set_option maxRecDepth 100000 in
theorem jw_624 : (Jvm.Cond.code ({ cls := "EpochLeaves$Worker", name := "loseRun", desc := "()V" } : Jvm.MethodName) prog_7_method_4_code (1 : Nat) (Option.none : Option Jvm.ClassFile.FieldType)) ∈ jm_Wall := jm_inW (n := 624) (rfl) rfl
theorem jw_625 : (Jvm.Cond.methodLink "EpochLeaves" (120 : Nat) ({ cls := "EpochLeaves$Store", name := "makeEmpty", desc := "()V" } : Jvm.MethodName)) ∈ jm_Wall := jm_inW (n := 625) (by decide +kernel) rfl
theorem jw_626 : (Jvm.Cond.instanceMethod ({ cls := "EpochLeaves$Store", name := "makeEmpty", desc := "()V" } : Jvm.MethodName)) ∈ jm_Wall := jm_inW (n := 626) (by decide +kernel) rfl
theorem jw_627 : (Jvm.Cond.selects "EpochLeaves$Store" ({ cls := "EpochLeaves$Store", name := "makeEmpty", desc := "()V" } : Jvm.MethodName) ({ cls := "EpochLeaves$Store", name := "makeEmpty", desc := "()V" } : Jvm.MethodName)) ∈ jm_Wall := jm_inW (n := 627) (by decide +kernel) rfl
set_option maxRecDepth 100000 in
theorem jw_628 : (Jvm.Cond.code ({ cls := "EpochLeaves$Store", name := "makeEmpty", desc := "()V" } : Jvm.MethodName) prog_5_method_2_code (2 : Nat) (Option.none : Option Jvm.ClassFile.FieldType)) ∈ jm_Wall := jm_inW (n := 628) (rfl) rfl
theorem jw_629 : (Jvm.Cond.methodLink "EpochLeaves$Store" (40 : Nat) ({ cls := "EpochLeaves$Leaf", name := "makeEmpty", desc := "()V" } : Jvm.MethodName)) ∈ jm_Wall := jm_inW (n := 629) (by decide +kernel) rfl
theorem jw_630 : (Jvm.Cond.instanceMethod ({ cls := "EpochLeaves$Leaf", name := "makeEmpty", desc := "()V" } : Jvm.MethodName)) ∈ jm_Wall := jm_inW (n := 630) (by decide +kernel) rfl
theorem jw_631 : (Jvm.Cond.selects "EpochLeaves$Leaf" ({ cls := "EpochLeaves$Leaf", name := "makeEmpty", desc := "()V" } : Jvm.MethodName) ({ cls := "EpochLeaves$Leaf", name := "makeEmpty", desc := "()V" } : Jvm.MethodName)) ∈ jm_Wall := jm_inW (n := 631) (by decide +kernel) rfl
set_option maxRecDepth 100000 in
theorem jw_632 : (Jvm.Cond.code ({ cls := "EpochLeaves$Leaf", name := "makeEmpty", desc := "()V" } : Jvm.MethodName) prog_2_method_2_code (1 : Nat) (Option.none : Option Jvm.ClassFile.FieldType)) ∈ jm_Wall := jm_inW (n := 632) (rfl) rfl
theorem jw_633 : (Jvm.Cond.methodLink "EpochLeaves" (123 : Nat) ({ cls := "EpochLeaves", name := "recover", desc := "(I)V" } : Jvm.MethodName)) ∈ jm_Wall := jm_inW (n := 633) (by decide +kernel) rfl
theorem jw_635 : (Jvm.Cond.instanceMethod ({ cls := "EpochLeaves", name := "recover", desc := "(I)V" } : Jvm.MethodName)) ∈ jm_Wall := jm_inW (n := 635) (by decide +kernel) rfl
set_option maxRecDepth 100000 in
theorem jw_636 : (Jvm.Cond.code ({ cls := "EpochLeaves", name := "recover", desc := "(I)V" } : Jvm.MethodName) prog_1_method_26_code (9 : Nat) (Option.none : Option Jvm.ClassFile.FieldType)) ∈ jm_Wall := jm_inW (n := 636) (rfl) rfl
theorem jw_637 : (Jvm.Cond.methodLink "EpochLeaves" (223 : Nat) ({ cls := "EpochLeaves$Transaction", name := "writes", desc := "(I)Z" } : Jvm.MethodName)) ∈ jm_Wall := jm_inW (n := 637) (by decide +kernel) rfl
theorem jw_638 : (Jvm.Cond.methodLink "EpochLeaves" (226 : Nat) ({ cls := "EpochLeaves$Transaction", name := "puts", desc := "(I)Z" } : Jvm.MethodName)) ∈ jm_Wall := jm_inW (n := 638) (by decide +kernel) rfl
theorem jw_639 : (Jvm.Cond.methodLink "EpochLeaves" (230 : Nat) ({ cls := "EpochLeaves$Store", name := "add", desc := "(I)V" } : Jvm.MethodName)) ∈ jm_Wall := jm_inW (n := 639) (by decide +kernel) rfl
theorem jw_640 : (Jvm.Cond.methodLink "EpochLeaves" (232 : Nat) ({ cls := "EpochLeaves$Store", name := "install", desc := "(IZII)V" } : Jvm.MethodName)) ∈ jm_Wall := jm_inW (n := 640) (by decide +kernel) rfl
theorem jw_641 : (Jvm.Cond.methodLink "EpochLeavesLaw" (51 : Nat) ({ cls := "EpochLeaves", name := "transaction", desc := "(II)I" } : Jvm.MethodName)) ∈ jm_Wall := jm_inW (n := 641) (by decide +kernel) rfl
theorem jw_642 : (Jvm.Cond.instanceMethod ({ cls := "EpochLeaves", name := "transaction", desc := "(II)I" } : Jvm.MethodName)) ∈ jm_Wall := jm_inW (n := 642) (by decide +kernel) rfl
theorem jw_643 : (Jvm.Cond.selects "EpochLeaves" ({ cls := "EpochLeaves", name := "transaction", desc := "(II)I" } : Jvm.MethodName) ({ cls := "EpochLeaves", name := "transaction", desc := "(II)I" } : Jvm.MethodName)) ∈ jm_Wall := jm_inW (n := 643) (by decide +kernel) rfl
set_option maxRecDepth 100000 in
theorem jw_644 : (Jvm.Cond.code ({ cls := "EpochLeaves", name := "transaction", desc := "(II)I" } : Jvm.MethodName) prog_1_method_10_code (4 : Nat) (Option.some Jvm.ClassFile.FieldType.int)) ∈ jm_Wall := jm_inW (n := 644) (rfl) rfl
theorem jw_645 : (Jvm.Cond.methodLink "EpochLeaves" (126 : Nat) ({ cls := "EpochLeaves", name := "isTransaction", desc := "(I)Z" } : Jvm.MethodName)) ∈ jm_Wall := jm_inW (n := 645) (by decide +kernel) rfl
theorem jw_647 : (Jvm.Cond.instanceMethod ({ cls := "EpochLeaves", name := "isTransaction", desc := "(I)Z" } : Jvm.MethodName)) ∈ jm_Wall := jm_inW (n := 647) (by decide +kernel) rfl
set_option maxRecDepth 100000 in
theorem jw_648 : (Jvm.Cond.code ({ cls := "EpochLeaves", name := "isTransaction", desc := "(I)Z" } : Jvm.MethodName) prog_1_method_21_code (2 : Nat) (Option.some Jvm.ClassFile.FieldType.boolean)) ∈ jm_Wall := jm_inW (n := 648) (rfl) rfl
theorem jw_649 : (Jvm.Cond.methodLink "EpochLeavesLaw" (55 : Nat) ({ cls := "EpochLeaves", name := "result", desc := "(I)I" } : Jvm.MethodName)) ∈ jm_Wall := jm_inW (n := 649) (by decide +kernel) rfl
theorem jw_650 : (Jvm.Cond.instanceMethod ({ cls := "EpochLeaves", name := "result", desc := "(I)I" } : Jvm.MethodName)) ∈ jm_Wall := jm_inW (n := 650) (by decide +kernel) rfl
theorem jw_651 : (Jvm.Cond.selects "EpochLeaves" ({ cls := "EpochLeaves", name := "result", desc := "(I)I" } : Jvm.MethodName) ({ cls := "EpochLeaves", name := "result", desc := "(I)I" } : Jvm.MethodName)) ∈ jm_Wall := jm_inW (n := 651) (by decide +kernel) rfl
set_option maxRecDepth 100000 in
theorem jw_652 : (Jvm.Cond.code ({ cls := "EpochLeaves", name := "result", desc := "(I)I" } : Jvm.MethodName) prog_1_method_11_code (2 : Nat) (Option.some Jvm.ClassFile.FieldType.int)) ∈ jm_Wall := jm_inW (n := 652) (rfl) rfl
theorem jw_653 : (Jvm.Cond.methodLink "EpochLeavesLaw" (59 : Nat) ({ cls := "EpochLeaves", name := "entry", desc := "(II)I" } : Jvm.MethodName)) ∈ jm_Wall := jm_inW (n := 653) (by decide +kernel) rfl
theorem jw_654 : (Jvm.Cond.instanceMethod ({ cls := "EpochLeaves", name := "entry", desc := "(II)I" } : Jvm.MethodName)) ∈ jm_Wall := jm_inW (n := 654) (by decide +kernel) rfl
theorem jw_655 : (Jvm.Cond.selects "EpochLeaves" ({ cls := "EpochLeaves", name := "entry", desc := "(II)I" } : Jvm.MethodName) ({ cls := "EpochLeaves", name := "entry", desc := "(II)I" } : Jvm.MethodName)) ∈ jm_Wall := jm_inW (n := 655) (by decide +kernel) rfl
set_option maxRecDepth 100000 in
theorem jw_656 : (Jvm.Cond.code ({ cls := "EpochLeaves", name := "entry", desc := "(II)I" } : Jvm.MethodName) prog_1_method_12_code (3 : Nat) (Option.some Jvm.ClassFile.FieldType.int)) ∈ jm_Wall := jm_inW (n := 656) (rfl) rfl
theorem jw_657 : (Jvm.Cond.methodLink "EpochLeaves" (142 : Nat) ({ cls := "EpochLeaves", name := "isKey", desc := "(I)Z" } : Jvm.MethodName)) ∈ jm_Wall := jm_inW (n := 657) (by decide +kernel) rfl
theorem jw_658 : (Jvm.Cond.methodLink "EpochLeavesLaw" (63 : Nat) ({ cls := "EpochLeaves", name := "leaf", desc := "(II)I" } : Jvm.MethodName)) ∈ jm_Wall := jm_inW (n := 658) (by decide +kernel) rfl
theorem jw_659 : (Jvm.Cond.instanceMethod ({ cls := "EpochLeaves", name := "leaf", desc := "(II)I" } : Jvm.MethodName)) ∈ jm_Wall := jm_inW (n := 659) (by decide +kernel) rfl
theorem jw_660 : (Jvm.Cond.selects "EpochLeaves" ({ cls := "EpochLeaves", name := "leaf", desc := "(II)I" } : Jvm.MethodName) ({ cls := "EpochLeaves", name := "leaf", desc := "(II)I" } : Jvm.MethodName)) ∈ jm_Wall := jm_inW (n := 660) (by decide +kernel) rfl
set_option maxRecDepth 100000 in
theorem jw_661 : (Jvm.Cond.code ({ cls := "EpochLeaves", name := "leaf", desc := "(II)I" } : Jvm.MethodName) prog_1_method_13_code (4 : Nat) (Option.some Jvm.ClassFile.FieldType.int)) ∈ jm_Wall := jm_inW (n := 661) (rfl) rfl
theorem jw_662 : (Jvm.Cond.methodLink "EpochLeaves" (161 : Nat) ({ cls := "EpochLeaves$Store", name := "leafAt", desc := "(I)LEpochLeaves$Leaf;" } : Jvm.MethodName)) ∈ jm_Wall := jm_inW (n := 662) (by decide +kernel) rfl
theorem jw_663 : (Jvm.Cond.methodLink "EpochLeavesLaw" (67 : Nat) ({ cls := "EpochLeaves", name := "worker", desc := "(II)I" } : Jvm.MethodName)) ∈ jm_Wall := jm_inW (n := 663) (by decide +kernel) rfl
theorem jw_664 : (Jvm.Cond.instanceMethod ({ cls := "EpochLeaves", name := "worker", desc := "(II)I" } : Jvm.MethodName)) ∈ jm_Wall := jm_inW (n := 664) (by decide +kernel) rfl
theorem jw_665 : (Jvm.Cond.selects "EpochLeaves" ({ cls := "EpochLeaves", name := "worker", desc := "(II)I" } : Jvm.MethodName) ({ cls := "EpochLeaves", name := "worker", desc := "(II)I" } : Jvm.MethodName)) ∈ jm_Wall := jm_inW (n := 665) (by decide +kernel) rfl
set_option maxRecDepth 100000 in
theorem jw_666 : (Jvm.Cond.code ({ cls := "EpochLeaves", name := "worker", desc := "(II)I" } : Jvm.MethodName) prog_1_method_14_code (4 : Nat) (Option.some Jvm.ClassFile.FieldType.int)) ∈ jm_Wall := jm_inW (n := 666) (rfl) rfl
theorem jw_667 : (Jvm.Cond.methodLink "EpochLeavesLaw" (71 : Nat) ({ cls := "EpochLeaves", name := "register", desc := "(II)I" } : Jvm.MethodName)) ∈ jm_Wall := jm_inW (n := 667) (by decide +kernel) rfl
theorem jw_668 : (Jvm.Cond.instanceMethod ({ cls := "EpochLeaves", name := "register", desc := "(II)I" } : Jvm.MethodName)) ∈ jm_Wall := jm_inW (n := 668) (by decide +kernel) rfl
theorem jw_669 : (Jvm.Cond.selects "EpochLeaves" ({ cls := "EpochLeaves", name := "register", desc := "(II)I" } : Jvm.MethodName) ({ cls := "EpochLeaves", name := "register", desc := "(II)I" } : Jvm.MethodName)) ∈ jm_Wall := jm_inW (n := 669) (by decide +kernel) rfl
set_option maxRecDepth 100000 in
theorem jw_670 : (Jvm.Cond.code ({ cls := "EpochLeaves", name := "register", desc := "(II)I" } : Jvm.MethodName) prog_1_method_15_code (3 : Nat) (Option.some Jvm.ClassFile.FieldType.int)) ∈ jm_Wall := jm_inW (n := 670) (rfl) rfl
theorem jw_671 : (Jvm.Cond.methodLink "EpochLeavesLaw" (75 : Nat) ({ cls := "EpochLeaves", name := "log", desc := "(II)I" } : Jvm.MethodName)) ∈ jm_Wall := jm_inW (n := 671) (by decide +kernel) rfl
theorem jw_672 : (Jvm.Cond.instanceMethod ({ cls := "EpochLeaves", name := "log", desc := "(II)I" } : Jvm.MethodName)) ∈ jm_Wall := jm_inW (n := 672) (by decide +kernel) rfl
theorem jw_673 : (Jvm.Cond.selects "EpochLeaves" ({ cls := "EpochLeaves", name := "log", desc := "(II)I" } : Jvm.MethodName) ({ cls := "EpochLeaves", name := "log", desc := "(II)I" } : Jvm.MethodName)) ∈ jm_Wall := jm_inW (n := 673) (by decide +kernel) rfl
set_option maxRecDepth 100000 in
theorem jw_674 : (Jvm.Cond.code ({ cls := "EpochLeaves", name := "log", desc := "(II)I" } : Jvm.MethodName) prog_1_method_16_code (3 : Nat) (Option.some Jvm.ClassFile.FieldType.int)) ∈ jm_Wall := jm_inW (n := 674) (rfl) rfl
theorem jw_675 : (Jvm.Cond.methodLink "EpochLeavesLaw" (79 : Nat) ({ cls := "EpochLeaves", name := "epoch", desc := "(I)I" } : Jvm.MethodName)) ∈ jm_Wall := jm_inW (n := 675) (by decide +kernel) rfl
theorem jw_676 : (Jvm.Cond.instanceMethod ({ cls := "EpochLeaves", name := "epoch", desc := "(I)I" } : Jvm.MethodName)) ∈ jm_Wall := jm_inW (n := 676) (by decide +kernel) rfl
theorem jw_677 : (Jvm.Cond.selects "EpochLeaves" ({ cls := "EpochLeaves", name := "epoch", desc := "(I)I" } : Jvm.MethodName) ({ cls := "EpochLeaves", name := "epoch", desc := "(I)I" } : Jvm.MethodName)) ∈ jm_Wall := jm_inW (n := 677) (by decide +kernel) rfl
set_option maxRecDepth 100000 in
theorem jw_678 : (Jvm.Cond.code ({ cls := "EpochLeaves", name := "epoch", desc := "(I)I" } : Jvm.MethodName) prog_1_method_17_code (2 : Nat) (Option.some Jvm.ClassFile.FieldType.int)) ∈ jm_Wall := jm_inW (n := 678) (rfl) rfl
theorem jw_679 : (Jvm.Cond.classLink "EpochLeavesLaw" (10 : Nat) "EpochLeavesModel") ∈ jm_Wall := jm_inW (n := 679) (by decide +kernel) rfl
theorem jw_680 : (Jvm.Cond.instantiable "EpochLeavesModel" (43 : Nat)) ∈ jm_Wall := jm_inW (n := 680) (by decide +kernel) rfl
theorem jw_681 : (Jvm.Cond.methodLink "EpochLeavesLaw" (12 : Nat) ({ cls := "EpochLeavesModel", name := "<init>", desc := "()V" } : Jvm.MethodName)) ∈ jm_Wall := jm_inW (n := 681) (by decide +kernel) rfl
theorem jw_682 : (Jvm.Cond.instanceMethod ({ cls := "EpochLeavesModel", name := "<init>", desc := "()V" } : Jvm.MethodName)) ∈ jm_Wall := jm_inW (n := 682) (by decide +kernel) rfl
set_option maxRecDepth 100000 in
theorem jw_683 : (Jvm.Cond.code ({ cls := "EpochLeavesModel", name := "<init>", desc := "()V" } : Jvm.MethodName) prog_9_method_1_code (1 : Nat) (Option.none : Option Jvm.ClassFile.FieldType)) ∈ jm_Wall := jm_inW (n := 683) (rfl) rfl
theorem jw_684 : (Jvm.Cond.methodLink "EpochLeavesModel" (1 : Nat) ({ cls := "java/lang/Object", name := "<init>", desc := "()V" } : Jvm.MethodName)) ∈ jm_Wall := jm_inW (n := 684) (by decide +kernel) rfl
theorem jw_685 : (Jvm.Cond.fieldLink "EpochLeavesModel" (7 : Nat) "EpochLeavesModel" "lengths" "[I") ∈ jm_Wall := jm_inW (n := 685) (by decide +kernel) rfl
theorem jw_686 : (Jvm.Cond.fieldLink "EpochLeavesModel" (13 : Nat) "EpochLeavesModel" "ops" "[I") ∈ jm_Wall := jm_inW (n := 686) (by decide +kernel) rfl
theorem jw_687 : (Jvm.Cond.fieldLink "EpochLeavesModel" (16 : Nat) "EpochLeavesModel" "as" "[I") ∈ jm_Wall := jm_inW (n := 687) (by decide +kernel) rfl
theorem jw_688 : (Jvm.Cond.fieldLink "EpochLeavesModel" (19 : Nat) "EpochLeavesModel" "bs" "[I") ∈ jm_Wall := jm_inW (n := 688) (by decide +kernel) rfl
theorem jw_689 : (Jvm.Cond.fieldLink "EpochLeavesModel" (22 : Nat) "EpochLeavesModel" "cs" "[I") ∈ jm_Wall := jm_inW (n := 689) (by decide +kernel) rfl
theorem jw_690 : (Jvm.Cond.fieldLink "EpochLeavesModel" (25 : Nat) "EpochLeavesModel" "there" "[Z") ∈ jm_Wall := jm_inW (n := 690) (by decide +kernel) rfl
theorem jw_691 : (Jvm.Cond.fieldLink "EpochLeavesModel" (29 : Nat) "EpochLeavesModel" "present" "[Z") ∈ jm_Wall := jm_inW (n := 691) (by decide +kernel) rfl
theorem jw_692 : (Jvm.Cond.fieldLink "EpochLeavesModel" (32 : Nat) "EpochLeavesModel" "values" "[I") ∈ jm_Wall := jm_inW (n := 692) (by decide +kernel) rfl
theorem jw_693 : (Jvm.Cond.fieldLink "EpochLeavesModel" (35 : Nat) "EpochLeavesModel" "stamps" "[I") ∈ jm_Wall := jm_inW (n := 693) (by decide +kernel) rfl
theorem jw_694 : (Jvm.Cond.fieldLink "EpochLeavesModel" (38 : Nat) "EpochLeavesModel" "lockedBy" "[I") ∈ jm_Wall := jm_inW (n := 694) (by decide +kernel) rfl
theorem jw_695 : (Jvm.Cond.fieldLink "EpochLeavesModel" (41 : Nat) "EpochLeavesModel" "home" "[I") ∈ jm_Wall := jm_inW (n := 695) (by decide +kernel) rfl
theorem jw_696 : (Jvm.Cond.fieldLink "EpochLeavesModel" (44 : Nat) "EpochLeavesModel" "leaves" "I") ∈ jm_Wall := jm_inW (n := 696) (by decide +kernel) rfl
theorem jw_697 : (Jvm.Cond.fieldLink "EpochLeavesModel" (48 : Nat) "EpochLeavesModel" "lastName" "I") ∈ jm_Wall := jm_inW (n := 697) (by decide +kernel) rfl
theorem jw_698 : (Jvm.Cond.fieldLink "EpochLeavesModel" (51 : Nat) "EpochLeavesModel" "nameAt" "[I") ∈ jm_Wall := jm_inW (n := 698) (by decide +kernel) rfl
theorem jw_699 : (Jvm.Cond.fieldLink "EpochLeavesModel" (54 : Nat) "EpochLeavesModel" "versions" "[I") ∈ jm_Wall := jm_inW (n := 699) (by decide +kernel) rfl
theorem jw_700 : (Jvm.Cond.fieldLink "EpochLeavesModel" (57 : Nat) "EpochLeavesModel" "stateOf" "[I") ∈ jm_Wall := jm_inW (n := 700) (by decide +kernel) rfl
theorem jw_701 : (Jvm.Cond.fieldLink "EpochLeavesModel" (60 : Nat) "EpochLeavesModel" "current" "[I") ∈ jm_Wall := jm_inW (n := 701) (by decide +kernel) rfl
theorem jw_702 : (Jvm.Cond.fieldLink "EpochLeavesModel" (63 : Nat) "EpochLeavesModel" "procedureOf" "[I") ∈ jm_Wall := jm_inW (n := 702) (by decide +kernel) rfl
theorem jw_703 : (Jvm.Cond.fieldLink "EpochLeavesModel" (66 : Nat) "EpochLeavesModel" "place" "[I") ∈ jm_Wall := jm_inW (n := 703) (by decide +kernel) rfl
theorem jw_704 : (Jvm.Cond.fieldLink "EpochLeavesModel" (69 : Nat) "EpochLeavesModel" "done" "[I") ∈ jm_Wall := jm_inW (n := 704) (by decide +kernel) rfl
theorem jw_705 : (Jvm.Cond.fieldLink "EpochLeavesModel" (72 : Nat) "EpochLeavesModel" "registers" "[I") ∈ jm_Wall := jm_inW (n := 705) (by decide +kernel) rfl
theorem jw_706 : (Jvm.Cond.fieldLink "EpochLeavesModel" (75 : Nat) "EpochLeavesModel" "writes" "[Z") ∈ jm_Wall := jm_inW (n := 706) (by decide +kernel) rfl
theorem jw_707 : (Jvm.Cond.fieldLink "EpochLeavesModel" (78 : Nat) "EpochLeavesModel" "drops" "[Z") ∈ jm_Wall := jm_inW (n := 707) (by decide +kernel) rfl
theorem jw_708 : (Jvm.Cond.fieldLink "EpochLeavesModel" (81 : Nat) "EpochLeavesModel" "puts" "[I") ∈ jm_Wall := jm_inW (n := 708) (by decide +kernel) rfl
theorem jw_709 : (Jvm.Cond.fieldLink "EpochLeavesModel" (84 : Nat) "EpochLeavesModel" "locks" "[Z") ∈ jm_Wall := jm_inW (n := 709) (by decide +kernel) rfl
theorem jw_710 : (Jvm.Cond.fieldLink "EpochLeavesModel" (87 : Nat) "EpochLeavesModel" "installed" "[Z") ∈ jm_Wall := jm_inW (n := 710) (by decide +kernel) rfl
theorem jw_711 : (Jvm.Cond.fieldLink "EpochLeavesModel" (90 : Nat) "EpochLeavesModel" "reads" "[I") ∈ jm_Wall := jm_inW (n := 711) (by decide +kernel) rfl
theorem jw_712 : (Jvm.Cond.fieldLink "EpochLeavesModel" (93 : Nat) "EpochLeavesModel" "nodes" "[I") ∈ jm_Wall := jm_inW (n := 712) (by decide +kernel) rfl
theorem jw_713 : (Jvm.Cond.fieldLink "EpochLeavesModel" (96 : Nat) "EpochLeavesModel" "given" "[I") ∈ jm_Wall := jm_inW (n := 713) (by decide +kernel) rfl
theorem jw_714 : (Jvm.Cond.fieldLink "EpochLeavesModel" (99 : Nat) "EpochLeavesModel" "fence" "[I") ∈ jm_Wall := jm_inW (n := 714) (by decide +kernel) rfl
theorem jw_715 : (Jvm.Cond.fieldLink "EpochLeavesModel" (102 : Nat) "EpochLeavesModel" "ownStamp" "[I") ∈ jm_Wall := jm_inW (n := 715) (by decide +kernel) rfl
theorem jw_716 : (Jvm.Cond.fieldLink "EpochLeavesModel" (105 : Nat) "EpochLeavesModel" "latest" "[I") ∈ jm_Wall := jm_inW (n := 716) (by decide +kernel) rfl
theorem jw_717 : (Jvm.Cond.fieldLink "EpochLeavesModel" (108 : Nat) "EpochLeavesModel" "marks" "[I") ∈ jm_Wall := jm_inW (n := 717) (by decide +kernel) rfl
theorem jw_718 : (Jvm.Cond.fieldLink "EpochLeavesModel" (111 : Nat) "EpochLeavesModel" "epochNow" "I") ∈ jm_Wall := jm_inW (n := 718) (by decide +kernel) rfl
theorem jw_719 : (Jvm.Cond.fieldLink "EpochLeavesModel" (162 : Nat) "EpochLeavesModel" "transactions" "I") ∈ jm_Wall := jm_inW (n := 719) (by decide +kernel) rfl
theorem jw_720 : (Jvm.Cond.fieldLink "EpochLeavesModel" (114 : Nat) "EpochLeavesModel" "workerOf" "[I") ∈ jm_Wall := jm_inW (n := 720) (by decide +kernel) rfl
theorem jw_721 : (Jvm.Cond.fieldLink "EpochLeavesModel" (117 : Nat) "EpochLeavesModel" "fate" "[I") ∈ jm_Wall := jm_inW (n := 721) (by decide +kernel) rfl
theorem jw_722 : (Jvm.Cond.fieldLink "EpochLeavesModel" (120 : Nat) "EpochLeavesModel" "stampOf" "[I") ∈ jm_Wall := jm_inW (n := 722) (by decide +kernel) rfl
theorem jw_723 : (Jvm.Cond.fieldLink "EpochLeavesModel" (123 : Nat) "EpochLeavesModel" "resultOf" "[I") ∈ jm_Wall := jm_inW (n := 723) (by decide +kernel) rfl
theorem jw_724 : (Jvm.Cond.fieldLink "EpochLeavesModel" (126 : Nat) "EpochLeavesModel" "durable" "[Z") ∈ jm_Wall := jm_inW (n := 724) (by decide +kernel) rfl
theorem jw_725 : (Jvm.Cond.fieldLink "EpochLeavesModel" (129 : Nat) "EpochLeavesModel" "wrote" "[Z") ∈ jm_Wall := jm_inW (n := 725) (by decide +kernel) rfl
theorem jw_726 : (Jvm.Cond.fieldLink "EpochLeavesModel" (132 : Nat) "EpochLeavesModel" "dropped" "[Z") ∈ jm_Wall := jm_inW (n := 726) (by decide +kernel) rfl
theorem jw_727 : (Jvm.Cond.fieldLink "EpochLeavesModel" (135 : Nat) "EpochLeavesModel" "logged" "[I") ∈ jm_Wall := jm_inW (n := 727) (by decide +kernel) rfl
theorem jw_728 : (Jvm.Cond.lays "EpochLeavesModel" "EpochLeavesModel" "lengths" "[I") ∈ jm_Wall := jm_inW (n := 728) (by decide +kernel) rfl
theorem jw_730 : (Jvm.Cond.lays "EpochLeavesModel" "EpochLeavesModel" "ops" "[I") ∈ jm_Wall := jm_inW (n := 730) (by decide +kernel) rfl
theorem jw_732 : (Jvm.Cond.lays "EpochLeavesModel" "EpochLeavesModel" "as" "[I") ∈ jm_Wall := jm_inW (n := 732) (by decide +kernel) rfl
theorem jw_734 : (Jvm.Cond.lays "EpochLeavesModel" "EpochLeavesModel" "bs" "[I") ∈ jm_Wall := jm_inW (n := 734) (by decide +kernel) rfl
theorem jw_736 : (Jvm.Cond.lays "EpochLeavesModel" "EpochLeavesModel" "cs" "[I") ∈ jm_Wall := jm_inW (n := 736) (by decide +kernel) rfl
theorem jw_738 : (Jvm.Cond.lays "EpochLeavesModel" "EpochLeavesModel" "there" "[Z") ∈ jm_Wall := jm_inW (n := 738) (by decide +kernel) rfl
theorem jw_740 : (Jvm.Cond.lays "EpochLeavesModel" "EpochLeavesModel" "present" "[Z") ∈ jm_Wall := jm_inW (n := 740) (by decide +kernel) rfl
theorem jw_742 : (Jvm.Cond.lays "EpochLeavesModel" "EpochLeavesModel" "values" "[I") ∈ jm_Wall := jm_inW (n := 742) (by decide +kernel) rfl
theorem jw_744 : (Jvm.Cond.lays "EpochLeavesModel" "EpochLeavesModel" "stamps" "[I") ∈ jm_Wall := jm_inW (n := 744) (by decide +kernel) rfl
theorem jw_746 : (Jvm.Cond.lays "EpochLeavesModel" "EpochLeavesModel" "lockedBy" "[I") ∈ jm_Wall := jm_inW (n := 746) (by decide +kernel) rfl
theorem jw_748 : (Jvm.Cond.lays "EpochLeavesModel" "EpochLeavesModel" "home" "[I") ∈ jm_Wall := jm_inW (n := 748) (by decide +kernel) rfl
theorem jw_750 : (Jvm.Cond.lays "EpochLeavesModel" "EpochLeavesModel" "leaves" "I") ∈ jm_Wall := jm_inW (n := 750) (by decide +kernel) rfl
theorem jw_752 : (Jvm.Cond.lays "EpochLeavesModel" "EpochLeavesModel" "lastName" "I") ∈ jm_Wall := jm_inW (n := 752) (by decide +kernel) rfl
theorem jw_754 : (Jvm.Cond.lays "EpochLeavesModel" "EpochLeavesModel" "nameAt" "[I") ∈ jm_Wall := jm_inW (n := 754) (by decide +kernel) rfl
theorem jw_756 : (Jvm.Cond.lays "EpochLeavesModel" "EpochLeavesModel" "versions" "[I") ∈ jm_Wall := jm_inW (n := 756) (by decide +kernel) rfl
theorem jw_758 : (Jvm.Cond.lays "EpochLeavesModel" "EpochLeavesModel" "stateOf" "[I") ∈ jm_Wall := jm_inW (n := 758) (by decide +kernel) rfl
theorem jw_760 : (Jvm.Cond.lays "EpochLeavesModel" "EpochLeavesModel" "current" "[I") ∈ jm_Wall := jm_inW (n := 760) (by decide +kernel) rfl
theorem jw_762 : (Jvm.Cond.lays "EpochLeavesModel" "EpochLeavesModel" "procedureOf" "[I") ∈ jm_Wall := jm_inW (n := 762) (by decide +kernel) rfl
theorem jw_764 : (Jvm.Cond.lays "EpochLeavesModel" "EpochLeavesModel" "place" "[I") ∈ jm_Wall := jm_inW (n := 764) (by decide +kernel) rfl
theorem jw_766 : (Jvm.Cond.lays "EpochLeavesModel" "EpochLeavesModel" "done" "[I") ∈ jm_Wall := jm_inW (n := 766) (by decide +kernel) rfl
theorem jw_768 : (Jvm.Cond.lays "EpochLeavesModel" "EpochLeavesModel" "registers" "[I") ∈ jm_Wall := jm_inW (n := 768) (by decide +kernel) rfl
theorem jw_770 : (Jvm.Cond.lays "EpochLeavesModel" "EpochLeavesModel" "writes" "[Z") ∈ jm_Wall := jm_inW (n := 770) (by decide +kernel) rfl
theorem jw_772 : (Jvm.Cond.lays "EpochLeavesModel" "EpochLeavesModel" "drops" "[Z") ∈ jm_Wall := jm_inW (n := 772) (by decide +kernel) rfl
theorem jw_774 : (Jvm.Cond.lays "EpochLeavesModel" "EpochLeavesModel" "puts" "[I") ∈ jm_Wall := jm_inW (n := 774) (by decide +kernel) rfl
theorem jw_776 : (Jvm.Cond.lays "EpochLeavesModel" "EpochLeavesModel" "locks" "[Z") ∈ jm_Wall := jm_inW (n := 776) (by decide +kernel) rfl
theorem jw_778 : (Jvm.Cond.lays "EpochLeavesModel" "EpochLeavesModel" "installed" "[Z") ∈ jm_Wall := jm_inW (n := 778) (by decide +kernel) rfl
theorem jw_780 : (Jvm.Cond.lays "EpochLeavesModel" "EpochLeavesModel" "reads" "[I") ∈ jm_Wall := jm_inW (n := 780) (by decide +kernel) rfl
theorem jw_782 : (Jvm.Cond.lays "EpochLeavesModel" "EpochLeavesModel" "nodes" "[I") ∈ jm_Wall := jm_inW (n := 782) (by decide +kernel) rfl
theorem jw_784 : (Jvm.Cond.lays "EpochLeavesModel" "EpochLeavesModel" "given" "[I") ∈ jm_Wall := jm_inW (n := 784) (by decide +kernel) rfl
theorem jw_786 : (Jvm.Cond.lays "EpochLeavesModel" "EpochLeavesModel" "fence" "[I") ∈ jm_Wall := jm_inW (n := 786) (by decide +kernel) rfl
theorem jw_788 : (Jvm.Cond.lays "EpochLeavesModel" "EpochLeavesModel" "ownStamp" "[I") ∈ jm_Wall := jm_inW (n := 788) (by decide +kernel) rfl
theorem jw_790 : (Jvm.Cond.lays "EpochLeavesModel" "EpochLeavesModel" "latest" "[I") ∈ jm_Wall := jm_inW (n := 790) (by decide +kernel) rfl
theorem jw_792 : (Jvm.Cond.lays "EpochLeavesModel" "EpochLeavesModel" "marks" "[I") ∈ jm_Wall := jm_inW (n := 792) (by decide +kernel) rfl
theorem jw_794 : (Jvm.Cond.lays "EpochLeavesModel" "EpochLeavesModel" "epochNow" "I") ∈ jm_Wall := jm_inW (n := 794) (by decide +kernel) rfl
theorem jw_796 : (Jvm.Cond.lays "EpochLeavesModel" "EpochLeavesModel" "transactions" "I") ∈ jm_Wall := jm_inW (n := 796) (by decide +kernel) rfl
theorem jw_798 : (Jvm.Cond.lays "EpochLeavesModel" "EpochLeavesModel" "workerOf" "[I") ∈ jm_Wall := jm_inW (n := 798) (by decide +kernel) rfl
theorem jw_800 : (Jvm.Cond.lays "EpochLeavesModel" "EpochLeavesModel" "fate" "[I") ∈ jm_Wall := jm_inW (n := 800) (by decide +kernel) rfl
theorem jw_802 : (Jvm.Cond.lays "EpochLeavesModel" "EpochLeavesModel" "stampOf" "[I") ∈ jm_Wall := jm_inW (n := 802) (by decide +kernel) rfl
theorem jw_804 : (Jvm.Cond.lays "EpochLeavesModel" "EpochLeavesModel" "resultOf" "[I") ∈ jm_Wall := jm_inW (n := 804) (by decide +kernel) rfl
theorem jw_806 : (Jvm.Cond.lays "EpochLeavesModel" "EpochLeavesModel" "durable" "[Z") ∈ jm_Wall := jm_inW (n := 806) (by decide +kernel) rfl
theorem jw_808 : (Jvm.Cond.lays "EpochLeavesModel" "EpochLeavesModel" "wrote" "[Z") ∈ jm_Wall := jm_inW (n := 808) (by decide +kernel) rfl
theorem jw_810 : (Jvm.Cond.lays "EpochLeavesModel" "EpochLeavesModel" "dropped" "[Z") ∈ jm_Wall := jm_inW (n := 810) (by decide +kernel) rfl
theorem jw_812 : (Jvm.Cond.lays "EpochLeavesModel" "EpochLeavesModel" "logged" "[I") ∈ jm_Wall := jm_inW (n := 812) (by decide +kernel) rfl
theorem jw_815 : (Jvm.Cond.arrayClass Jvm.ClassFile.FieldType.boolean) ∈ jm_Wall := jm_inW (n := 815) (by decide +kernel) rfl
theorem jw_816 : (Jvm.Cond.methodLink "EpochLeavesLaw" (17 : Nat) ({ cls := "EpochLeavesModel", name := "code", desc := "(IIIII)I" } : Jvm.MethodName)) ∈ jm_Wall := jm_inW (n := 816) (by decide +kernel) rfl
theorem jw_817 : (Jvm.Cond.instanceMethod ({ cls := "EpochLeavesModel", name := "code", desc := "(IIIII)I" } : Jvm.MethodName)) ∈ jm_Wall := jm_inW (n := 817) (by decide +kernel) rfl
theorem jw_818 : (Jvm.Cond.selects "EpochLeavesModel" ({ cls := "EpochLeavesModel", name := "code", desc := "(IIIII)I" } : Jvm.MethodName) ({ cls := "EpochLeavesModel", name := "code", desc := "(IIIII)I" } : Jvm.MethodName)) ∈ jm_Wall := jm_inW (n := 818) (by decide +kernel) rfl
set_option maxRecDepth 100000 in
theorem jw_819 : (Jvm.Cond.code ({ cls := "EpochLeavesModel", name := "code", desc := "(IIIII)I" } : Jvm.MethodName) prog_9_method_7_code (7 : Nat) (Option.some Jvm.ClassFile.FieldType.int)) ∈ jm_Wall := jm_inW (n := 819) (rfl) rfl
theorem jw_820 : (Jvm.Cond.methodLink "EpochLeavesModel" (142 : Nat) ({ cls := "EpochLeavesModel", name := "isProcedure", desc := "(I)Z" } : Jvm.MethodName)) ∈ jm_Wall := jm_inW (n := 820) (by decide +kernel) rfl
theorem jw_821 : (Jvm.Cond.static ({ cls := "EpochLeavesModel", name := "isProcedure", desc := "(I)Z" } : Jvm.MethodName)) ∈ jm_Wall := jm_inW (n := 821) (by decide +kernel) rfl
set_option maxRecDepth 100000 in
theorem jw_822 : (Jvm.Cond.code ({ cls := "EpochLeavesModel", name := "isProcedure", desc := "(I)Z" } : Jvm.MethodName) prog_9_method_3_code (1 : Nat) (Option.some Jvm.ClassFile.FieldType.boolean)) ∈ jm_Wall := jm_inW (n := 822) (rfl) rfl
theorem jw_823 : (Jvm.Cond.methodLink "EpochLeavesModel" (145 : Nat) ({ cls := "EpochLeavesModel", name := "fits", desc := "(IIII)Z" } : Jvm.MethodName)) ∈ jm_Wall := jm_inW (n := 823) (by decide +kernel) rfl
theorem jw_824 : (Jvm.Cond.static ({ cls := "EpochLeavesModel", name := "fits", desc := "(IIII)Z" } : Jvm.MethodName)) ∈ jm_Wall := jm_inW (n := 824) (by decide +kernel) rfl
set_option maxRecDepth 100000 in
theorem jw_825 : (Jvm.Cond.code ({ cls := "EpochLeavesModel", name := "fits", desc := "(IIII)Z" } : Jvm.MethodName) prog_9_method_6_code (4 : Nat) (Option.some Jvm.ClassFile.FieldType.boolean)) ∈ jm_Wall := jm_inW (n := 825) (rfl) rfl
theorem jw_826 : (Jvm.Cond.methodLink "EpochLeavesModel" (138 : Nat) ({ cls := "EpochLeavesModel", name := "isRegister", desc := "(I)Z" } : Jvm.MethodName)) ∈ jm_Wall := jm_inW (n := 826) (by decide +kernel) rfl
theorem jw_827 : (Jvm.Cond.static ({ cls := "EpochLeavesModel", name := "isRegister", desc := "(I)Z" } : Jvm.MethodName)) ∈ jm_Wall := jm_inW (n := 827) (by decide +kernel) rfl
set_option maxRecDepth 100000 in
theorem jw_828 : (Jvm.Cond.code ({ cls := "EpochLeavesModel", name := "isRegister", desc := "(I)Z" } : Jvm.MethodName) prog_9_method_4_code (1 : Nat) (Option.some Jvm.ClassFile.FieldType.boolean)) ∈ jm_Wall := jm_inW (n := 828) (rfl) rfl
theorem jw_829 : (Jvm.Cond.methodLink "EpochLeavesLaw" (22 : Nat) ({ cls := "EpochLeavesModel", name := "clear", desc := "(I)Z" } : Jvm.MethodName)) ∈ jm_Wall := jm_inW (n := 829) (by decide +kernel) rfl
theorem jw_830 : (Jvm.Cond.instanceMethod ({ cls := "EpochLeavesModel", name := "clear", desc := "(I)Z" } : Jvm.MethodName)) ∈ jm_Wall := jm_inW (n := 830) (by decide +kernel) rfl
theorem jw_831 : (Jvm.Cond.selects "EpochLeavesModel" ({ cls := "EpochLeavesModel", name := "clear", desc := "(I)Z" } : Jvm.MethodName) ({ cls := "EpochLeavesModel", name := "clear", desc := "(I)Z" } : Jvm.MethodName)) ∈ jm_Wall := jm_inW (n := 831) (by decide +kernel) rfl
set_option maxRecDepth 100000 in
theorem jw_832 : (Jvm.Cond.code ({ cls := "EpochLeavesModel", name := "clear", desc := "(I)Z" } : Jvm.MethodName) prog_9_method_8_code (3 : Nat) (Option.some Jvm.ClassFile.FieldType.boolean)) ∈ jm_Wall := jm_inW (n := 832) (rfl) rfl
theorem jw_833 : (Jvm.Cond.methodLink "EpochLeavesLaw" (27 : Nat) ({ cls := "EpochLeavesModel", name := "start", desc := "(IIII)I" } : Jvm.MethodName)) ∈ jm_Wall := jm_inW (n := 833) (by decide +kernel) rfl
theorem jw_834 : (Jvm.Cond.instanceMethod ({ cls := "EpochLeavesModel", name := "start", desc := "(IIII)I" } : Jvm.MethodName)) ∈ jm_Wall := jm_inW (n := 834) (by decide +kernel) rfl
theorem jw_835 : (Jvm.Cond.selects "EpochLeavesModel" ({ cls := "EpochLeavesModel", name := "start", desc := "(IIII)I" } : Jvm.MethodName) ({ cls := "EpochLeavesModel", name := "start", desc := "(IIII)I" } : Jvm.MethodName)) ∈ jm_Wall := jm_inW (n := 835) (by decide +kernel) rfl
set_option maxRecDepth 100000 in
theorem jw_836 : (Jvm.Cond.code ({ cls := "EpochLeavesModel", name := "start", desc := "(IIII)I" } : Jvm.MethodName) prog_9_method_14_code (6 : Nat) (Option.some Jvm.ClassFile.FieldType.int)) ∈ jm_Wall := jm_inW (n := 836) (rfl) rfl
theorem jw_837 : (Jvm.Cond.methodLink "EpochLeavesModel" (159 : Nat) ({ cls := "EpochLeavesModel", name := "isWorker", desc := "(I)Z" } : Jvm.MethodName)) ∈ jm_Wall := jm_inW (n := 837) (by decide +kernel) rfl
theorem jw_838 : (Jvm.Cond.static ({ cls := "EpochLeavesModel", name := "isWorker", desc := "(I)Z" } : Jvm.MethodName)) ∈ jm_Wall := jm_inW (n := 838) (by decide +kernel) rfl
set_option maxRecDepth 100000 in
theorem jw_839 : (Jvm.Cond.code ({ cls := "EpochLeavesModel", name := "isWorker", desc := "(I)Z" } : Jvm.MethodName) prog_9_method_2_code (1 : Nat) (Option.some Jvm.ClassFile.FieldType.boolean)) ∈ jm_Wall := jm_inW (n := 839) (rfl) rfl
theorem jw_840 : (Jvm.Cond.methodLink "EpochLeavesLaw" (32 : Nat) ({ cls := "EpochLeavesModel", name := "step", desc := "(I)I" } : Jvm.MethodName)) ∈ jm_Wall := jm_inW (n := 840) (by decide +kernel) rfl
theorem jw_841 : (Jvm.Cond.instanceMethod ({ cls := "EpochLeavesModel", name := "step", desc := "(I)I" } : Jvm.MethodName)) ∈ jm_Wall := jm_inW (n := 841) (by decide +kernel) rfl
theorem jw_842 : (Jvm.Cond.selects "EpochLeavesModel" ({ cls := "EpochLeavesModel", name := "step", desc := "(I)I" } : Jvm.MethodName) ({ cls := "EpochLeavesModel", name := "step", desc := "(I)I" } : Jvm.MethodName)) ∈ jm_Wall := jm_inW (n := 842) (by decide +kernel) rfl
set_option maxRecDepth 100000 in
theorem jw_843 : (Jvm.Cond.code ({ cls := "EpochLeavesModel", name := "step", desc := "(I)I" } : Jvm.MethodName) prog_9_method_33_code (2 : Nat) (Option.some Jvm.ClassFile.FieldType.int)) ∈ jm_Wall := jm_inW (n := 843) (rfl) rfl
theorem jw_844 : (Jvm.Cond.methodLink "EpochLeavesModel" (234 : Nat) ({ cls := "EpochLeavesModel", name := "oneStep", desc := "(I)I" } : Jvm.MethodName)) ∈ jm_Wall := jm_inW (n := 844) (by decide +kernel) rfl
theorem jw_846 : (Jvm.Cond.instanceMethod ({ cls := "EpochLeavesModel", name := "oneStep", desc := "(I)I" } : Jvm.MethodName)) ∈ jm_Wall := jm_inW (n := 846) (by decide +kernel) rfl
set_option maxRecDepth 100000 in
theorem jw_847 : (Jvm.Cond.code ({ cls := "EpochLeavesModel", name := "oneStep", desc := "(I)I" } : Jvm.MethodName) prog_9_method_32_code (2 : Nat) (Option.some Jvm.ClassFile.FieldType.int)) ∈ jm_Wall := jm_inW (n := 847) (rfl) rfl
theorem jw_848 : (Jvm.Cond.methodLink "EpochLeavesModel" (222 : Nat) ({ cls := "EpochLeavesModel", name := "instruction", desc := "(I)I" } : Jvm.MethodName)) ∈ jm_Wall := jm_inW (n := 848) (by decide +kernel) rfl
theorem jw_850 : (Jvm.Cond.instanceMethod ({ cls := "EpochLeavesModel", name := "instruction", desc := "(I)I" } : Jvm.MethodName)) ∈ jm_Wall := jm_inW (n := 850) (by decide +kernel) rfl
set_option maxRecDepth 100000 in
theorem jw_851 : (Jvm.Cond.code ({ cls := "EpochLeavesModel", name := "instruction", desc := "(I)I" } : Jvm.MethodName) prog_9_method_27_code (7 : Nat) (Option.some Jvm.ClassFile.FieldType.int)) ∈ jm_Wall := jm_inW (n := 851) (rfl) rfl
theorem jw_852 : (Jvm.Cond.methodLink "EpochLeavesModel" (190 : Nat) ({ cls := "EpochLeavesModel", name := "give", desc := "(II)V" } : Jvm.MethodName)) ∈ jm_Wall := jm_inW (n := 852) (by decide +kernel) rfl
theorem jw_854 : (Jvm.Cond.instanceMethod ({ cls := "EpochLeavesModel", name := "give", desc := "(II)V" } : Jvm.MethodName)) ∈ jm_Wall := jm_inW (n := 854) (by decide +kernel) rfl
set_option maxRecDepth 100000 in
theorem jw_855 : (Jvm.Cond.code ({ cls := "EpochLeavesModel", name := "give", desc := "(II)V" } : Jvm.MethodName) prog_9_method_26_code (3 : Nat) (Option.none : Option Jvm.ClassFile.FieldType)) ∈ jm_Wall := jm_inW (n := 855) (rfl) rfl
theorem jw_856 : (Jvm.Cond.methodLink "EpochLeavesModel" (193 : Nat) ({ cls := "EpochLeavesModel", name := "abort", desc := "(I)I" } : Jvm.MethodName)) ∈ jm_Wall := jm_inW (n := 856) (by decide +kernel) rfl
theorem jw_858 : (Jvm.Cond.instanceMethod ({ cls := "EpochLeavesModel", name := "abort", desc := "(I)I" } : Jvm.MethodName)) ∈ jm_Wall := jm_inW (n := 858) (by decide +kernel) rfl
set_option maxRecDepth 100000 in
theorem jw_859 : (Jvm.Cond.code ({ cls := "EpochLeavesModel", name := "abort", desc := "(I)I" } : Jvm.MethodName) prog_9_method_15_code (3 : Nat) (Option.some Jvm.ClassFile.FieldType.int)) ∈ jm_Wall := jm_inW (n := 859) (rfl) rfl
theorem jw_860 : (Jvm.Cond.methodLink "EpochLeavesModel" (172 : Nat) ({ cls := "EpochLeavesModel", name := "reg", desc := "(II)I" } : Jvm.MethodName)) ∈ jm_Wall := jm_inW (n := 860) (by decide +kernel) rfl
theorem jw_862 : (Jvm.Cond.instanceMethod ({ cls := "EpochLeavesModel", name := "reg", desc := "(II)I" } : Jvm.MethodName)) ∈ jm_Wall := jm_inW (n := 862) (by decide +kernel) rfl
set_option maxRecDepth 100000 in
theorem jw_863 : (Jvm.Cond.code ({ cls := "EpochLeavesModel", name := "reg", desc := "(II)I" } : Jvm.MethodName) prog_9_method_20_code (3 : Nat) (Option.some Jvm.ClassFile.FieldType.int)) ∈ jm_Wall := jm_inW (n := 863) (rfl) rfl
theorem jw_864 : (Jvm.Cond.methodLink "EpochLeavesModel" (196 : Nat) ({ cls := "EpochLeavesModel", name := "isKey", desc := "(I)Z" } : Jvm.MethodName)) ∈ jm_Wall := jm_inW (n := 864) (by decide +kernel) rfl
theorem jw_865 : (Jvm.Cond.static ({ cls := "EpochLeavesModel", name := "isKey", desc := "(I)Z" } : Jvm.MethodName)) ∈ jm_Wall := jm_inW (n := 865) (by decide +kernel) rfl
set_option maxRecDepth 100000 in
theorem jw_866 : (Jvm.Cond.code ({ cls := "EpochLeavesModel", name := "isKey", desc := "(I)Z" } : Jvm.MethodName) prog_9_method_5_code (1 : Nat) (Option.some Jvm.ClassFile.FieldType.boolean)) ∈ jm_Wall := jm_inW (n := 866) (rfl) rfl
theorem jw_867 : (Jvm.Cond.methodLink "EpochLeavesModel" (199 : Nat) ({ cls := "EpochLeavesModel", name := "sum", desc := "(II)I" } : Jvm.MethodName)) ∈ jm_Wall := jm_inW (n := 867) (by decide +kernel) rfl
theorem jw_869 : (Jvm.Cond.instanceMethod ({ cls := "EpochLeavesModel", name := "sum", desc := "(II)I" } : Jvm.MethodName)) ∈ jm_Wall := jm_inW (n := 869) (by decide +kernel) rfl
set_option maxRecDepth 100000 in
theorem jw_870 : (Jvm.Cond.code ({ cls := "EpochLeavesModel", name := "sum", desc := "(II)I" } : Jvm.MethodName) prog_9_method_22_code (10 : Nat) (Option.some Jvm.ClassFile.FieldType.int)) ∈ jm_Wall := jm_inW (n := 870) (rfl) rfl
theorem jw_871 : (Jvm.Cond.methodLink "EpochLeavesModel" (176 : Nat) ({ cls := "EpochLeavesModel", name := "isShut", desc := "(II)Z" } : Jvm.MethodName)) ∈ jm_Wall := jm_inW (n := 871) (by decide +kernel) rfl
theorem jw_873 : (Jvm.Cond.instanceMethod ({ cls := "EpochLeavesModel", name := "isShut", desc := "(II)Z" } : Jvm.MethodName)) ∈ jm_Wall := jm_inW (n := 873) (by decide +kernel) rfl
set_option maxRecDepth 100000 in
theorem jw_874 : (Jvm.Cond.code ({ cls := "EpochLeavesModel", name := "isShut", desc := "(II)Z" } : Jvm.MethodName) prog_9_method_17_code (3 : Nat) (Option.some Jvm.ClassFile.FieldType.boolean)) ∈ jm_Wall := jm_inW (n := 874) (rfl) rfl
theorem jw_875 : (Jvm.Cond.methodLink "EpochLeavesModel" (180 : Nat) ({ cls := "EpochLeavesModel", name := "see", desc := "(II)Z" } : Jvm.MethodName)) ∈ jm_Wall := jm_inW (n := 875) (by decide +kernel) rfl
theorem jw_877 : (Jvm.Cond.instanceMethod ({ cls := "EpochLeavesModel", name := "see", desc := "(II)Z" } : Jvm.MethodName)) ∈ jm_Wall := jm_inW (n := 877) (by decide +kernel) rfl
set_option maxRecDepth 100000 in
theorem jw_878 : (Jvm.Cond.code ({ cls := "EpochLeavesModel", name := "see", desc := "(II)Z" } : Jvm.MethodName) prog_9_method_18_code (5 : Nat) (Option.some Jvm.ClassFile.FieldType.boolean)) ∈ jm_Wall := jm_inW (n := 878) (rfl) rfl
theorem jw_879 : (Jvm.Cond.methodLink "EpochLeavesModel" (165 : Nat) ({ cls := "EpochLeavesModel", name := "leafOf", desc := "(I)I" } : Jvm.MethodName)) ∈ jm_Wall := jm_inW (n := 879) (by decide +kernel) rfl
theorem jw_881 : (Jvm.Cond.instanceMethod ({ cls := "EpochLeavesModel", name := "leafOf", desc := "(I)I" } : Jvm.MethodName)) ∈ jm_Wall := jm_inW (n := 881) (by decide +kernel) rfl
set_option maxRecDepth 100000 in
theorem jw_882 : (Jvm.Cond.code ({ cls := "EpochLeavesModel", name := "leafOf", desc := "(I)I" } : Jvm.MethodName) prog_9_method_12_code (2 : Nat) (Option.some Jvm.ClassFile.FieldType.int)) ∈ jm_Wall := jm_inW (n := 882) (rfl) rfl
theorem jw_883 : (Jvm.Cond.methodLink "EpochLeavesModel" (153 : Nat) ({ cls := "EpochLeavesModel", name := "placeOf", desc := "(I)I" } : Jvm.MethodName)) ∈ jm_Wall := jm_inW (n := 883) (by decide +kernel) rfl
theorem jw_885 : (Jvm.Cond.instanceMethod ({ cls := "EpochLeavesModel", name := "placeOf", desc := "(I)I" } : Jvm.MethodName)) ∈ jm_Wall := jm_inW (n := 885) (by decide +kernel) rfl
set_option maxRecDepth 100000 in
theorem jw_886 : (Jvm.Cond.code ({ cls := "EpochLeavesModel", name := "placeOf", desc := "(I)I" } : Jvm.MethodName) prog_9_method_11_code (5 : Nat) (Option.some Jvm.ClassFile.FieldType.int)) ∈ jm_Wall := jm_inW (n := 886) (rfl) rfl
theorem jw_887 : (Jvm.Cond.methodLink "EpochLeavesModel" (149 : Nat) ({ cls := "EpochLeavesModel", name := "least", desc := "(I)I" } : Jvm.MethodName)) ∈ jm_Wall := jm_inW (n := 887) (by decide +kernel) rfl
theorem jw_889 : (Jvm.Cond.instanceMethod ({ cls := "EpochLeavesModel", name := "least", desc := "(I)I" } : Jvm.MethodName)) ∈ jm_Wall := jm_inW (n := 889) (by decide +kernel) rfl
set_option maxRecDepth 100000 in
theorem jw_890 : (Jvm.Cond.code ({ cls := "EpochLeavesModel", name := "least", desc := "(I)I" } : Jvm.MethodName) prog_9_method_9_code (3 : Nat) (Option.some Jvm.ClassFile.FieldType.int)) ∈ jm_Wall := jm_inW (n := 890) (rfl) rfl
theorem jw_891 : (Jvm.Cond.methodLink "EpochLeavesModel" (168 : Nat) ({ cls := "EpochLeavesModel", name := "keepNode", desc := "(II)V" } : Jvm.MethodName)) ∈ jm_Wall := jm_inW (n := 891) (by decide +kernel) rfl
theorem jw_893 : (Jvm.Cond.instanceMethod ({ cls := "EpochLeavesModel", name := "keepNode", desc := "(II)V" } : Jvm.MethodName)) ∈ jm_Wall := jm_inW (n := 893) (by decide +kernel) rfl
set_option maxRecDepth 100000 in
theorem jw_894 : (Jvm.Cond.code ({ cls := "EpochLeavesModel", name := "keepNode", desc := "(II)V" } : Jvm.MethodName) prog_9_method_16_code (3 : Nat) (Option.none : Option Jvm.ClassFile.FieldType)) ∈ jm_Wall := jm_inW (n := 894) (rfl) rfl
theorem jw_895 : (Jvm.Cond.methodLink "EpochLeavesModel" (183 : Nat) ({ cls := "EpochLeavesModel", name := "valueSeen", desc := "(II)I" } : Jvm.MethodName)) ∈ jm_Wall := jm_inW (n := 895) (by decide +kernel) rfl
theorem jw_897 : (Jvm.Cond.instanceMethod ({ cls := "EpochLeavesModel", name := "valueSeen", desc := "(II)I" } : Jvm.MethodName)) ∈ jm_Wall := jm_inW (n := 897) (by decide +kernel) rfl
set_option maxRecDepth 100000 in
theorem jw_898 : (Jvm.Cond.code ({ cls := "EpochLeavesModel", name := "valueSeen", desc := "(II)I" } : Jvm.MethodName) prog_9_method_19_code (3 : Nat) (Option.some Jvm.ClassFile.FieldType.int)) ∈ jm_Wall := jm_inW (n := 898) (rfl) rfl
theorem jw_899 : (Jvm.Cond.methodLink "EpochLeavesModel" (186 : Nat) ({ cls := "EpochLeavesModel", name := "set", desc := "(III)V" } : Jvm.MethodName)) ∈ jm_Wall := jm_inW (n := 899) (by decide +kernel) rfl
theorem jw_901 : (Jvm.Cond.instanceMethod ({ cls := "EpochLeavesModel", name := "set", desc := "(III)V" } : Jvm.MethodName)) ∈ jm_Wall := jm_inW (n := 901) (by decide +kernel) rfl
set_option maxRecDepth 100000 in
theorem jw_902 : (Jvm.Cond.code ({ cls := "EpochLeavesModel", name := "set", desc := "(III)V" } : Jvm.MethodName) prog_9_method_21_code (4 : Nat) (Option.none : Option Jvm.ClassFile.FieldType)) ∈ jm_Wall := jm_inW (n := 902) (rfl) rfl
theorem jw_903 : (Jvm.Cond.methodLink "EpochLeavesModel" (202 : Nat) ({ cls := "EpochLeavesModel", name := "get", desc := "(II)I" } : Jvm.MethodName)) ∈ jm_Wall := jm_inW (n := 903) (by decide +kernel) rfl
theorem jw_905 : (Jvm.Cond.instanceMethod ({ cls := "EpochLeavesModel", name := "get", desc := "(II)I" } : Jvm.MethodName)) ∈ jm_Wall := jm_inW (n := 905) (by decide +kernel) rfl
set_option maxRecDepth 100000 in
theorem jw_906 : (Jvm.Cond.code ({ cls := "EpochLeavesModel", name := "get", desc := "(II)I" } : Jvm.MethodName) prog_9_method_23_code (5 : Nat) (Option.some Jvm.ClassFile.FieldType.int)) ∈ jm_Wall := jm_inW (n := 906) (rfl) rfl
theorem jw_907 : (Jvm.Cond.methodLink "EpochLeavesModel" (205 : Nat) ({ cls := "EpochLeavesModel", name := "arithmetic", desc := "(II)V" } : Jvm.MethodName)) ∈ jm_Wall := jm_inW (n := 907) (by decide +kernel) rfl
theorem jw_909 : (Jvm.Cond.instanceMethod ({ cls := "EpochLeavesModel", name := "arithmetic", desc := "(II)V" } : Jvm.MethodName)) ∈ jm_Wall := jm_inW (n := 909) (by decide +kernel) rfl
set_option maxRecDepth 100000 in
theorem jw_910 : (Jvm.Cond.code ({ cls := "EpochLeavesModel", name := "arithmetic", desc := "(II)V" } : Jvm.MethodName) prog_9_method_25_code (6 : Nat) (Option.none : Option Jvm.ClassFile.FieldType)) ∈ jm_Wall := jm_inW (n := 910) (rfl) rfl
theorem jw_911 : (Jvm.Cond.methodLink "EpochLeavesModel" (208 : Nat) ({ cls := "EpochLeavesModel", name := "write", desc := "(IIZI)V" } : Jvm.MethodName)) ∈ jm_Wall := jm_inW (n := 911) (by decide +kernel) rfl
theorem jw_913 : (Jvm.Cond.instanceMethod ({ cls := "EpochLeavesModel", name := "write", desc := "(IIZI)V" } : Jvm.MethodName)) ∈ jm_Wall := jm_inW (n := 913) (by decide +kernel) rfl
set_option maxRecDepth 100000 in
theorem jw_914 : (Jvm.Cond.code ({ cls := "EpochLeavesModel", name := "write", desc := "(IIZI)V" } : Jvm.MethodName) prog_9_method_24_code (5 : Nat) (Option.none : Option Jvm.ClassFile.FieldType)) ∈ jm_Wall := jm_inW (n := 914) (rfl) rfl
theorem jw_915 : (Jvm.Cond.methodLink "EpochLeavesModel" (225 : Nat) ({ cls := "EpochLeavesModel", name := "lockNext", desc := "(I)I" } : Jvm.MethodName)) ∈ jm_Wall := jm_inW (n := 915) (by decide +kernel) rfl
theorem jw_917 : (Jvm.Cond.instanceMethod ({ cls := "EpochLeavesModel", name := "lockNext", desc := "(I)I" } : Jvm.MethodName)) ∈ jm_Wall := jm_inW (n := 917) (by decide +kernel) rfl
set_option maxRecDepth 100000 in
theorem jw_918 : (Jvm.Cond.code ({ cls := "EpochLeavesModel", name := "lockNext", desc := "(I)I" } : Jvm.MethodName) prog_9_method_28_code (6 : Nat) (Option.some Jvm.ClassFile.FieldType.int)) ∈ jm_Wall := jm_inW (n := 918) (rfl) rfl
theorem jw_919 : (Jvm.Cond.methodLink "EpochLeavesModel" (212 : Nat) ({ cls := "EpochLeavesModel", name := "addRecord", desc := "(I)I" } : Jvm.MethodName)) ∈ jm_Wall := jm_inW (n := 919) (by decide +kernel) rfl
theorem jw_921 : (Jvm.Cond.instanceMethod ({ cls := "EpochLeavesModel", name := "addRecord", desc := "(I)I" } : Jvm.MethodName)) ∈ jm_Wall := jm_inW (n := 921) (by decide +kernel) rfl
set_option maxRecDepth 100000 in
theorem jw_922 : (Jvm.Cond.code ({ cls := "EpochLeavesModel", name := "addRecord", desc := "(I)I" } : Jvm.MethodName) prog_9_method_13_code (6 : Nat) (Option.some Jvm.ClassFile.FieldType.int)) ∈ jm_Wall := jm_inW (n := 922) (rfl) rfl
theorem jw_923 : (Jvm.Cond.methodLink "EpochLeavesModel" (156 : Nat) ({ cls := "EpochLeavesModel", name := "many", desc := "(I)I" } : Jvm.MethodName)) ∈ jm_Wall := jm_inW (n := 923) (by decide +kernel) rfl
theorem jw_925 : (Jvm.Cond.instanceMethod ({ cls := "EpochLeavesModel", name := "many", desc := "(I)I" } : Jvm.MethodName)) ∈ jm_Wall := jm_inW (n := 925) (by decide +kernel) rfl
set_option maxRecDepth 100000 in
theorem jw_926 : (Jvm.Cond.code ({ cls := "EpochLeavesModel", name := "many", desc := "(I)I" } : Jvm.MethodName) prog_9_method_10_code (4 : Nat) (Option.some Jvm.ClassFile.FieldType.int)) ∈ jm_Wall := jm_inW (n := 926) (rfl) rfl
theorem jw_927 : (Jvm.Cond.methodLink "EpochLeavesModel" (228 : Nat) ({ cls := "EpochLeavesModel", name := "check", desc := "(I)I" } : Jvm.MethodName)) ∈ jm_Wall := jm_inW (n := 927) (by decide +kernel) rfl
theorem jw_929 : (Jvm.Cond.instanceMethod ({ cls := "EpochLeavesModel", name := "check", desc := "(I)I" } : Jvm.MethodName)) ∈ jm_Wall := jm_inW (n := 929) (by decide +kernel) rfl
set_option maxRecDepth 100000 in
theorem jw_930 : (Jvm.Cond.code ({ cls := "EpochLeavesModel", name := "check", desc := "(I)I" } : Jvm.MethodName) prog_9_method_29_code (5 : Nat) (Option.some Jvm.ClassFile.FieldType.int)) ∈ jm_Wall := jm_inW (n := 930) (rfl) rfl
theorem jw_931 : (Jvm.Cond.methodLink "EpochLeavesModel" (231 : Nat) ({ cls := "EpochLeavesModel", name := "install", desc := "(I)I" } : Jvm.MethodName)) ∈ jm_Wall := jm_inW (n := 931) (by decide +kernel) rfl
theorem jw_933 : (Jvm.Cond.instanceMethod ({ cls := "EpochLeavesModel", name := "install", desc := "(I)I" } : Jvm.MethodName)) ∈ jm_Wall := jm_inW (n := 933) (by decide +kernel) rfl
set_option maxRecDepth 100000 in
theorem jw_934 : (Jvm.Cond.code ({ cls := "EpochLeavesModel", name := "install", desc := "(I)I" } : Jvm.MethodName) prog_9_method_30_code (4 : Nat) (Option.some Jvm.ClassFile.FieldType.int)) ∈ jm_Wall := jm_inW (n := 934) (rfl) rfl
theorem jw_935 : (Jvm.Cond.methodLink "EpochLeavesModel" (215 : Nat) ({ cls := "EpochLeavesModel", name := "commit", desc := "(I)I" } : Jvm.MethodName)) ∈ jm_Wall := jm_inW (n := 935) (by decide +kernel) rfl
theorem jw_937 : (Jvm.Cond.instanceMethod ({ cls := "EpochLeavesModel", name := "commit", desc := "(I)I" } : Jvm.MethodName)) ∈ jm_Wall := jm_inW (n := 937) (by decide +kernel) rfl
set_option maxRecDepth 100000 in
theorem jw_938 : (Jvm.Cond.code ({ cls := "EpochLeavesModel", name := "commit", desc := "(I)I" } : Jvm.MethodName) prog_9_method_31_code (4 : Nat) (Option.some Jvm.ClassFile.FieldType.int)) ∈ jm_Wall := jm_inW (n := 938) (rfl) rfl
theorem jw_939 : (Jvm.Cond.methodLink "EpochLeavesModel" (218 : Nat) ({ cls := "EpochLeavesModel", name := "release", desc := "()I" } : Jvm.MethodName)) ∈ jm_Wall := jm_inW (n := 939) (by decide +kernel) rfl
theorem jw_941 : (Jvm.Cond.instanceMethod ({ cls := "EpochLeavesModel", name := "release", desc := "()I" } : Jvm.MethodName)) ∈ jm_Wall := jm_inW (n := 941) (by decide +kernel) rfl
set_option maxRecDepth 100000 in
theorem jw_942 : (Jvm.Cond.code ({ cls := "EpochLeavesModel", name := "release", desc := "()I" } : Jvm.MethodName) prog_9_method_37_code (4 : Nat) (Option.some Jvm.ClassFile.FieldType.int)) ∈ jm_Wall := jm_inW (n := 942) (rfl) rfl
theorem jw_943 : (Jvm.Cond.methodLink "EpochLeavesModel" (237 : Nat) ({ cls := "EpochLeavesModel", name := "durableEpoch", desc := "()I" } : Jvm.MethodName)) ∈ jm_Wall := jm_inW (n := 943) (by decide +kernel) rfl
theorem jw_945 : (Jvm.Cond.instanceMethod ({ cls := "EpochLeavesModel", name := "durableEpoch", desc := "()I" } : Jvm.MethodName)) ∈ jm_Wall := jm_inW (n := 945) (by decide +kernel) rfl
set_option maxRecDepth 100000 in
theorem jw_946 : (Jvm.Cond.code ({ cls := "EpochLeavesModel", name := "durableEpoch", desc := "()I" } : Jvm.MethodName) prog_9_method_36_code (3 : Nat) (Option.some Jvm.ClassFile.FieldType.int)) ∈ jm_Wall := jm_inW (n := 946) (rfl) rfl
theorem jw_947 : (Jvm.Cond.methodLink "EpochLeavesLaw" (37 : Nat) ({ cls := "EpochLeavesModel", name := "run", desc := "(II)I" } : Jvm.MethodName)) ∈ jm_Wall := jm_inW (n := 947) (by decide +kernel) rfl
theorem jw_948 : (Jvm.Cond.instanceMethod ({ cls := "EpochLeavesModel", name := "run", desc := "(II)I" } : Jvm.MethodName)) ∈ jm_Wall := jm_inW (n := 948) (by decide +kernel) rfl
theorem jw_949 : (Jvm.Cond.selects "EpochLeavesModel" ({ cls := "EpochLeavesModel", name := "run", desc := "(II)I" } : Jvm.MethodName) ({ cls := "EpochLeavesModel", name := "run", desc := "(II)I" } : Jvm.MethodName)) ∈ jm_Wall := jm_inW (n := 949) (by decide +kernel) rfl
set_option maxRecDepth 100000 in
theorem jw_950 : (Jvm.Cond.code ({ cls := "EpochLeavesModel", name := "run", desc := "(II)I" } : Jvm.MethodName) prog_9_method_34_code (5 : Nat) (Option.some Jvm.ClassFile.FieldType.int)) ∈ jm_Wall := jm_inW (n := 950) (rfl) rfl
theorem jw_951 : (Jvm.Cond.methodLink "EpochLeavesLaw" (42 : Nat) ({ cls := "EpochLeavesModel", name := "advance", desc := "()I" } : Jvm.MethodName)) ∈ jm_Wall := jm_inW (n := 951) (by decide +kernel) rfl
theorem jw_952 : (Jvm.Cond.instanceMethod ({ cls := "EpochLeavesModel", name := "advance", desc := "()I" } : Jvm.MethodName)) ∈ jm_Wall := jm_inW (n := 952) (by decide +kernel) rfl
theorem jw_953 : (Jvm.Cond.selects "EpochLeavesModel" ({ cls := "EpochLeavesModel", name := "advance", desc := "()I" } : Jvm.MethodName) ({ cls := "EpochLeavesModel", name := "advance", desc := "()I" } : Jvm.MethodName)) ∈ jm_Wall := jm_inW (n := 953) (by decide +kernel) rfl
set_option maxRecDepth 100000 in
theorem jw_954 : (Jvm.Cond.code ({ cls := "EpochLeavesModel", name := "advance", desc := "()I" } : Jvm.MethodName) prog_9_method_38_code (2 : Nat) (Option.some Jvm.ClassFile.FieldType.int)) ∈ jm_Wall := jm_inW (n := 954) (rfl) rfl
theorem jw_955 : (Jvm.Cond.methodLink "EpochLeavesModel" (240 : Nat) ({ cls := "EpochLeavesModel", name := "isPutting", desc := "(I)Z" } : Jvm.MethodName)) ∈ jm_Wall := jm_inW (n := 955) (by decide +kernel) rfl
theorem jw_957 : (Jvm.Cond.instanceMethod ({ cls := "EpochLeavesModel", name := "isPutting", desc := "(I)Z" } : Jvm.MethodName)) ∈ jm_Wall := jm_inW (n := 957) (by decide +kernel) rfl
set_option maxRecDepth 100000 in
theorem jw_958 : (Jvm.Cond.code ({ cls := "EpochLeavesModel", name := "isPutting", desc := "(I)Z" } : Jvm.MethodName) prog_9_method_35_code (2 : Nat) (Option.some Jvm.ClassFile.FieldType.boolean)) ∈ jm_Wall := jm_inW (n := 958) (rfl) rfl
theorem jw_959 : (Jvm.Cond.methodLink "EpochLeavesLaw" (46 : Nat) ({ cls := "EpochLeavesModel", name := "flush", desc := "(I)I" } : Jvm.MethodName)) ∈ jm_Wall := jm_inW (n := 959) (by decide +kernel) rfl
theorem jw_960 : (Jvm.Cond.instanceMethod ({ cls := "EpochLeavesModel", name := "flush", desc := "(I)I" } : Jvm.MethodName)) ∈ jm_Wall := jm_inW (n := 960) (by decide +kernel) rfl
theorem jw_961 : (Jvm.Cond.selects "EpochLeavesModel" ({ cls := "EpochLeavesModel", name := "flush", desc := "(I)I" } : Jvm.MethodName) ({ cls := "EpochLeavesModel", name := "flush", desc := "(I)I" } : Jvm.MethodName)) ∈ jm_Wall := jm_inW (n := 961) (by decide +kernel) rfl
set_option maxRecDepth 100000 in
theorem jw_962 : (Jvm.Cond.code ({ cls := "EpochLeavesModel", name := "flush", desc := "(I)I" } : Jvm.MethodName) prog_9_method_39_code (4 : Nat) (Option.some Jvm.ClassFile.FieldType.int)) ∈ jm_Wall := jm_inW (n := 962) (rfl) rfl
theorem jw_963 : (Jvm.Cond.methodLink "EpochLeavesModel" (243 : Nat) ({ cls := "EpochLeavesModel", name := "isLogged", desc := "(I)Z" } : Jvm.MethodName)) ∈ jm_Wall := jm_inW (n := 963) (by decide +kernel) rfl
theorem jw_965 : (Jvm.Cond.instanceMethod ({ cls := "EpochLeavesModel", name := "isLogged", desc := "(I)Z" } : Jvm.MethodName)) ∈ jm_Wall := jm_inW (n := 965) (by decide +kernel) rfl
set_option maxRecDepth 100000 in
theorem jw_966 : (Jvm.Cond.code ({ cls := "EpochLeavesModel", name := "isLogged", desc := "(I)Z" } : Jvm.MethodName) prog_9_method_40_code (2 : Nat) (Option.some Jvm.ClassFile.FieldType.boolean)) ∈ jm_Wall := jm_inW (n := 966) (rfl) rfl
theorem jw_967 : (Jvm.Cond.methodLink "EpochLeavesLaw" (50 : Nat) ({ cls := "EpochLeavesModel", name := "crash", desc := "()I" } : Jvm.MethodName)) ∈ jm_Wall := jm_inW (n := 967) (by decide +kernel) rfl
theorem jw_968 : (Jvm.Cond.instanceMethod ({ cls := "EpochLeavesModel", name := "crash", desc := "()I" } : Jvm.MethodName)) ∈ jm_Wall := jm_inW (n := 968) (by decide +kernel) rfl
theorem jw_969 : (Jvm.Cond.selects "EpochLeavesModel" ({ cls := "EpochLeavesModel", name := "crash", desc := "()I" } : Jvm.MethodName) ({ cls := "EpochLeavesModel", name := "crash", desc := "()I" } : Jvm.MethodName)) ∈ jm_Wall := jm_inW (n := 969) (by decide +kernel) rfl
set_option maxRecDepth 100000 in
theorem jw_970 : (Jvm.Cond.code ({ cls := "EpochLeavesModel", name := "crash", desc := "()I" } : Jvm.MethodName) prog_9_method_42_code (5 : Nat) (Option.some Jvm.ClassFile.FieldType.int)) ∈ jm_Wall := jm_inW (n := 970) (rfl) rfl
theorem jw_971 : (Jvm.Cond.methodLink "EpochLeavesModel" (246 : Nat) ({ cls := "EpochLeavesModel", name := "lastWriter", desc := "(I)I" } : Jvm.MethodName)) ∈ jm_Wall := jm_inW (n := 971) (by decide +kernel) rfl
theorem jw_973 : (Jvm.Cond.instanceMethod ({ cls := "EpochLeavesModel", name := "lastWriter", desc := "(I)I" } : Jvm.MethodName)) ∈ jm_Wall := jm_inW (n := 973) (by decide +kernel) rfl
set_option maxRecDepth 100000 in
theorem jw_974 : (Jvm.Cond.code ({ cls := "EpochLeavesModel", name := "lastWriter", desc := "(I)I" } : Jvm.MethodName) prog_9_method_41_code (4 : Nat) (Option.some Jvm.ClassFile.FieldType.int)) ∈ jm_Wall := jm_inW (n := 974) (rfl) rfl
theorem jw_975 : (Jvm.Cond.methodLink "EpochLeavesLaw" (54 : Nat) ({ cls := "EpochLeavesModel", name := "transaction", desc := "(II)I" } : Jvm.MethodName)) ∈ jm_Wall := jm_inW (n := 975) (by decide +kernel) rfl
theorem jw_976 : (Jvm.Cond.instanceMethod ({ cls := "EpochLeavesModel", name := "transaction", desc := "(II)I" } : Jvm.MethodName)) ∈ jm_Wall := jm_inW (n := 976) (by decide +kernel) rfl
theorem jw_977 : (Jvm.Cond.selects "EpochLeavesModel" ({ cls := "EpochLeavesModel", name := "transaction", desc := "(II)I" } : Jvm.MethodName) ({ cls := "EpochLeavesModel", name := "transaction", desc := "(II)I" } : Jvm.MethodName)) ∈ jm_Wall := jm_inW (n := 977) (by decide +kernel) rfl
set_option maxRecDepth 100000 in
theorem jw_978 : (Jvm.Cond.code ({ cls := "EpochLeavesModel", name := "transaction", desc := "(II)I" } : Jvm.MethodName) prog_9_method_43_code (3 : Nat) (Option.some Jvm.ClassFile.FieldType.int)) ∈ jm_Wall := jm_inW (n := 978) (rfl) rfl
theorem jw_979 : (Jvm.Cond.methodLink "EpochLeavesLaw" (58 : Nat) ({ cls := "EpochLeavesModel", name := "result", desc := "(I)I" } : Jvm.MethodName)) ∈ jm_Wall := jm_inW (n := 979) (by decide +kernel) rfl
theorem jw_980 : (Jvm.Cond.instanceMethod ({ cls := "EpochLeavesModel", name := "result", desc := "(I)I" } : Jvm.MethodName)) ∈ jm_Wall := jm_inW (n := 980) (by decide +kernel) rfl
theorem jw_981 : (Jvm.Cond.selects "EpochLeavesModel" ({ cls := "EpochLeavesModel", name := "result", desc := "(I)I" } : Jvm.MethodName) ({ cls := "EpochLeavesModel", name := "result", desc := "(I)I" } : Jvm.MethodName)) ∈ jm_Wall := jm_inW (n := 981) (by decide +kernel) rfl
set_option maxRecDepth 100000 in
theorem jw_982 : (Jvm.Cond.code ({ cls := "EpochLeavesModel", name := "result", desc := "(I)I" } : Jvm.MethodName) prog_9_method_44_code (2 : Nat) (Option.some Jvm.ClassFile.FieldType.int)) ∈ jm_Wall := jm_inW (n := 982) (rfl) rfl
theorem jw_983 : (Jvm.Cond.methodLink "EpochLeavesLaw" (62 : Nat) ({ cls := "EpochLeavesModel", name := "entry", desc := "(II)I" } : Jvm.MethodName)) ∈ jm_Wall := jm_inW (n := 983) (by decide +kernel) rfl
theorem jw_984 : (Jvm.Cond.instanceMethod ({ cls := "EpochLeavesModel", name := "entry", desc := "(II)I" } : Jvm.MethodName)) ∈ jm_Wall := jm_inW (n := 984) (by decide +kernel) rfl
theorem jw_985 : (Jvm.Cond.selects "EpochLeavesModel" ({ cls := "EpochLeavesModel", name := "entry", desc := "(II)I" } : Jvm.MethodName) ({ cls := "EpochLeavesModel", name := "entry", desc := "(II)I" } : Jvm.MethodName)) ∈ jm_Wall := jm_inW (n := 985) (by decide +kernel) rfl
set_option maxRecDepth 100000 in
theorem jw_986 : (Jvm.Cond.code ({ cls := "EpochLeavesModel", name := "entry", desc := "(II)I" } : Jvm.MethodName) prog_9_method_45_code (3 : Nat) (Option.some Jvm.ClassFile.FieldType.int)) ∈ jm_Wall := jm_inW (n := 986) (rfl) rfl
theorem jw_987 : (Jvm.Cond.methodLink "EpochLeavesLaw" (66 : Nat) ({ cls := "EpochLeavesModel", name := "leaf", desc := "(II)I" } : Jvm.MethodName)) ∈ jm_Wall := jm_inW (n := 987) (by decide +kernel) rfl
theorem jw_988 : (Jvm.Cond.instanceMethod ({ cls := "EpochLeavesModel", name := "leaf", desc := "(II)I" } : Jvm.MethodName)) ∈ jm_Wall := jm_inW (n := 988) (by decide +kernel) rfl
theorem jw_989 : (Jvm.Cond.selects "EpochLeavesModel" ({ cls := "EpochLeavesModel", name := "leaf", desc := "(II)I" } : Jvm.MethodName) ({ cls := "EpochLeavesModel", name := "leaf", desc := "(II)I" } : Jvm.MethodName)) ∈ jm_Wall := jm_inW (n := 989) (by decide +kernel) rfl
set_option maxRecDepth 100000 in
theorem jw_990 : (Jvm.Cond.code ({ cls := "EpochLeavesModel", name := "leaf", desc := "(II)I" } : Jvm.MethodName) prog_9_method_46_code (5 : Nat) (Option.some Jvm.ClassFile.FieldType.int)) ∈ jm_Wall := jm_inW (n := 990) (rfl) rfl
theorem jw_991 : (Jvm.Cond.methodLink "EpochLeavesLaw" (70 : Nat) ({ cls := "EpochLeavesModel", name := "worker", desc := "(II)I" } : Jvm.MethodName)) ∈ jm_Wall := jm_inW (n := 991) (by decide +kernel) rfl
theorem jw_992 : (Jvm.Cond.instanceMethod ({ cls := "EpochLeavesModel", name := "worker", desc := "(II)I" } : Jvm.MethodName)) ∈ jm_Wall := jm_inW (n := 992) (by decide +kernel) rfl
theorem jw_993 : (Jvm.Cond.selects "EpochLeavesModel" ({ cls := "EpochLeavesModel", name := "worker", desc := "(II)I" } : Jvm.MethodName) ({ cls := "EpochLeavesModel", name := "worker", desc := "(II)I" } : Jvm.MethodName)) ∈ jm_Wall := jm_inW (n := 993) (by decide +kernel) rfl
set_option maxRecDepth 100000 in
theorem jw_994 : (Jvm.Cond.code ({ cls := "EpochLeavesModel", name := "worker", desc := "(II)I" } : Jvm.MethodName) prog_9_method_48_code (3 : Nat) (Option.some Jvm.ClassFile.FieldType.int)) ∈ jm_Wall := jm_inW (n := 994) (rfl) rfl
theorem jw_995 : (Jvm.Cond.methodLink "EpochLeavesModel" (249 : Nat) ({ cls := "EpochLeavesModel", name := "counted", desc := "(II)I" } : Jvm.MethodName)) ∈ jm_Wall := jm_inW (n := 995) (by decide +kernel) rfl
theorem jw_997 : (Jvm.Cond.instanceMethod ({ cls := "EpochLeavesModel", name := "counted", desc := "(II)I" } : Jvm.MethodName)) ∈ jm_Wall := jm_inW (n := 997) (by decide +kernel) rfl
set_option maxRecDepth 100000 in
theorem jw_998 : (Jvm.Cond.code ({ cls := "EpochLeavesModel", name := "counted", desc := "(II)I" } : Jvm.MethodName) prog_9_method_47_code (5 : Nat) (Option.some Jvm.ClassFile.FieldType.int)) ∈ jm_Wall := jm_inW (n := 998) (rfl) rfl
theorem jw_999 : (Jvm.Cond.methodLink "EpochLeavesLaw" (74 : Nat) ({ cls := "EpochLeavesModel", name := "register", desc := "(II)I" } : Jvm.MethodName)) ∈ jm_Wall := jm_inW (n := 999) (by decide +kernel) rfl
theorem jw_1000 : (Jvm.Cond.instanceMethod ({ cls := "EpochLeavesModel", name := "register", desc := "(II)I" } : Jvm.MethodName)) ∈ jm_Wall := jm_inW (n := 1000) (by decide +kernel) rfl
theorem jw_1001 : (Jvm.Cond.selects "EpochLeavesModel" ({ cls := "EpochLeavesModel", name := "register", desc := "(II)I" } : Jvm.MethodName) ({ cls := "EpochLeavesModel", name := "register", desc := "(II)I" } : Jvm.MethodName)) ∈ jm_Wall := jm_inW (n := 1001) (by decide +kernel) rfl
set_option maxRecDepth 100000 in
theorem jw_1002 : (Jvm.Cond.code ({ cls := "EpochLeavesModel", name := "register", desc := "(II)I" } : Jvm.MethodName) prog_9_method_49_code (3 : Nat) (Option.some Jvm.ClassFile.FieldType.int)) ∈ jm_Wall := jm_inW (n := 1002) (rfl) rfl
theorem jw_1003 : (Jvm.Cond.methodLink "EpochLeavesLaw" (78 : Nat) ({ cls := "EpochLeavesModel", name := "log", desc := "(II)I" } : Jvm.MethodName)) ∈ jm_Wall := jm_inW (n := 1003) (by decide +kernel) rfl
theorem jw_1004 : (Jvm.Cond.instanceMethod ({ cls := "EpochLeavesModel", name := "log", desc := "(II)I" } : Jvm.MethodName)) ∈ jm_Wall := jm_inW (n := 1004) (by decide +kernel) rfl
theorem jw_1005 : (Jvm.Cond.selects "EpochLeavesModel" ({ cls := "EpochLeavesModel", name := "log", desc := "(II)I" } : Jvm.MethodName) ({ cls := "EpochLeavesModel", name := "log", desc := "(II)I" } : Jvm.MethodName)) ∈ jm_Wall := jm_inW (n := 1005) (by decide +kernel) rfl
set_option maxRecDepth 100000 in
theorem jw_1006 : (Jvm.Cond.code ({ cls := "EpochLeavesModel", name := "log", desc := "(II)I" } : Jvm.MethodName) prog_9_method_50_code (5 : Nat) (Option.some Jvm.ClassFile.FieldType.int)) ∈ jm_Wall := jm_inW (n := 1006) (rfl) rfl
theorem jw_1007 : (Jvm.Cond.methodLink "EpochLeavesLaw" (82 : Nat) ({ cls := "EpochLeavesModel", name := "epoch", desc := "(I)I" } : Jvm.MethodName)) ∈ jm_Wall := jm_inW (n := 1007) (by decide +kernel) rfl
theorem jw_1008 : (Jvm.Cond.instanceMethod ({ cls := "EpochLeavesModel", name := "epoch", desc := "(I)I" } : Jvm.MethodName)) ∈ jm_Wall := jm_inW (n := 1008) (by decide +kernel) rfl
theorem jw_1009 : (Jvm.Cond.selects "EpochLeavesModel" ({ cls := "EpochLeavesModel", name := "epoch", desc := "(I)I" } : Jvm.MethodName) ({ cls := "EpochLeavesModel", name := "epoch", desc := "(I)I" } : Jvm.MethodName)) ∈ jm_Wall := jm_inW (n := 1009) (by decide +kernel) rfl
set_option maxRecDepth 100000 in
theorem jw_1010 : (Jvm.Cond.code ({ cls := "EpochLeavesModel", name := "epoch", desc := "(I)I" } : Jvm.MethodName) prog_9_method_51_code (2 : Nat) (Option.some Jvm.ClassFile.FieldType.int)) ∈ jm_Wall := jm_inW (n := 1010) (rfl) rfl
theorem jw_1013 : (Jvm.Cond.selects "[Ljava/lang/Object;" ({ cls := "java/lang/Object", name := "getClass", desc := "()Ljava/lang/Class;" } : Jvm.MethodName) ({ cls := "java/lang/Object", name := "getClass", desc := "()Ljava/lang/Class;" } : Jvm.MethodName)) ∈ jm_Wall := jm_inW (n := 1013) (by decide +kernel) rfl
theorem jp_0 : Cond.selects "EpochLeaves" ⟨"EpochLeaves", "isBeingRun", "(I)Z"⟩ ⟨"EpochLeaves", "isBeingRun", "(I)Z"⟩ ∈ jm_Wall := jm_inP (q := (⟨"EpochLeaves", "isBeingRun", "(I)Z"⟩, 6)) (List.mem_of_getElem? (i := 0) (by decide +kernel))
theorem jp_1 : Cond.selects "java/util/ArrayList" ⟨"java/util/ArrayList", "add", "(Ljava/lang/Object;[Ljava/lang/Object;I)V"⟩ ⟨"java/util/ArrayList", "add", "(Ljava/lang/Object;[Ljava/lang/Object;I)V"⟩ ∈ jm_Wall := jm_inP (q := (⟨"java/util/ArrayList", "add", "(Ljava/lang/Object;[Ljava/lang/Object;I)V"⟩, 3)) (List.mem_of_getElem? (i := 1) (by decide +kernel))
theorem jp_2 : Cond.selects "java/util/ArrayList" ⟨"java/util/ArrayList", "grow", "()[Ljava/lang/Object;"⟩ ⟨"java/util/ArrayList", "grow", "()[Ljava/lang/Object;"⟩ ∈ jm_Wall := jm_inP (q := (⟨"java/util/ArrayList", "grow", "()[Ljava/lang/Object;"⟩, 3)) (List.mem_of_getElem? (i := 2) (by decide +kernel))
theorem jp_3 : Cond.selects "java/util/ArrayList" ⟨"java/util/ArrayList", "grow", "(I)[Ljava/lang/Object;"⟩ ⟨"java/util/ArrayList", "grow", "(I)[Ljava/lang/Object;"⟩ ∈ jm_Wall := jm_inP (q := (⟨"java/util/ArrayList", "grow", "(I)[Ljava/lang/Object;"⟩, 3)) (List.mem_of_getElem? (i := 3) (by decide +kernel))
theorem jp_4 : Cond.selects "EpochLeaves" ⟨"EpochLeaves", "moveWorker", "(I)I"⟩ ⟨"EpochLeaves", "moveWorker", "(I)I"⟩ ∈ jm_Wall := jm_inP (q := (⟨"EpochLeaves", "moveWorker", "(I)I"⟩, 6)) (List.mem_of_getElem? (i := 4) (by decide +kernel))
theorem jp_5 : Cond.selects "EpochLeaves$Worker" ⟨"EpochLeaves$Worker", "goOn", "(LEpochLeaves$Store;LEpochLeaves$Procedure;)I"⟩ ⟨"EpochLeaves$Worker", "goOn", "(LEpochLeaves$Store;LEpochLeaves$Procedure;)I"⟩ ∈ jm_Wall := jm_inP (q := (⟨"EpochLeaves$Worker", "goOn", "(LEpochLeaves$Store;LEpochLeaves$Procedure;)I"⟩, 13)) (List.mem_of_getElem? (i := 5) (by decide +kernel))
theorem jp_6 : Cond.selects "EpochLeaves$Worker" ⟨"EpochLeaves$Worker", "giveAndLock", "(I)V"⟩ ⟨"EpochLeaves$Worker", "giveAndLock", "(I)V"⟩ ∈ jm_Wall := jm_inP (q := (⟨"EpochLeaves$Worker", "giveAndLock", "(I)V"⟩, 13)) (List.mem_of_getElem? (i := 6) (by decide +kernel))
theorem jp_7 : Cond.selects "EpochLeaves$Worker" ⟨"EpochLeaves$Worker", "abort", "(LEpochLeaves$Store;)I"⟩ ⟨"EpochLeaves$Worker", "abort", "(LEpochLeaves$Store;)I"⟩ ∈ jm_Wall := jm_inP (q := (⟨"EpochLeaves$Worker", "abort", "(LEpochLeaves$Store;)I"⟩, 13)) (List.mem_of_getElem? (i := 7) (by decide +kernel))
theorem jp_8 : Cond.selects "EpochLeaves$Worker" ⟨"EpochLeaves$Worker", "doGet", "(LEpochLeaves$Store;II)I"⟩ ⟨"EpochLeaves$Worker", "doGet", "(LEpochLeaves$Store;II)I"⟩ ∈ jm_Wall := jm_inP (q := (⟨"EpochLeaves$Worker", "doGet", "(LEpochLeaves$Store;II)I"⟩, 13)) (List.mem_of_getElem? (i := 8) (by decide +kernel))
theorem jp_9 : Cond.selects "EpochLeaves$Worker" ⟨"EpochLeaves$Worker", "mustWaitFor", "(LEpochLeaves$Store;I)Z"⟩ ⟨"EpochLeaves$Worker", "mustWaitFor", "(LEpochLeaves$Store;I)Z"⟩ ∈ jm_Wall := jm_inP (q := (⟨"EpochLeaves$Worker", "mustWaitFor", "(LEpochLeaves$Store;I)Z"⟩, 13)) (List.mem_of_getElem? (i := 9) (by decide +kernel))
theorem jp_10 : Cond.selects "EpochLeaves$Worker" ⟨"EpochLeaves$Worker", "keepSight", "(LEpochLeaves$Store;I)V"⟩ ⟨"EpochLeaves$Worker", "keepSight", "(LEpochLeaves$Store;I)V"⟩ ∈ jm_Wall := jm_inP (q := (⟨"EpochLeaves$Worker", "keepSight", "(LEpochLeaves$Store;I)V"⟩, 13)) (List.mem_of_getElem? (i := 10) (by decide +kernel))
theorem jp_11 : Cond.selects "EpochLeaves$Worker" ⟨"EpochLeaves$Worker", "keepNode", "(LEpochLeaves$Leaf;)V"⟩ ⟨"EpochLeaves$Worker", "keepNode", "(LEpochLeaves$Leaf;)V"⟩ ∈ jm_Wall := jm_inP (q := (⟨"EpochLeaves$Worker", "keepNode", "(LEpochLeaves$Leaf;)V"⟩, 13)) (List.mem_of_getElem? (i := 11) (by decide +kernel))
theorem jp_12 : Cond.selects "EpochLeaves$Worker" ⟨"EpochLeaves$Worker", "valueSeen", "(LEpochLeaves$Store;I)I"⟩ ⟨"EpochLeaves$Worker", "valueSeen", "(LEpochLeaves$Store;I)I"⟩ ∈ jm_Wall := jm_inP (q := (⟨"EpochLeaves$Worker", "valueSeen", "(LEpochLeaves$Store;I)I"⟩, 13)) (List.mem_of_getElem? (i := 12) (by decide +kernel))
theorem jp_13 : Cond.selects "EpochLeaves$Worker" ⟨"EpochLeaves$Worker", "seesValue", "(LEpochLeaves$Store;I)Z"⟩ ⟨"EpochLeaves$Worker", "seesValue", "(LEpochLeaves$Store;I)Z"⟩ ∈ jm_Wall := jm_inP (q := (⟨"EpochLeaves$Worker", "seesValue", "(LEpochLeaves$Store;I)Z"⟩, 13)) (List.mem_of_getElem? (i := 13) (by decide +kernel))
theorem jp_14 : Cond.selects "EpochLeaves$Worker" ⟨"EpochLeaves$Worker", "doPut", "(LEpochLeaves$Store;II)I"⟩ ⟨"EpochLeaves$Worker", "doPut", "(LEpochLeaves$Store;II)I"⟩ ∈ jm_Wall := jm_inP (q := (⟨"EpochLeaves$Worker", "doPut", "(LEpochLeaves$Store;II)I"⟩, 13)) (List.mem_of_getElem? (i := 14) (by decide +kernel))
theorem jp_15 : Cond.selects "EpochLeaves$Transaction" ⟨"EpochLeaves$Transaction", "keepWrite", "(III)V"⟩ ⟨"EpochLeaves$Transaction", "keepWrite", "(III)V"⟩ ∈ jm_Wall := jm_inP (q := (⟨"EpochLeaves$Transaction", "keepWrite", "(III)V"⟩, 7)) (List.mem_of_getElem? (i := 15) (by decide +kernel))
theorem jp_16 : Cond.selects "EpochLeaves$Worker" ⟨"EpochLeaves$Worker", "doDrop", "(LEpochLeaves$Store;I)I"⟩ ⟨"EpochLeaves$Worker", "doDrop", "(LEpochLeaves$Store;I)I"⟩ ∈ jm_Wall := jm_inP (q := (⟨"EpochLeaves$Worker", "doDrop", "(LEpochLeaves$Store;I)I"⟩, 13)) (List.mem_of_getElem? (i := 16) (by decide +kernel))
theorem jp_17 : Cond.selects "EpochLeaves$Worker" ⟨"EpochLeaves$Worker", "doSum", "(LEpochLeaves$Store;III)I"⟩ ⟨"EpochLeaves$Worker", "doSum", "(LEpochLeaves$Store;III)I"⟩ ∈ jm_Wall := jm_inP (q := (⟨"EpochLeaves$Worker", "doSum", "(LEpochLeaves$Store;III)I"⟩, 13)) (List.mem_of_getElem? (i := 17) (by decide +kernel))
theorem jp_18 : Cond.selects "EpochLeaves$Worker" ⟨"EpochLeaves$Worker", "reckon", "(III)I"⟩ ⟨"EpochLeaves$Worker", "reckon", "(III)I"⟩ ∈ jm_Wall := jm_inP (q := (⟨"EpochLeaves$Worker", "reckon", "(III)I"⟩, 13)) (List.mem_of_getElem? (i := 18) (by decide +kernel))
theorem jp_19 : Cond.selects "EpochLeaves$Worker" ⟨"EpochLeaves$Worker", "lockOne", "(LEpochLeaves$Store;I)I"⟩ ⟨"EpochLeaves$Worker", "lockOne", "(LEpochLeaves$Store;I)I"⟩ ∈ jm_Wall := jm_inP (q := (⟨"EpochLeaves$Worker", "lockOne", "(LEpochLeaves$Store;I)I"⟩, 13)) (List.mem_of_getElem? (i := 19) (by decide +kernel))
theorem jp_20 : Cond.selects "EpochLeaves$Worker" ⟨"EpochLeaves$Worker", "leastWrite", "(LEpochLeaves$Store;Z)I"⟩ ⟨"EpochLeaves$Worker", "leastWrite", "(LEpochLeaves$Store;Z)I"⟩ ∈ jm_Wall := jm_inP (q := (⟨"EpochLeaves$Worker", "leastWrite", "(LEpochLeaves$Store;Z)I"⟩, 13)) (List.mem_of_getElem? (i := 20) (by decide +kernel))
theorem jp_21 : Cond.selects "EpochLeaves$Worker" ⟨"EpochLeaves$Worker", "addRecord", "(LEpochLeaves$Store;I)V"⟩ ⟨"EpochLeaves$Worker", "addRecord", "(LEpochLeaves$Store;I)V"⟩ ∈ jm_Wall := jm_inP (q := (⟨"EpochLeaves$Worker", "addRecord", "(LEpochLeaves$Store;I)V"⟩, 13)) (List.mem_of_getElem? (i := 21) (by decide +kernel))
theorem jp_22 : Cond.selects "EpochLeaves$Store" ⟨"EpochLeaves$Store", "openLeafAt", "(I)LEpochLeaves$Leaf;"⟩ ⟨"EpochLeaves$Store", "openLeafAt", "(I)LEpochLeaves$Leaf;"⟩ ∈ jm_Wall := jm_inP (q := (⟨"EpochLeaves$Store", "openLeafAt", "(I)LEpochLeaves$Leaf;"⟩, 7)) (List.mem_of_getElem? (i := 22) (by decide +kernel))
theorem jp_23 : Cond.selects "EpochLeaves$Worker" ⟨"EpochLeaves$Worker", "lookAgain", "(LEpochLeaves$Store;)I"⟩ ⟨"EpochLeaves$Worker", "lookAgain", "(LEpochLeaves$Store;)I"⟩ ∈ jm_Wall := jm_inP (q := (⟨"EpochLeaves$Worker", "lookAgain", "(LEpochLeaves$Store;)I"⟩, 13)) (List.mem_of_getElem? (i := 23) (by decide +kernel))
theorem jp_24 : Cond.selects "EpochLeaves$Worker" ⟨"EpochLeaves$Worker", "readsHold", "(LEpochLeaves$Store;)Z"⟩ ⟨"EpochLeaves$Worker", "readsHold", "(LEpochLeaves$Store;)Z"⟩ ∈ jm_Wall := jm_inP (q := (⟨"EpochLeaves$Worker", "readsHold", "(LEpochLeaves$Store;)Z"⟩, 13)) (List.mem_of_getElem? (i := 24) (by decide +kernel))
theorem jp_25 : Cond.selects "EpochLeaves$Worker" ⟨"EpochLeaves$Worker", "nodesHold", "(LEpochLeaves$Store;)Z"⟩ ⟨"EpochLeaves$Worker", "nodesHold", "(LEpochLeaves$Store;)Z"⟩ ∈ jm_Wall := jm_inP (q := (⟨"EpochLeaves$Worker", "nodesHold", "(LEpochLeaves$Store;)Z"⟩, 13)) (List.mem_of_getElem? (i := 25) (by decide +kernel))
theorem jp_26 : Cond.selects "EpochLeaves$Worker" ⟨"EpochLeaves$Worker", "nextStamp", "(LEpochLeaves$Store;)I"⟩ ⟨"EpochLeaves$Worker", "nextStamp", "(LEpochLeaves$Store;)I"⟩ ∈ jm_Wall := jm_inP (q := (⟨"EpochLeaves$Worker", "nextStamp", "(LEpochLeaves$Store;)I"⟩, 13)) (List.mem_of_getElem? (i := 26) (by decide +kernel))
theorem jp_27 : Cond.selects "EpochLeaves$Worker" ⟨"EpochLeaves$Worker", "installOne", "(LEpochLeaves$Store;)I"⟩ ⟨"EpochLeaves$Worker", "installOne", "(LEpochLeaves$Store;)I"⟩ ∈ jm_Wall := jm_inP (q := (⟨"EpochLeaves$Worker", "installOne", "(LEpochLeaves$Store;)I"⟩, 13)) (List.mem_of_getElem? (i := 27) (by decide +kernel))
theorem jp_28 : Cond.selects "EpochLeaves" ⟨"EpochLeaves", "releaseAllDue", "()I"⟩ ⟨"EpochLeaves", "releaseAllDue", "()I"⟩ ∈ jm_Wall := jm_inP (q := (⟨"EpochLeaves", "releaseAllDue", "()I"⟩, 6)) (List.mem_of_getElem? (i := 28) (by decide +kernel))
theorem jp_29 : Cond.selects "EpochLeaves" ⟨"EpochLeaves", "durableEpoch", "()I"⟩ ⟨"EpochLeaves", "durableEpoch", "()I"⟩ ∈ jm_Wall := jm_inP (q := (⟨"EpochLeaves", "durableEpoch", "()I"⟩, 6)) (List.mem_of_getElem? (i := 29) (by decide +kernel))
theorem jp_30 : Cond.selects "java/util/ArrayList" ⟨"java/util/ArrayList", "fastRemove", "([Ljava/lang/Object;I)V"⟩ ⟨"java/util/ArrayList", "fastRemove", "([Ljava/lang/Object;I)V"⟩ ∈ jm_Wall := jm_inP (q := (⟨"java/util/ArrayList", "fastRemove", "([Ljava/lang/Object;I)V"⟩, 3)) (List.mem_of_getElem? (i := 30) (by decide +kernel))
theorem jp_31 : Cond.selects "EpochLeaves" ⟨"EpochLeaves", "recover", "(I)V"⟩ ⟨"EpochLeaves", "recover", "(I)V"⟩ ∈ jm_Wall := jm_inP (q := (⟨"EpochLeaves", "recover", "(I)V"⟩, 6)) (List.mem_of_getElem? (i := 31) (by decide +kernel))
theorem jp_32 : Cond.selects "EpochLeaves" ⟨"EpochLeaves", "isTransaction", "(I)Z"⟩ ⟨"EpochLeaves", "isTransaction", "(I)Z"⟩ ∈ jm_Wall := jm_inP (q := (⟨"EpochLeaves", "isTransaction", "(I)Z"⟩, 6)) (List.mem_of_getElem? (i := 32) (by decide +kernel))
theorem jp_33 : Cond.selects "EpochLeavesModel" ⟨"EpochLeavesModel", "oneStep", "(I)I"⟩ ⟨"EpochLeavesModel", "oneStep", "(I)I"⟩ ∈ jm_Wall := jm_inP (q := (⟨"EpochLeavesModel", "oneStep", "(I)I"⟩, 43)) (List.mem_of_getElem? (i := 33) (by decide +kernel))
theorem jp_34 : Cond.selects "EpochLeavesModel" ⟨"EpochLeavesModel", "instruction", "(I)I"⟩ ⟨"EpochLeavesModel", "instruction", "(I)I"⟩ ∈ jm_Wall := jm_inP (q := (⟨"EpochLeavesModel", "instruction", "(I)I"⟩, 43)) (List.mem_of_getElem? (i := 34) (by decide +kernel))
theorem jp_35 : Cond.selects "EpochLeavesModel" ⟨"EpochLeavesModel", "give", "(II)V"⟩ ⟨"EpochLeavesModel", "give", "(II)V"⟩ ∈ jm_Wall := jm_inP (q := (⟨"EpochLeavesModel", "give", "(II)V"⟩, 43)) (List.mem_of_getElem? (i := 35) (by decide +kernel))
theorem jp_36 : Cond.selects "EpochLeavesModel" ⟨"EpochLeavesModel", "abort", "(I)I"⟩ ⟨"EpochLeavesModel", "abort", "(I)I"⟩ ∈ jm_Wall := jm_inP (q := (⟨"EpochLeavesModel", "abort", "(I)I"⟩, 43)) (List.mem_of_getElem? (i := 36) (by decide +kernel))
theorem jp_37 : Cond.selects "EpochLeavesModel" ⟨"EpochLeavesModel", "reg", "(II)I"⟩ ⟨"EpochLeavesModel", "reg", "(II)I"⟩ ∈ jm_Wall := jm_inP (q := (⟨"EpochLeavesModel", "reg", "(II)I"⟩, 43)) (List.mem_of_getElem? (i := 37) (by decide +kernel))
theorem jp_38 : Cond.selects "EpochLeavesModel" ⟨"EpochLeavesModel", "sum", "(II)I"⟩ ⟨"EpochLeavesModel", "sum", "(II)I"⟩ ∈ jm_Wall := jm_inP (q := (⟨"EpochLeavesModel", "sum", "(II)I"⟩, 43)) (List.mem_of_getElem? (i := 38) (by decide +kernel))
theorem jp_39 : Cond.selects "EpochLeavesModel" ⟨"EpochLeavesModel", "isShut", "(II)Z"⟩ ⟨"EpochLeavesModel", "isShut", "(II)Z"⟩ ∈ jm_Wall := jm_inP (q := (⟨"EpochLeavesModel", "isShut", "(II)Z"⟩, 43)) (List.mem_of_getElem? (i := 39) (by decide +kernel))
theorem jp_40 : Cond.selects "EpochLeavesModel" ⟨"EpochLeavesModel", "see", "(II)Z"⟩ ⟨"EpochLeavesModel", "see", "(II)Z"⟩ ∈ jm_Wall := jm_inP (q := (⟨"EpochLeavesModel", "see", "(II)Z"⟩, 43)) (List.mem_of_getElem? (i := 40) (by decide +kernel))
theorem jp_41 : Cond.selects "EpochLeavesModel" ⟨"EpochLeavesModel", "leafOf", "(I)I"⟩ ⟨"EpochLeavesModel", "leafOf", "(I)I"⟩ ∈ jm_Wall := jm_inP (q := (⟨"EpochLeavesModel", "leafOf", "(I)I"⟩, 43)) (List.mem_of_getElem? (i := 41) (by decide +kernel))
theorem jp_42 : Cond.selects "EpochLeavesModel" ⟨"EpochLeavesModel", "placeOf", "(I)I"⟩ ⟨"EpochLeavesModel", "placeOf", "(I)I"⟩ ∈ jm_Wall := jm_inP (q := (⟨"EpochLeavesModel", "placeOf", "(I)I"⟩, 43)) (List.mem_of_getElem? (i := 42) (by decide +kernel))
theorem jp_43 : Cond.selects "EpochLeavesModel" ⟨"EpochLeavesModel", "least", "(I)I"⟩ ⟨"EpochLeavesModel", "least", "(I)I"⟩ ∈ jm_Wall := jm_inP (q := (⟨"EpochLeavesModel", "least", "(I)I"⟩, 43)) (List.mem_of_getElem? (i := 43) (by decide +kernel))
theorem jp_44 : Cond.selects "EpochLeavesModel" ⟨"EpochLeavesModel", "keepNode", "(II)V"⟩ ⟨"EpochLeavesModel", "keepNode", "(II)V"⟩ ∈ jm_Wall := jm_inP (q := (⟨"EpochLeavesModel", "keepNode", "(II)V"⟩, 43)) (List.mem_of_getElem? (i := 44) (by decide +kernel))
theorem jp_45 : Cond.selects "EpochLeavesModel" ⟨"EpochLeavesModel", "valueSeen", "(II)I"⟩ ⟨"EpochLeavesModel", "valueSeen", "(II)I"⟩ ∈ jm_Wall := jm_inP (q := (⟨"EpochLeavesModel", "valueSeen", "(II)I"⟩, 43)) (List.mem_of_getElem? (i := 45) (by decide +kernel))
theorem jp_46 : Cond.selects "EpochLeavesModel" ⟨"EpochLeavesModel", "set", "(III)V"⟩ ⟨"EpochLeavesModel", "set", "(III)V"⟩ ∈ jm_Wall := jm_inP (q := (⟨"EpochLeavesModel", "set", "(III)V"⟩, 43)) (List.mem_of_getElem? (i := 46) (by decide +kernel))
theorem jp_47 : Cond.selects "EpochLeavesModel" ⟨"EpochLeavesModel", "get", "(II)I"⟩ ⟨"EpochLeavesModel", "get", "(II)I"⟩ ∈ jm_Wall := jm_inP (q := (⟨"EpochLeavesModel", "get", "(II)I"⟩, 43)) (List.mem_of_getElem? (i := 47) (by decide +kernel))
theorem jp_48 : Cond.selects "EpochLeavesModel" ⟨"EpochLeavesModel", "arithmetic", "(II)V"⟩ ⟨"EpochLeavesModel", "arithmetic", "(II)V"⟩ ∈ jm_Wall := jm_inP (q := (⟨"EpochLeavesModel", "arithmetic", "(II)V"⟩, 43)) (List.mem_of_getElem? (i := 48) (by decide +kernel))
theorem jp_49 : Cond.selects "EpochLeavesModel" ⟨"EpochLeavesModel", "write", "(IIZI)V"⟩ ⟨"EpochLeavesModel", "write", "(IIZI)V"⟩ ∈ jm_Wall := jm_inP (q := (⟨"EpochLeavesModel", "write", "(IIZI)V"⟩, 43)) (List.mem_of_getElem? (i := 49) (by decide +kernel))
theorem jp_50 : Cond.selects "EpochLeavesModel" ⟨"EpochLeavesModel", "lockNext", "(I)I"⟩ ⟨"EpochLeavesModel", "lockNext", "(I)I"⟩ ∈ jm_Wall := jm_inP (q := (⟨"EpochLeavesModel", "lockNext", "(I)I"⟩, 43)) (List.mem_of_getElem? (i := 50) (by decide +kernel))
theorem jp_51 : Cond.selects "EpochLeavesModel" ⟨"EpochLeavesModel", "addRecord", "(I)I"⟩ ⟨"EpochLeavesModel", "addRecord", "(I)I"⟩ ∈ jm_Wall := jm_inP (q := (⟨"EpochLeavesModel", "addRecord", "(I)I"⟩, 43)) (List.mem_of_getElem? (i := 51) (by decide +kernel))
theorem jp_52 : Cond.selects "EpochLeavesModel" ⟨"EpochLeavesModel", "many", "(I)I"⟩ ⟨"EpochLeavesModel", "many", "(I)I"⟩ ∈ jm_Wall := jm_inP (q := (⟨"EpochLeavesModel", "many", "(I)I"⟩, 43)) (List.mem_of_getElem? (i := 52) (by decide +kernel))
theorem jp_53 : Cond.selects "EpochLeavesModel" ⟨"EpochLeavesModel", "check", "(I)I"⟩ ⟨"EpochLeavesModel", "check", "(I)I"⟩ ∈ jm_Wall := jm_inP (q := (⟨"EpochLeavesModel", "check", "(I)I"⟩, 43)) (List.mem_of_getElem? (i := 53) (by decide +kernel))
theorem jp_54 : Cond.selects "EpochLeavesModel" ⟨"EpochLeavesModel", "install", "(I)I"⟩ ⟨"EpochLeavesModel", "install", "(I)I"⟩ ∈ jm_Wall := jm_inP (q := (⟨"EpochLeavesModel", "install", "(I)I"⟩, 43)) (List.mem_of_getElem? (i := 54) (by decide +kernel))
theorem jp_55 : Cond.selects "EpochLeavesModel" ⟨"EpochLeavesModel", "commit", "(I)I"⟩ ⟨"EpochLeavesModel", "commit", "(I)I"⟩ ∈ jm_Wall := jm_inP (q := (⟨"EpochLeavesModel", "commit", "(I)I"⟩, 43)) (List.mem_of_getElem? (i := 55) (by decide +kernel))
theorem jp_56 : Cond.selects "EpochLeavesModel" ⟨"EpochLeavesModel", "release", "()I"⟩ ⟨"EpochLeavesModel", "release", "()I"⟩ ∈ jm_Wall := jm_inP (q := (⟨"EpochLeavesModel", "release", "()I"⟩, 43)) (List.mem_of_getElem? (i := 56) (by decide +kernel))
theorem jp_57 : Cond.selects "EpochLeavesModel" ⟨"EpochLeavesModel", "durableEpoch", "()I"⟩ ⟨"EpochLeavesModel", "durableEpoch", "()I"⟩ ∈ jm_Wall := jm_inP (q := (⟨"EpochLeavesModel", "durableEpoch", "()I"⟩, 43)) (List.mem_of_getElem? (i := 57) (by decide +kernel))
theorem jp_58 : Cond.selects "EpochLeavesModel" ⟨"EpochLeavesModel", "isPutting", "(I)Z"⟩ ⟨"EpochLeavesModel", "isPutting", "(I)Z"⟩ ∈ jm_Wall := jm_inP (q := (⟨"EpochLeavesModel", "isPutting", "(I)Z"⟩, 43)) (List.mem_of_getElem? (i := 58) (by decide +kernel))
theorem jp_59 : Cond.selects "EpochLeavesModel" ⟨"EpochLeavesModel", "isLogged", "(I)Z"⟩ ⟨"EpochLeavesModel", "isLogged", "(I)Z"⟩ ∈ jm_Wall := jm_inP (q := (⟨"EpochLeavesModel", "isLogged", "(I)Z"⟩, 43)) (List.mem_of_getElem? (i := 59) (by decide +kernel))
theorem jp_60 : Cond.selects "EpochLeavesModel" ⟨"EpochLeavesModel", "lastWriter", "(I)I"⟩ ⟨"EpochLeavesModel", "lastWriter", "(I)I"⟩ ∈ jm_Wall := jm_inP (q := (⟨"EpochLeavesModel", "lastWriter", "(I)I"⟩, 43)) (List.mem_of_getElem? (i := 60) (by decide +kernel))
theorem jp_61 : Cond.selects "EpochLeavesModel" ⟨"EpochLeavesModel", "counted", "(II)I"⟩ ⟨"EpochLeavesModel", "counted", "(II)I"⟩ ∈ jm_Wall := jm_inP (q := (⟨"EpochLeavesModel", "counted", "(II)I"⟩, 43)) (List.mem_of_getElem? (i := 61) (by decide +kernel))
