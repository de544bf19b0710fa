theorem jm_chk_100 : jm_chkL 100 = true := by decide +kernel
theorem jm_chk_101 : jm_chkL 101 = true := by decide +kernel
theorem jm_chk_102 : jm_chkL 102 = true := by decide +kernel
theorem jm_chk_103 : jm_chkL 103 = true := by decide +kernel
theorem jm_chk_104 : jm_chkL 104 = true := by decide +kernel
theorem jm_chk_105 : jm_chkL 105 = true := by decide +kernel
theorem jm_chk_106 : jm_chkL 106 = true := by decide +kernel
theorem jm_chk_107 : jm_chkL 107 = true := by decide +kernel
theorem jm_chk_108 : jm_chkL 108 = true := by decide +kernel
theorem jm_chk_109 : jm_chkL 109 = true := by decide +kernel
theorem jm_chk_110 : jm_chkL 110 = true := by decide +kernel
theorem jm_chk_111 : jm_chkL 111 = true := by decide +kernel
theorem jm_chk_112 : jm_chkL 112 = true := by decide +kernel
theorem jm_chk_113 : jm_chkL 113 = true := by decide +kernel
theorem jm_chk_114 : jm_chkL 114 = true := by decide +kernel
theorem jm_chk_115 : jm_chkL 115 = true := by decide +kernel
theorem jm_chk_116 : jm_chkL 116 = true := by decide +kernel
theorem jm_chk_117 : jm_chkL 117 = true := by decide +kernel
theorem jm_chk_118 : jm_chkL 118 = true := by decide +kernel
theorem jm_chk_119 : jm_chkL 119 = true := by decide +kernel
theorem jm_chk_120 : jm_chkL 120 = true := by decide +kernel
theorem jm_chk_121 : jm_chkL 121 = true := by decide +kernel
theorem jm_chk_122 : jm_chkL 122 = true := by decide +kernel
theorem jm_chk_123 : jm_chkL 123 = true := by decide +kernel
theorem jm_chk_124 : jm_chkL 124 = true := by decide +kernel
theorem jm_chk_125 : jm_chkL 125 = true := by decide +kernel
theorem jm_chk_126 : jm_chkL 126 = true := by decide +kernel
theorem jm_chk_127 : jm_chkL 127 = true := by decide +kernel
theorem jm_chk_128 : jm_chkL 128 = true := by decide +kernel
theorem jm_chk_129 : jm_chkL 129 = true := by decide +kernel
theorem jm_chk_130 : jm_chkL 130 = true := by decide +kernel
theorem jm_chk_131 : jm_chkL 131 = true := by decide +kernel
theorem jm_chk_132 : jm_chkL 132 = true := by decide +kernel
theorem jm_chk_133 : jm_chkL 133 = true := by decide +kernel
theorem jm_chk_134 : jm_chkL 134 = true := by decide +kernel
theorem jm_chk_135 : jm_chkL 135 = true := by decide +kernel
theorem jm_chk_136 : jm_chkL 136 = true := by decide +kernel
theorem jm_chk_137 : jm_chkL 137 = true := by decide +kernel
theorem jm_chk_138 : jm_chkL 138 = true := by decide +kernel
theorem jm_chk_139 : jm_chkL 139 = true := by decide +kernel
theorem jm_chk_140 : jm_chkL 140 = true := by decide +kernel
theorem jm_chk_141 : jm_chkL 141 = true := by decide +kernel
theorem jm_chk_142 : jm_chkL 142 = true := by decide +kernel
theorem jm_chk_143 : jm_chkL 143 = true := by decide +kernel
theorem jm_chk_144 : jm_chkL 144 = true := by decide +kernel
theorem jm_chk_145 : jm_chkL 145 = true := by decide +kernel
theorem jm_chk_146 : jm_chkL 146 = true := by decide +kernel
theorem jm_chk_147 : jm_chkL 147 = true := by decide +kernel
theorem jm_chk_148 : jm_chkL 148 = true := by decide +kernel
theorem jm_chk_149 : jm_chkL 149 = true := by decide +kernel
theorem jm_chkT : ∀ i, i < 150 → jm_chkL i = true := lt_s (lt_s (lt_s (lt_s (lt_s (lt_s (lt_s (lt_s (lt_s (lt_s (lt_s (lt_s (lt_s (lt_s (lt_s (lt_s (lt_s (lt_s (lt_s (lt_s (lt_s (lt_s (lt_s (lt_s (lt_s (lt_s (lt_s (lt_s (lt_s (lt_s (lt_s (lt_s (lt_s (lt_s (lt_s (lt_s (lt_s (lt_s (lt_s (lt_s (lt_s (lt_s (lt_s (lt_s (lt_s (lt_s (lt_s (lt_s (lt_s (lt_s (lt_s (lt_s (lt_s (lt_s (lt_s (lt_s (lt_s (lt_s (lt_s (lt_s (lt_s (lt_s (lt_s (lt_s (lt_s (lt_s (lt_s (lt_s (lt_s (lt_s (lt_s (lt_s (lt_s (lt_s (lt_s (lt_s (lt_s (lt_s (lt_s (lt_s (lt_s (lt_s (lt_s (lt_s (lt_s (lt_s (lt_s (lt_s (lt_s (lt_s (lt_s (lt_s (lt_s (lt_s (lt_s (lt_s (lt_s (lt_s (lt_s (lt_s (lt_s (lt_s (lt_s (lt_s (lt_s (lt_s (lt_s (lt_s (lt_s (lt_s (lt_s (lt_s (lt_s (lt_s (lt_s (lt_s (lt_s (lt_s (lt_s (lt_s (lt_s (lt_s (lt_s (lt_s (lt_s (lt_s (lt_s (lt_s (lt_s (lt_s (lt_s (lt_s (lt_s (lt_s (lt_s (lt_s (lt_s (lt_s (lt_s (lt_s (lt_s (lt_s (lt_s (lt_s (lt_s (lt_s (lt_s (lt_s (lt_s (lt_s (lt_0) jm_chk_0) jm_chk_1) jm_chk_2) jm_chk_3) jm_chk_4) jm_chk_5) jm_chk_6) jm_chk_7) jm_chk_8) jm_chk_9) jm_chk_10) jm_chk_11) jm_chk_12) jm_chk_13) jm_chk_14) jm_chk_15) jm_chk_16) jm_chk_17) jm_chk_18) jm_chk_19) jm_chk_20) jm_chk_21) jm_chk_22) jm_chk_23) jm_chk_24) jm_chk_25) jm_chk_26) jm_chk_27) jm_chk_28) jm_chk_29) jm_chk_30) jm_chk_31) jm_chk_32) jm_chk_33) jm_chk_34) jm_chk_35) jm_chk_36) jm_chk_37) jm_chk_38) jm_chk_39) jm_chk_40) jm_chk_41) jm_chk_42) jm_chk_43) jm_chk_44) jm_chk_45) jm_chk_46) jm_chk_47) jm_chk_48) jm_chk_49) jm_chk_50) jm_chk_51) jm_chk_52) jm_chk_53) jm_chk_54) jm_chk_55) jm_chk_56) jm_chk_57) jm_chk_58) jm_chk_59) jm_chk_60) jm_chk_61) jm_chk_62) jm_chk_63) jm_chk_64) jm_chk_65) jm_chk_66) jm_chk_67) jm_chk_68) jm_chk_69) jm_chk_70) jm_chk_71) jm_chk_72) jm_chk_73) jm_chk_74) jm_chk_75) jm_chk_76) jm_chk_77) jm_chk_78) jm_chk_79) jm_chk_80) jm_chk_81) jm_chk_82) jm_chk_83) jm_chk_84) jm_chk_85) jm_chk_86) jm_chk_87) jm_chk_88) jm_chk_89) jm_chk_90) jm_chk_91) jm_chk_92) jm_chk_93) jm_chk_94) jm_chk_95) jm_chk_96) jm_chk_97) jm_chk_98) jm_chk_99) jm_chk_100) jm_chk_101) jm_chk_102) jm_chk_103) jm_chk_104) jm_chk_105) jm_chk_106) jm_chk_107) jm_chk_108) jm_chk_109) jm_chk_110) jm_chk_111) jm_chk_112) jm_chk_113) jm_chk_114) jm_chk_115) jm_chk_116) jm_chk_117) jm_chk_118) jm_chk_119) jm_chk_120) jm_chk_121) jm_chk_122) jm_chk_123) jm_chk_124) jm_chk_125) jm_chk_126) jm_chk_127) jm_chk_128) jm_chk_129) jm_chk_130) jm_chk_131) jm_chk_132) jm_chk_133) jm_chk_134) jm_chk_135) jm_chk_136) jm_chk_137) jm_chk_138) jm_chk_139) jm_chk_140) jm_chk_141) jm_chk_142) jm_chk_143) jm_chk_144) jm_chk_145) jm_chk_146) jm_chk_147) jm_chk_148) jm_chk_149
theorem jm_chk_all (i ix : Nat) (e : jm_T) (hc : (jm_code i)[ix]? = some e) : jm_chk i ix e = true := by
  by_cases h : i < 150
  · exact jm_chkL_s (jm_chkT i h) hc
  · have : jm_code i = [] := by
      unfold jm_code
      rw [List.getD_eq_getElem?_getD, List.getElem?_eq_none (by show 150 ≤ i; omega)]
      rfl
    rw [this] at hc
    cases hc
