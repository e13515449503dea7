abbrev cX9_level : ByteArray := prog_11_method_2_code
def yX9_level : MethodName := ⟨RX9, "level", "(I)V"⟩
theorem okX9_level : yok yX9_level 1 := by decide +kernel
abbrev cX9_carry : ByteArray := prog_11_method_6_code
def yX9_carry : MethodName := ⟨RX9, "carry", "([IIII)V"⟩
theorem okX9_carry : yok yX9_carry 4 := by decide +kernel
abbrev cX9_sweep : ByteArray := prog_11_method_5_code
def yX9_sweep : MethodName := ⟨RX9, "sweep", "([IZ)V"⟩
theorem okX9_sweep : yok yX9_sweep 2 := by decide +kernel
abbrev cX6_begin : ByteArray := prog_8_method_2_code
def yX6_begin : MethodName := ⟨RX6, "begin", "(III)V"⟩
theorem okX6_begin : yok yX6_begin 3 := by decide +kernel
abbrev cX6_lay : ByteArray := prog_8_method_8_code
def yX6_lay : MethodName := ⟨RX6, "lay", "(IJ)V"⟩
theorem okX6_lay : yok yX6_lay 2 := by decide +kernel
abbrev cX6_firstBelowFloor : ByteArray := prog_8_method_10_code
def yX6_firstBelowFloor : MethodName := ⟨RX6, "firstBelowFloor", "()I"⟩
theorem okX6_firstBelowFloor : yok yX6_firstBelowFloor 0 := by decide +kernel
abbrev cX6_findClash : ByteArray := prog_8_method_7_code
def yX6_findClash : MethodName := ⟨RX6, "findClash", "(IJ)J"⟩
theorem okX6_findClash : yok yX6_findClash 2 := by decide +kernel
abbrev cX6_saysAnything : ByteArray := prog_8_method_4_code
def yX6_saysAnything : MethodName := ⟨RX6, "saysAnything", "(J)Z"⟩
theorem okX6_saysAnything : yok yX6_saysAnything 1 := by decide +kernel
abbrev cX6_weigh : ByteArray := prog_8_method_5_code
def yX6_weigh : MethodName := ⟨RX6, "weigh", "(LLandSurvey$Ground;JJII)V"⟩
theorem okX6_weigh : yok yX6_weigh 5 := by decide +kernel
abbrev cX6_solve : ByteArray := prog_8_method_3_code
def yX6_solve : MethodName := ⟨RX6, "solve", "(LLandSurvey$Ground;)V"⟩
theorem okX6_solve : yok yX6_solve 1 := by decide +kernel
abbrev cX4_ofDay : ByteArray := prog_6_method_2_code
def yX4_ofDay : MethodName := ⟨RX4, "ofDay", "(I)LLandSurvey$Rules;"⟩
theorem okX4_ofDay : yok yX4_ofDay 1 := by decide +kernel
abbrev cX11_dayShown : ByteArray := prog_1_method_45_code
def yX11_dayShown : MethodName := ⟨RX11, "dayShown", "()I"⟩
theorem okX11_dayShown : yok yX11_dayShown 0 := by decide +kernel
abbrev cX11_settle : ByteArray := prog_1_method_46_code
def yX11_settle : MethodName := ⟨RX11, "settle", "()V"⟩
theorem okX11_settle : yok yX11_settle 0 := by decide +kernel
abbrev cX11_isSet : ByteArray := prog_1_method_43_code
def yX11_isSet : MethodName := ⟨RX11, "isSet", "(I)Z"⟩
theorem okX11_isSet : yok yX11_isSet 1 := by decide +kernel
theorem kw_1078 : Cond.methodLink "LandSurvey$Slopes" 22 yJ7_fill_53178 ∈ uu := uu_in (i := 1078) (by decide +kernel) (by decide +kernel)
theorem kw_1081 : Cond.code yJ7_fill_d0a16 prog_28_method_101_code 5 none ∈ uu := uu_in (i := 1081) (by decide +kernel) (by decide +kernel)
theorem kw_1079 : Cond.methodLink "LandSurvey$Slopes" 28 yJ7_fill_d0a16 ∈ uu := uu_in (i := 1079) (by decide +kernel) (by decide +kernel)
theorem kw_1080 : Cond.static yJ7_fill_d0a16 ∈ uu := uu_in (i := 1080) (by decide +kernel) (by decide +kernel)
theorem kw_1116 : Cond.code yX9_carry prog_11_method_6_code 6 none ∈ uu := uu_in (i := 1116) (by decide +kernel) (by decide +kernel)
theorem kw_1113 : Cond.methodLink "LandSurvey$Slopes" 50 yX9_carry ∈ uu := uu_in (i := 1113) (by decide +kernel) (by decide +kernel)
theorem kw_1115 : Cond.instanceMethod yX9_carry ∈ uu := uu_in (i := 1115) (by decide +kernel) (by decide +kernel)
theorem kw_33 : Cond.selects "LandSurvey$Slopes" yX9_carry yX9_carry ∈ uu := uu_in (i := 33) (by decide +kernel) (by decide +kernel)
theorem kw_427 : Cond.fieldLink "LandSurvey$Search" 46 "LandSurvey$Search" "sightCount" "I" ∈ uu := uu_in (i := 427) (by decide +kernel) (by decide +kernel)
theorem kw_428 : Cond.fieldLink "LandSurvey$Search" 50 "LandSurvey$Search" "breakCount" "I" ∈ uu := uu_in (i := 428) (by decide +kernel) (by decide +kernel)
theorem kw_429 : Cond.fieldLink "LandSurvey$Search" 53 "LandSurvey$Search" "steep" "I" ∈ uu := uu_in (i := 429) (by decide +kernel) (by decide +kernel)
theorem kw_1077 : Cond.code yX9_level prog_11_method_2_code 2 none ∈ uu := uu_in (i := 1077) (by decide +kernel) (by decide +kernel)
theorem kw_1074 : Cond.methodLink "LandSurvey$Search" 136 yX9_level ∈ uu := uu_in (i := 1074) (by decide +kernel) (by decide +kernel)
theorem kw_1075 : Cond.instanceMethod yX9_level ∈ uu := uu_in (i := 1075) (by decide +kernel) (by decide +kernel)
theorem kw_1076 : Cond.selects "LandSurvey$Slopes" yX9_level yX9_level ∈ uu := uu_in (i := 1076) (by decide +kernel) (by decide +kernel)
theorem kw_1082 : Cond.constant "LandSurvey$Search" 140 (268435456) ∈ uu := uu_in (i := 1082) (by decide +kernel) (by decide +kernel)
theorem kw_1083 : Cond.methodLink "LandSurvey$Search" 141 yJ7_fill_53178 ∈ uu := uu_in (i := 1083) (by decide +kernel) (by decide +kernel)
theorem kw_1084 : Cond.constant "LandSurvey$Search" 147 (-268435456) ∈ uu := uu_in (i := 1084) (by decide +kernel) (by decide +kernel)
theorem kw_1073 : Cond.code yX6_lay prog_8_method_8_code 8 none ∈ uu := uu_in (i := 1073) (by decide +kernel) (by decide +kernel)
theorem kw_1070 : Cond.methodLink "LandSurvey$Search" 111 yX6_lay ∈ uu := uu_in (i := 1070) (by decide +kernel) (by decide +kernel)
theorem kw_1071 : Cond.instanceMethod yX6_lay ∈ uu := uu_in (i := 1071) (by decide +kernel) (by decide +kernel)
theorem kw_1072 : Cond.selects "LandSurvey$Search" yX6_lay yX6_lay ∈ uu := uu_in (i := 1072) (by decide +kernel) (by decide +kernel)
theorem kw_438 : Cond.fieldLink "LandSurvey$Search" 100 "LandSurvey$Search" "fits" "Z" ∈ uu := uu_in (i := 438) (by decide +kernel) (by decide +kernel)
theorem kw_1100 : Cond.code yX6_firstBelowFloor prog_8_method_10_code 2 (some .int) ∈ uu := uu_in (i := 1100) (by decide +kernel) (by decide +kernel)
theorem kw_1097 : Cond.methodLink "LandSurvey$Search" 115 yX6_firstBelowFloor ∈ uu := uu_in (i := 1097) (by decide +kernel) (by decide +kernel)
theorem kw_1099 : Cond.instanceMethod yX6_firstBelowFloor ∈ uu := uu_in (i := 1099) (by decide +kernel) (by decide +kernel)
theorem kw_30 : Cond.selects "LandSurvey$Search" yX6_firstBelowFloor yX6_firstBelowFloor ∈ uu := uu_in (i := 30) (by decide +kernel) (by decide +kernel)
theorem kw_414 : Cond.fieldLink "LandSurvey$Search" 123 "LandSurvey$Slopes" "moved" "Z" ∈ uu := uu_in (i := 414) (by decide +kernel) (by decide +kernel)
theorem kw_1112 : Cond.code yX9_sweep prog_11_method_5_code 5 none ∈ uu := uu_in (i := 1112) (by decide +kernel) (by decide +kernel)
theorem kw_1109 : Cond.methodLink "LandSurvey$Search" 126 yX9_sweep ∈ uu := uu_in (i := 1109) (by decide +kernel) (by decide +kernel)
theorem kw_1110 : Cond.instanceMethod yX9_sweep ∈ uu := uu_in (i := 1110) (by decide +kernel) (by decide +kernel)
theorem kw_1111 : Cond.selects "LandSurvey$Slopes" yX9_sweep yX9_sweep ∈ uu := uu_in (i := 1111) (by decide +kernel) (by decide +kernel)
theorem kw_1014 : Cond.fieldLink "LandSurvey$Search" 68 "LandSurvey$Ground" "set" "I" ∈ uu := uu_in (i := 1014) (by decide +kernel) (by decide +kernel)
theorem kw_1069 : Cond.code yX6_findClash prog_8_method_7_code 7 (some .long) ∈ uu := uu_in (i := 1069) (by decide +kernel) (by decide +kernel)
theorem kw_1066 : Cond.methodLink "LandSurvey$Search" 96 yX6_findClash ∈ uu := uu_in (i := 1066) (by decide +kernel) (by decide +kernel)
theorem kw_1068 : Cond.instanceMethod yX6_findClash ∈ uu := uu_in (i := 1068) (by decide +kernel) (by decide +kernel)
theorem kw_28 : Cond.selects "LandSurvey$Search" yX6_findClash yX6_findClash ∈ uu := uu_in (i := 28) (by decide +kernel) (by decide +kernel)
theorem kw_1018 : Cond.fieldLink "LandSurvey$Search" 62 "LandSurvey$Ground" "found" "Z" ∈ uu := uu_in (i := 1018) (by decide +kernel) (by decide +kernel)
theorem kw_1020 : Cond.fieldLink "LandSurvey$Search" 103 "LandSurvey$Ground" "cost" "I" ∈ uu := uu_in (i := 1020) (by decide +kernel) (by decide +kernel)
theorem kw_1023 : Cond.fieldLink "LandSurvey$Search" 80 "LandSurvey$Ground" "doubted" "J" ∈ uu := uu_in (i := 1023) (by decide +kernel) (by decide +kernel)
theorem kw_1016 : Cond.fieldLink "LandSurvey$Search" 56 "LandSurvey$Ground" "solved" "Z" ∈ uu := uu_in (i := 1016) (by decide +kernel) (by decide +kernel)
theorem kw_1027 : Cond.fieldLink "LandSurvey$Search" 65 "LandSurvey$Ground" "spanned" "Z" ∈ uu := uu_in (i := 1027) (by decide +kernel) (by decide +kernel)
theorem kw_1065 : Cond.code yX6_weigh prog_8_method_5_code 15 none ∈ uu := uu_in (i := 1065) (by decide +kernel) (by decide +kernel)
theorem kw_1062 : Cond.methodLink "LandSurvey$Search" 76 yX6_weigh ∈ uu := uu_in (i := 1062) (by decide +kernel) (by decide +kernel)
theorem kw_1064 : Cond.instanceMethod yX6_weigh ∈ uu := uu_in (i := 1064) (by decide +kernel) (by decide +kernel)
theorem kw_27 : Cond.selects "LandSurvey$Search" yX6_weigh yX6_weigh ∈ uu := uu_in (i := 27) (by decide +kernel) (by decide +kernel)
theorem kw_1128 : Cond.code yX6_saysAnything prog_8_method_4_code 4 (some .boolean) ∈ uu := uu_in (i := 1128) (by decide +kernel) (by decide +kernel)
theorem kw_1125 : Cond.methodLink "LandSurvey$Search" 84 yX6_saysAnything ∈ uu := uu_in (i := 1125) (by decide +kernel) (by decide +kernel)
theorem kw_1127 : Cond.instanceMethod yX6_saysAnything ∈ uu := uu_in (i := 1127) (by decide +kernel) (by decide +kernel)
theorem kw_35 : Cond.selects "LandSurvey$Search" yX6_saysAnything yX6_saysAnything ∈ uu := uu_in (i := 35) (by decide +kernel) (by decide +kernel)
theorem kw_1025 : Cond.fieldLink "LandSurvey$Search" 88 "LandSurvey$Ground" "known" "Z" ∈ uu := uu_in (i := 1025) (by decide +kernel) (by decide +kernel)
theorem kw_484 : Cond.fieldLink "LandSurvey" 375 "LandSurvey" "judged" "Z" ∈ uu := uu_in (i := 484) (by decide +kernel) (by decide +kernel)
theorem kw_967 : Cond.code yX11_dayShown prog_1_method_45_code 1 (some .int) ∈ uu := uu_in (i := 967) (by decide +kernel) (by decide +kernel)
theorem kw_964 : Cond.methodLink "LandSurvey" 362 yX11_dayShown ∈ uu := uu_in (i := 964) (by decide +kernel) (by decide +kernel)
theorem kw_966 : Cond.instanceMethod yX11_dayShown ∈ uu := uu_in (i := 966) (by decide +kernel) (by decide +kernel)
theorem kw_24 : Cond.selects "LandSurvey" yX11_dayShown yX11_dayShown ∈ uu := uu_in (i := 24) (by decide +kernel) (by decide +kernel)
theorem kw_971 : Cond.code yX4_ofDay prog_6_method_2_code 3 (some (.object "LandSurvey$Rules")) ∈ uu := uu_in (i := 971) (by decide +kernel) (by decide +kernel)
theorem kw_968 : Cond.methodLink "LandSurvey" 378 yX4_ofDay ∈ uu := uu_in (i := 968) (by decide +kernel) (by decide +kernel)
theorem kw_969 : Cond.instanceMethod yX4_ofDay ∈ uu := uu_in (i := 969) (by decide +kernel) (by decide +kernel)
theorem kw_970 : Cond.selects "LandSurvey$RuleBook" yX4_ofDay yX4_ofDay ∈ uu := uu_in (i := 970) (by decide +kernel) (by decide +kernel)
theorem kw_1008 : Cond.instantiable "LandSurvey$Ground" 9 ∈ uu := uu_in (i := 1008) (by decide +kernel) (by decide +kernel)
theorem kw_168 : Cond.initialized "LandSurvey$Ground" ∈ uu := uu_in (i := 168) (by decide +kernel) (by decide +kernel)
theorem kw_1011 : Cond.code yX1_init prog_3_method_1_code 2 none ∈ uu := uu_in (i := 1011) (by decide +kernel) (by decide +kernel)
theorem kw_1009 : Cond.methodLink "LandSurvey" 386 yX1_init ∈ uu := uu_in (i := 1009) (by decide +kernel) (by decide +kernel)
theorem kw_1010 : Cond.instanceMethod yX1_init ∈ uu := uu_in (i := 1010) (by decide +kernel) (by decide +kernel)
theorem kw_1017 : Cond.fieldLink "LandSurvey" 389 "LandSurvey$Ground" "solved" "Z" ∈ uu := uu_in (i := 1017) (by decide +kernel) (by decide +kernel)
theorem kw_311 : Cond.fieldLink "LandSurvey" 392 "LandSurvey$Rules" "steep" "I" ∈ uu := uu_in (i := 311) (by decide +kernel) (by decide +kernel)
theorem kw_1057 : Cond.code yX6_begin prog_8_method_2_code 4 none ∈ uu := uu_in (i := 1057) (by decide +kernel) (by decide +kernel)
theorem kw_1054 : Cond.methodLink "LandSurvey" 395 yX6_begin ∈ uu := uu_in (i := 1054) (by decide +kernel) (by decide +kernel)
theorem kw_1055 : Cond.instanceMethod yX6_begin ∈ uu := uu_in (i := 1055) (by decide +kernel) (by decide +kernel)
theorem kw_1056 : Cond.selects "LandSurvey$Search" yX6_begin yX6_begin ∈ uu := uu_in (i := 1056) (by decide +kernel) (by decide +kernel)
theorem dX9_level_0 : decode cX9_level 0 = .ok (.aload_n 0, 1) := by decide +kernel
theorem dX9_level_1 : decode cX9_level 1 = .ok (.getfield 9, 3) := by decide +kernel
theorem dX9_level_4 : decode cX9_level 4 = .ok (.iload_n 1, 1) := by decide +kernel
theorem dX9_level_5 : decode cX9_level 5 = .ok (.invokestatic 22, 3) := by decide +kernel
theorem dX9_level_8 : decode cX9_level 8 = .ok (.aload_n 0, 1) := by decide +kernel
theorem dX9_level_9 : decode cX9_level 9 = .ok (.getfield 15, 3) := by decide +kernel
theorem dX9_level_12 : decode cX9_level 12 = .ok (.lconst 0, 1) := by decide +kernel
theorem dX9_level_13 : decode cX9_level 13 = .ok (.invokestatic 28, 3) := by decide +kernel
theorem dX9_level_16 : decode cX9_level 16 = .ok (.aload_n 0, 1) := by decide +kernel
theorem dX9_level_17 : decode cX9_level 17 = .ok (.getfield 19, 3) := by decide +kernel
theorem dX9_level_20 : decode cX9_level 20 = .ok (.iconst (-1), 1) := by decide +kernel
theorem dX9_level_21 : decode cX9_level 21 = .ok (.invokestatic 22, 3) := by decide +kernel
theorem dX9_level_24 : decode cX9_level 24 = .ok (.return_, 1) := by decide +kernel
theorem dX9_carry_0 : decode cX9_carry 0 = .ok (.aload_n 1, 1) := by decide +kernel
theorem dX9_carry_1 : decode cX9_carry 1 = .ok (.iload_n 2, 1) := by decide +kernel
theorem dX9_carry_2 : decode cX9_carry 2 = .ok (.iaload, 1) := by decide +kernel
theorem dX9_carry_3 : decode cX9_carry 3 = .ok (.aload_n 0, 1) := by decide +kernel
theorem dX9_carry_4 : decode cX9_carry 4 = .ok (.getfield 9, 3) := by decide +kernel
theorem dX9_carry_7 : decode cX9_carry 7 = .ok (.iload 4, 2) := by decide +kernel
theorem dX9_carry_9 : decode cX9_carry 9 = .ok (.iaload, 1) := by decide +kernel
theorem dX9_carry_10 : decode cX9_carry 10 = .ok (.iadd, 1) := by decide +kernel
theorem dX9_carry_11 : decode cX9_carry 11 = .ok (.istore 5, 2) := by decide +kernel
theorem dX9_carry_13 : decode cX9_carry 13 = .ok (.iload 5, 2) := by decide +kernel
theorem dX9_carry_15 : decode cX9_carry 15 = .ok (.aload_n 1, 1) := by decide +kernel
theorem dX9_carry_16 : decode cX9_carry 16 = .ok (.iload_n 3, 1) := by decide +kernel
theorem dX9_carry_17 : decode cX9_carry 17 = .ok (.iaload, 1) := by decide +kernel
theorem dX9_carry_18 : decode cX9_carry 18 = .ok (.if_icmp .ge 29, 3) := by decide +kernel
theorem dX9_carry_47 : decode cX9_carry 47 = .ok (.return_, 1) := by decide +kernel
theorem dX9_sweep_0 : decode cX9_sweep 0 = .ok (.iconst 1, 1) := by decide +kernel
theorem dX9_sweep_1 : decode cX9_sweep 1 = .ok (.istore_n 3, 1) := by decide +kernel
theorem dX9_sweep_2 : decode cX9_sweep 2 = .ok (.iload_n 3, 1) := by decide +kernel
theorem dX9_sweep_3 : decode cX9_sweep 3 = .ok (.bipush 96, 2) := by decide +kernel
theorem dX9_sweep_5 : decode cX9_sweep 5 = .ok (.if_icmp .ge 85, 3) := by decide +kernel
theorem dX9_sweep_90 : decode cX9_sweep 90 = .ok (.bipush 94, 2) := by decide +kernel
theorem dX9_sweep_92 : decode cX9_sweep 92 = .ok (.istore_n 3, 1) := by decide +kernel
theorem dX9_sweep_93 : decode cX9_sweep 93 = .ok (.iload_n 3, 1) := by decide +kernel
theorem dX9_sweep_94 : decode cX9_sweep 94 = .ok (.ifCond .lt 87, 3) := by decide +kernel
theorem dX9_sweep_181 : decode cX9_sweep 181 = .ok (.return_, 1) := by decide +kernel
theorem dX9_sweep_97 : decode cX9_sweep 97 = .ok (.iload_n 3, 1) := by decide +kernel
theorem dX9_sweep_98 : decode cX9_sweep 98 = .ok (.bipush 12, 2) := by decide +kernel
theorem dX9_sweep_100 : decode cX9_sweep 100 = .ok (.irem, 1) := by decide +kernel
theorem dX9_sweep_101 : decode cX9_sweep 101 = .ok (.bipush 11, 2) := by decide +kernel
theorem dX9_sweep_103 : decode cX9_sweep 103 = .ok (.if_icmp .eq 34, 3) := by decide +kernel
theorem dX9_sweep_137 : decode cX9_sweep 137 = .ok (.iload_n 3, 1) := by decide +kernel
theorem dX9_sweep_138 : decode cX9_sweep 138 = .ok (.bipush 84, 2) := by decide +kernel
theorem dX9_sweep_140 : decode cX9_sweep 140 = .ok (.if_icmp .ge 35, 3) := by decide +kernel
theorem dX9_sweep_175 : decode cX9_sweep 175 = .ok (.iinc 3 (-1), 3) := by decide +kernel
theorem dX9_sweep_178 : decode cX9_sweep 178 = .ok (.goto (-85), 3) := by decide +kernel
theorem dX9_sweep_143 : decode cX9_sweep 143 = .ok (.iload_n 3, 1) := by decide +kernel
theorem dX9_sweep_144 : decode cX9_sweep 144 = .ok (.bipush 12, 2) := by decide +kernel
theorem dX9_sweep_146 : decode cX9_sweep 146 = .ok (.iadd, 1) := by decide +kernel
theorem dX9_sweep_147 : decode cX9_sweep 147 = .ok (.istore 4, 2) := by decide +kernel
theorem dX9_sweep_149 : decode cX9_sweep 149 = .ok (.aload_n 0, 1) := by decide +kernel
theorem dX9_sweep_150 : decode cX9_sweep 150 = .ok (.aload_n 1, 1) := by decide +kernel
theorem dX9_sweep_151 : decode cX9_sweep 151 = .ok (.iload 4, 2) := by decide +kernel
theorem dX9_sweep_153 : decode cX9_sweep 153 = .ok (.iload_n 3, 1) := by decide +kernel
theorem dX9_sweep_154 : decode cX9_sweep 154 = .ok (.iload_n 2, 1) := by decide +kernel
theorem dX9_sweep_155 : decode cX9_sweep 155 = .ok (.ifCond .eq 11, 3) := by decide +kernel
theorem dX9_sweep_166 : decode cX9_sweep 166 = .ok (.iconst 4, 1) := by decide +kernel
theorem dX9_sweep_167 : decode cX9_sweep 167 = .ok (.iload 4, 2) := by decide +kernel
theorem dX9_sweep_169 : decode cX9_sweep 169 = .ok (.imul, 1) := by decide +kernel
theorem dX9_sweep_170 : decode cX9_sweep 170 = .ok (.iconst 2, 1) := by decide +kernel
theorem dX9_sweep_171 : decode cX9_sweep 171 = .ok (.iadd, 1) := by decide +kernel
theorem dX9_sweep_172 : decode cX9_sweep 172 = .ok (.invokevirtual 50, 3) := by decide +kernel
theorem dX9_sweep_106 : decode cX9_sweep 106 = .ok (.iload_n 3, 1) := by decide +kernel
theorem dX9_sweep_107 : decode cX9_sweep 107 = .ok (.iconst 1, 1) := by decide +kernel
theorem dX9_sweep_108 : decode cX9_sweep 108 = .ok (.iadd, 1) := by decide +kernel
theorem dX9_sweep_109 : decode cX9_sweep 109 = .ok (.istore 4, 2) := by decide +kernel
theorem dX9_sweep_111 : decode cX9_sweep 111 = .ok (.aload_n 0, 1) := by decide +kernel
theorem dX9_sweep_112 : decode cX9_sweep 112 = .ok (.aload_n 1, 1) := by decide +kernel
theorem dX9_sweep_113 : decode cX9_sweep 113 = .ok (.iload 4, 2) := by decide +kernel
theorem dX9_sweep_115 : decode cX9_sweep 115 = .ok (.iload_n 3, 1) := by decide +kernel
theorem dX9_sweep_116 : decode cX9_sweep 116 = .ok (.iload_n 2, 1) := by decide +kernel
theorem dX9_sweep_117 : decode cX9_sweep 117 = .ok (.ifCond .eq 11, 3) := by decide +kernel
theorem dX9_sweep_128 : decode cX9_sweep 128 = .ok (.iconst 4, 1) := by decide +kernel
theorem dX9_sweep_129 : decode cX9_sweep 129 = .ok (.iload 4, 2) := by decide +kernel
theorem dX9_sweep_131 : decode cX9_sweep 131 = .ok (.imul, 1) := by decide +kernel
theorem dX9_sweep_132 : decode cX9_sweep 132 = .ok (.iconst 0, 1) := by decide +kernel
theorem dX9_sweep_133 : decode cX9_sweep 133 = .ok (.iadd, 1) := by decide +kernel
theorem dX9_sweep_134 : decode cX9_sweep 134 = .ok (.invokevirtual 50, 3) := by decide +kernel
theorem dX9_sweep_8 : decode cX9_sweep 8 = .ok (.iload_n 3, 1) := by decide +kernel
theorem dX9_sweep_9 : decode cX9_sweep 9 = .ok (.bipush 12, 2) := by decide +kernel
theorem dX9_sweep_11 : decode cX9_sweep 11 = .ok (.irem, 1) := by decide +kernel
theorem dX9_sweep_12 : decode cX9_sweep 12 = .ok (.ifCond .eq 34, 3) := by decide +kernel
theorem dX9_sweep_46 : decode cX9_sweep 46 = .ok (.iload_n 3, 1) := by decide +kernel
theorem dX9_sweep_47 : decode cX9_sweep 47 = .ok (.bipush 12, 2) := by decide +kernel
theorem dX9_sweep_49 : decode cX9_sweep 49 = .ok (.if_icmp .lt 35, 3) := by decide +kernel
theorem dX9_sweep_84 : decode cX9_sweep 84 = .ok (.iinc 3 1, 3) := by decide +kernel
theorem dX9_sweep_87 : decode cX9_sweep 87 = .ok (.goto (-85), 3) := by decide +kernel
theorem dX9_sweep_52 : decode cX9_sweep 52 = .ok (.iload_n 3, 1) := by decide +kernel
theorem dX9_sweep_53 : decode cX9_sweep 53 = .ok (.bipush 12, 2) := by decide +kernel
theorem dX9_sweep_55 : decode cX9_sweep 55 = .ok (.isub, 1) := by decide +kernel
theorem dX9_sweep_56 : decode cX9_sweep 56 = .ok (.istore 4, 2) := by decide +kernel
theorem dX9_sweep_58 : decode cX9_sweep 58 = .ok (.aload_n 0, 1) := by decide +kernel
theorem dX9_sweep_59 : decode cX9_sweep 59 = .ok (.aload_n 1, 1) := by decide +kernel
theorem dX9_sweep_60 : decode cX9_sweep 60 = .ok (.iload 4, 2) := by decide +kernel
theorem dX9_sweep_62 : decode cX9_sweep 62 = .ok (.iload_n 3, 1) := by decide +kernel
theorem dX9_sweep_63 : decode cX9_sweep 63 = .ok (.iload_n 2, 1) := by decide +kernel
theorem dX9_sweep_64 : decode cX9_sweep 64 = .ok (.ifCond .eq 11, 3) := by decide +kernel
theorem dX9_sweep_75 : decode cX9_sweep 75 = .ok (.iconst 4, 1) := by decide +kernel
theorem dX9_sweep_76 : decode cX9_sweep 76 = .ok (.iload 4, 2) := by decide +kernel
theorem dX9_sweep_78 : decode cX9_sweep 78 = .ok (.imul, 1) := by decide +kernel
theorem dX9_sweep_79 : decode cX9_sweep 79 = .ok (.iconst 3, 1) := by decide +kernel
theorem dX9_sweep_80 : decode cX9_sweep 80 = .ok (.iadd, 1) := by decide +kernel
theorem dX9_sweep_81 : decode cX9_sweep 81 = .ok (.invokevirtual 50, 3) := by decide +kernel
theorem dX9_sweep_15 : decode cX9_sweep 15 = .ok (.iload_n 3, 1) := by decide +kernel
theorem dX9_sweep_16 : decode cX9_sweep 16 = .ok (.iconst 1, 1) := by decide +kernel
theorem dX9_sweep_17 : decode cX9_sweep 17 = .ok (.isub, 1) := by decide +kernel
theorem dX9_sweep_18 : decode cX9_sweep 18 = .ok (.istore 4, 2) := by decide +kernel
theorem dX9_sweep_20 : decode cX9_sweep 20 = .ok (.aload_n 0, 1) := by decide +kernel
theorem dX9_sweep_21 : decode cX9_sweep 21 = .ok (.aload_n 1, 1) := by decide +kernel
theorem dX9_sweep_22 : decode cX9_sweep 22 = .ok (.iload 4, 2) := by decide +kernel
theorem dX9_sweep_24 : decode cX9_sweep 24 = .ok (.iload_n 3, 1) := by decide +kernel
theorem dX9_sweep_25 : decode cX9_sweep 25 = .ok (.iload_n 2, 1) := by decide +kernel
theorem dX9_sweep_26 : decode cX9_sweep 26 = .ok (.ifCond .eq 11, 3) := by decide +kernel
theorem dX9_sweep_37 : decode cX9_sweep 37 = .ok (.iconst 4, 1) := by decide +kernel
theorem dX9_sweep_38 : decode cX9_sweep 38 = .ok (.iload 4, 2) := by decide +kernel
theorem dX9_sweep_40 : decode cX9_sweep 40 = .ok (.imul, 1) := by decide +kernel
theorem dX9_sweep_41 : decode cX9_sweep 41 = .ok (.iconst 1, 1) := by decide +kernel
theorem dX9_sweep_42 : decode cX9_sweep 42 = .ok (.iadd, 1) := by decide +kernel
theorem dX9_sweep_43 : decode cX9_sweep 43 = .ok (.invokevirtual 50, 3) := by decide +kernel
theorem dX6_begin_0 : decode cX6_begin 0 = .ok (.aload_n 0, 1) := by decide +kernel
theorem dX6_begin_1 : decode cX6_begin 1 = .ok (.iload_n 1, 1) := by decide +kernel
theorem dX6_begin_2 : decode cX6_begin 2 = .ok (.putfield 46, 3) := by decide +kernel
theorem dX6_begin_5 : decode cX6_begin 5 = .ok (.aload_n 0, 1) := by decide +kernel
theorem dX6_begin_6 : decode cX6_begin 6 = .ok (.iload_n 2, 1) := by decide +kernel
theorem dX6_begin_7 : decode cX6_begin 7 = .ok (.putfield 50, 3) := by decide +kernel
theorem dX6_begin_10 : decode cX6_begin 10 = .ok (.aload_n 0, 1) := by decide +kernel
theorem dX6_begin_11 : decode cX6_begin 11 = .ok (.iload_n 3, 1) := by decide +kernel
theorem dX6_begin_12 : decode cX6_begin 12 = .ok (.putfield 53, 3) := by decide +kernel
theorem dX6_begin_15 : decode cX6_begin 15 = .ok (.return_, 1) := by decide +kernel
theorem dX6_lay_0 : decode cX6_lay 0 = .ok (.aload_n 0, 1) := by decide +kernel
theorem dX6_lay_1 : decode cX6_lay 1 = .ok (.getfield 12, 3) := by decide +kernel
theorem dX6_lay_4 : decode cX6_lay 4 = .ok (.aload_n 0, 1) := by decide +kernel
theorem dX6_lay_5 : decode cX6_lay 5 = .ok (.getfield 53, 3) := by decide +kernel
theorem dX6_lay_8 : decode cX6_lay 8 = .ok (.invokevirtual 136, 3) := by decide +kernel
theorem dX6_lay_11 : decode cX6_lay 11 = .ok (.aload_n 0, 1) := by decide +kernel
theorem dX6_lay_12 : decode cX6_lay 12 = .ok (.getfield 18, 3) := by decide +kernel
theorem dX6_lay_15 : decode cX6_lay 15 = .ok (.ldc 140, 2) := by decide +kernel
theorem dX6_lay_17 : decode cX6_lay 17 = .ok (.invokestatic 141, 3) := by decide +kernel
theorem dX6_lay_20 : decode cX6_lay 20 = .ok (.aload_n 0, 1) := by decide +kernel
theorem dX6_lay_21 : decode cX6_lay 21 = .ok (.getfield 25, 3) := by decide +kernel
theorem dX6_lay_24 : decode cX6_lay 24 = .ok (.ldc 147, 2) := by decide +kernel
theorem dX6_lay_26 : decode cX6_lay 26 = .ok (.invokestatic 141, 3) := by decide +kernel
theorem dX6_lay_29 : decode cX6_lay 29 = .ok (.iconst 0, 1) := by decide +kernel
theorem dX6_lay_30 : decode cX6_lay 30 = .ok (.istore 4, 2) := by decide +kernel
theorem dX6_lay_32 : decode cX6_lay 32 = .ok (.iconst 0, 1) := by decide +kernel
theorem dX6_lay_33 : decode cX6_lay 33 = .ok (.istore 5, 2) := by decide +kernel
theorem dX6_lay_35 : decode cX6_lay 35 = .ok (.iload 5, 2) := by decide +kernel
theorem dX6_lay_37 : decode cX6_lay 37 = .ok (.aload_n 0, 1) := by decide +kernel
theorem dX6_lay_38 : decode cX6_lay 38 = .ok (.getfield 46, 3) := by decide +kernel
theorem dX6_lay_41 : decode cX6_lay 41 = .ok (.if_icmp .ge 135, 3) := by decide +kernel
theorem dX6_lay_176 : decode cX6_lay 176 = .ok (.iload 4, 2) := by decide +kernel
theorem dX6_lay_178 : decode cX6_lay 178 = .ok (.ifCond .ne 11, 3) := by decide +kernel
theorem dX6_lay_181 : decode cX6_lay 181 = .ok (.aload_n 0, 1) := by decide +kernel
theorem dX6_lay_182 : decode cX6_lay 182 = .ok (.getfield 18, 3) := by decide +kernel
theorem dX6_lay_185 : decode cX6_lay 185 = .ok (.iconst 0, 1) := by decide +kernel
theorem dX6_lay_186 : decode cX6_lay 186 = .ok (.invokestatic 141, 3) := by decide +kernel
theorem dX6_lay_189 : decode cX6_lay 189 = .ok (.aload_n 0, 1) := by decide +kernel
theorem dX6_lay_190 : decode cX6_lay 190 = .ok (.getfield 50, 3) := by decide +kernel
theorem dX6_lay_193 : decode cX6_lay 193 = .ok (.iconst 1, 1) := by decide +kernel
theorem dX6_lay_194 : decode cX6_lay 194 = .ok (.isub, 1) := by decide +kernel
theorem dX6_lay_195 : decode cX6_lay 195 = .ok (.istore 5, 2) := by decide +kernel
theorem dX6_lay_197 : decode cX6_lay 197 = .ok (.iload 5, 2) := by decide +kernel
theorem dX6_lay_199 : decode cX6_lay 199 = .ok (.ifCond .lt 32, 3) := by decide +kernel
theorem dX6_lay_231 : decode cX6_lay 231 = .ok (.return_, 1) := by decide +kernel
theorem dX6_firstBelowFloor_0 : decode cX6_firstBelowFloor 0 = .ok (.iconst 0, 1) := by decide +kernel
theorem dX6_firstBelowFloor_1 : decode cX6_firstBelowFloor 1 = .ok (.istore_n 1, 1) := by decide +kernel
theorem dX6_firstBelowFloor_2 : decode cX6_firstBelowFloor 2 = .ok (.iload_n 1, 1) := by decide +kernel
theorem dX6_firstBelowFloor_3 : decode cX6_firstBelowFloor 3 = .ok (.bipush 96, 2) := by decide +kernel
theorem dX6_firstBelowFloor_5 : decode cX6_firstBelowFloor 5 = .ok (.if_icmp .ge 26, 3) := by decide +kernel
theorem dX6_firstBelowFloor_31 : decode cX6_firstBelowFloor 31 = .ok (.iconst (-1), 1) := by decide +kernel
theorem dX6_firstBelowFloor_32 : decode cX6_firstBelowFloor 32 = .ok (.ireturn, 1) := by decide +kernel
theorem dX6_firstBelowFloor_8 : decode cX6_firstBelowFloor 8 = .ok (.aload_n 0, 1) := by decide +kernel
theorem dX6_firstBelowFloor_9 : decode cX6_firstBelowFloor 9 = .ok (.getfield 18, 3) := by decide +kernel
theorem dX6_firstBelowFloor_12 : decode cX6_firstBelowFloor 12 = .ok (.iload_n 1, 1) := by decide +kernel
theorem dX6_firstBelowFloor_13 : decode cX6_firstBelowFloor 13 = .ok (.iaload, 1) := by decide +kernel
theorem dX6_firstBelowFloor_14 : decode cX6_firstBelowFloor 14 = .ok (.aload_n 0, 1) := by decide +kernel
theorem dX6_firstBelowFloor_15 : decode cX6_firstBelowFloor 15 = .ok (.getfield 25, 3) := by decide +kernel
theorem dX6_firstBelowFloor_18 : decode cX6_firstBelowFloor 18 = .ok (.iload_n 1, 1) := by decide +kernel
theorem dX6_firstBelowFloor_19 : decode cX6_firstBelowFloor 19 = .ok (.iaload, 1) := by decide +kernel
theorem dX6_firstBelowFloor_20 : decode cX6_firstBelowFloor 20 = .ok (.if_icmp .ge 5, 3) := by decide +kernel
theorem dX6_firstBelowFloor_25 : decode cX6_firstBelowFloor 25 = .ok (.iinc 1 1, 3) := by decide +kernel
theorem dX6_firstBelowFloor_28 : decode cX6_firstBelowFloor 28 = .ok (.goto (-26), 3) := by decide +kernel
theorem dX6_findClash_0 : decode cX6_findClash 0 = .ok (.aload_n 0, 1) := by decide +kernel
theorem dX6_findClash_1 : decode cX6_findClash 1 = .ok (.iload_n 1, 1) := by decide +kernel
theorem dX6_findClash_2 : decode cX6_findClash 2 = .ok (.lload_n 2, 1) := by decide +kernel
theorem dX6_findClash_3 : decode cX6_findClash 3 = .ok (.invokevirtual 111, 3) := by decide +kernel
theorem dX6_findClash_6 : decode cX6_findClash 6 = .ok (.aload_n 0, 1) := by decide +kernel
theorem dX6_findClash_7 : decode cX6_findClash 7 = .ok (.iconst 0, 1) := by decide +kernel
theorem dX6_findClash_8 : decode cX6_findClash 8 = .ok (.putfield 100, 3) := by decide +kernel
theorem dX6_findClash_11 : decode cX6_findClash 11 = .ok (.iconst 0, 1) := by decide +kernel
theorem dX6_findClash_12 : decode cX6_findClash 12 = .ok (.istore 4, 2) := by decide +kernel
theorem dX6_findClash_14 : decode cX6_findClash 14 = .ok (.iload 4, 2) := by decide +kernel
theorem dX6_findClash_16 : decode cX6_findClash 16 = .ok (.sipush 192, 3) := by decide +kernel
theorem dX6_findClash_19 : decode cX6_findClash 19 = .ok (.if_icmp .gt 94, 3) := by decide +kernel
theorem dX6_findClash_22 : decode cX6_findClash 22 = .ok (.aload_n 0, 1) := by decide +kernel
theorem dX6_findClash_23 : decode cX6_findClash 23 = .ok (.invokevirtual 115, 3) := by decide +kernel
theorem dX6_findClash_26 : decode cX6_findClash 26 = .ok (.istore 5, 2) := by decide +kernel
theorem dX6_findClash_28 : decode cX6_findClash 28 = .ok (.iload 5, 2) := by decide +kernel
theorem dX6_findClash_30 : decode cX6_findClash 30 = .ok (.iconst (-1), 1) := by decide +kernel
theorem dX6_findClash_31 : decode cX6_findClash 31 = .ok (.if_icmp .eq 10, 3) := by decide +kernel
theorem dX6_findClash_41 : decode cX6_findClash 41 = .ok (.aload_n 0, 1) := by decide +kernel
theorem dX6_findClash_42 : decode cX6_findClash 42 = .ok (.getfield 12, 3) := by decide +kernel
theorem dX6_findClash_45 : decode cX6_findClash 45 = .ok (.iconst 0, 1) := by decide +kernel
theorem dX6_findClash_46 : decode cX6_findClash 46 = .ok (.putfield 123, 3) := by decide +kernel
theorem dX6_findClash_49 : decode cX6_findClash 49 = .ok (.aload_n 0, 1) := by decide +kernel
theorem dX6_findClash_50 : decode cX6_findClash 50 = .ok (.getfield 12, 3) := by decide +kernel
theorem dX6_findClash_53 : decode cX6_findClash 53 = .ok (.aload_n 0, 1) := by decide +kernel
theorem dX6_findClash_54 : decode cX6_findClash 54 = .ok (.getfield 18, 3) := by decide +kernel
theorem dX6_findClash_57 : decode cX6_findClash 57 = .ok (.iconst 0, 1) := by decide +kernel
theorem dX6_findClash_58 : decode cX6_findClash 58 = .ok (.invokevirtual 126, 3) := by decide +kernel
theorem dX6_findClash_61 : decode cX6_findClash 61 = .ok (.aload_n 0, 1) := by decide +kernel
theorem dX6_findClash_62 : decode cX6_findClash 62 = .ok (.getfield 12, 3) := by decide +kernel
theorem dX6_findClash_65 : decode cX6_findClash 65 = .ok (.getfield 123, 3) := by decide +kernel
theorem dX6_findClash_68 : decode cX6_findClash 68 = .ok (.ifCond .ne 10, 3) := by decide +kernel
theorem dX6_findClash_71 : decode cX6_findClash 71 = .ok (.aload_n 0, 1) := by decide +kernel
theorem dX6_findClash_72 : decode cX6_findClash 72 = .ok (.iconst 1, 1) := by decide +kernel
theorem dX6_findClash_73 : decode cX6_findClash 73 = .ok (.putfield 100, 3) := by decide +kernel
theorem dX6_findClash_76 : decode cX6_findClash 76 = .ok (.lconst 0, 1) := by decide +kernel
theorem dX6_findClash_77 : decode cX6_findClash 77 = .ok (.lreturn, 1) := by decide +kernel
theorem dX6_saysAnything_0 : decode cX6_saysAnything 0 = .ok (.iconst 0, 1) := by decide +kernel
theorem dX6_saysAnything_1 : decode cX6_saysAnything 1 = .ok (.istore_n 3, 1) := by decide +kernel
theorem dX6_saysAnything_2 : decode cX6_saysAnything 2 = .ok (.iload_n 3, 1) := by decide +kernel
theorem dX6_saysAnything_3 : decode cX6_saysAnything 3 = .ok (.aload_n 0, 1) := by decide +kernel
theorem dX6_saysAnything_4 : decode cX6_saysAnything 4 = .ok (.getfield 46, 3) := by decide +kernel
theorem dX6_saysAnything_7 : decode cX6_saysAnything 7 = .ok (.if_icmp .ge 33, 3) := by decide +kernel
theorem dX6_saysAnything_40 : decode cX6_saysAnything 40 = .ok (.iconst 0, 1) := by decide +kernel
theorem dX6_saysAnything_41 : decode cX6_saysAnything 41 = .ok (.ireturn, 1) := by decide +kernel
theorem dX6_weigh_0 : decode cX6_weigh 0 = .ok (.aload_n 0, 1) := by decide +kernel
theorem dX6_weigh_1 : decode cX6_weigh 1 = .ok (.aload_n 1, 1) := by decide +kernel
theorem dX6_weigh_2 : decode cX6_weigh 2 = .ok (.getfield 68, 3) := by decide +kernel
theorem dX6_weigh_5 : decode cX6_weigh 5 = .ok (.lload_n 2, 1) := by decide +kernel
theorem dX6_weigh_6 : decode cX6_weigh 6 = .ok (.invokevirtual 96, 3) := by decide +kernel
theorem dX6_weigh_9 : decode cX6_weigh 9 = .ok (.lstore 8, 2) := by decide +kernel
theorem dX6_weigh_11 : decode cX6_weigh 11 = .ok (.aload_n 0, 1) := by decide +kernel
theorem dX6_weigh_12 : decode cX6_weigh 12 = .ok (.getfield 100, 3) := by decide +kernel
theorem dX6_weigh_15 : decode cX6_weigh 15 = .ok (.ifCond .eq 20, 3) := by decide +kernel
theorem dX6_weigh_18 : decode cX6_weigh 18 = .ok (.aload_n 1, 1) := by decide +kernel
theorem dX6_weigh_19 : decode cX6_weigh 19 = .ok (.iconst 1, 1) := by decide +kernel
theorem dX6_weigh_20 : decode cX6_weigh 20 = .ok (.putfield 62, 3) := by decide +kernel
theorem dX6_weigh_23 : decode cX6_weigh 23 = .ok (.aload_n 1, 1) := by decide +kernel
theorem dX6_weigh_24 : decode cX6_weigh 24 = .ok (.iload 6, 2) := by decide +kernel
theorem dX6_weigh_26 : decode cX6_weigh 26 = .ok (.putfield 103, 3) := by decide +kernel
theorem dX6_weigh_29 : decode cX6_weigh 29 = .ok (.aload_n 1, 1) := by decide +kernel
theorem dX6_weigh_30 : decode cX6_weigh 30 = .ok (.lload_n 2, 1) := by decide +kernel
theorem dX6_weigh_31 : decode cX6_weigh 31 = .ok (.putfield 80, 3) := by decide +kernel
theorem dX6_weigh_34 : decode cX6_weigh 34 = .ok (.return_, 1) := by decide +kernel
theorem dX6_solve_0 : decode cX6_solve 0 = .ok (.aload_n 1, 1) := by decide +kernel
theorem dX6_solve_1 : decode cX6_solve 1 = .ok (.iconst 1, 1) := by decide +kernel
theorem dX6_solve_2 : decode cX6_solve 2 = .ok (.putfield 56, 3) := by decide +kernel
theorem dX6_solve_5 : decode cX6_solve 5 = .ok (.aload_n 1, 1) := by decide +kernel
theorem dX6_solve_6 : decode cX6_solve 6 = .ok (.iconst 0, 1) := by decide +kernel
theorem dX6_solve_7 : decode cX6_solve 7 = .ok (.putfield 62, 3) := by decide +kernel
theorem dX6_solve_10 : decode cX6_solve 10 = .ok (.aload_n 1, 1) := by decide +kernel
theorem dX6_solve_11 : decode cX6_solve 11 = .ok (.iconst 0, 1) := by decide +kernel
theorem dX6_solve_12 : decode cX6_solve 12 = .ok (.putfield 65, 3) := by decide +kernel
theorem dX6_solve_15 : decode cX6_solve 15 = .ok (.iconst 0, 1) := by decide +kernel
theorem dX6_solve_16 : decode cX6_solve 16 = .ok (.istore_n 2, 1) := by decide +kernel
theorem dX6_solve_17 : decode cX6_solve 17 = .ok (.iconst 0, 1) := by decide +kernel
theorem dX6_solve_18 : decode cX6_solve 18 = .ok (.istore_n 3, 1) := by decide +kernel
theorem dX6_solve_19 : decode cX6_solve 19 = .ok (.iload_n 3, 1) := by decide +kernel
theorem dX6_solve_20 : decode cX6_solve 20 = .ok (.aload_n 0, 1) := by decide +kernel
theorem dX6_solve_21 : decode cX6_solve 21 = .ok (.getfield 50, 3) := by decide +kernel
theorem dX6_solve_24 : decode cX6_solve 24 = .ok (.if_icmp .ge 36, 3) := by decide +kernel
theorem dX6_solve_60 : decode cX6_solve 60 = .ok (.aload_n 0, 1) := by decide +kernel
theorem dX6_solve_61 : decode cX6_solve 61 = .ok (.aload_n 1, 1) := by decide +kernel
theorem dX6_solve_62 : decode cX6_solve 62 = .ok (.lconst 0, 1) := by decide +kernel
theorem dX6_solve_63 : decode cX6_solve 63 = .ok (.lconst 0, 1) := by decide +kernel
theorem dX6_solve_64 : decode cX6_solve 64 = .ok (.iload_n 2, 1) := by decide +kernel
theorem dX6_solve_65 : decode cX6_solve 65 = .ok (.iconst 0, 1) := by decide +kernel
theorem dX6_solve_66 : decode cX6_solve 66 = .ok (.invokevirtual 76, 3) := by decide +kernel
theorem dX6_solve_69 : decode cX6_solve 69 = .ok (.aload_n 1, 1) := by decide +kernel
theorem dX6_solve_70 : decode cX6_solve 70 = .ok (.aload_n 1, 1) := by decide +kernel
theorem dX6_solve_71 : decode cX6_solve 71 = .ok (.getfield 62, 3) := by decide +kernel
theorem dX6_solve_74 : decode cX6_solve 74 = .ok (.ifCond .eq 18, 3) := by decide +kernel
theorem dX6_solve_77 : decode cX6_solve 77 = .ok (.aload_n 0, 1) := by decide +kernel
theorem dX6_solve_78 : decode cX6_solve 78 = .ok (.aload_n 1, 1) := by decide +kernel
theorem dX6_solve_79 : decode cX6_solve 79 = .ok (.getfield 80, 3) := by decide +kernel
theorem dX6_solve_82 : decode cX6_solve 82 = .ok (.invokevirtual 84, 3) := by decide +kernel
theorem dX6_solve_85 : decode cX6_solve 85 = .ok (.ifCond .eq 7, 3) := by decide +kernel
theorem dX6_solve_92 : decode cX6_solve 92 = .ok (.iconst 0, 1) := by decide +kernel
theorem dX6_solve_93 : decode cX6_solve 93 = .ok (.putfield 88, 3) := by decide +kernel
theorem dX6_solve_96 : decode cX6_solve 96 = .ok (.return_, 1) := by decide +kernel
theorem dX4_ofDay_0 : decode cX4_ofDay 0 = .ok (.aload_n 0, 1) := by decide +kernel
theorem dX4_ofDay_1 : decode cX4_ofDay 1 = .ok (.getfield 26, 3) := by decide +kernel
theorem dX4_ofDay_4 : decode cX4_ofDay 4 = .ok (.iconst 1, 1) := by decide +kernel
theorem dX4_ofDay_5 : decode cX4_ofDay 5 = .ok (.isub, 1) := by decide +kernel
theorem dX4_ofDay_6 : decode cX4_ofDay 6 = .ok (.istore_n 2, 1) := by decide +kernel
theorem dX4_ofDay_7 : decode cX4_ofDay 7 = .ok (.iload_n 2, 1) := by decide +kernel
theorem dX4_ofDay_8 : decode cX4_ofDay 8 = .ok (.ifCond .lt 26, 3) := by decide +kernel
theorem dX4_ofDay_34 : decode cX4_ofDay 34 = .ok (.aload_n 0, 1) := by decide +kernel
theorem dX4_ofDay_35 : decode cX4_ofDay 35 = .ok (.getfield 22, 3) := by decide +kernel
theorem dX4_ofDay_38 : decode cX4_ofDay 38 = .ok (.areturn, 1) := by decide +kernel
theorem dX11_dayShown_0 : decode cX11_dayShown 0 = .ok (.aload_n 0, 1) := by decide +kernel
theorem dX11_dayShown_1 : decode cX11_dayShown 1 = .ok (.getfield 9, 3) := by decide +kernel
theorem dX11_dayShown_4 : decode cX11_dayShown 4 = .ok (.iconst (-1), 1) := by decide +kernel
theorem dX11_dayShown_5 : decode cX11_dayShown 5 = .ok (.if_icmp .ne 10, 3) := by decide +kernel
theorem dX11_dayShown_8 : decode cX11_dayShown 8 = .ok (.aload_n 0, 1) := by decide +kernel
theorem dX11_dayShown_9 : decode cX11_dayShown 9 = .ok (.getfield 78, 3) := by decide +kernel
theorem dX11_dayShown_12 : decode cX11_dayShown 12 = .ok (.goto 7, 3) := by decide +kernel
theorem dX11_dayShown_19 : decode cX11_dayShown 19 = .ok (.ireturn, 1) := by decide +kernel
theorem dX11_settle_0 : decode cX11_settle 0 = .ok (.aload_n 0, 1) := by decide +kernel
theorem dX11_settle_1 : decode cX11_settle 1 = .ok (.getfield 81, 3) := by decide +kernel
theorem dX11_settle_4 : decode cX11_settle 4 = .ok (.ifCond .eq 4, 3) := by decide +kernel
theorem dX11_settle_8 : decode cX11_settle 8 = .ok (.aload_n 0, 1) := by decide +kernel
theorem dX11_settle_9 : decode cX11_settle 9 = .ok (.iconst 1, 1) := by decide +kernel
theorem dX11_settle_10 : decode cX11_settle 10 = .ok (.putfield 81, 3) := by decide +kernel
theorem dX11_settle_13 : decode cX11_settle 13 = .ok (.aload_n 0, 1) := by decide +kernel
theorem dX11_settle_14 : decode cX11_settle 14 = .ok (.iconst 0, 1) := by decide +kernel
theorem dX11_settle_15 : decode cX11_settle 15 = .ok (.putfield 375, 3) := by decide +kernel
theorem dX11_settle_18 : decode cX11_settle 18 = .ok (.aload_n 0, 1) := by decide +kernel
theorem dX11_settle_19 : decode cX11_settle 19 = .ok (.aload_n 0, 1) := by decide +kernel
theorem dX11_settle_20 : decode cX11_settle 20 = .ok (.getfield 36, 3) := by decide +kernel
theorem dX11_settle_23 : decode cX11_settle 23 = .ok (.aload_n 0, 1) := by decide +kernel
theorem dX11_settle_24 : decode cX11_settle 24 = .ok (.invokevirtual 362, 3) := by decide +kernel
theorem dX11_settle_27 : decode cX11_settle 27 = .ok (.invokevirtual 378, 3) := by decide +kernel
theorem dX11_settle_30 : decode cX11_settle 30 = .ok (.putfield 44, 3) := by decide +kernel
theorem dX11_settle_33 : decode cX11_settle 33 = .ok (.iconst 0, 1) := by decide +kernel
theorem dX11_settle_34 : decode cX11_settle 34 = .ok (.istore_n 1, 1) := by decide +kernel
theorem dX11_settle_35 : decode cX11_settle 35 = .ok (.iload_n 1, 1) := by decide +kernel
theorem dX11_settle_36 : decode cX11_settle 36 = .ok (.aload_n 0, 1) := by decide +kernel
theorem dX11_settle_37 : decode cX11_settle 37 = .ok (.getfield 102, 3) := by decide +kernel
theorem dX11_settle_40 : decode cX11_settle 40 = .ok (.if_icmp .ge 19, 3) := by decide +kernel
theorem dX11_settle_59 : decode cX11_settle 59 = .ok (.iconst 0, 1) := by decide +kernel
theorem dX11_settle_60 : decode cX11_settle 60 = .ok (.istore_n 1, 1) := by decide +kernel
theorem dX11_settle_61 : decode cX11_settle 61 = .ok (.iload_n 1, 1) := by decide +kernel
theorem dX11_settle_62 : decode cX11_settle 62 = .ok (.iconst 1, 1) := by decide +kernel
theorem dX11_settle_63 : decode cX11_settle 63 = .ok (.aload_n 0, 1) := by decide +kernel
theorem dX11_settle_64 : decode cX11_settle 64 = .ok (.getfield 157, 3) := by decide +kernel
theorem dX11_settle_67 : decode cX11_settle 67 = .ok (.ishl, 1) := by decide +kernel
theorem dX11_settle_68 : decode cX11_settle 68 = .ok (.if_icmp .ge 42, 3) := by decide +kernel
theorem dX11_settle_71 : decode cX11_settle 71 = .ok (.aload_n 0, 1) := by decide +kernel
theorem dX11_settle_72 : decode cX11_settle 72 = .ok (.getfield 70, 3) := by decide +kernel
theorem dX11_settle_75 : decode cX11_settle 75 = .ok (.iload_n 1, 1) := by decide +kernel
theorem dX11_settle_76 : decode cX11_settle 76 = .ok (.aaload, 1) := by decide +kernel
theorem dX11_settle_77 : decode cX11_settle 77 = .ok (.ifnonnull 17, 3) := by decide +kernel
theorem dX11_settle_80 : decode cX11_settle 80 = .ok (.aload_n 0, 1) := by decide +kernel
theorem dX11_settle_81 : decode cX11_settle 81 = .ok (.getfield 70, 3) := by decide +kernel
theorem dX11_settle_84 : decode cX11_settle 84 = .ok (.iload_n 1, 1) := by decide +kernel
theorem dX11_settle_85 : decode cX11_settle 85 = .ok (.new 68, 3) := by decide +kernel
theorem dX11_settle_88 : decode cX11_settle 88 = .ok (.dup, 1) := by decide +kernel
theorem dX11_settle_89 : decode cX11_settle 89 = .ok (.iload_n 1, 1) := by decide +kernel
theorem dX11_settle_90 : decode cX11_settle 90 = .ok (.invokespecial 386, 3) := by decide +kernel
theorem dX11_settle_93 : decode cX11_settle 93 = .ok (.aastore, 1) := by decide +kernel
theorem dX11_settle_94 : decode cX11_settle 94 = .ok (.aload_n 0, 1) := by decide +kernel
theorem dX11_settle_95 : decode cX11_settle 95 = .ok (.getfield 70, 3) := by decide +kernel
theorem dX11_settle_98 : decode cX11_settle 98 = .ok (.iload_n 1, 1) := by decide +kernel
theorem dX11_settle_99 : decode cX11_settle 99 = .ok (.aaload, 1) := by decide +kernel
theorem dX11_settle_100 : decode cX11_settle 100 = .ok (.iconst 0, 1) := by decide +kernel
theorem dX11_settle_101 : decode cX11_settle 101 = .ok (.putfield 389, 3) := by decide +kernel
theorem dX11_settle_104 : decode cX11_settle 104 = .ok (.iinc 1 1, 3) := by decide +kernel
theorem dX11_settle_107 : decode cX11_settle 107 = .ok (.goto (-46), 3) := by decide +kernel
theorem dX11_settle_110 : decode cX11_settle 110 = .ok (.aload_n 0, 1) := by decide +kernel
theorem dX11_settle_111 : decode cX11_settle 111 = .ok (.getfield 64, 3) := by decide +kernel
theorem dX11_settle_114 : decode cX11_settle 114 = .ok (.aload_n 0, 1) := by decide +kernel
theorem dX11_settle_115 : decode cX11_settle 115 = .ok (.getfield 102, 3) := by decide +kernel
theorem dX11_settle_118 : decode cX11_settle 118 = .ok (.aload_n 0, 1) := by decide +kernel
theorem dX11_settle_119 : decode cX11_settle 119 = .ok (.getfield 157, 3) := by decide +kernel
theorem dX11_settle_122 : decode cX11_settle 122 = .ok (.aload_n 0, 1) := by decide +kernel
theorem dX11_settle_123 : decode cX11_settle 123 = .ok (.getfield 44, 3) := by decide +kernel
theorem dX11_settle_126 : decode cX11_settle 126 = .ok (.getfield 392, 3) := by decide +kernel
theorem dX11_settle_129 : decode cX11_settle 129 = .ok (.invokevirtual 395, 3) := by decide +kernel
theorem dX11_settle_132 : decode cX11_settle 132 = .ok (.return_, 1) := by decide +kernel
theorem dX11_settle_7 : decode cX11_settle 7 = .ok (.return_, 1) := by decide +kernel
theorem dX11_isSet_0 : decode cX11_isSet 0 = .ok (.iload_n 1, 1) := by decide +kernel
theorem dX11_isSet_1 : decode cX11_isSet 1 = .ok (.ifCond .lt 17, 3) := by decide +kernel
theorem dX11_isSet_18 : decode cX11_isSet 18 = .ok (.iconst 0, 1) := by decide +kernel
theorem dX11_isSet_19 : decode cX11_isSet 19 = .ok (.ireturn, 1) := by decide +kernel
theorem dX11_isSet_4 : decode cX11_isSet 4 = .ok (.iload_n 1, 1) := by decide +kernel
theorem dX11_isSet_5 : decode cX11_isSet 5 = .ok (.iconst 1, 1) := by decide +kernel
theorem dX11_isSet_6 : decode cX11_isSet 6 = .ok (.aload_n 0, 1) := by decide +kernel
theorem dX11_isSet_7 : decode cX11_isSet 7 = .ok (.getfield 157, 3) := by decide +kernel
theorem dX11_isSet_10 : decode cX11_isSet 10 = .ok (.ishl, 1) := by decide +kernel
theorem dX11_isSet_11 : decode cX11_isSet 11 = .ok (.if_icmp .ge 7, 3) := by decide +kernel
theorem dX11_isSet_14 : decode cX11_isSet 14 = .ok (.iconst 1, 1) := by decide +kernel
theorem dX11_isSet_15 : decode cX11_isSet 15 = .ok (.goto 4, 3) := by decide +kernel
set_option maxHeartbeats 4000000 in
set_option maxRecDepth 100000 in
theorem kX9_level (l : Launch) (D : va_G) (cy : Nat → ClassId) (x : Nat → Nat) : CV l D cy yX9_level cX9_level 2 none 1 24 0 0 [.ref (x 32), .int 10] [((x 32), .inr (9, [.ref (x 33), .ref (x 34), .ref (x 35), .int 0])), ((x 33), .inl (cy 0, 384, .inl (fun _ => 0))), ((x 34), .inl (cy 2, 384, .inr (.inl (fun _ => 0)))), ((x 35), .inl (cy 0, 96, .inl (fun _ => 0)))] (fun (u : Unit) => True) (fun (u : Unit) => [((x 32), .inr (9, [.ref (x 33), .ref (x 34), .ref (x 35), .int 0])), ((x 33), .inl (cy 0, 384, .inl (fun _ => 10))), ((x 34), .inl (cy 2, 384, .inr (.inl (fun _ => 0)))), ((x 35), .inl (cy 0, 96, .inl (fun _ => (-1))))]) := by
  refine cv_go (by decide) (Nat.le_of_ble_eq_true rfl) (fun p e s m below meth c ls A hA S hr hlk hnm hP hK hD hl => ?_)
  have hS : va_S A s.heap s.heap [] := va_S.rf
  have hl : lv_has ls 2 [(0, .ref (x 32)), (1, .int 10)] := hl
  refine lv_aload_n S.1 S.2.1 dX9_level_0 rfl (lv_at hl 0 rfl) ?_
  refine r_get S hK hP 0 9 rfl rfl inX9 0 (by decide) kw_408 (v := .ref (x 33)) rfl dX9_level_1 ?_
  refine lv_iload_n S.1 S.2.1 dX9_level_4 rfl (lv_at hl 1 rfl) ?_
  refine call_v (wr := [((x 32), .inr (9, [.ref (x 33), .ref (x 34), .ref (x 35), .int 0])), ((x 34), .inl (cy 2, 384, .inr (.inl (fun _ => 0)))), ((x 35), .inl (cy 0, 96, .inl (fun _ => 0)))]) (runS_C (wc := [((x 33), .inl (cy 0, 384, .inl (fun _ => 0)))]) (As := [.ref (x 33), .int 10]) (rest := []) S (kJ7_fill_53178 l D cy (x 33) 384 (fun _ => 0) 10 (by omega)) hK hP hD [1] (by decide) rfl kw_1078 kw_187 kw_146 kw_188 okJ7_fill_53178 rfl (by decide) hl.1 rfl (Nat.le_of_ble_eq_true rfl) dX9_level_5 (by decide)) hP hD hS hA [1] [0, 2, 3] rfl rfl (by decide) (by decide) (fun u5 H locs w5 hP hD hS => ?_)
  have hP : va_P D vwCl [((x 32), .inr (9, [.ref (x 33), .ref (x 34), .ref (x 35), .int 0])), ((x 34), .inl (cy 2, 384, .inr (.inl (fun _ => 0)))), ((x 35), .inl (cy 0, 96, .inl (fun _ => 0))), ((x 33), .inl (cy 0, 384, .inl (fun _ => 10)))] H := hP
  have hD : va_D A [((x 32), .inr (9, [.ref (x 33), .ref (x 34), .ref (x 35), .int 0])), ((x 34), .inl (cy 2, 384, .inr (.inl (fun _ => 0)))), ((x 35), .inl (cy 0, 96, .inl (fun _ => 0))), ((x 33), .inl (cy 0, 384, .inl (fun _ => 10)))] := hD
  refine lv_aload_n S.1 S.2.1 dX9_level_8 rfl (lv_at hl 0 rfl) ?_
  refine r_get S hK hP 0 9 rfl rfl inX9 1 (by decide) kw_409 (v := .ref (x 34)) rfl dX9_level_9 ?_
  refine lv_lconst (v := 0) S.1 S.2.1 dX9_level_12 (by decide) ?_
  refine call_v (wr := [((x 32), .inr (9, [.ref (x 33), .ref (x 34), .ref (x 35), .int 0])), ((x 35), .inl (cy 0, 96, .inl (fun _ => 0))), ((x 33), .inl (cy 0, 384, .inl (fun _ => 10)))]) (runS_C (wc := [((x 34), .inl (cy 2, 384, .inr (.inl (fun _ => 0))))]) (As := [.ref (x 34), .long 0]) (rest := []) S (kJ7_fill_d0a16 l D cy (x 34) 384 (fun _ => 0) 0 (by omega)) hK hP hD [1] (by decide) rfl kw_1079 kw_1080 kw_146 kw_1081 okJ7_fill_d0a16 rfl (by decide) hl.1 rfl (Nat.le_of_ble_eq_true rfl) dX9_level_13 (by decide)) hP hD hS hA [1] [0, 2, 3] rfl rfl (by decide) (by decide) (fun u13 H locs w13 hP hD hS => ?_)
  have hP : va_P D vwCl [((x 32), .inr (9, [.ref (x 33), .ref (x 34), .ref (x 35), .int 0])), ((x 35), .inl (cy 0, 96, .inl (fun _ => 0))), ((x 33), .inl (cy 0, 384, .inl (fun _ => 10))), ((x 34), .inl (cy 2, 384, .inr (.inl (fun _ => 0))))] H := hP
  have hD : va_D A [((x 32), .inr (9, [.ref (x 33), .ref (x 34), .ref (x 35), .int 0])), ((x 35), .inl (cy 0, 96, .inl (fun _ => 0))), ((x 33), .inl (cy 0, 384, .inl (fun _ => 10))), ((x 34), .inl (cy 2, 384, .inr (.inl (fun _ => 0))))] := hD
  refine lv_aload_n S.1 S.2.1 dX9_level_16 rfl (lv_at hl 0 rfl) ?_
  refine r_get S hK hP 0 9 rfl rfl inX9 2 (by decide) kw_411 (v := .ref (x 35)) rfl dX9_level_17 ?_
  refine lv_iconst (v := (-1)) S.1 S.2.1 dX9_level_20 (by decide) ?_
  refine call_v (wr := [((x 32), .inr (9, [.ref (x 33), .ref (x 34), .ref (x 35), .int 0])), ((x 33), .inl (cy 0, 384, .inl (fun _ => 10))), ((x 34), .inl (cy 2, 384, .inr (.inl (fun _ => 0))))]) (runS_C (wc := [((x 35), .inl (cy 0, 96, .inl (fun _ => 0)))]) (As := [.ref (x 35), .int (-1)]) (rest := []) S (kJ7_fill_53178 l D cy (x 35) 96 (fun _ => 0) (-1) (by omega)) hK hP hD [1] (by decide) rfl kw_1078 kw_187 kw_146 kw_188 okJ7_fill_53178 rfl (by decide) hl.1 rfl (Nat.le_of_ble_eq_true rfl) dX9_level_21 (by decide)) hP hD hS hA [1] [0, 2, 3] rfl rfl (by decide) (by decide) (fun u21 H locs w21 hP hD hS => ?_)
  have hP : va_P D vwCl [((x 32), .inr (9, [.ref (x 33), .ref (x 34), .ref (x 35), .int 0])), ((x 33), .inl (cy 0, 384, .inl (fun _ => 10))), ((x 34), .inl (cy 2, 384, .inr (.inl (fun _ => 0)))), ((x 35), .inl (cy 0, 96, .inl (fun _ => (-1))))] H := hP
  have hD : va_D A [((x 32), .inr (9, [.ref (x 33), .ref (x 34), .ref (x 35), .int 0])), ((x 33), .inl (cy 0, 384, .inl (fun _ => 10))), ((x 34), .inl (cy 2, 384, .inr (.inl (fun _ => 0)))), ((x 35), .inl (cy 0, 96, .inl (fun _ => (-1))))] := hD
  exact cv_ret (u := ()) S hr hlk hK (hP.sub [0, 1, 2, 3] rfl) (hD.sub [0, 1, 2, 3] (by decide) rfl) hS (trivial) (by decide) (by decide) dX9_level_24
set_option maxHeartbeats 4000000 in
set_option maxRecDepth 100000 in
theorem kX9_carry (l : Launch) (D : va_G) (cy : Nat → ClassId) (x : Nat → Nat) (p0 : Int32) (p1 : Int32) (p2 : Int32) (z0 : Int) (h0 : p0.toInt = z0) (z1 : Int) (h1 : p1.toInt = z1) (z2 : Int) (h2 : p2.toInt = z2) (b0 : 0 ≤ z0 ∧ z0 < 96) (b1 : 0 ≤ z1 ∧ z1 < 96) (b2 : 0 ≤ z2 ∧ z2 < 384) : RV l D cy yX9_carry cX9_carry 6 none 0 0 [.ref (x 32), .ref (x 36), .int p0, .int p1, .int p2] [((x 32), .inr (9, [.ref (x 33), .ref (x 34), .ref (x 35), .int 0])), ((x 33), .inl (cy 0, 384, .inl (fun _ => 10))), ((x 36), .inl (cy 0, 96, .inl (fun _ => 0)))] (fun v : Unit => True) := by
  refine metr_go (by decide) (Nat.le_of_ble_eq_true rfl) (fun p e s m below meth c ls S hr hlk hP hK hl => ?_)
  have hl : lv_has ls 6 [(0, .ref (x 32)), (1, .ref (x 36)), (2, .int p0), (3, .int p1), (4, .int p2)] := hl
  refine lv_aload_n S.1 S.2.1 dX9_carry_0 rfl (lv_at hl 1 rfl) ?_
  refine lv_iload_n S.1 S.2.1 dX9_carry_1 rfl (lv_at hl 2 rfl) ?_
  obtain ⟨j2_1, hj2_1, qj2_1, zj2_1⟩ := i_nat 96 h0 (by omega) (by omega)
  refine r_iald S hK hP 2 0 rfl rfl (j2_1) qj2_1 hj2_1 (by decide) (v := 0) rfl dX9_carry_2 ?_
  refine lv_aload_n S.1 S.2.1 dX9_carry_3 rfl (lv_at hl 0 rfl) ?_
  refine r_get S hK hP 0 9 rfl rfl inX9 0 (by decide) kw_408 (v := .ref (x 33)) rfl dX9_carry_4 ?_
  refine lv_iload S.1 S.2.1 dX9_carry_7 (lv_at hl 4 rfl) ?_
  obtain ⟨j9_2, hj9_2, qj9_2, zj9_2⟩ := i_nat 384 h2 (by omega) (by omega)
  refine r_iald S hK hP 1 0 rfl rfl (j9_2) qj9_2 hj9_2 (by decide) (v := 10) rfl dX9_carry_9 ?_
  refine r_iadd S dX9_carry_10 (v := 10) (by decide) ?_
  refine lv_istore (lv' := [(5, .int 10), (0, .ref (x 32)), (1, .ref (x 36)), (2, .int p0), (3, .int p1), (4, .int p2)]) S.1 S.2.1 dX9_carry_11 hl (by decide) rfl (fun ls hl => ?_)
  refine lv_iload S.1 S.2.1 dX9_carry_13 (lv_at hl 0 rfl) ?_
  refine lv_aload_n S.1 S.2.1 dX9_carry_15 rfl (lv_at hl 2 rfl) ?_
  refine lv_iload_n S.1 S.2.1 dX9_carry_16 rfl (lv_at hl 4 rfl) ?_
  obtain ⟨j17_3, hj17_3, qj17_3, zj17_3⟩ := i_nat 96 h1 (by omega) (by omega)
  refine r_iald S hK hP 2 0 rfl rfl (j17_3) qj17_3 hj17_3 (by decide) (v := 0) rfl dX9_carry_17 ?_
  refine r_icmp_ge S 10 0 rfl rfl dX9_carry_18 (tgt := 47) (by decide) (fun _ => ?_) (fun c => absurd c (by decide))
  exact rv_ret S hr hlk (trivial) dX9_carry_47
set_option maxHeartbeats 4000000 in
set_option maxRecDepth 100000 in
theorem kX9_sweep (l : Launch) (D : va_G) (cy : Nat → ClassId) (x : Nat → Nat) : RV l D cy yX9_sweep cX9_sweep 5 none 1 25 [.ref (x 32), .ref (x 36), .int 0] [((x 32), .inr (9, [.ref (x 33), .ref (x 34), .ref (x 35), .int 0])), ((x 33), .inl (cy 0, 384, .inl (fun _ => 10))), ((x 36), .inl (cy 0, 96, .inl (fun _ => 0)))] (fun v : Unit => True) := by
  refine metr_go (by decide) (Nat.le_of_ble_eq_true rfl) (fun p e s m below meth c ls S hr hlk hP hK hl => ?_)
  have hl : lv_has ls 5 [(0, .ref (x 32)), (1, .ref (x 36)), (2, .int 0)] := hl
  refine lv_iconst (v := 1) S.1 S.2.1 dX9_sweep_0 (by decide) ?_
  refine lv_istore_n (lv' := [(3, .int 1), (0, .ref (x 32)), (1, .ref (x 36)), (2, .int 0)]) S.1 S.2.1 dX9_sweep_1 rfl hl (by decide) rfl (fun ls hl => ?_)
  refine loopR (σ := Unit) 2 95 (fun k xs9 => [(3, .int (nI (k + 1))), (0, .ref (x 32)), (1, .ref (x 36)), (2, .int 0)]) (fun k xs9 => True) (fun xs9 hJ ls hl => ?_) (fun k xs9 hk hJ ls hl ih => ?_) () trivial (lv_sub hl [0, 1, 2, 3] rfl)
  · have hl : lv_has ls 5 [(3, .int 96), (0, .ref (x 32)), (1, .ref (x 36)), (2, .int 0)] := hl
    refine lv_iload_n S.1 S.2.1 dX9_sweep_2 rfl (lv_at hl 0 rfl) ?_
    refine lv_bipush (v := 96) S.1 S.2.1 dX9_sweep_3 (by decide) ?_
    refine r_icmp_ge S 96 96 rfl rfl dX9_sweep_5 (tgt := 90) (by decide) (fun _ => ?_) (fun c => absurd c (by decide))
    refine lv_bipush (v := 94) S.1 S.2.1 dX9_sweep_90 (by decide) ?_
    refine lv_istore_n (lv' := [(3, .int 94), (0, .ref (x 32)), (1, .ref (x 36)), (2, .int 0)]) S.1 S.2.1 dX9_sweep_92 rfl hl (by decide) rfl (fun ls hl => ?_)
    refine loopR (σ := Unit) 93 95 (fun k xs9 => [(3, .int (nI (95 - k) + (-1))), (0, .ref (x 32)), (1, .ref (x 36)), (2, .int 0)]) (fun k xs9 => True) (fun xs9 hJ ls hl => ?_) (fun k xs9 hk hJ ls hl ih => ?_) () trivial (lv_sub hl [0, 1, 2, 3] rfl)
    · have hl : lv_has ls 5 [(3, .int (-1)), (0, .ref (x 32)), (1, .ref (x 36)), (2, .int 0)] := hl
      refine lv_iload_n S.1 S.2.1 dX9_sweep_93 rfl (lv_at hl 0 rfl) ?_
      refine r_if_lt S (-1) rfl dX9_sweep_94 (tgt := 181) (by decide) (fun _ => ?_) (fun c => absurd c (by decide))
      exact rv_ret S hr hlk (trivial) dX9_sweep_181
    · have hl : lv_has ls 5 [(3, .int (nI (95 - k) + (-1))), (0, .ref (x 32)), (1, .ref (x 36)), (2, .int 0)] := hl
      have e1 : nI (95 - k) + (-1) = nI (94 - k) := by rw [sb_m1 (by omega)]; congr 1; omega
      have hl : lv_has ls 5 [(3, .int (nI (94 - k))), (0, .ref (x 32)), (1, .ref (x 36)), (2, .int 0)] := by rw [← e1]; exact hl
      refine lv_iload_n S.1 S.2.1 dX9_sweep_93 rfl (lv_at hl 0 rfl) ?_
      refine r_if_lt S ((94 - k : Nat) : Int) (nI_toInt (by omega)) dX9_sweep_94 (tgt := 181) (by decide) (fun c => absurd c (by omega)) (fun _ => ?_)
      refine lv_iload_n S.1 S.2.1 dX9_sweep_97 rfl (lv_at hl 0 rfl) ?_
      refine lv_bipush (v := 12) S.1 S.2.1 dX9_sweep_98 (by decide) ?_
      refine r_irem S dX9_sweep_100 (by decide) (v := (nI ((94 - k) % 12))) (pk_rem (a := (94 - k)) (d := 12) (by omega) (by omega) (by omega)) ?_
      refine lv_bipush (v := 11) S.1 S.2.1 dX9_sweep_101 (by decide) ?_
      refine r_icmp_eq S (((94 - k) % 12 : Nat) : Int) 11 (nI_toInt (by omega)) rfl dX9_sweep_103 (tgt := 137) (by decide) (fun e_103_1 => ?_) (fun e_103_1 => ?_)
      · refine lv_iload_n S.1 S.2.1 dX9_sweep_137 rfl (lv_at hl 0 rfl) ?_
        refine lv_bipush (v := 84) S.1 S.2.1 dX9_sweep_138 (by decide) ?_
        refine r_icmp_ge S ((94 - k : Nat) : Int) 84 (nI_toInt (by omega)) rfl dX9_sweep_140 (tgt := 175) (by decide) (fun e_140_2 => ?_) (fun e_140_2 => ?_)
        · refine lv_iinc (v := (nI (95 - (k + 1)) + (-1))) (lv' := [(3, .int (nI (95 - (k + 1)) + (-1))), (0, .ref (x 32)), (1, .ref (x 36)), (2, .int 0)]) S.1 S.2.1 dX9_sweep_175 hl (k := 0) rfl (by rw [show 95 - (k + 1) = 94 - k from by omega]; rfl) (by decide) rfl (fun ls hl => ?_)
          refine lv_goto (tgt := 93) S.1 S.2.1 dX9_sweep_178 (by decide) ?_
          exact ih () _ trivial (lv_sub hl [0, 1, 2, 3] rfl)
        · refine lv_iload_n S.1 S.2.1 dX9_sweep_143 rfl (lv_at hl 0 rfl) ?_
          refine lv_bipush (v := 12) S.1 S.2.1 dX9_sweep_144 (by decide) ?_
          refine r_iadd S dX9_sweep_146 (v := (nI ((94 - k) + 12))) (nI_add ((94 - k)) (12)) ?_
          refine lv_istore (lv' := [(4, .int (nI ((94 - k) + 12))), (3, .int (nI (94 - k))), (0, .ref (x 32)), (1, .ref (x 36)), (2, .int 0)]) S.1 S.2.1 dX9_sweep_147 hl (by decide) rfl (fun ls hl => ?_)
          refine lv_aload_n S.1 S.2.1 dX9_sweep_149 rfl (lv_at hl 2 rfl) ?_
          refine lv_aload_n S.1 S.2.1 dX9_sweep_150 rfl (lv_at hl 3 rfl) ?_
          refine lv_iload S.1 S.2.1 dX9_sweep_151 (lv_at hl 0 rfl) ?_
          refine lv_iload_n S.1 S.2.1 dX9_sweep_153 rfl (lv_at hl 1 rfl) ?_
          refine lv_iload_n S.1 S.2.1 dX9_sweep_154 rfl (lv_at hl 4 rfl) ?_
          refine r_if_eq S 0 rfl dX9_sweep_155 (tgt := 166) (by decide) (fun _ => ?_) (fun c => absurd c (by decide))
          refine lv_iconst (v := 4) S.1 S.2.1 dX9_sweep_166 (by decide) ?_
          refine lv_iload S.1 S.2.1 dX9_sweep_167 (lv_at hl 0 rfl) ?_
          refine r_imul S dX9_sweep_169 (v := (nI (4 * ((94 - k) + 12)))) (pk_mul (4) (((94 - k) + 12))) ?_
          refine lv_iconst (v := 2) S.1 S.2.1 dX9_sweep_170 (by decide) ?_
          refine r_iadd S dX9_sweep_171 (v := (nI ((4 * ((94 - k) + 12)) + 2))) (nI_add ((4 * ((94 - k) + 12))) (2)) ?_
          refine call_rv (runV_R (wc := [((x 32), .inr (9, [.ref (x 33), .ref (x 34), .ref (x 35), .int 0])), ((x 33), .inl (cy 0, 384, .inl (fun _ => 10))), ((x 36), .inl (cy 0, 96, .inl (fun _ => 0)))]) (As := [.ref (x 36), .int (nI ((94 - k) + 12)), .int (nI (94 - k)), .int (nI ((4 * ((94 - k) + 12)) + 2))]) (rest := []) S (kX9_carry l D cy x (nI ((94 - k) + 12)) (nI (94 - k)) (nI ((4 * ((94 - k) + 12)) + 2)) (((94 - k) + 12 : Nat) : Int) (nI_toInt (by omega)) ((94 - k : Nat) : Int) (nI_toInt (by omega)) (((4 * ((94 - k) + 12)) + 2 : Nat) : Int) (nI_toInt (by omega)) (by omega) (by omega) (by omega)) hK hP [0, 1, 2] rfl 0 9 rfl rfl kw_1113 kw_1115 kw_33 kw_151 kw_1116 okX9_carry rfl (by decide) hl.1 rfl (Nat.le_of_ble_eq_true rfl) dX9_sweep_172 (by decide)) (fun w172 => ?_)
          refine lv_iinc (v := (nI (95 - (k + 1)) + (-1))) (lv' := [(3, .int (nI (95 - (k + 1)) + (-1))), (4, .int (nI ((94 - k) + 12))), (0, .ref (x 32)), (1, .ref (x 36)), (2, .int 0)]) S.1 S.2.1 dX9_sweep_175 hl (k := 1) rfl (by rw [show 95 - (k + 1) = 94 - k from by omega]; rfl) (by decide) rfl (fun ls hl => ?_)
          refine lv_goto (tgt := 93) S.1 S.2.1 dX9_sweep_178 (by decide) ?_
          exact ih () _ trivial (lv_sub hl [0, 2, 3, 4] rfl)
      · refine lv_iload_n S.1 S.2.1 dX9_sweep_106 rfl (lv_at hl 0 rfl) ?_
        refine lv_iconst (v := 1) S.1 S.2.1 dX9_sweep_107 (by decide) ?_
        refine r_iadd S dX9_sweep_108 (v := (nI ((94 - k) + 1))) (nI_add ((94 - k)) (1)) ?_
        refine lv_istore (lv' := [(4, .int (nI ((94 - k) + 1))), (3, .int (nI (94 - k))), (0, .ref (x 32)), (1, .ref (x 36)), (2, .int 0)]) S.1 S.2.1 dX9_sweep_109 hl (by decide) rfl (fun ls hl => ?_)
        refine lv_aload_n S.1 S.2.1 dX9_sweep_111 rfl (lv_at hl 2 rfl) ?_
        refine lv_aload_n S.1 S.2.1 dX9_sweep_112 rfl (lv_at hl 3 rfl) ?_
        refine lv_iload S.1 S.2.1 dX9_sweep_113 (lv_at hl 0 rfl) ?_
        refine lv_iload_n S.1 S.2.1 dX9_sweep_115 rfl (lv_at hl 1 rfl) ?_
        refine lv_iload_n S.1 S.2.1 dX9_sweep_116 rfl (lv_at hl 4 rfl) ?_
        refine r_if_eq S 0 rfl dX9_sweep_117 (tgt := 128) (by decide) (fun _ => ?_) (fun c => absurd c (by decide))
        refine lv_iconst (v := 4) S.1 S.2.1 dX9_sweep_128 (by decide) ?_
        refine lv_iload S.1 S.2.1 dX9_sweep_129 (lv_at hl 0 rfl) ?_
        refine r_imul S dX9_sweep_131 (v := (nI (4 * ((94 - k) + 1)))) (pk_mul (4) (((94 - k) + 1))) ?_
        refine lv_iconst (v := 0) S.1 S.2.1 dX9_sweep_132 (by decide) ?_
        refine r_iadd S dX9_sweep_133 (v := (nI ((4 * ((94 - k) + 1)) + 0))) (nI_add ((4 * ((94 - k) + 1))) (0)) ?_
        refine call_rv (runV_R (wc := [((x 32), .inr (9, [.ref (x 33), .ref (x 34), .ref (x 35), .int 0])), ((x 33), .inl (cy 0, 384, .inl (fun _ => 10))), ((x 36), .inl (cy 0, 96, .inl (fun _ => 0)))]) (As := [.ref (x 36), .int (nI ((94 - k) + 1)), .int (nI (94 - k)), .int (nI ((4 * ((94 - k) + 1)) + 0))]) (rest := []) S (kX9_carry l D cy x (nI ((94 - k) + 1)) (nI (94 - k)) (nI ((4 * ((94 - k) + 1)) + 0)) (((94 - k) + 1 : Nat) : Int) (nI_toInt (by omega)) ((94 - k : Nat) : Int) (nI_toInt (by omega)) (((4 * ((94 - k) + 1)) + 0 : Nat) : Int) (nI_toInt (by omega)) (by omega) (by omega) (by omega)) hK hP [0, 1, 2] rfl 0 9 rfl rfl kw_1113 kw_1115 kw_33 kw_151 kw_1116 okX9_carry rfl (by decide) hl.1 rfl (Nat.le_of_ble_eq_true rfl) dX9_sweep_134 (by decide)) (fun w134 => ?_)
        refine lv_iload_n S.1 S.2.1 dX9_sweep_137 rfl (lv_at hl 1 rfl) ?_
        refine lv_bipush (v := 84) S.1 S.2.1 dX9_sweep_138 (by decide) ?_
        refine r_icmp_ge S ((94 - k : Nat) : Int) 84 (nI_toInt (by omega)) rfl dX9_sweep_140 (tgt := 175) (by decide) (fun e_140_2 => ?_) (fun e_140_2 => ?_)
        · refine lv_iinc (v := (nI (95 - (k + 1)) + (-1))) (lv' := [(3, .int (nI (95 - (k + 1)) + (-1))), (4, .int (nI ((94 - k) + 1))), (0, .ref (x 32)), (1, .ref (x 36)), (2, .int 0)]) S.1 S.2.1 dX9_sweep_175 hl (k := 1) rfl (by rw [show 95 - (k + 1) = 94 - k from by omega]; rfl) (by decide) rfl (fun ls hl => ?_)
          refine lv_goto (tgt := 93) S.1 S.2.1 dX9_sweep_178 (by decide) ?_
          exact ih () _ trivial (lv_sub hl [0, 2, 3, 4] rfl)
        · refine lv_iload_n S.1 S.2.1 dX9_sweep_143 rfl (lv_at hl 1 rfl) ?_
          refine lv_bipush (v := 12) S.1 S.2.1 dX9_sweep_144 (by decide) ?_
          refine r_iadd S dX9_sweep_146 (v := (nI ((94 - k) + 12))) (nI_add ((94 - k)) (12)) ?_
          refine lv_istore (lv' := [(4, .int (nI ((94 - k) + 12))), (3, .int (nI (94 - k))), (0, .ref (x 32)), (1, .ref (x 36)), (2, .int 0)]) S.1 S.2.1 dX9_sweep_147 hl (by decide) rfl (fun ls hl => ?_)
          refine lv_aload_n S.1 S.2.1 dX9_sweep_149 rfl (lv_at hl 2 rfl) ?_
          refine lv_aload_n S.1 S.2.1 dX9_sweep_150 rfl (lv_at hl 3 rfl) ?_
          refine lv_iload S.1 S.2.1 dX9_sweep_151 (lv_at hl 0 rfl) ?_
          refine lv_iload_n S.1 S.2.1 dX9_sweep_153 rfl (lv_at hl 1 rfl) ?_
          refine lv_iload_n S.1 S.2.1 dX9_sweep_154 rfl (lv_at hl 4 rfl) ?_
          refine r_if_eq S 0 rfl dX9_sweep_155 (tgt := 166) (by decide) (fun _ => ?_) (fun c => absurd c (by decide))
          refine lv_iconst (v := 4) S.1 S.2.1 dX9_sweep_166 (by decide) ?_
          refine lv_iload S.1 S.2.1 dX9_sweep_167 (lv_at hl 0 rfl) ?_
          refine r_imul S dX9_sweep_169 (v := (nI (4 * ((94 - k) + 12)))) (pk_mul (4) (((94 - k) + 12))) ?_
          refine lv_iconst (v := 2) S.1 S.2.1 dX9_sweep_170 (by decide) ?_
          refine r_iadd S dX9_sweep_171 (v := (nI ((4 * ((94 - k) + 12)) + 2))) (nI_add ((4 * ((94 - k) + 12))) (2)) ?_
          refine call_rv (runV_R (wc := [((x 32), .inr (9, [.ref (x 33), .ref (x 34), .ref (x 35), .int 0])), ((x 33), .inl (cy 0, 384, .inl (fun _ => 10))), ((x 36), .inl (cy 0, 96, .inl (fun _ => 0)))]) (As := [.ref (x 36), .int (nI ((94 - k) + 12)), .int (nI (94 - k)), .int (nI ((4 * ((94 - k) + 12)) + 2))]) (rest := []) S (kX9_carry l D cy x (nI ((94 - k) + 12)) (nI (94 - k)) (nI ((4 * ((94 - k) + 12)) + 2)) (((94 - k) + 12 : Nat) : Int) (nI_toInt (by omega)) ((94 - k : Nat) : Int) (nI_toInt (by omega)) (((4 * ((94 - k) + 12)) + 2 : Nat) : Int) (nI_toInt (by omega)) (by omega) (by omega) (by omega)) hK hP [0, 1, 2] rfl 0 9 rfl rfl kw_1113 kw_1115 kw_33 kw_151 kw_1116 okX9_carry rfl (by decide) hl.1 rfl (Nat.le_of_ble_eq_true rfl) dX9_sweep_172 (by decide)) (fun w172 => ?_)
          refine lv_iinc (v := (nI (95 - (k + 1)) + (-1))) (lv' := [(3, .int (nI (95 - (k + 1)) + (-1))), (4, .int (nI ((94 - k) + 12))), (0, .ref (x 32)), (1, .ref (x 36)), (2, .int 0)]) S.1 S.2.1 dX9_sweep_175 hl (k := 1) rfl (by rw [show 95 - (k + 1) = 94 - k from by omega]; rfl) (by decide) rfl (fun ls hl => ?_)
          refine lv_goto (tgt := 93) S.1 S.2.1 dX9_sweep_178 (by decide) ?_
          exact ih () _ trivial (lv_sub hl [0, 2, 3, 4] rfl)
  · have hl : lv_has ls 5 [(3, .int (nI (k + 1))), (0, .ref (x 32)), (1, .ref (x 36)), (2, .int 0)] := hl
    refine lv_iload_n S.1 S.2.1 dX9_sweep_2 rfl (lv_at hl 0 rfl) ?_
    refine lv_bipush (v := 96) S.1 S.2.1 dX9_sweep_3 (by decide) ?_
    refine r_icmp_ge S ((k + 1 : Nat) : Int) 96 (nI_toInt (by omega)) rfl dX9_sweep_5 (tgt := 90) (by decide) (fun c => absurd c (by omega)) (fun _ => ?_)
    refine lv_iload_n S.1 S.2.1 dX9_sweep_8 rfl (lv_at hl 0 rfl) ?_
    refine lv_bipush (v := 12) S.1 S.2.1 dX9_sweep_9 (by decide) ?_
    refine r_irem S dX9_sweep_11 (by decide) (v := (nI ((k + 1) % 12))) (pk_rem (a := (k + 1)) (d := 12) (by omega) (by omega) (by omega)) ?_
    refine r_if_eq S (((k + 1) % 12 : Nat) : Int) (nI_toInt (by omega)) dX9_sweep_12 (tgt := 46) (by decide) (fun e_12_1 => ?_) (fun e_12_1 => ?_)
    · refine lv_iload_n S.1 S.2.1 dX9_sweep_46 rfl (lv_at hl 0 rfl) ?_
      refine lv_bipush (v := 12) S.1 S.2.1 dX9_sweep_47 (by decide) ?_
      refine r_icmp_lt S ((k + 1 : Nat) : Int) 12 (nI_toInt (by omega)) rfl dX9_sweep_49 (tgt := 84) (by decide) (fun e_49_2 => ?_) (fun e_49_2 => ?_)
      · refine lv_iinc (v := (nI ((k + 1) + 1))) (lv' := [(3, .int (nI ((k + 1) + 1))), (0, .ref (x 32)), (1, .ref (x 36)), (2, .int 0)]) S.1 S.2.1 dX9_sweep_84 hl (k := 0) rfl (nI_1 (k + 1)) (by decide) rfl (fun ls hl => ?_)
        refine lv_goto (tgt := 2) S.1 S.2.1 dX9_sweep_87 (by decide) ?_
        exact ih () _ trivial (lv_sub hl [0, 1, 2, 3] rfl)
      · refine lv_iload_n S.1 S.2.1 dX9_sweep_52 rfl (lv_at hl 0 rfl) ?_
        refine lv_bipush (v := 12) S.1 S.2.1 dX9_sweep_53 (by decide) ?_
        refine r_isub S dX9_sweep_55 (v := (nI ((k + 1) - 12))) (pk_sub (a := (k + 1)) (b := 12) (by omega)) ?_
        refine lv_istore (lv' := [(4, .int (nI ((k + 1) - 12))), (3, .int (nI (k + 1))), (0, .ref (x 32)), (1, .ref (x 36)), (2, .int 0)]) S.1 S.2.1 dX9_sweep_56 hl (by decide) rfl (fun ls hl => ?_)
        refine lv_aload_n S.1 S.2.1 dX9_sweep_58 rfl (lv_at hl 2 rfl) ?_
        refine lv_aload_n S.1 S.2.1 dX9_sweep_59 rfl (lv_at hl 3 rfl) ?_
        refine lv_iload S.1 S.2.1 dX9_sweep_60 (lv_at hl 0 rfl) ?_
        refine lv_iload_n S.1 S.2.1 dX9_sweep_62 rfl (lv_at hl 1 rfl) ?_
        refine lv_iload_n S.1 S.2.1 dX9_sweep_63 rfl (lv_at hl 4 rfl) ?_
        refine r_if_eq S 0 rfl dX9_sweep_64 (tgt := 75) (by decide) (fun _ => ?_) (fun c => absurd c (by decide))
        refine lv_iconst (v := 4) S.1 S.2.1 dX9_sweep_75 (by decide) ?_
        refine lv_iload S.1 S.2.1 dX9_sweep_76 (lv_at hl 0 rfl) ?_
        refine r_imul S dX9_sweep_78 (v := (nI (4 * ((k + 1) - 12)))) (pk_mul (4) (((k + 1) - 12))) ?_
        refine lv_iconst (v := 3) S.1 S.2.1 dX9_sweep_79 (by decide) ?_
        refine r_iadd S dX9_sweep_80 (v := (nI ((4 * ((k + 1) - 12)) + 3))) (nI_add ((4 * ((k + 1) - 12))) (3)) ?_
        refine call_rv (runV_R (wc := [((x 32), .inr (9, [.ref (x 33), .ref (x 34), .ref (x 35), .int 0])), ((x 33), .inl (cy 0, 384, .inl (fun _ => 10))), ((x 36), .inl (cy 0, 96, .inl (fun _ => 0)))]) (As := [.ref (x 36), .int (nI ((k + 1) - 12)), .int (nI (k + 1)), .int (nI ((4 * ((k + 1) - 12)) + 3))]) (rest := []) S (kX9_carry l D cy x (nI ((k + 1) - 12)) (nI (k + 1)) (nI ((4 * ((k + 1) - 12)) + 3)) (((k + 1) - 12 : Nat) : Int) (nI_toInt (by omega)) ((k + 1 : Nat) : Int) (nI_toInt (by omega)) (((4 * ((k + 1) - 12)) + 3 : Nat) : Int) (nI_toInt (by omega)) (by omega) (by omega) (by omega)) hK hP [0, 1, 2] rfl 0 9 rfl rfl kw_1113 kw_1115 kw_33 kw_151 kw_1116 okX9_carry rfl (by decide) hl.1 rfl (Nat.le_of_ble_eq_true rfl) dX9_sweep_81 (by decide)) (fun w81 => ?_)
        refine lv_iinc (v := (nI ((k + 1) + 1))) (lv' := [(3, .int (nI ((k + 1) + 1))), (4, .int (nI ((k + 1) - 12))), (0, .ref (x 32)), (1, .ref (x 36)), (2, .int 0)]) S.1 S.2.1 dX9_sweep_84 hl (k := 1) rfl (nI_1 (k + 1)) (by decide) rfl (fun ls hl => ?_)
        refine lv_goto (tgt := 2) S.1 S.2.1 dX9_sweep_87 (by decide) ?_
        exact ih () _ trivial (lv_sub hl [0, 2, 3, 4] rfl)
    · refine lv_iload_n S.1 S.2.1 dX9_sweep_15 rfl (lv_at hl 0 rfl) ?_
      refine lv_iconst (v := 1) S.1 S.2.1 dX9_sweep_16 (by decide) ?_
      refine r_isub S dX9_sweep_17 (v := (nI ((k + 1) - 1))) (pk_sub (a := (k + 1)) (b := 1) (by omega)) ?_
      refine lv_istore (lv' := [(4, .int (nI ((k + 1) - 1))), (3, .int (nI (k + 1))), (0, .ref (x 32)), (1, .ref (x 36)), (2, .int 0)]) S.1 S.2.1 dX9_sweep_18 hl (by decide) rfl (fun ls hl => ?_)
      refine lv_aload_n S.1 S.2.1 dX9_sweep_20 rfl (lv_at hl 2 rfl) ?_
      refine lv_aload_n S.1 S.2.1 dX9_sweep_21 rfl (lv_at hl 3 rfl) ?_
      refine lv_iload S.1 S.2.1 dX9_sweep_22 (lv_at hl 0 rfl) ?_
      refine lv_iload_n S.1 S.2.1 dX9_sweep_24 rfl (lv_at hl 1 rfl) ?_
      refine lv_iload_n S.1 S.2.1 dX9_sweep_25 rfl (lv_at hl 4 rfl) ?_
      refine r_if_eq S 0 rfl dX9_sweep_26 (tgt := 37) (by decide) (fun _ => ?_) (fun c => absurd c (by decide))
      refine lv_iconst (v := 4) S.1 S.2.1 dX9_sweep_37 (by decide) ?_
      refine lv_iload S.1 S.2.1 dX9_sweep_38 (lv_at hl 0 rfl) ?_
      refine r_imul S dX9_sweep_40 (v := (nI (4 * ((k + 1) - 1)))) (pk_mul (4) (((k + 1) - 1))) ?_
      refine lv_iconst (v := 1) S.1 S.2.1 dX9_sweep_41 (by decide) ?_
      refine r_iadd S dX9_sweep_42 (v := (nI ((4 * ((k + 1) - 1)) + 1))) (nI_add ((4 * ((k + 1) - 1))) (1)) ?_
      refine call_rv (runV_R (wc := [((x 32), .inr (9, [.ref (x 33), .ref (x 34), .ref (x 35), .int 0])), ((x 33), .inl (cy 0, 384, .inl (fun _ => 10))), ((x 36), .inl (cy 0, 96, .inl (fun _ => 0)))]) (As := [.ref (x 36), .int (nI ((k + 1) - 1)), .int (nI (k + 1)), .int (nI ((4 * ((k + 1) - 1)) + 1))]) (rest := []) S (kX9_carry l D cy x (nI ((k + 1) - 1)) (nI (k + 1)) (nI ((4 * ((k + 1) - 1)) + 1)) (((k + 1) - 1 : Nat) : Int) (nI_toInt (by omega)) ((k + 1 : Nat) : Int) (nI_toInt (by omega)) (((4 * ((k + 1) - 1)) + 1 : Nat) : Int) (nI_toInt (by omega)) (by omega) (by omega) (by omega)) hK hP [0, 1, 2] rfl 0 9 rfl rfl kw_1113 kw_1115 kw_33 kw_151 kw_1116 okX9_carry rfl (by decide) hl.1 rfl (Nat.le_of_ble_eq_true rfl) dX9_sweep_43 (by decide)) (fun w43 => ?_)
      refine lv_iload_n S.1 S.2.1 dX9_sweep_46 rfl (lv_at hl 1 rfl) ?_
      refine lv_bipush (v := 12) S.1 S.2.1 dX9_sweep_47 (by decide) ?_
      refine r_icmp_lt S ((k + 1 : Nat) : Int) 12 (nI_toInt (by omega)) rfl dX9_sweep_49 (tgt := 84) (by decide) (fun e_49_2 => ?_) (fun e_49_2 => ?_)
      · refine lv_iinc (v := (nI ((k + 1) + 1))) (lv' := [(3, .int (nI ((k + 1) + 1))), (4, .int (nI ((k + 1) - 1))), (0, .ref (x 32)), (1, .ref (x 36)), (2, .int 0)]) S.1 S.2.1 dX9_sweep_84 hl (k := 1) rfl (nI_1 (k + 1)) (by decide) rfl (fun ls hl => ?_)
        refine lv_goto (tgt := 2) S.1 S.2.1 dX9_sweep_87 (by decide) ?_
        exact ih () _ trivial (lv_sub hl [0, 2, 3, 4] rfl)
      · refine lv_iload_n S.1 S.2.1 dX9_sweep_52 rfl (lv_at hl 1 rfl) ?_
        refine lv_bipush (v := 12) S.1 S.2.1 dX9_sweep_53 (by decide) ?_
        refine r_isub S dX9_sweep_55 (v := (nI ((k + 1) - 12))) (pk_sub (a := (k + 1)) (b := 12) (by omega)) ?_
        refine lv_istore (lv' := [(4, .int (nI ((k + 1) - 12))), (3, .int (nI (k + 1))), (0, .ref (x 32)), (1, .ref (x 36)), (2, .int 0)]) S.1 S.2.1 dX9_sweep_56 hl (by decide) rfl (fun ls hl => ?_)
        refine lv_aload_n S.1 S.2.1 dX9_sweep_58 rfl (lv_at hl 2 rfl) ?_
        refine lv_aload_n S.1 S.2.1 dX9_sweep_59 rfl (lv_at hl 3 rfl) ?_
        refine lv_iload S.1 S.2.1 dX9_sweep_60 (lv_at hl 0 rfl) ?_
        refine lv_iload_n S.1 S.2.1 dX9_sweep_62 rfl (lv_at hl 1 rfl) ?_
        refine lv_iload_n S.1 S.2.1 dX9_sweep_63 rfl (lv_at hl 4 rfl) ?_
        refine r_if_eq S 0 rfl dX9_sweep_64 (tgt := 75) (by decide) (fun _ => ?_) (fun c => absurd c (by decide))
        refine lv_iconst (v := 4) S.1 S.2.1 dX9_sweep_75 (by decide) ?_
        refine lv_iload S.1 S.2.1 dX9_sweep_76 (lv_at hl 0 rfl) ?_
        refine r_imul S dX9_sweep_78 (v := (nI (4 * ((k + 1) - 12)))) (pk_mul (4) (((k + 1) - 12))) ?_
        refine lv_iconst (v := 3) S.1 S.2.1 dX9_sweep_79 (by decide) ?_
        refine r_iadd S dX9_sweep_80 (v := (nI ((4 * ((k + 1) - 12)) + 3))) (nI_add ((4 * ((k + 1) - 12))) (3)) ?_
        refine call_rv (runV_R (wc := [((x 32), .inr (9, [.ref (x 33), .ref (x 34), .ref (x 35), .int 0])), ((x 33), .inl (cy 0, 384, .inl (fun _ => 10))), ((x 36), .inl (cy 0, 96, .inl (fun _ => 0)))]) (As := [.ref (x 36), .int (nI ((k + 1) - 12)), .int (nI (k + 1)), .int (nI ((4 * ((k + 1) - 12)) + 3))]) (rest := []) S (kX9_carry l D cy x (nI ((k + 1) - 12)) (nI (k + 1)) (nI ((4 * ((k + 1) - 12)) + 3)) (((k + 1) - 12 : Nat) : Int) (nI_toInt (by omega)) ((k + 1 : Nat) : Int) (nI_toInt (by omega)) (((4 * ((k + 1) - 12)) + 3 : Nat) : Int) (nI_toInt (by omega)) (by omega) (by omega) (by omega)) hK hP [0, 1, 2] rfl 0 9 rfl rfl kw_1113 kw_1115 kw_33 kw_151 kw_1116 okX9_carry rfl (by decide) hl.1 rfl (Nat.le_of_ble_eq_true rfl) dX9_sweep_81 (by decide)) (fun w81 => ?_)
        refine lv_iinc (v := (nI ((k + 1) + 1))) (lv' := [(3, .int (nI ((k + 1) + 1))), (4, .int (nI ((k + 1) - 12))), (0, .ref (x 32)), (1, .ref (x 36)), (2, .int 0)]) S.1 S.2.1 dX9_sweep_84 hl (k := 1) rfl (nI_1 (k + 1)) (by decide) rfl (fun ls hl => ?_)
        refine lv_goto (tgt := 2) S.1 S.2.1 dX9_sweep_87 (by decide) ?_
        exact ih () _ trivial (lv_sub hl [0, 2, 3, 4] rfl)
set_option maxHeartbeats 4000000 in
set_option maxRecDepth 100000 in
theorem kX6_begin (l : Launch) (D : va_G) (cy : Nat → ClassId) (x : Nat → Nat) : CV l D cy yX6_begin cX6_begin 4 none 0 0 0 0 [.ref (x 31), .int 0, .int 0, .int 10] [((x 31), .inr (6, [.ref (x 32), .ref (x 9), .ref (x 29), .int 0, .int 0, .int 0, .ref (x 36), .ref (x 37), .ref (x 38), .ref (x 39), .ref (x 40), .ref (x 41), .int 0]))] (fun (u : Unit) => True) (fun (u : Unit) => [((x 31), .inr (6, [.ref (x 32), .ref (x 9), .ref (x 29), .int 0, .int 0, .int 10, .ref (x 36), .ref (x 37), .ref (x 38), .ref (x 39), .ref (x 40), .ref (x 41), .int 0]))]) := by
  refine cv_go (by decide) (Nat.le_of_ble_eq_true rfl) (fun p e s m below meth c ls A hA S hr hlk hnm hP hK hD hl => ?_)
  have hS : va_S A s.heap s.heap [] := va_S.rf
  have hl : lv_has ls 4 [(0, .ref (x 31)), (1, .int 0), (2, .int 0), (3, .int 10)] := hl
  refine lv_aload_n S.1 S.2.1 dX6_begin_0 rfl (lv_at hl 0 rfl) ?_
  refine lv_iload_n S.1 S.2.1 dX6_begin_1 rfl (lv_at hl 1 rfl) ?_
  refine r_put S hK hP hD hS 0 6 rfl rfl inX6 3 (by decide) tyX6 tyX6_ok nmX6 kw_427 (v := .int 0) rfl rfl rfl (Nat.le_of_ble_eq_true rfl) dX6_begin_2 (fun H locs hP hD hS => ?_)
  have hP : va_P D vwCl [((x 31), .inr (6, [.ref (x 32), .ref (x 9), .ref (x 29), .int 0, .int 0, .int 0, .ref (x 36), .ref (x 37), .ref (x 38), .ref (x 39), .ref (x 40), .ref (x 41), .int 0]))] H := hP
  have hD : va_D A [((x 31), .inr (6, [.ref (x 32), .ref (x 9), .ref (x 29), .int 0, .int 0, .int 0, .ref (x 36), .ref (x 37), .ref (x 38), .ref (x 39), .ref (x 40), .ref (x 41), .int 0]))] := hD
  refine lv_aload_n S.1 S.2.1 dX6_begin_5 rfl (lv_at hl 0 rfl) ?_
  refine lv_iload_n S.1 S.2.1 dX6_begin_6 rfl (lv_at hl 2 rfl) ?_
  refine r_put S hK hP hD hS 0 6 rfl rfl inX6 4 (by decide) tyX6 tyX6_ok nmX6 kw_428 (v := .int 0) rfl rfl rfl (Nat.le_of_ble_eq_true rfl) dX6_begin_7 (fun H locs hP hD hS => ?_)
  have hP : va_P D vwCl [((x 31), .inr (6, [.ref (x 32), .ref (x 9), .ref (x 29), .int 0, .int 0, .int 0, .ref (x 36), .ref (x 37), .ref (x 38), .ref (x 39), .ref (x 40), .ref (x 41), .int 0]))] H := hP
  have hD : va_D A [((x 31), .inr (6, [.ref (x 32), .ref (x 9), .ref (x 29), .int 0, .int 0, .int 0, .ref (x 36), .ref (x 37), .ref (x 38), .ref (x 39), .ref (x 40), .ref (x 41), .int 0]))] := hD
  refine lv_aload_n S.1 S.2.1 dX6_begin_10 rfl (lv_at hl 0 rfl) ?_
  refine lv_iload_n S.1 S.2.1 dX6_begin_11 rfl (lv_at hl 3 rfl) ?_
  refine r_put S hK hP hD hS 0 6 rfl rfl inX6 5 (by decide) tyX6 tyX6_ok nmX6 kw_429 (v := .int 10) rfl rfl rfl (Nat.le_of_ble_eq_true rfl) dX6_begin_12 (fun H locs hP hD hS => ?_)
  have hP : va_P D vwCl [((x 31), .inr (6, [.ref (x 32), .ref (x 9), .ref (x 29), .int 0, .int 0, .int 10, .ref (x 36), .ref (x 37), .ref (x 38), .ref (x 39), .ref (x 40), .ref (x 41), .int 0]))] H := hP
  have hD : va_D A [((x 31), .inr (6, [.ref (x 32), .ref (x 9), .ref (x 29), .int 0, .int 0, .int 10, .ref (x 36), .ref (x 37), .ref (x 38), .ref (x 39), .ref (x 40), .ref (x 41), .int 0]))] := hD
  exact cv_ret (u := ()) S hr hlk hK (hP.sub [0] rfl) (hD.sub [0] (by decide) rfl) hS (trivial) (by decide) (by decide) dX6_begin_15
set_option maxHeartbeats 4000000 in
set_option maxRecDepth 100000 in
theorem kX6_lay (l : Launch) (D : va_G) (cy : Nat → ClassId) (x : Nat → Nat) : CV l D cy yX6_lay cX6_lay 8 none 2 45 0 0 [.ref (x 31), .int 0, .long 0] [((x 31), .inr (6, [.ref (x 32), .ref (x 9), .ref (x 29), .int 0, .int 0, .int 10, .ref (x 36), .ref (x 37), .ref (x 38), .ref (x 39), .ref (x 40), .ref (x 41), .int 0])), ((x 32), .inr (9, [.ref (x 33), .ref (x 34), .ref (x 35), .int 0])), ((x 33), .inl (cy 0, 384, .inl (fun _ => 0))), ((x 34), .inl (cy 2, 384, .inr (.inl (fun _ => 0)))), ((x 35), .inl (cy 0, 96, .inl (fun _ => 0))), ((x 36), .inl (cy 0, 96, .inl (fun _ => 0))), ((x 38), .inl (cy 0, 96, .inl (fun _ => 0)))] (fun (u : Unit) => True) (fun (u : Unit) => [((x 31), .inr (6, [.ref (x 32), .ref (x 9), .ref (x 29), .int 0, .int 0, .int 10, .ref (x 36), .ref (x 37), .ref (x 38), .ref (x 39), .ref (x 40), .ref (x 41), .int 0])), ((x 32), .inr (9, [.ref (x 33), .ref (x 34), .ref (x 35), .int 0])), ((x 33), .inl (cy 0, 384, .inl (fun _ => 10))), ((x 34), .inl (cy 2, 384, .inr (.inl (fun _ => 0)))), ((x 35), .inl (cy 0, 96, .inl (fun _ => (-1)))), ((x 36), .inl (cy 0, 96, .inl (fun _ => 0))), ((x 38), .inl (cy 0, 96, .inl (fun _ => (-268435456))))]) := by
  refine cv_go (by decide) (Nat.le_of_ble_eq_true rfl) (fun p e s m below meth c ls A hA S hr hlk hnm hP hK hD hl => ?_)
  have hS : va_S A s.heap s.heap [] := va_S.rf
  have hl : lv_has ls 8 [(0, .ref (x 31)), (1, .int 0), (2, .long 0)] := hl
  refine lv_aload_n S.1 S.2.1 dX6_lay_0 rfl (lv_at hl 0 rfl) ?_
  refine r_get S hK hP 0 6 rfl rfl inX6 0 (by decide) kw_424 (v := .ref (x 32)) rfl dX6_lay_1 ?_
  refine lv_aload_n S.1 S.2.1 dX6_lay_4 rfl (lv_at hl 0 rfl) ?_
  refine r_get S hK hP 0 6 rfl rfl inX6 5 (by decide) kw_429 (v := .int 10) rfl dX6_lay_5 ?_
  refine call_v (wr := [((x 31), .inr (6, [.ref (x 32), .ref (x 9), .ref (x 29), .int 0, .int 0, .int 10, .ref (x 36), .ref (x 37), .ref (x 38), .ref (x 39), .ref (x 40), .ref (x 41), .int 0])), ((x 36), .inl (cy 0, 96, .inl (fun _ => 0))), ((x 38), .inl (cy 0, 96, .inl (fun _ => 0)))]) (runV_C (wc := [((x 32), .inr (9, [.ref (x 33), .ref (x 34), .ref (x 35), .int 0])), ((x 33), .inl (cy 0, 384, .inl (fun _ => 0))), ((x 34), .inl (cy 2, 384, .inr (.inl (fun _ => 0)))), ((x 35), .inl (cy 0, 96, .inl (fun _ => 0)))]) (As := [.int 10]) (rest := []) S (kX9_level l D cy x) hK hP hD [1, 2, 3, 4] (by decide) rfl 0 9 rfl rfl kw_1074 kw_1075 kw_1076 kw_151 kw_1077 okX9_level rfl (by decide) hl.1 rfl (Nat.le_of_ble_eq_true rfl) dX6_lay_8 (by decide)) hP hD hS hA [1, 2, 3, 4] [0, 5, 6] rfl rfl (by decide) (by decide) (fun u8 H locs w8 hP hD hS => ?_)
  have hP : va_P D vwCl [((x 31), .inr (6, [.ref (x 32), .ref (x 9), .ref (x 29), .int 0, .int 0, .int 10, .ref (x 36), .ref (x 37), .ref (x 38), .ref (x 39), .ref (x 40), .ref (x 41), .int 0])), ((x 36), .inl (cy 0, 96, .inl (fun _ => 0))), ((x 38), .inl (cy 0, 96, .inl (fun _ => 0))), ((x 32), .inr (9, [.ref (x 33), .ref (x 34), .ref (x 35), .int 0])), ((x 33), .inl (cy 0, 384, .inl (fun _ => 10))), ((x 34), .inl (cy 2, 384, .inr (.inl (fun _ => 0)))), ((x 35), .inl (cy 0, 96, .inl (fun _ => (-1))))] H := hP
  have hD : va_D A [((x 31), .inr (6, [.ref (x 32), .ref (x 9), .ref (x 29), .int 0, .int 0, .int 10, .ref (x 36), .ref (x 37), .ref (x 38), .ref (x 39), .ref (x 40), .ref (x 41), .int 0])), ((x 36), .inl (cy 0, 96, .inl (fun _ => 0))), ((x 38), .inl (cy 0, 96, .inl (fun _ => 0))), ((x 32), .inr (9, [.ref (x 33), .ref (x 34), .ref (x 35), .int 0])), ((x 33), .inl (cy 0, 384, .inl (fun _ => 10))), ((x 34), .inl (cy 2, 384, .inr (.inl (fun _ => 0)))), ((x 35), .inl (cy 0, 96, .inl (fun _ => (-1))))] := hD
  refine lv_aload_n S.1 S.2.1 dX6_lay_11 rfl (lv_at hl 0 rfl) ?_
  refine r_get S hK hP 0 6 rfl rfl inX6 6 (by decide) kw_430 (v := .ref (x 36)) rfl dX6_lay_12 ?_
  refine lv_ldc (v := 268435456) S.1 S.2.1 S.2.2.2.1 (S.2.2.2.2 _ kw_1082) dX6_lay_15 ?_
  refine call_v (wr := [((x 31), .inr (6, [.ref (x 32), .ref (x 9), .ref (x 29), .int 0, .int 0, .int 10, .ref (x 36), .ref (x 37), .ref (x 38), .ref (x 39), .ref (x 40), .ref (x 41), .int 0])), ((x 38), .inl (cy 0, 96, .inl (fun _ => 0))), ((x 32), .inr (9, [.ref (x 33), .ref (x 34), .ref (x 35), .int 0])), ((x 33), .inl (cy 0, 384, .inl (fun _ => 10))), ((x 34), .inl (cy 2, 384, .inr (.inl (fun _ => 0)))), ((x 35), .inl (cy 0, 96, .inl (fun _ => (-1))))]) (runS_C (wc := [((x 36), .inl (cy 0, 96, .inl (fun _ => 0)))]) (As := [.ref (x 36), .int 268435456]) (rest := []) S (kJ7_fill_53178 l D cy (x 36) 96 (fun _ => 0) 268435456 (by omega)) hK hP hD [1] (by decide) rfl kw_1083 kw_187 kw_146 kw_188 okJ7_fill_53178 rfl (by decide) hl.1 rfl (Nat.le_of_ble_eq_true rfl) dX6_lay_17 (by decide)) hP hD hS hA [1] [0, 2, 3, 4, 5, 6] rfl rfl (by decide) (by decide) (fun u17 H locs w17 hP hD hS => ?_)
  have hP : va_P D vwCl [((x 31), .inr (6, [.ref (x 32), .ref (x 9), .ref (x 29), .int 0, .int 0, .int 10, .ref (x 36), .ref (x 37), .ref (x 38), .ref (x 39), .ref (x 40), .ref (x 41), .int 0])), ((x 38), .inl (cy 0, 96, .inl (fun _ => 0))), ((x 32), .inr (9, [.ref (x 33), .ref (x 34), .ref (x 35), .int 0])), ((x 33), .inl (cy 0, 384, .inl (fun _ => 10))), ((x 34), .inl (cy 2, 384, .inr (.inl (fun _ => 0)))), ((x 35), .inl (cy 0, 96, .inl (fun _ => (-1)))), ((x 36), .inl (cy 0, 96, .inl (fun _ => 268435456)))] H := hP
  have hD : va_D A [((x 31), .inr (6, [.ref (x 32), .ref (x 9), .ref (x 29), .int 0, .int 0, .int 10, .ref (x 36), .ref (x 37), .ref (x 38), .ref (x 39), .ref (x 40), .ref (x 41), .int 0])), ((x 38), .inl (cy 0, 96, .inl (fun _ => 0))), ((x 32), .inr (9, [.ref (x 33), .ref (x 34), .ref (x 35), .int 0])), ((x 33), .inl (cy 0, 384, .inl (fun _ => 10))), ((x 34), .inl (cy 2, 384, .inr (.inl (fun _ => 0)))), ((x 35), .inl (cy 0, 96, .inl (fun _ => (-1)))), ((x 36), .inl (cy 0, 96, .inl (fun _ => 268435456)))] := hD
  refine lv_aload_n S.1 S.2.1 dX6_lay_20 rfl (lv_at hl 0 rfl) ?_
  refine r_get S hK hP 0 6 rfl rfl inX6 8 (by decide) kw_434 (v := .ref (x 38)) rfl dX6_lay_21 ?_
  refine lv_ldc (v := (-268435456)) S.1 S.2.1 S.2.2.2.1 (S.2.2.2.2 _ kw_1084) dX6_lay_24 ?_
  refine call_v (wr := [((x 31), .inr (6, [.ref (x 32), .ref (x 9), .ref (x 29), .int 0, .int 0, .int 10, .ref (x 36), .ref (x 37), .ref (x 38), .ref (x 39), .ref (x 40), .ref (x 41), .int 0])), ((x 32), .inr (9, [.ref (x 33), .ref (x 34), .ref (x 35), .int 0])), ((x 33), .inl (cy 0, 384, .inl (fun _ => 10))), ((x 34), .inl (cy 2, 384, .inr (.inl (fun _ => 0)))), ((x 35), .inl (cy 0, 96, .inl (fun _ => (-1)))), ((x 36), .inl (cy 0, 96, .inl (fun _ => 268435456)))]) (runS_C (wc := [((x 38), .inl (cy 0, 96, .inl (fun _ => 0)))]) (As := [.ref (x 38), .int (-268435456)]) (rest := []) S (kJ7_fill_53178 l D cy (x 38) 96 (fun _ => 0) (-268435456) (by omega)) hK hP hD [1] (by decide) rfl kw_1083 kw_187 kw_146 kw_188 okJ7_fill_53178 rfl (by decide) hl.1 rfl (Nat.le_of_ble_eq_true rfl) dX6_lay_26 (by decide)) hP hD hS hA [1] [0, 2, 3, 4, 5, 6] rfl rfl (by decide) (by decide) (fun u26 H locs w26 hP hD hS => ?_)
  have hP : va_P D vwCl [((x 31), .inr (6, [.ref (x 32), .ref (x 9), .ref (x 29), .int 0, .int 0, .int 10, .ref (x 36), .ref (x 37), .ref (x 38), .ref (x 39), .ref (x 40), .ref (x 41), .int 0])), ((x 32), .inr (9, [.ref (x 33), .ref (x 34), .ref (x 35), .int 0])), ((x 33), .inl (cy 0, 384, .inl (fun _ => 10))), ((x 34), .inl (cy 2, 384, .inr (.inl (fun _ => 0)))), ((x 35), .inl (cy 0, 96, .inl (fun _ => (-1)))), ((x 36), .inl (cy 0, 96, .inl (fun _ => 268435456))), ((x 38), .inl (cy 0, 96, .inl (fun _ => (-268435456))))] H := hP
  have hD : va_D A [((x 31), .inr (6, [.ref (x 32), .ref (x 9), .ref (x 29), .int 0, .int 0, .int 10, .ref (x 36), .ref (x 37), .ref (x 38), .ref (x 39), .ref (x 40), .ref (x 41), .int 0])), ((x 32), .inr (9, [.ref (x 33), .ref (x 34), .ref (x 35), .int 0])), ((x 33), .inl (cy 0, 384, .inl (fun _ => 10))), ((x 34), .inl (cy 2, 384, .inr (.inl (fun _ => 0)))), ((x 35), .inl (cy 0, 96, .inl (fun _ => (-1)))), ((x 36), .inl (cy 0, 96, .inl (fun _ => 268435456))), ((x 38), .inl (cy 0, 96, .inl (fun _ => (-268435456))))] := hD
  refine lv_iconst (v := 0) S.1 S.2.1 dX6_lay_29 (by decide) ?_
  refine lv_istore (lv' := [(4, .int 0), (0, .ref (x 31)), (1, .int 0), (2, .long 0)]) S.1 S.2.1 dX6_lay_30 hl (by decide) rfl (fun ls hl => ?_)
  refine lv_iconst (v := 0) S.1 S.2.1 dX6_lay_32 (by decide) ?_
  refine lv_istore (lv' := [(5, .int 0), (4, .int 0), (0, .ref (x 31)), (1, .int 0), (2, .long 0)]) S.1 S.2.1 dX6_lay_33 hl (by decide) rfl (fun ls hl => ?_)
  refine lv_iload S.1 S.2.1 dX6_lay_35 (lv_at hl 0 rfl) ?_
  refine lv_aload_n S.1 S.2.1 dX6_lay_37 rfl (lv_at hl 2 rfl) ?_
  refine r_get S hK hP 0 6 rfl rfl inX6 3 (by decide) kw_427 (v := .int 0) rfl dX6_lay_38 ?_
  refine r_icmp_ge S 0 0 rfl rfl dX6_lay_41 (tgt := 176) (by decide) (fun _ => ?_) (fun c => absurd c (by decide))
  refine lv_iload S.1 S.2.1 dX6_lay_176 (lv_at hl 1 rfl) ?_
  refine r_if_ne S 0 rfl dX6_lay_178 (tgt := 189) (by decide) (fun c => absurd c (by decide)) (fun _ => ?_)
  refine lv_aload_n S.1 S.2.1 dX6_lay_181 rfl (lv_at hl 2 rfl) ?_
  refine r_get S hK hP 0 6 rfl rfl inX6 6 (by decide) kw_430 (v := .ref (x 36)) rfl dX6_lay_182 ?_
  refine lv_iconst (v := 0) S.1 S.2.1 dX6_lay_185 (by decide) ?_
  refine call_v (wr := [((x 31), .inr (6, [.ref (x 32), .ref (x 9), .ref (x 29), .int 0, .int 0, .int 10, .ref (x 36), .ref (x 37), .ref (x 38), .ref (x 39), .ref (x 40), .ref (x 41), .int 0])), ((x 32), .inr (9, [.ref (x 33), .ref (x 34), .ref (x 35), .int 0])), ((x 33), .inl (cy 0, 384, .inl (fun _ => 10))), ((x 34), .inl (cy 2, 384, .inr (.inl (fun _ => 0)))), ((x 35), .inl (cy 0, 96, .inl (fun _ => (-1)))), ((x 38), .inl (cy 0, 96, .inl (fun _ => (-268435456))))]) (runS_C (wc := [((x 36), .inl (cy 0, 96, .inl (fun _ => 268435456)))]) (As := [.ref (x 36), .int 0]) (rest := []) S (kJ7_fill_53178 l D cy (x 36) 96 (fun _ => 268435456) 0 (by omega)) hK hP hD [5] (by decide) rfl kw_1083 kw_187 kw_146 kw_188 okJ7_fill_53178 rfl (by decide) hl.1 rfl (Nat.le_of_ble_eq_true rfl) dX6_lay_186 (by decide)) hP hD hS hA [5] [0, 1, 2, 3, 4, 6] rfl rfl (by decide) (by decide) (fun u186 H locs w186 hP hD hS => ?_)
  have hP : va_P D vwCl [((x 31), .inr (6, [.ref (x 32), .ref (x 9), .ref (x 29), .int 0, .int 0, .int 10, .ref (x 36), .ref (x 37), .ref (x 38), .ref (x 39), .ref (x 40), .ref (x 41), .int 0])), ((x 32), .inr (9, [.ref (x 33), .ref (x 34), .ref (x 35), .int 0])), ((x 33), .inl (cy 0, 384, .inl (fun _ => 10))), ((x 34), .inl (cy 2, 384, .inr (.inl (fun _ => 0)))), ((x 35), .inl (cy 0, 96, .inl (fun _ => (-1)))), ((x 38), .inl (cy 0, 96, .inl (fun _ => (-268435456)))), ((x 36), .inl (cy 0, 96, .inl (fun _ => 0)))] H := hP
  have hD : va_D A [((x 31), .inr (6, [.ref (x 32), .ref (x 9), .ref (x 29), .int 0, .int 0, .int 10, .ref (x 36), .ref (x 37), .ref (x 38), .ref (x 39), .ref (x 40), .ref (x 41), .int 0])), ((x 32), .inr (9, [.ref (x 33), .ref (x 34), .ref (x 35), .int 0])), ((x 33), .inl (cy 0, 384, .inl (fun _ => 10))), ((x 34), .inl (cy 2, 384, .inr (.inl (fun _ => 0)))), ((x 35), .inl (cy 0, 96, .inl (fun _ => (-1)))), ((x 38), .inl (cy 0, 96, .inl (fun _ => (-268435456)))), ((x 36), .inl (cy 0, 96, .inl (fun _ => 0)))] := hD
  refine lv_aload_n S.1 S.2.1 dX6_lay_189 rfl (lv_at hl 2 rfl) ?_
  refine r_get S hK hP 0 6 rfl rfl inX6 4 (by decide) kw_428 (v := .int 0) rfl dX6_lay_190 ?_
  refine lv_iconst (v := 1) S.1 S.2.1 dX6_lay_193 (by decide) ?_
  refine r_isub S dX6_lay_194 (v := (-1)) (by decide) ?_
  refine lv_istore (lv' := [(5, .int (-1)), (4, .int 0), (0, .ref (x 31)), (1, .int 0), (2, .long 0)]) S.1 S.2.1 dX6_lay_195 hl (by decide) rfl (fun ls hl => ?_)
  refine lv_iload S.1 S.2.1 dX6_lay_197 (lv_at hl 0 rfl) ?_
  refine r_if_lt S (-1) rfl dX6_lay_199 (tgt := 231) (by decide) (fun _ => ?_) (fun c => absurd c (by decide))
  exact cv_ret (u := ()) S hr hlk hK (hP.sub [0, 1, 2, 3, 4, 6, 5] rfl) (hD.sub [0, 1, 2, 3, 4, 6, 5] (by decide) rfl) hS (trivial) (by decide) (by decide) dX6_lay_231
set_option maxHeartbeats 4000000 in
set_option maxRecDepth 100000 in
theorem kX6_firstBelowFloor (l : Launch) (D : va_G) (cy : Nat → ClassId) (x : Nat → Nat) : RI l D cy yX6_firstBelowFloor cX6_firstBelowFloor 2 (some .int) 0 0 [.ref (x 31)] [((x 31), .inr (6, [.ref (x 32), .ref (x 9), .ref (x 29), .int 0, .int 0, .int 10, .ref (x 36), .ref (x 37), .ref (x 38), .ref (x 39), .ref (x 40), .ref (x 41), .int 0])), ((x 36), .inl (cy 0, 96, .inl (fun _ => 0))), ((x 38), .inl (cy 0, 96, .inl (fun _ => (-268435456))))] (fun v : Int32 => v = (-1)) := by
  refine metr_go (by decide) (Nat.le_of_ble_eq_true rfl) (fun p e s m below meth c ls S hr hlk hP hK hl => ?_)
  have hl : lv_has ls 2 [(0, .ref (x 31))] := hl
  refine lv_iconst (v := 0) S.1 S.2.1 dX6_firstBelowFloor_0 (by decide) ?_
  refine lv_istore_n (lv' := [(1, .int 0), (0, .ref (x 31))]) S.1 S.2.1 dX6_firstBelowFloor_1 rfl hl (by decide) rfl (fun ls hl => ?_)
  refine loopR (σ := Unit) 2 96 (fun k xs9 => [(1, .int (nI (k))), (0, .ref (x 31))]) (fun k xs9 => True) (fun xs9 hJ ls hl => ?_) (fun k xs9 hk hJ ls hl ih => ?_) () trivial (lv_sub hl [0, 1] rfl)
  · have hl : lv_has ls 2 [(1, .int 96), (0, .ref (x 31))] := hl
    refine lv_iload_n S.1 S.2.1 dX6_firstBelowFloor_2 rfl (lv_at hl 0 rfl) ?_
    refine lv_bipush (v := 96) S.1 S.2.1 dX6_firstBelowFloor_3 (by decide) ?_
    refine r_icmp_ge S 96 96 rfl rfl dX6_firstBelowFloor_5 (tgt := 31) (by decide) (fun _ => ?_) (fun c => absurd c (by decide))
    refine lv_iconst (v := (-1)) S.1 S.2.1 dX6_firstBelowFloor_31 (by decide) ?_
    exact ri_ret S hr hlk rfl (rfl) dX6_firstBelowFloor_32
  · have hl : lv_has ls 2 [(1, .int (nI (k))), (0, .ref (x 31))] := hl
    refine lv_iload_n S.1 S.2.1 dX6_firstBelowFloor_2 rfl (lv_at hl 0 rfl) ?_
    refine lv_bipush (v := 96) S.1 S.2.1 dX6_firstBelowFloor_3 (by decide) ?_
    refine r_icmp_ge S ((k : Nat) : Int) 96 (nI_toInt (by omega)) rfl dX6_firstBelowFloor_5 (tgt := 31) (by decide) (fun c => absurd c (by omega)) (fun _ => ?_)
    refine lv_aload_n S.1 S.2.1 dX6_firstBelowFloor_8 rfl (lv_at hl 1 rfl) ?_
    refine r_get S hK hP 0 6 rfl rfl inX6 6 (by decide) kw_430 (v := .ref (x 36)) rfl dX6_firstBelowFloor_9 ?_
    refine lv_iload_n S.1 S.2.1 dX6_firstBelowFloor_12 rfl (lv_at hl 0 rfl) ?_
    refine r_iald S hK hP 1 0 rfl rfl ((k)) rfl (by omega) (by decide) (v := 0) rfl dX6_firstBelowFloor_13 ?_
    refine lv_aload_n S.1 S.2.1 dX6_firstBelowFloor_14 rfl (lv_at hl 1 rfl) ?_
    refine r_get S hK hP 0 6 rfl rfl inX6 8 (by decide) kw_434 (v := .ref (x 38)) rfl dX6_firstBelowFloor_15 ?_
    refine lv_iload_n S.1 S.2.1 dX6_firstBelowFloor_18 rfl (lv_at hl 0 rfl) ?_
    refine r_iald S hK hP 2 0 rfl rfl ((k)) rfl (by omega) (by decide) (v := (-268435456)) rfl dX6_firstBelowFloor_19 ?_
    refine r_icmp_ge S 0 (-268435456) rfl rfl dX6_firstBelowFloor_20 (tgt := 25) (by decide) (fun _ => ?_) (fun c => absurd c (by decide))
    refine lv_iinc (v := (nI ((k) + 1))) (lv' := [(1, .int (nI ((k) + 1))), (0, .ref (x 31))]) S.1 S.2.1 dX6_firstBelowFloor_25 hl (k := 0) rfl (nI_1 (k)) (by decide) rfl (fun ls hl => ?_)
    refine lv_goto (tgt := 2) S.1 S.2.1 dX6_firstBelowFloor_28 (by decide) ?_
    exact ih () _ trivial (lv_sub hl [0, 1] rfl)
set_option maxHeartbeats 4000000 in
set_option maxRecDepth 100000 in
theorem kX6_findClash (l : Launch) (D : va_G) (cy : Nat → ClassId) (x : Nat → Nat) : CL l D cy yX6_findClash cX6_findClash 7 (some .long) 3 72 0 0 [.ref (x 31), .int 0, .long 0] [((x 31), .inr (6, [.ref (x 32), .ref (x 9), .ref (x 29), .int 0, .int 0, .int 10, .ref (x 36), .ref (x 37), .ref (x 38), .ref (x 39), .ref (x 40), .ref (x 41), .int 0])), ((x 32), .inr (9, [.ref (x 33), .ref (x 34), .ref (x 35), .int 0])), ((x 33), .inl (cy 0, 384, .inl (fun _ => 0))), ((x 34), .inl (cy 2, 384, .inr (.inl (fun _ => 0)))), ((x 35), .inl (cy 0, 96, .inl (fun _ => 0))), ((x 36), .inl (cy 0, 96, .inl (fun _ => 0))), ((x 38), .inl (cy 0, 96, .inl (fun _ => 0)))] (fun (v : Int64) (u : Unit) => v = 0) (fun (u : Unit) => [((x 31), .inr (6, [.ref (x 32), .ref (x 9), .ref (x 29), .int 0, .int 0, .int 10, .ref (x 36), .ref (x 37), .ref (x 38), .ref (x 39), .ref (x 40), .ref (x 41), .int 1])), ((x 32), .inr (9, [.ref (x 33), .ref (x 34), .ref (x 35), .int 0])), ((x 33), .inl (cy 0, 384, .inl (fun _ => 10))), ((x 34), .inl (cy 2, 384, .inr (.inl (fun _ => 0)))), ((x 35), .inl (cy 0, 96, .inl (fun _ => (-1)))), ((x 36), .inl (cy 0, 96, .inl (fun _ => 0))), ((x 38), .inl (cy 0, 96, .inl (fun _ => (-268435456))))]) := by
  refine cl_go (by decide) (Nat.le_of_ble_eq_true rfl) (fun p e s m below meth c ls A hA S hr hlk hnm hP hK hD hl => ?_)
  have hS : va_S A s.heap s.heap [] := va_S.rf
  have hl : lv_has ls 7 [(0, .ref (x 31)), (1, .int 0), (2, .long 0)] := hl
  refine lv_aload_n S.1 S.2.1 dX6_findClash_0 rfl (lv_at hl 0 rfl) ?_
  refine lv_iload_n S.1 S.2.1 dX6_findClash_1 rfl (lv_at hl 1 rfl) ?_
  refine lv_lload_n S.1 S.2.1 dX6_findClash_2 rfl (lv_at hl 2 rfl) ?_
  refine call_v (wr := []) (runV_C (wc := [((x 31), .inr (6, [.ref (x 32), .ref (x 9), .ref (x 29), .int 0, .int 0, .int 10, .ref (x 36), .ref (x 37), .ref (x 38), .ref (x 39), .ref (x 40), .ref (x 41), .int 0])), ((x 32), .inr (9, [.ref (x 33), .ref (x 34), .ref (x 35), .int 0])), ((x 33), .inl (cy 0, 384, .inl (fun _ => 0))), ((x 34), .inl (cy 2, 384, .inr (.inl (fun _ => 0)))), ((x 35), .inl (cy 0, 96, .inl (fun _ => 0))), ((x 36), .inl (cy 0, 96, .inl (fun _ => 0))), ((x 38), .inl (cy 0, 96, .inl (fun _ => 0)))]) (As := [.int 0, .long 0]) (rest := []) S (kX6_lay l D cy x) hK hP hD [0, 1, 2, 3, 4, 5, 6] (by decide) rfl 0 6 rfl rfl kw_1070 kw_1071 kw_1072 kw_150 kw_1073 okX6_lay rfl (by decide) hl.1 rfl (Nat.le_of_ble_eq_true rfl) dX6_findClash_3 (by decide)) hP hD hS hA [0, 1, 2, 3, 4, 5, 6] [] rfl rfl (by decide) (by decide) (fun u3 H locs w3 hP hD hS => ?_)
  have hP : va_P D vwCl [((x 31), .inr (6, [.ref (x 32), .ref (x 9), .ref (x 29), .int 0, .int 0, .int 10, .ref (x 36), .ref (x 37), .ref (x 38), .ref (x 39), .ref (x 40), .ref (x 41), .int 0])), ((x 32), .inr (9, [.ref (x 33), .ref (x 34), .ref (x 35), .int 0])), ((x 33), .inl (cy 0, 384, .inl (fun _ => 10))), ((x 34), .inl (cy 2, 384, .inr (.inl (fun _ => 0)))), ((x 35), .inl (cy 0, 96, .inl (fun _ => (-1)))), ((x 36), .inl (cy 0, 96, .inl (fun _ => 0))), ((x 38), .inl (cy 0, 96, .inl (fun _ => (-268435456))))] H := hP
  have hD : va_D A [((x 31), .inr (6, [.ref (x 32), .ref (x 9), .ref (x 29), .int 0, .int 0, .int 10, .ref (x 36), .ref (x 37), .ref (x 38), .ref (x 39), .ref (x 40), .ref (x 41), .int 0])), ((x 32), .inr (9, [.ref (x 33), .ref (x 34), .ref (x 35), .int 0])), ((x 33), .inl (cy 0, 384, .inl (fun _ => 10))), ((x 34), .inl (cy 2, 384, .inr (.inl (fun _ => 0)))), ((x 35), .inl (cy 0, 96, .inl (fun _ => (-1)))), ((x 36), .inl (cy 0, 96, .inl (fun _ => 0))), ((x 38), .inl (cy 0, 96, .inl (fun _ => (-268435456))))] := hD
  refine lv_aload_n S.1 S.2.1 dX6_findClash_6 rfl (lv_at hl 0 rfl) ?_
  refine lv_iconst (v := 0) S.1 S.2.1 dX6_findClash_7 (by decide) ?_
  refine r_put S hK hP hD hS 0 6 rfl rfl inX6 12 (by decide) tyX6 tyX6_ok nmX6 kw_438 (v := .int 0) rfl (by decide) (by decide) (Nat.le_of_ble_eq_true rfl) dX6_findClash_8 (fun H locs hP hD hS => ?_)
  have hP : va_P D vwCl [((x 31), .inr (6, [.ref (x 32), .ref (x 9), .ref (x 29), .int 0, .int 0, .int 10, .ref (x 36), .ref (x 37), .ref (x 38), .ref (x 39), .ref (x 40), .ref (x 41), .int 0])), ((x 32), .inr (9, [.ref (x 33), .ref (x 34), .ref (x 35), .int 0])), ((x 33), .inl (cy 0, 384, .inl (fun _ => 10))), ((x 34), .inl (cy 2, 384, .inr (.inl (fun _ => 0)))), ((x 35), .inl (cy 0, 96, .inl (fun _ => (-1)))), ((x 36), .inl (cy 0, 96, .inl (fun _ => 0))), ((x 38), .inl (cy 0, 96, .inl (fun _ => (-268435456))))] H := hP
  have hD : va_D A [((x 31), .inr (6, [.ref (x 32), .ref (x 9), .ref (x 29), .int 0, .int 0, .int 10, .ref (x 36), .ref (x 37), .ref (x 38), .ref (x 39), .ref (x 40), .ref (x 41), .int 0])), ((x 32), .inr (9, [.ref (x 33), .ref (x 34), .ref (x 35), .int 0])), ((x 33), .inl (cy 0, 384, .inl (fun _ => 10))), ((x 34), .inl (cy 2, 384, .inr (.inl (fun _ => 0)))), ((x 35), .inl (cy 0, 96, .inl (fun _ => (-1)))), ((x 36), .inl (cy 0, 96, .inl (fun _ => 0))), ((x 38), .inl (cy 0, 96, .inl (fun _ => (-268435456))))] := hD
  refine lv_iconst (v := 0) S.1 S.2.1 dX6_findClash_11 (by decide) ?_
  refine lv_istore (lv' := [(4, .int 0), (0, .ref (x 31)), (1, .int 0), (2, .long 0)]) S.1 S.2.1 dX6_findClash_12 hl (by decide) rfl (fun ls hl => ?_)
  refine lv_iload S.1 S.2.1 dX6_findClash_14 (lv_at hl 0 rfl) ?_
  refine lv_sipush (v := 192) S.1 S.2.1 dX6_findClash_16 (by decide) ?_
  refine r_icmp_gt S 0 192 rfl rfl dX6_findClash_19 (tgt := 113) (by decide) (fun c => absurd c (by decide)) (fun _ => ?_)
  refine lv_aload_n S.1 S.2.1 dX6_findClash_22 rfl (lv_at hl 1 rfl) ?_
  refine call_ri (runV_R (wc := [((x 31), .inr (6, [.ref (x 32), .ref (x 9), .ref (x 29), .int 0, .int 0, .int 10, .ref (x 36), .ref (x 37), .ref (x 38), .ref (x 39), .ref (x 40), .ref (x 41), .int 0])), ((x 36), .inl (cy 0, 96, .inl (fun _ => 0))), ((x 38), .inl (cy 0, 96, .inl (fun _ => (-268435456))))]) (As := []) (rest := []) S (kX6_firstBelowFloor l D cy x) hK hP [0, 5, 6] rfl 0 6 rfl rfl kw_1097 kw_1099 kw_30 kw_150 kw_1100 okX6_firstBelowFloor rfl (by decide) hl.1 rfl (Nat.le_of_ble_eq_true rfl) dX6_findClash_23 (by decide)) (fun v23 w23 => ?_)
  subst w23
  refine lv_istore (lv' := [(5, .int (-1)), (4, .int 0), (0, .ref (x 31)), (1, .int 0), (2, .long 0)]) S.1 S.2.1 dX6_findClash_26 hl (by decide) rfl (fun ls hl => ?_)
  refine lv_iload S.1 S.2.1 dX6_findClash_28 (lv_at hl 0 rfl) ?_
  refine lv_iconst (v := (-1)) S.1 S.2.1 dX6_findClash_30 (by decide) ?_
  refine r_icmp_eq S (-1) (-1) rfl rfl dX6_findClash_31 (tgt := 41) (by decide) (fun _ => ?_) (fun c => absurd c (by decide))
  refine lv_aload_n S.1 S.2.1 dX6_findClash_41 rfl (lv_at hl 2 rfl) ?_
  refine r_get S hK hP 0 6 rfl rfl inX6 0 (by decide) kw_424 (v := .ref (x 32)) rfl dX6_findClash_42 ?_
  refine lv_iconst (v := 0) S.1 S.2.1 dX6_findClash_45 (by decide) ?_
  refine r_put S hK hP hD hS 1 9 rfl rfl inX9 3 (by decide) tyX9 tyX9_ok nmX9 kw_414 (v := .int 0) rfl (by decide) (by decide) (Nat.le_of_ble_eq_true rfl) dX6_findClash_46 (fun H locs hP hD hS => ?_)
  have hP : va_P D vwCl [((x 31), .inr (6, [.ref (x 32), .ref (x 9), .ref (x 29), .int 0, .int 0, .int 10, .ref (x 36), .ref (x 37), .ref (x 38), .ref (x 39), .ref (x 40), .ref (x 41), .int 0])), ((x 32), .inr (9, [.ref (x 33), .ref (x 34), .ref (x 35), .int 0])), ((x 33), .inl (cy 0, 384, .inl (fun _ => 10))), ((x 34), .inl (cy 2, 384, .inr (.inl (fun _ => 0)))), ((x 35), .inl (cy 0, 96, .inl (fun _ => (-1)))), ((x 36), .inl (cy 0, 96, .inl (fun _ => 0))), ((x 38), .inl (cy 0, 96, .inl (fun _ => (-268435456))))] H := hP
  have hD : va_D A [((x 31), .inr (6, [.ref (x 32), .ref (x 9), .ref (x 29), .int 0, .int 0, .int 10, .ref (x 36), .ref (x 37), .ref (x 38), .ref (x 39), .ref (x 40), .ref (x 41), .int 0])), ((x 32), .inr (9, [.ref (x 33), .ref (x 34), .ref (x 35), .int 0])), ((x 33), .inl (cy 0, 384, .inl (fun _ => 10))), ((x 34), .inl (cy 2, 384, .inr (.inl (fun _ => 0)))), ((x 35), .inl (cy 0, 96, .inl (fun _ => (-1)))), ((x 36), .inl (cy 0, 96, .inl (fun _ => 0))), ((x 38), .inl (cy 0, 96, .inl (fun _ => (-268435456))))] := hD
  refine lv_aload_n S.1 S.2.1 dX6_findClash_49 rfl (lv_at hl 2 rfl) ?_
  refine r_get S hK hP 0 6 rfl rfl inX6 0 (by decide) kw_424 (v := .ref (x 32)) rfl dX6_findClash_50 ?_
  refine lv_aload_n S.1 S.2.1 dX6_findClash_53 rfl (lv_at hl 2 rfl) ?_
  refine r_get S hK hP 0 6 rfl rfl inX6 6 (by decide) kw_430 (v := .ref (x 36)) rfl dX6_findClash_54 ?_
  refine lv_iconst (v := 0) S.1 S.2.1 dX6_findClash_57 (by decide) ?_
  refine call_rv (runV_R (wc := [((x 32), .inr (9, [.ref (x 33), .ref (x 34), .ref (x 35), .int 0])), ((x 33), .inl (cy 0, 384, .inl (fun _ => 10))), ((x 36), .inl (cy 0, 96, .inl (fun _ => 0)))]) (As := [.ref (x 36), .int 0]) (rest := []) S (kX9_sweep l D cy x) hK hP [1, 2, 5] rfl 0 9 rfl rfl kw_1109 kw_1110 kw_1111 kw_151 kw_1112 okX9_sweep rfl (by decide) hl.1 rfl (Nat.le_of_ble_eq_true rfl) dX6_findClash_58 (by decide)) (fun w58 => ?_)
  refine lv_aload_n S.1 S.2.1 dX6_findClash_61 rfl (lv_at hl 2 rfl) ?_
  refine r_get S hK hP 0 6 rfl rfl inX6 0 (by decide) kw_424 (v := .ref (x 32)) rfl dX6_findClash_62 ?_
  refine r_get S hK hP 1 9 rfl rfl inX9 3 (by decide) kw_414 (v := .int 0) rfl dX6_findClash_65 ?_
  refine r_if_ne S 0 rfl dX6_findClash_68 (tgt := 78) (by decide) (fun c => absurd c (by decide)) (fun _ => ?_)
  refine lv_aload_n S.1 S.2.1 dX6_findClash_71 rfl (lv_at hl 2 rfl) ?_
  refine lv_iconst (v := 1) S.1 S.2.1 dX6_findClash_72 (by decide) ?_
  refine r_put S hK hP hD hS 0 6 rfl rfl inX6 12 (by decide) tyX6 tyX6_ok nmX6 kw_438 (v := .int 1) rfl (by decide) (by decide) (Nat.le_of_ble_eq_true rfl) dX6_findClash_73 (fun H locs hP hD hS => ?_)
  have hP : va_P D vwCl [((x 31), .inr (6, [.ref (x 32), .ref (x 9), .ref (x 29), .int 0, .int 0, .int 10, .ref (x 36), .ref (x 37), .ref (x 38), .ref (x 39), .ref (x 40), .ref (x 41), .int 1])), ((x 32), .inr (9, [.ref (x 33), .ref (x 34), .ref (x 35), .int 0])), ((x 33), .inl (cy 0, 384, .inl (fun _ => 10))), ((x 34), .inl (cy 2, 384, .inr (.inl (fun _ => 0)))), ((x 35), .inl (cy 0, 96, .inl (fun _ => (-1)))), ((x 36), .inl (cy 0, 96, .inl (fun _ => 0))), ((x 38), .inl (cy 0, 96, .inl (fun _ => (-268435456))))] H := hP
  have hD : va_D A [((x 31), .inr (6, [.ref (x 32), .ref (x 9), .ref (x 29), .int 0, .int 0, .int 10, .ref (x 36), .ref (x 37), .ref (x 38), .ref (x 39), .ref (x 40), .ref (x 41), .int 1])), ((x 32), .inr (9, [.ref (x 33), .ref (x 34), .ref (x 35), .int 0])), ((x 33), .inl (cy 0, 384, .inl (fun _ => 10))), ((x 34), .inl (cy 2, 384, .inr (.inl (fun _ => 0)))), ((x 35), .inl (cy 0, 96, .inl (fun _ => (-1)))), ((x 36), .inl (cy 0, 96, .inl (fun _ => 0))), ((x 38), .inl (cy 0, 96, .inl (fun _ => (-268435456))))] := hD
  refine lv_lconst (v := 0) S.1 S.2.1 dX6_findClash_76 (by decide) ?_
  exact cl_ret (u := ()) S hr hlk hK (hP.sub [0, 1, 2, 3, 4, 5, 6] rfl) (hD.sub [0, 1, 2, 3, 4, 5, 6] (by decide) rfl) hS (rfl) (by decide) (by decide) dX6_findClash_77
set_option maxHeartbeats 4000000 in
set_option maxRecDepth 100000 in
theorem kX6_saysAnything (l : Launch) (D : va_G) (cy : Nat → ClassId) (x : Nat → Nat) : RI l D cy yX6_saysAnything cX6_saysAnything 4 (some .boolean) 0 0 [.ref (x 31), .long 0] [((x 31), .inr (6, [.ref (x 32), .ref (x 9), .ref (x 29), .int 0, .int 0, .int 10, .ref (x 36), .ref (x 37), .ref (x 38), .ref (x 39), .ref (x 40), .ref (x 41), .int 1]))] (fun v : Int32 => v = 0) := by
  refine metr_go (by decide) (Nat.le_of_ble_eq_true rfl) (fun p e s m below meth c ls S hr hlk hP hK hl => ?_)
  have hl : lv_has ls 4 [(0, .ref (x 31)), (1, .long 0)] := hl
  refine lv_iconst (v := 0) S.1 S.2.1 dX6_saysAnything_0 (by decide) ?_
  refine lv_istore_n (lv' := [(3, .int 0), (0, .ref (x 31)), (1, .long 0)]) S.1 S.2.1 dX6_saysAnything_1 rfl hl (by decide) rfl (fun ls hl => ?_)
  refine lv_iload_n S.1 S.2.1 dX6_saysAnything_2 rfl (lv_at hl 0 rfl) ?_
  refine lv_aload_n S.1 S.2.1 dX6_saysAnything_3 rfl (lv_at hl 1 rfl) ?_
  refine r_get S hK hP 0 6 rfl rfl inX6 3 (by decide) kw_427 (v := .int 0) rfl dX6_saysAnything_4 ?_
  refine r_icmp_ge S 0 0 rfl rfl dX6_saysAnything_7 (tgt := 40) (by decide) (fun _ => ?_) (fun c => absurd c (by decide))
  refine lv_iconst (v := 0) S.1 S.2.1 dX6_saysAnything_40 (by decide) ?_
  exact ri_ret S hr hlk (by decide) (rfl) dX6_saysAnything_41
set_option maxHeartbeats 4000000 in
set_option maxRecDepth 100000 in
theorem kX6_weigh (l : Launch) (D : va_G) (cy : Nat → ClassId) (x : Nat → Nat) (g : Nat) (lo : Nat) (hi : Nat) : CV l D cy yX6_weigh cX6_weigh 15 none 4 98 0 0 [.ref (x 31), .ref g, .long 0, .long 0, .int 0, .int 0] [((x 31), .inr (6, [.ref (x 32), .ref (x 9), .ref (x 29), .int 0, .int 0, .int 10, .ref (x 36), .ref (x 37), .ref (x 38), .ref (x 39), .ref (x 40), .ref (x 41), .int 0])), ((x 32), .inr (9, [.ref (x 33), .ref (x 34), .ref (x 35), .int 0])), ((x 33), .inl (cy 0, 384, .inl (fun _ => 0))), ((x 34), .inl (cy 2, 384, .inr (.inl (fun _ => 0)))), ((x 35), .inl (cy 0, 96, .inl (fun _ => 0))), ((x 36), .inl (cy 0, 96, .inl (fun _ => 0))), ((x 38), .inl (cy 0, 96, .inl (fun _ => 0))), (g, .inr (1, [.int 0, .int 1, .int 0, .int 0, .long 0, .int 0, .int 0, .ref lo, .ref hi]))] (fun (u : Unit) => True) (fun (u : Unit) => [((x 31), .inr (6, [.ref (x 32), .ref (x 9), .ref (x 29), .int 0, .int 0, .int 10, .ref (x 36), .ref (x 37), .ref (x 38), .ref (x 39), .ref (x 40), .ref (x 41), .int 1])), ((x 32), .inr (9, [.ref (x 33), .ref (x 34), .ref (x 35), .int 0])), ((x 33), .inl (cy 0, 384, .inl (fun _ => 10))), ((x 34), .inl (cy 2, 384, .inr (.inl (fun _ => 0)))), ((x 35), .inl (cy 0, 96, .inl (fun _ => (-1)))), ((x 36), .inl (cy 0, 96, .inl (fun _ => 0))), ((x 38), .inl (cy 0, 96, .inl (fun _ => (-268435456)))), (g, .inr (1, [.int 0, .int 1, .int 1, .int 0, .long 0, .int 0, .int 0, .ref lo, .ref hi]))]) := by
  refine cv_go (by decide) (Nat.le_of_ble_eq_true rfl) (fun p e s m below meth c ls A hA S hr hlk hnm hP hK hD hl => ?_)
  have hS : va_S A s.heap s.heap [] := va_S.rf
  have hl : lv_has ls 15 [(0, .ref (x 31)), (1, .ref g), (2, .long 0), (4, .long 0), (6, .int 0), (7, .int 0)] := hl
  refine lv_aload_n S.1 S.2.1 dX6_weigh_0 rfl (lv_at hl 0 rfl) ?_
  refine lv_aload_n S.1 S.2.1 dX6_weigh_1 rfl (lv_at hl 1 rfl) ?_
  refine r_get S hK hP 7 1 rfl rfl inX1 0 (by decide) kw_1014 (v := .int 0) rfl dX6_weigh_2 ?_
  refine lv_lload_n S.1 S.2.1 dX6_weigh_5 rfl (lv_at hl 2 rfl) ?_
  refine call_l (wr := [(g, .inr (1, [.int 0, .int 1, .int 0, .int 0, .long 0, .int 0, .int 0, .ref lo, .ref hi]))]) (runV_C (wc := [((x 31), .inr (6, [.ref (x 32), .ref (x 9), .ref (x 29), .int 0, .int 0, .int 10, .ref (x 36), .ref (x 37), .ref (x 38), .ref (x 39), .ref (x 40), .ref (x 41), .int 0])), ((x 32), .inr (9, [.ref (x 33), .ref (x 34), .ref (x 35), .int 0])), ((x 33), .inl (cy 0, 384, .inl (fun _ => 0))), ((x 34), .inl (cy 2, 384, .inr (.inl (fun _ => 0)))), ((x 35), .inl (cy 0, 96, .inl (fun _ => 0))), ((x 36), .inl (cy 0, 96, .inl (fun _ => 0))), ((x 38), .inl (cy 0, 96, .inl (fun _ => 0)))]) (As := [.int 0, .long 0]) (rest := []) S (kX6_findClash l D cy x) hK hP hD [0, 1, 2, 3, 4, 5, 6] (by decide) rfl 0 6 rfl rfl kw_1066 kw_1068 kw_28 kw_150 kw_1069 okX6_findClash rfl (by decide) hl.1 rfl (Nat.le_of_ble_eq_true rfl) dX6_weigh_6 (by decide)) hP hD hS hA [0, 1, 2, 3, 4, 5, 6] [7] rfl rfl (by decide) (by decide) (fun v6 u6 H locs w6 hP hD hS => ?_)
  have hP : va_P D vwCl [(g, .inr (1, [.int 0, .int 1, .int 0, .int 0, .long 0, .int 0, .int 0, .ref lo, .ref hi])), ((x 31), .inr (6, [.ref (x 32), .ref (x 9), .ref (x 29), .int 0, .int 0, .int 10, .ref (x 36), .ref (x 37), .ref (x 38), .ref (x 39), .ref (x 40), .ref (x 41), .int 1])), ((x 32), .inr (9, [.ref (x 33), .ref (x 34), .ref (x 35), .int 0])), ((x 33), .inl (cy 0, 384, .inl (fun _ => 10))), ((x 34), .inl (cy 2, 384, .inr (.inl (fun _ => 0)))), ((x 35), .inl (cy 0, 96, .inl (fun _ => (-1)))), ((x 36), .inl (cy 0, 96, .inl (fun _ => 0))), ((x 38), .inl (cy 0, 96, .inl (fun _ => (-268435456))))] H := hP
  have hD : va_D A [(g, .inr (1, [.int 0, .int 1, .int 0, .int 0, .long 0, .int 0, .int 0, .ref lo, .ref hi])), ((x 31), .inr (6, [.ref (x 32), .ref (x 9), .ref (x 29), .int 0, .int 0, .int 10, .ref (x 36), .ref (x 37), .ref (x 38), .ref (x 39), .ref (x 40), .ref (x 41), .int 1])), ((x 32), .inr (9, [.ref (x 33), .ref (x 34), .ref (x 35), .int 0])), ((x 33), .inl (cy 0, 384, .inl (fun _ => 10))), ((x 34), .inl (cy 2, 384, .inr (.inl (fun _ => 0)))), ((x 35), .inl (cy 0, 96, .inl (fun _ => (-1)))), ((x 36), .inl (cy 0, 96, .inl (fun _ => 0))), ((x 38), .inl (cy 0, 96, .inl (fun _ => (-268435456))))] := hD
  subst w6
  refine lv_lstore (lv' := [(8, .long 0), (0, .ref (x 31)), (1, .ref g), (2, .long 0), (4, .long 0), (6, .int 0), (7, .int 0)]) S.1 S.2.1 dX6_weigh_9 hl (by decide) rfl (fun ls hl => ?_)
  refine lv_aload_n S.1 S.2.1 dX6_weigh_11 rfl (lv_at hl 1 rfl) ?_
  refine r_get S hK hP 1 6 rfl rfl inX6 12 (by decide) kw_438 (v := .int 1) rfl dX6_weigh_12 ?_
  refine r_if_eq S 1 rfl dX6_weigh_15 (tgt := 35) (by decide) (fun c => absurd c (by decide)) (fun _ => ?_)
  refine lv_aload_n S.1 S.2.1 dX6_weigh_18 rfl (lv_at hl 2 rfl) ?_
  refine lv_iconst (v := 1) S.1 S.2.1 dX6_weigh_19 (by decide) ?_
  refine r_put S hK hP hD hS 0 1 rfl rfl inX1 2 (by decide) tyX1 tyX1_ok nmX1 kw_1018 (v := .int 1) rfl (by decide) (by decide) (Nat.le_of_ble_eq_true rfl) dX6_weigh_20 (fun H locs hP hD hS => ?_)
  have hP : va_P D vwCl [(g, .inr (1, [.int 0, .int 1, .int 1, .int 0, .long 0, .int 0, .int 0, .ref lo, .ref hi])), ((x 31), .inr (6, [.ref (x 32), .ref (x 9), .ref (x 29), .int 0, .int 0, .int 10, .ref (x 36), .ref (x 37), .ref (x 38), .ref (x 39), .ref (x 40), .ref (x 41), .int 1])), ((x 32), .inr (9, [.ref (x 33), .ref (x 34), .ref (x 35), .int 0])), ((x 33), .inl (cy 0, 384, .inl (fun _ => 10))), ((x 34), .inl (cy 2, 384, .inr (.inl (fun _ => 0)))), ((x 35), .inl (cy 0, 96, .inl (fun _ => (-1)))), ((x 36), .inl (cy 0, 96, .inl (fun _ => 0))), ((x 38), .inl (cy 0, 96, .inl (fun _ => (-268435456))))] H := hP
  have hD : va_D A [(g, .inr (1, [.int 0, .int 1, .int 1, .int 0, .long 0, .int 0, .int 0, .ref lo, .ref hi])), ((x 31), .inr (6, [.ref (x 32), .ref (x 9), .ref (x 29), .int 0, .int 0, .int 10, .ref (x 36), .ref (x 37), .ref (x 38), .ref (x 39), .ref (x 40), .ref (x 41), .int 1])), ((x 32), .inr (9, [.ref (x 33), .ref (x 34), .ref (x 35), .int 0])), ((x 33), .inl (cy 0, 384, .inl (fun _ => 10))), ((x 34), .inl (cy 2, 384, .inr (.inl (fun _ => 0)))), ((x 35), .inl (cy 0, 96, .inl (fun _ => (-1)))), ((x 36), .inl (cy 0, 96, .inl (fun _ => 0))), ((x 38), .inl (cy 0, 96, .inl (fun _ => (-268435456))))] := hD
  refine lv_aload_n S.1 S.2.1 dX6_weigh_23 rfl (lv_at hl 2 rfl) ?_
  refine lv_iload S.1 S.2.1 dX6_weigh_24 (lv_at hl 5 rfl) ?_
  refine r_put S hK hP hD hS 0 1 rfl rfl inX1 3 (by decide) tyX1 tyX1_ok nmX1 kw_1020 (v := .int 0) rfl rfl rfl (Nat.le_of_ble_eq_true rfl) dX6_weigh_26 (fun H locs hP hD hS => ?_)
  have hP : va_P D vwCl [(g, .inr (1, [.int 0, .int 1, .int 1, .int 0, .long 0, .int 0, .int 0, .ref lo, .ref hi])), ((x 31), .inr (6, [.ref (x 32), .ref (x 9), .ref (x 29), .int 0, .int 0, .int 10, .ref (x 36), .ref (x 37), .ref (x 38), .ref (x 39), .ref (x 40), .ref (x 41), .int 1])), ((x 32), .inr (9, [.ref (x 33), .ref (x 34), .ref (x 35), .int 0])), ((x 33), .inl (cy 0, 384, .inl (fun _ => 10))), ((x 34), .inl (cy 2, 384, .inr (.inl (fun _ => 0)))), ((x 35), .inl (cy 0, 96, .inl (fun _ => (-1)))), ((x 36), .inl (cy 0, 96, .inl (fun _ => 0))), ((x 38), .inl (cy 0, 96, .inl (fun _ => (-268435456))))] H := hP
  have hD : va_D A [(g, .inr (1, [.int 0, .int 1, .int 1, .int 0, .long 0, .int 0, .int 0, .ref lo, .ref hi])), ((x 31), .inr (6, [.ref (x 32), .ref (x 9), .ref (x 29), .int 0, .int 0, .int 10, .ref (x 36), .ref (x 37), .ref (x 38), .ref (x 39), .ref (x 40), .ref (x 41), .int 1])), ((x 32), .inr (9, [.ref (x 33), .ref (x 34), .ref (x 35), .int 0])), ((x 33), .inl (cy 0, 384, .inl (fun _ => 10))), ((x 34), .inl (cy 2, 384, .inr (.inl (fun _ => 0)))), ((x 35), .inl (cy 0, 96, .inl (fun _ => (-1)))), ((x 36), .inl (cy 0, 96, .inl (fun _ => 0))), ((x 38), .inl (cy 0, 96, .inl (fun _ => (-268435456))))] := hD
  refine lv_aload_n S.1 S.2.1 dX6_weigh_29 rfl (lv_at hl 2 rfl) ?_
  refine lv_lload_n S.1 S.2.1 dX6_weigh_30 rfl (lv_at hl 3 rfl) ?_
  refine r_put S hK hP hD hS 0 1 rfl rfl inX1 4 (by decide) tyX1 tyX1_ok nmX1 kw_1023 (v := .long 0) rfl rfl rfl (Nat.le_of_ble_eq_true rfl) dX6_weigh_31 (fun H locs hP hD hS => ?_)
  have hP : va_P D vwCl [(g, .inr (1, [.int 0, .int 1, .int 1, .int 0, .long 0, .int 0, .int 0, .ref lo, .ref hi])), ((x 31), .inr (6, [.ref (x 32), .ref (x 9), .ref (x 29), .int 0, .int 0, .int 10, .ref (x 36), .ref (x 37), .ref (x 38), .ref (x 39), .ref (x 40), .ref (x 41), .int 1])), ((x 32), .inr (9, [.ref (x 33), .ref (x 34), .ref (x 35), .int 0])), ((x 33), .inl (cy 0, 384, .inl (fun _ => 10))), ((x 34), .inl (cy 2, 384, .inr (.inl (fun _ => 0)))), ((x 35), .inl (cy 0, 96, .inl (fun _ => (-1)))), ((x 36), .inl (cy 0, 96, .inl (fun _ => 0))), ((x 38), .inl (cy 0, 96, .inl (fun _ => (-268435456))))] H := hP
  have hD : va_D A [(g, .inr (1, [.int 0, .int 1, .int 1, .int 0, .long 0, .int 0, .int 0, .ref lo, .ref hi])), ((x 31), .inr (6, [.ref (x 32), .ref (x 9), .ref (x 29), .int 0, .int 0, .int 10, .ref (x 36), .ref (x 37), .ref (x 38), .ref (x 39), .ref (x 40), .ref (x 41), .int 1])), ((x 32), .inr (9, [.ref (x 33), .ref (x 34), .ref (x 35), .int 0])), ((x 33), .inl (cy 0, 384, .inl (fun _ => 10))), ((x 34), .inl (cy 2, 384, .inr (.inl (fun _ => 0)))), ((x 35), .inl (cy 0, 96, .inl (fun _ => (-1)))), ((x 36), .inl (cy 0, 96, .inl (fun _ => 0))), ((x 38), .inl (cy 0, 96, .inl (fun _ => (-268435456))))] := hD
  exact cv_ret (u := ()) S hr hlk hK (hP.sub [1, 2, 3, 4, 5, 6, 7, 0] rfl) (hD.sub [1, 2, 3, 4, 5, 6, 7, 0] (by decide) rfl) hS (trivial) (by decide) (by decide) dX6_weigh_34
set_option maxHeartbeats 4000000 in
set_option maxRecDepth 100000 in
theorem kX6_solve (l : Launch) (D : va_G) (cy : Nat → ClassId) (x : Nat → Nat) (g : Nat) (lo : Nat) (hi : Nat) : CV l D cy yX6_solve cX6_solve 4 none 5 132 0 0 [.ref (x 31), .ref g] [((x 31), .inr (6, [.ref (x 32), .ref (x 9), .ref (x 29), .int 0, .int 0, .int 10, .ref (x 36), .ref (x 37), .ref (x 38), .ref (x 39), .ref (x 40), .ref (x 41), .int 0])), ((x 32), .inr (9, [.ref (x 33), .ref (x 34), .ref (x 35), .int 0])), ((x 33), .inl (cy 0, 384, .inl (fun _ => 0))), ((x 34), .inl (cy 2, 384, .inr (.inl (fun _ => 0)))), ((x 35), .inl (cy 0, 96, .inl (fun _ => 0))), ((x 36), .inl (cy 0, 96, .inl (fun _ => 0))), ((x 38), .inl (cy 0, 96, .inl (fun _ => 0))), (g, .inr (1, [.int 0, .int 0, .int 0, .int 0, .long 0, .int 0, .int 0, .ref lo, .ref hi]))] (fun (u : Unit) => True) (fun (u : Unit) => [((x 31), .inr (6, [.ref (x 32), .ref (x 9), .ref (x 29), .int 0, .int 0, .int 10, .ref (x 36), .ref (x 37), .ref (x 38), .ref (x 39), .ref (x 40), .ref (x 41), .int 1])), ((x 32), .inr (9, [.ref (x 33), .ref (x 34), .ref (x 35), .int 0])), ((x 33), .inl (cy 0, 384, .inl (fun _ => 10))), ((x 34), .inl (cy 2, 384, .inr (.inl (fun _ => 0)))), ((x 35), .inl (cy 0, 96, .inl (fun _ => (-1)))), ((x 36), .inl (cy 0, 96, .inl (fun _ => 0))), ((x 38), .inl (cy 0, 96, .inl (fun _ => (-268435456)))), (g, .inr (1, [.int 0, .int 1, .int 1, .int 0, .long 0, .int 0, .int 0, .ref lo, .ref hi]))]) := by
  refine cv_go (by decide) (Nat.le_of_ble_eq_true rfl) (fun p e s m below meth c ls A hA S hr hlk hnm hP hK hD hl => ?_)
  have hS : va_S A s.heap s.heap [] := va_S.rf
  have hl : lv_has ls 4 [(0, .ref (x 31)), (1, .ref g)] := hl
  refine lv_aload_n S.1 S.2.1 dX6_solve_0 rfl (lv_at hl 1 rfl) ?_
  refine lv_iconst (v := 1) S.1 S.2.1 dX6_solve_1 (by decide) ?_
  refine r_put S hK hP hD hS 7 1 rfl rfl inX1 1 (by decide) tyX1 tyX1_ok nmX1 kw_1016 (v := .int 1) rfl (by decide) (by decide) (Nat.le_of_ble_eq_true rfl) dX6_solve_2 (fun H locs hP hD hS => ?_)
  have hP : va_P D vwCl [((x 31), .inr (6, [.ref (x 32), .ref (x 9), .ref (x 29), .int 0, .int 0, .int 10, .ref (x 36), .ref (x 37), .ref (x 38), .ref (x 39), .ref (x 40), .ref (x 41), .int 0])), ((x 32), .inr (9, [.ref (x 33), .ref (x 34), .ref (x 35), .int 0])), ((x 33), .inl (cy 0, 384, .inl (fun _ => 0))), ((x 34), .inl (cy 2, 384, .inr (.inl (fun _ => 0)))), ((x 35), .inl (cy 0, 96, .inl (fun _ => 0))), ((x 36), .inl (cy 0, 96, .inl (fun _ => 0))), ((x 38), .inl (cy 0, 96, .inl (fun _ => 0))), (g, .inr (1, [.int 0, .int 1, .int 0, .int 0, .long 0, .int 0, .int 0, .ref lo, .ref hi]))] H := hP
  have hD : va_D A [((x 31), .inr (6, [.ref (x 32), .ref (x 9), .ref (x 29), .int 0, .int 0, .int 10, .ref (x 36), .ref (x 37), .ref (x 38), .ref (x 39), .ref (x 40), .ref (x 41), .int 0])), ((x 32), .inr (9, [.ref (x 33), .ref (x 34), .ref (x 35), .int 0])), ((x 33), .inl (cy 0, 384, .inl (fun _ => 0))), ((x 34), .inl (cy 2, 384, .inr (.inl (fun _ => 0)))), ((x 35), .inl (cy 0, 96, .inl (fun _ => 0))), ((x 36), .inl (cy 0, 96, .inl (fun _ => 0))), ((x 38), .inl (cy 0, 96, .inl (fun _ => 0))), (g, .inr (1, [.int 0, .int 1, .int 0, .int 0, .long 0, .int 0, .int 0, .ref lo, .ref hi]))] := hD
  refine lv_aload_n S.1 S.2.1 dX6_solve_5 rfl (lv_at hl 1 rfl) ?_
  refine lv_iconst (v := 0) S.1 S.2.1 dX6_solve_6 (by decide) ?_
  refine r_put S hK hP hD hS 7 1 rfl rfl inX1 2 (by decide) tyX1 tyX1_ok nmX1 kw_1018 (v := .int 0) rfl (by decide) (by decide) (Nat.le_of_ble_eq_true rfl) dX6_solve_7 (fun H locs hP hD hS => ?_)
  have hP : va_P D vwCl [((x 31), .inr (6, [.ref (x 32), .ref (x 9), .ref (x 29), .int 0, .int 0, .int 10, .ref (x 36), .ref (x 37), .ref (x 38), .ref (x 39), .ref (x 40), .ref (x 41), .int 0])), ((x 32), .inr (9, [.ref (x 33), .ref (x 34), .ref (x 35), .int 0])), ((x 33), .inl (cy 0, 384, .inl (fun _ => 0))), ((x 34), .inl (cy 2, 384, .inr (.inl (fun _ => 0)))), ((x 35), .inl (cy 0, 96, .inl (fun _ => 0))), ((x 36), .inl (cy 0, 96, .inl (fun _ => 0))), ((x 38), .inl (cy 0, 96, .inl (fun _ => 0))), (g, .inr (1, [.int 0, .int 1, .int 0, .int 0, .long 0, .int 0, .int 0, .ref lo, .ref hi]))] H := hP
  have hD : va_D A [((x 31), .inr (6, [.ref (x 32), .ref (x 9), .ref (x 29), .int 0, .int 0, .int 10, .ref (x 36), .ref (x 37), .ref (x 38), .ref (x 39), .ref (x 40), .ref (x 41), .int 0])), ((x 32), .inr (9, [.ref (x 33), .ref (x 34), .ref (x 35), .int 0])), ((x 33), .inl (cy 0, 384, .inl (fun _ => 0))), ((x 34), .inl (cy 2, 384, .inr (.inl (fun _ => 0)))), ((x 35), .inl (cy 0, 96, .inl (fun _ => 0))), ((x 36), .inl (cy 0, 96, .inl (fun _ => 0))), ((x 38), .inl (cy 0, 96, .inl (fun _ => 0))), (g, .inr (1, [.int 0, .int 1, .int 0, .int 0, .long 0, .int 0, .int 0, .ref lo, .ref hi]))] := hD
  refine lv_aload_n S.1 S.2.1 dX6_solve_10 rfl (lv_at hl 1 rfl) ?_
  refine lv_iconst (v := 0) S.1 S.2.1 dX6_solve_11 (by decide) ?_
  refine r_put S hK hP hD hS 7 1 rfl rfl inX1 6 (by decide) tyX1 tyX1_ok nmX1 kw_1027 (v := .int 0) rfl (by decide) (by decide) (Nat.le_of_ble_eq_true rfl) dX6_solve_12 (fun H locs hP hD hS => ?_)
  have hP : va_P D vwCl [((x 31), .inr (6, [.ref (x 32), .ref (x 9), .ref (x 29), .int 0, .int 0, .int 10, .ref (x 36), .ref (x 37), .ref (x 38), .ref (x 39), .ref (x 40), .ref (x 41), .int 0])), ((x 32), .inr (9, [.ref (x 33), .ref (x 34), .ref (x 35), .int 0])), ((x 33), .inl (cy 0, 384, .inl (fun _ => 0))), ((x 34), .inl (cy 2, 384, .inr (.inl (fun _ => 0)))), ((x 35), .inl (cy 0, 96, .inl (fun _ => 0))), ((x 36), .inl (cy 0, 96, .inl (fun _ => 0))), ((x 38), .inl (cy 0, 96, .inl (fun _ => 0))), (g, .inr (1, [.int 0, .int 1, .int 0, .int 0, .long 0, .int 0, .int 0, .ref lo, .ref hi]))] H := hP
  have hD : va_D A [((x 31), .inr (6, [.ref (x 32), .ref (x 9), .ref (x 29), .int 0, .int 0, .int 10, .ref (x 36), .ref (x 37), .ref (x 38), .ref (x 39), .ref (x 40), .ref (x 41), .int 0])), ((x 32), .inr (9, [.ref (x 33), .ref (x 34), .ref (x 35), .int 0])), ((x 33), .inl (cy 0, 384, .inl (fun _ => 0))), ((x 34), .inl (cy 2, 384, .inr (.inl (fun _ => 0)))), ((x 35), .inl (cy 0, 96, .inl (fun _ => 0))), ((x 36), .inl (cy 0, 96, .inl (fun _ => 0))), ((x 38), .inl (cy 0, 96, .inl (fun _ => 0))), (g, .inr (1, [.int 0, .int 1, .int 0, .int 0, .long 0, .int 0, .int 0, .ref lo, .ref hi]))] := hD
  refine lv_iconst (v := 0) S.1 S.2.1 dX6_solve_15 (by decide) ?_
  refine lv_istore_n (lv' := [(2, .int 0), (0, .ref (x 31)), (1, .ref g)]) S.1 S.2.1 dX6_solve_16 rfl hl (by decide) rfl (fun ls hl => ?_)
  refine lv_iconst (v := 0) S.1 S.2.1 dX6_solve_17 (by decide) ?_
  refine lv_istore_n (lv' := [(3, .int 0), (2, .int 0), (0, .ref (x 31)), (1, .ref g)]) S.1 S.2.1 dX6_solve_18 rfl hl (by decide) rfl (fun ls hl => ?_)
  refine lv_iload_n S.1 S.2.1 dX6_solve_19 rfl (lv_at hl 0 rfl) ?_
  refine lv_aload_n S.1 S.2.1 dX6_solve_20 rfl (lv_at hl 2 rfl) ?_
  refine r_get S hK hP 0 6 rfl rfl inX6 4 (by decide) kw_428 (v := .int 0) rfl dX6_solve_21 ?_
  refine r_icmp_ge S 0 0 rfl rfl dX6_solve_24 (tgt := 60) (by decide) (fun _ => ?_) (fun c => absurd c (by decide))
  refine lv_aload_n S.1 S.2.1 dX6_solve_60 rfl (lv_at hl 2 rfl) ?_
  refine lv_aload_n S.1 S.2.1 dX6_solve_61 rfl (lv_at hl 3 rfl) ?_
  refine lv_lconst (v := 0) S.1 S.2.1 dX6_solve_62 (by decide) ?_
  refine lv_lconst (v := 0) S.1 S.2.1 dX6_solve_63 (by decide) ?_
  refine lv_iload_n S.1 S.2.1 dX6_solve_64 rfl (lv_at hl 1 rfl) ?_
  refine lv_iconst (v := 0) S.1 S.2.1 dX6_solve_65 (by decide) ?_
  refine call_v (wr := []) (runV_C (wc := [((x 31), .inr (6, [.ref (x 32), .ref (x 9), .ref (x 29), .int 0, .int 0, .int 10, .ref (x 36), .ref (x 37), .ref (x 38), .ref (x 39), .ref (x 40), .ref (x 41), .int 0])), ((x 32), .inr (9, [.ref (x 33), .ref (x 34), .ref (x 35), .int 0])), ((x 33), .inl (cy 0, 384, .inl (fun _ => 0))), ((x 34), .inl (cy 2, 384, .inr (.inl (fun _ => 0)))), ((x 35), .inl (cy 0, 96, .inl (fun _ => 0))), ((x 36), .inl (cy 0, 96, .inl (fun _ => 0))), ((x 38), .inl (cy 0, 96, .inl (fun _ => 0))), (g, .inr (1, [.int 0, .int 1, .int 0, .int 0, .long 0, .int 0, .int 0, .ref lo, .ref hi]))]) (As := [.ref g, .long 0, .long 0, .int 0, .int 0]) (rest := []) S (kX6_weigh l D cy x g lo hi) hK hP hD [0, 1, 2, 3, 4, 5, 6, 7] (by decide) rfl 0 6 rfl rfl kw_1062 kw_1064 kw_27 kw_150 kw_1065 okX6_weigh rfl (by decide) hl.1 rfl (Nat.le_of_ble_eq_true rfl) dX6_solve_66 (by decide)) hP hD hS hA [0, 1, 2, 3, 4, 5, 6, 7] [] rfl rfl (by decide) (by decide) (fun u66 H locs w66 hP hD hS => ?_)
  have hP : va_P D vwCl [((x 31), .inr (6, [.ref (x 32), .ref (x 9), .ref (x 29), .int 0, .int 0, .int 10, .ref (x 36), .ref (x 37), .ref (x 38), .ref (x 39), .ref (x 40), .ref (x 41), .int 1])), ((x 32), .inr (9, [.ref (x 33), .ref (x 34), .ref (x 35), .int 0])), ((x 33), .inl (cy 0, 384, .inl (fun _ => 10))), ((x 34), .inl (cy 2, 384, .inr (.inl (fun _ => 0)))), ((x 35), .inl (cy 0, 96, .inl (fun _ => (-1)))), ((x 36), .inl (cy 0, 96, .inl (fun _ => 0))), ((x 38), .inl (cy 0, 96, .inl (fun _ => (-268435456)))), (g, .inr (1, [.int 0, .int 1, .int 1, .int 0, .long 0, .int 0, .int 0, .ref lo, .ref hi]))] H := hP
  have hD : va_D A [((x 31), .inr (6, [.ref (x 32), .ref (x 9), .ref (x 29), .int 0, .int 0, .int 10, .ref (x 36), .ref (x 37), .ref (x 38), .ref (x 39), .ref (x 40), .ref (x 41), .int 1])), ((x 32), .inr (9, [.ref (x 33), .ref (x 34), .ref (x 35), .int 0])), ((x 33), .inl (cy 0, 384, .inl (fun _ => 10))), ((x 34), .inl (cy 2, 384, .inr (.inl (fun _ => 0)))), ((x 35), .inl (cy 0, 96, .inl (fun _ => (-1)))), ((x 36), .inl (cy 0, 96, .inl (fun _ => 0))), ((x 38), .inl (cy 0, 96, .inl (fun _ => (-268435456)))), (g, .inr (1, [.int 0, .int 1, .int 1, .int 0, .long 0, .int 0, .int 0, .ref lo, .ref hi]))] := hD
  refine lv_aload_n S.1 S.2.1 dX6_solve_69 rfl (lv_at hl 3 rfl) ?_
  refine lv_aload_n S.1 S.2.1 dX6_solve_70 rfl (lv_at hl 3 rfl) ?_
  refine r_get S hK hP 7 1 rfl rfl inX1 2 (by decide) kw_1018 (v := .int 1) rfl dX6_solve_71 ?_
  refine r_if_eq S 1 rfl dX6_solve_74 (tgt := 92) (by decide) (fun c => absurd c (by decide)) (fun _ => ?_)
  refine lv_aload_n S.1 S.2.1 dX6_solve_77 rfl (lv_at hl 2 rfl) ?_
  refine lv_aload_n S.1 S.2.1 dX6_solve_78 rfl (lv_at hl 3 rfl) ?_
  refine r_get S hK hP 7 1 rfl rfl inX1 4 (by decide) kw_1023 (v := .long 0) rfl dX6_solve_79 ?_
  refine call_ri (runV_R (wc := [((x 31), .inr (6, [.ref (x 32), .ref (x 9), .ref (x 29), .int 0, .int 0, .int 10, .ref (x 36), .ref (x 37), .ref (x 38), .ref (x 39), .ref (x 40), .ref (x 41), .int 1]))]) (As := [.long 0]) (rest := [.ref g]) S (kX6_saysAnything l D cy x) hK hP [0] rfl 0 6 rfl rfl kw_1125 kw_1127 kw_35 kw_150 kw_1128 okX6_saysAnything rfl (by decide) hl.1 rfl (Nat.le_of_ble_eq_true rfl) dX6_solve_82 (by decide)) (fun v82 w82 => ?_)
  subst w82
  refine r_if_eq S 0 rfl dX6_solve_85 (tgt := 92) (by decide) (fun _ => ?_) (fun c => absurd c (by decide))
  refine lv_iconst (v := 0) S.1 S.2.1 dX6_solve_92 (by decide) ?_
  refine r_put S hK hP hD hS 7 1 rfl rfl inX1 5 (by decide) tyX1 tyX1_ok nmX1 kw_1025 (v := .int 0) rfl (by decide) (by decide) (Nat.le_of_ble_eq_true rfl) dX6_solve_93 (fun H locs hP hD hS => ?_)
  have hP : va_P D vwCl [((x 31), .inr (6, [.ref (x 32), .ref (x 9), .ref (x 29), .int 0, .int 0, .int 10, .ref (x 36), .ref (x 37), .ref (x 38), .ref (x 39), .ref (x 40), .ref (x 41), .int 1])), ((x 32), .inr (9, [.ref (x 33), .ref (x 34), .ref (x 35), .int 0])), ((x 33), .inl (cy 0, 384, .inl (fun _ => 10))), ((x 34), .inl (cy 2, 384, .inr (.inl (fun _ => 0)))), ((x 35), .inl (cy 0, 96, .inl (fun _ => (-1)))), ((x 36), .inl (cy 0, 96, .inl (fun _ => 0))), ((x 38), .inl (cy 0, 96, .inl (fun _ => (-268435456)))), (g, .inr (1, [.int 0, .int 1, .int 1, .int 0, .long 0, .int 0, .int 0, .ref lo, .ref hi]))] H := hP
  have hD : va_D A [((x 31), .inr (6, [.ref (x 32), .ref (x 9), .ref (x 29), .int 0, .int 0, .int 10, .ref (x 36), .ref (x 37), .ref (x 38), .ref (x 39), .ref (x 40), .ref (x 41), .int 1])), ((x 32), .inr (9, [.ref (x 33), .ref (x 34), .ref (x 35), .int 0])), ((x 33), .inl (cy 0, 384, .inl (fun _ => 10))), ((x 34), .inl (cy 2, 384, .inr (.inl (fun _ => 0)))), ((x 35), .inl (cy 0, 96, .inl (fun _ => (-1)))), ((x 36), .inl (cy 0, 96, .inl (fun _ => 0))), ((x 38), .inl (cy 0, 96, .inl (fun _ => (-268435456)))), (g, .inr (1, [.int 0, .int 1, .int 1, .int 0, .long 0, .int 0, .int 0, .ref lo, .ref hi]))] := hD
  exact cv_ret (u := ()) S hr hlk hK (hP.sub [0, 1, 2, 3, 4, 5, 6, 7] rfl) (hD.sub [0, 1, 2, 3, 4, 5, 6, 7] (by decide) rfl) hS (trivial) (by decide) (by decide) dX6_solve_96
set_option maxHeartbeats 4000000 in
set_option maxRecDepth 100000 in
theorem kX4_ofDay (l : Launch) (D : va_G) (cy : Nat → ClassId) (x : Nat → Nat) : RQ l D cy yX4_ofDay cX4_ofDay 3 (some (.object "LandSurvey$Rules")) 0 0 [.ref (x 13), .int 0] [((x 13), .inr (4, [.ref (x 14), .ref (x 15), .int 0, .ref (x 16)]))] (fun v : Option Nat => v = (some (x 16))) := by
  refine metr_go (by decide) (Nat.le_of_ble_eq_true rfl) (fun p e s m below meth c ls S hr hlk hP hK hl => ?_)
  have hl : lv_has ls 3 [(0, .ref (x 13)), (1, .int 0)] := hl
  refine lv_aload_n S.1 S.2.1 dX4_ofDay_0 rfl (lv_at hl 0 rfl) ?_
  refine r_get S hK hP 0 4 rfl rfl inX4 2 (by decide) kw_379 (v := .int 0) rfl dX4_ofDay_1 ?_
  refine lv_iconst (v := 1) S.1 S.2.1 dX4_ofDay_4 (by decide) ?_
  refine r_isub S dX4_ofDay_5 (v := (-1)) (by decide) ?_
  refine lv_istore_n (lv' := [(2, .int (-1)), (0, .ref (x 13)), (1, .int 0)]) S.1 S.2.1 dX4_ofDay_6 rfl hl (by decide) rfl (fun ls hl => ?_)
  refine lv_iload_n S.1 S.2.1 dX4_ofDay_7 rfl (lv_at hl 0 rfl) ?_
  refine r_if_lt S (-1) rfl dX4_ofDay_8 (tgt := 34) (by decide) (fun _ => ?_) (fun c => absurd c (by decide))
  refine lv_aload_n S.1 S.2.1 dX4_ofDay_34 rfl (lv_at hl 1 rfl) ?_
  refine r_get S hK hP 0 4 rfl rfl inX4 3 (by decide) kw_381 (v := .ref (x 16)) rfl dX4_ofDay_35 ?_
  exact rq_ret (v := (some (x 16))) rfl S hr hlk (Or.inl ⟨_, rfl⟩) (rfl) dX4_ofDay_38
set_option maxHeartbeats 4000000 in
set_option maxRecDepth 100000 in
theorem kX11_dayShown_a (l : Launch) (D : va_G) (cy : Nat → ClassId) (x : Nat → Nat) : RI l D cy yX11_dayShown cX11_dayShown 1 (some .int) 0 0 [.ref (x 0)] [((x 0), .inr (10, [.int 0, .int (-1), .ref (x 1), .ref (x 9), .int 0, .ref (x 10), .ref (x 13), .ref (x 16), .ref (x 29), .int 0, .int 0, .ref (x 30), .int 0, .ref (x 31), .ref (x 42), .int 1, .int 0, .null, .ref (x 43)]))] (fun v : Int32 => v = 0) := by
  refine metr_go (by decide) (Nat.le_of_ble_eq_true rfl) (fun p e s m below meth c ls S hr hlk hP hK hl => ?_)
  have hl : lv_has ls 1 [(0, .ref (x 0))] := hl
  refine lv_aload_n S.1 S.2.1 dX11_dayShown_0 rfl (lv_at hl 0 rfl) ?_
  refine r_get S hK hP 0 10 rfl rfl inX11 1 (by decide) kw_469 (v := .int (-1)) rfl dX11_dayShown_1 ?_
  refine lv_iconst (v := (-1)) S.1 S.2.1 dX11_dayShown_4 (by decide) ?_
  refine r_icmp_ne S (-1) (-1) rfl rfl dX11_dayShown_5 (tgt := 15) (by decide) (fun c => absurd c (by decide)) (fun _ => ?_)
  refine lv_aload_n S.1 S.2.1 dX11_dayShown_8 rfl (lv_at hl 0 rfl) ?_
  refine r_get S hK hP 0 10 rfl rfl inX11 0 (by decide) kw_468 (v := .int 0) rfl dX11_dayShown_9 ?_
  refine lv_goto (tgt := 19) S.1 S.2.1 dX11_dayShown_12 (by decide) ?_
  exact ri_ret S hr hlk rfl (rfl) dX11_dayShown_19
set_option maxHeartbeats 4000000 in
set_option maxRecDepth 100000 in
theorem kX11_settle_a (l : Launch) (D : va_G) (cy : Nat → ClassId) (x : Nat → Nat) : CV l D cy yX11_settle cX11_settle 2 none 2 41 3 201 [.ref (x 0)] [((x 0), .inr (10, [.int 0, .int (-1), .ref (x 1), .ref (x 9), .int 0, .ref (x 10), .ref (x 13), .ref (x 16), .ref (x 29), .int 0, .int 0, .ref (x 30), .int 0, .ref (x 31), .ref (x 42), .int 0, .int 0, .null, .ref (x 43)])), ((x 13), .inr (4, [.ref (x 14), .ref (x 15), .int 0, .ref (x 16)])), ((x 16), .inr (5, [.int 0, .ref (x 17), .ref (x 18), .ref (x 19), .ref (x 20), .ref (x 21), .int 0, .int 10, .int 20, .int 0, .int 0, .ref (x 22), .ref (x 23), .int 0, .ref (x 24), .ref (x 25), .ref (x 26), .ref (x 27), .ref (x 28)])), ((x 42), .inl (cy 7, 16, .inr (.inr (.inr (.inr (fun _ => none)))))), ((x 31), .inr (6, [.ref (x 32), .ref (x 9), .ref (x 29), .int 0, .int 0, .int 0, .ref (x 36), .ref (x 37), .ref (x 38), .ref (x 39), .ref (x 40), .ref (x 41), .int 0]))] (fun (u : (Nat) × (Nat) × (Nat)) => True) (fun (u : (Nat) × (Nat) × (Nat)) => [((x 0), .inr (10, [.int 0, .int (-1), .ref (x 1), .ref (x 9), .int 0, .ref (x 10), .ref (x 13), .ref (x 16), .ref (x 29), .int 0, .int 0, .ref (x 30), .int 0, .ref (x 31), .ref (x 42), .int 1, .int 0, .null, .ref (x 43)])), ((x 13), .inr (4, [.ref (x 14), .ref (x 15), .int 0, .ref (x 16)])), ((x 16), .inr (5, [.int 0, .ref (x 17), .ref (x 18), .ref (x 19), .ref (x 20), .ref (x 21), .int 0, .int 10, .int 20, .int 0, .int 0, .ref (x 22), .ref (x 23), .int 0, .ref (x 24), .ref (x 25), .ref (x 26), .ref (x 27), .ref (x 28)])), ((x 42), .inl (cy 7, 16, .inr (.inr (.inr (.inr (va_up (fun _ => none) (0) (some (u.1)))))))), ((x 31), .inr (6, [.ref (x 32), .ref (x 9), .ref (x 29), .int 0, .int 0, .int 10, .ref (x 36), .ref (x 37), .ref (x 38), .ref (x 39), .ref (x 40), .ref (x 41), .int 0])), ((u.1), .inr (1, [.int 0, .int 0, .int 0, .int 0, .long 0, .int 0, .int 0, .ref (u.2.1), .ref (u.2.2)])), ((u.2.1), .inl (cy 0, 96, .inl (fun _ => 0))), ((u.2.2), .inl (cy 0, 96, .inl (fun _ => 0)))]) := by
  refine cv_go (by decide) (Nat.le_of_ble_eq_true rfl) (fun p e s m below meth c ls A hA S hr hlk hnm hP hK hD hl => ?_)
  have hS : va_S A s.heap s.heap [] := va_S.rf
  have hl : lv_has ls 2 [(0, .ref (x 0))] := hl
  refine lv_aload_n S.1 S.2.1 dX11_settle_0 rfl (lv_at hl 0 rfl) ?_
  refine r_get S hK hP 0 10 rfl rfl inX11 15 (by decide) kw_483 (v := .int 0) rfl dX11_settle_1 ?_
  refine r_if_eq S 0 rfl dX11_settle_4 (tgt := 8) (by decide) (fun _ => ?_) (fun c => absurd c (by decide))
  refine lv_aload_n S.1 S.2.1 dX11_settle_8 rfl (lv_at hl 0 rfl) ?_
  refine lv_iconst (v := 1) S.1 S.2.1 dX11_settle_9 (by decide) ?_
  refine r_put S hK hP hD hS 0 10 rfl rfl inX11 15 (by decide) tyX11 tyX11_ok nmX11 kw_483 (v := .int 1) rfl (by decide) (by decide) (Nat.le_of_ble_eq_true rfl) dX11_settle_10 (fun H locs hP hD hS => ?_)
  have hP : va_P D vwCl [((x 0), .inr (10, [.int 0, .int (-1), .ref (x 1), .ref (x 9), .int 0, .ref (x 10), .ref (x 13), .ref (x 16), .ref (x 29), .int 0, .int 0, .ref (x 30), .int 0, .ref (x 31), .ref (x 42), .int 1, .int 0, .null, .ref (x 43)])), ((x 13), .inr (4, [.ref (x 14), .ref (x 15), .int 0, .ref (x 16)])), ((x 16), .inr (5, [.int 0, .ref (x 17), .ref (x 18), .ref (x 19), .ref (x 20), .ref (x 21), .int 0, .int 10, .int 20, .int 0, .int 0, .ref (x 22), .ref (x 23), .int 0, .ref (x 24), .ref (x 25), .ref (x 26), .ref (x 27), .ref (x 28)])), ((x 42), .inl (cy 7, 16, .inr (.inr (.inr (.inr (fun _ => none)))))), ((x 31), .inr (6, [.ref (x 32), .ref (x 9), .ref (x 29), .int 0, .int 0, .int 0, .ref (x 36), .ref (x 37), .ref (x 38), .ref (x 39), .ref (x 40), .ref (x 41), .int 0]))] H := hP
  have hD : va_D A [((x 0), .inr (10, [.int 0, .int (-1), .ref (x 1), .ref (x 9), .int 0, .ref (x 10), .ref (x 13), .ref (x 16), .ref (x 29), .int 0, .int 0, .ref (x 30), .int 0, .ref (x 31), .ref (x 42), .int 1, .int 0, .null, .ref (x 43)])), ((x 13), .inr (4, [.ref (x 14), .ref (x 15), .int 0, .ref (x 16)])), ((x 16), .inr (5, [.int 0, .ref (x 17), .ref (x 18), .ref (x 19), .ref (x 20), .ref (x 21), .int 0, .int 10, .int 20, .int 0, .int 0, .ref (x 22), .ref (x 23), .int 0, .ref (x 24), .ref (x 25), .ref (x 26), .ref (x 27), .ref (x 28)])), ((x 42), .inl (cy 7, 16, .inr (.inr (.inr (.inr (fun _ => none)))))), ((x 31), .inr (6, [.ref (x 32), .ref (x 9), .ref (x 29), .int 0, .int 0, .int 0, .ref (x 36), .ref (x 37), .ref (x 38), .ref (x 39), .ref (x 40), .ref (x 41), .int 0]))] := hD
  refine lv_aload_n S.1 S.2.1 dX11_settle_13 rfl (lv_at hl 0 rfl) ?_
  refine lv_iconst (v := 0) S.1 S.2.1 dX11_settle_14 (by decide) ?_
  refine r_put S hK hP hD hS 0 10 rfl rfl inX11 16 (by decide) tyX11 tyX11_ok nmX11 kw_484 (v := .int 0) rfl (by decide) (by decide) (Nat.le_of_ble_eq_true rfl) dX11_settle_15 (fun H locs hP hD hS => ?_)
  have hP : va_P D vwCl [((x 0), .inr (10, [.int 0, .int (-1), .ref (x 1), .ref (x 9), .int 0, .ref (x 10), .ref (x 13), .ref (x 16), .ref (x 29), .int 0, .int 0, .ref (x 30), .int 0, .ref (x 31), .ref (x 42), .int 1, .int 0, .null, .ref (x 43)])), ((x 13), .inr (4, [.ref (x 14), .ref (x 15), .int 0, .ref (x 16)])), ((x 16), .inr (5, [.int 0, .ref (x 17), .ref (x 18), .ref (x 19), .ref (x 20), .ref (x 21), .int 0, .int 10, .int 20, .int 0, .int 0, .ref (x 22), .ref (x 23), .int 0, .ref (x 24), .ref (x 25), .ref (x 26), .ref (x 27), .ref (x 28)])), ((x 42), .inl (cy 7, 16, .inr (.inr (.inr (.inr (fun _ => none)))))), ((x 31), .inr (6, [.ref (x 32), .ref (x 9), .ref (x 29), .int 0, .int 0, .int 0, .ref (x 36), .ref (x 37), .ref (x 38), .ref (x 39), .ref (x 40), .ref (x 41), .int 0]))] H := hP
  have hD : va_D A [((x 0), .inr (10, [.int 0, .int (-1), .ref (x 1), .ref (x 9), .int 0, .ref (x 10), .ref (x 13), .ref (x 16), .ref (x 29), .int 0, .int 0, .ref (x 30), .int 0, .ref (x 31), .ref (x 42), .int 1, .int 0, .null, .ref (x 43)])), ((x 13), .inr (4, [.ref (x 14), .ref (x 15), .int 0, .ref (x 16)])), ((x 16), .inr (5, [.int 0, .ref (x 17), .ref (x 18), .ref (x 19), .ref (x 20), .ref (x 21), .int 0, .int 10, .int 20, .int 0, .int 0, .ref (x 22), .ref (x 23), .int 0, .ref (x 24), .ref (x 25), .ref (x 26), .ref (x 27), .ref (x 28)])), ((x 42), .inl (cy 7, 16, .inr (.inr (.inr (.inr (fun _ => none)))))), ((x 31), .inr (6, [.ref (x 32), .ref (x 9), .ref (x 29), .int 0, .int 0, .int 0, .ref (x 36), .ref (x 37), .ref (x 38), .ref (x 39), .ref (x 40), .ref (x 41), .int 0]))] := hD
  refine lv_aload_n S.1 S.2.1 dX11_settle_18 rfl (lv_at hl 0 rfl) ?_
  refine lv_aload_n S.1 S.2.1 dX11_settle_19 rfl (lv_at hl 0 rfl) ?_
  refine r_get S hK hP 0 10 rfl rfl inX11 6 (by decide) kw_474 (v := .ref (x 13)) rfl dX11_settle_20 ?_
  refine lv_aload_n S.1 S.2.1 dX11_settle_23 rfl (lv_at hl 0 rfl) ?_
  refine call_ri (runV_R (wc := [((x 0), .inr (10, [.int 0, .int (-1), .ref (x 1), .ref (x 9), .int 0, .ref (x 10), .ref (x 13), .ref (x 16), .ref (x 29), .int 0, .int 0, .ref (x 30), .int 0, .ref (x 31), .ref (x 42), .int 1, .int 0, .null, .ref (x 43)]))]) (As := []) (rest := [.ref (x 13), .ref (x 0)]) S (kX11_dayShown_a l D cy x) hK hP [0] rfl 0 10 rfl rfl kw_964 kw_966 kw_24 kw_144 kw_967 okX11_dayShown rfl (by decide) hl.1 rfl (Nat.le_of_ble_eq_true rfl) dX11_settle_24 (by decide)) (fun v24 w24 => ?_)
  subst w24
  refine call_rq (runV_R (wc := [((x 13), .inr (4, [.ref (x 14), .ref (x 15), .int 0, .ref (x 16)]))]) (As := [.int 0]) (rest := [.ref (x 0)]) S (kX4_ofDay l D cy x) hK hP [1] rfl 0 4 rfl rfl kw_968 kw_969 kw_970 kw_148 kw_971 okX4_ofDay rfl (by decide) hl.1 rfl (Nat.le_of_ble_eq_true rfl) dX11_settle_27 (by decide)) (fun v27 w27 => ?_)
  subst w27
  refine r_put S hK hP hD hS 0 10 rfl rfl inX11 7 (by decide) tyX11 tyX11_ok nmX11 kw_475 (v := .ref (x 16)) rfl rfl rfl (Nat.le_of_ble_eq_true rfl) dX11_settle_30 (fun H locs hP hD hS => ?_)
  have hP : va_P D vwCl [((x 0), .inr (10, [.int 0, .int (-1), .ref (x 1), .ref (x 9), .int 0, .ref (x 10), .ref (x 13), .ref (x 16), .ref (x 29), .int 0, .int 0, .ref (x 30), .int 0, .ref (x 31), .ref (x 42), .int 1, .int 0, .null, .ref (x 43)])), ((x 13), .inr (4, [.ref (x 14), .ref (x 15), .int 0, .ref (x 16)])), ((x 16), .inr (5, [.int 0, .ref (x 17), .ref (x 18), .ref (x 19), .ref (x 20), .ref (x 21), .int 0, .int 10, .int 20, .int 0, .int 0, .ref (x 22), .ref (x 23), .int 0, .ref (x 24), .ref (x 25), .ref (x 26), .ref (x 27), .ref (x 28)])), ((x 42), .inl (cy 7, 16, .inr (.inr (.inr (.inr (fun _ => none)))))), ((x 31), .inr (6, [.ref (x 32), .ref (x 9), .ref (x 29), .int 0, .int 0, .int 0, .ref (x 36), .ref (x 37), .ref (x 38), .ref (x 39), .ref (x 40), .ref (x 41), .int 0]))] H := hP
  have hD : va_D A [((x 0), .inr (10, [.int 0, .int (-1), .ref (x 1), .ref (x 9), .int 0, .ref (x 10), .ref (x 13), .ref (x 16), .ref (x 29), .int 0, .int 0, .ref (x 30), .int 0, .ref (x 31), .ref (x 42), .int 1, .int 0, .null, .ref (x 43)])), ((x 13), .inr (4, [.ref (x 14), .ref (x 15), .int 0, .ref (x 16)])), ((x 16), .inr (5, [.int 0, .ref (x 17), .ref (x 18), .ref (x 19), .ref (x 20), .ref (x 21), .int 0, .int 10, .int 20, .int 0, .int 0, .ref (x 22), .ref (x 23), .int 0, .ref (x 24), .ref (x 25), .ref (x 26), .ref (x 27), .ref (x 28)])), ((x 42), .inl (cy 7, 16, .inr (.inr (.inr (.inr (fun _ => none)))))), ((x 31), .inr (6, [.ref (x 32), .ref (x 9), .ref (x 29), .int 0, .int 0, .int 0, .ref (x 36), .ref (x 37), .ref (x 38), .ref (x 39), .ref (x 40), .ref (x 41), .int 0]))] := hD
  refine lv_iconst (v := 0) S.1 S.2.1 dX11_settle_33 (by decide) ?_
  refine lv_istore_n (lv' := [(1, .int 0), (0, .ref (x 0))]) S.1 S.2.1 dX11_settle_34 rfl hl (by decide) rfl (fun ls hl => ?_)
  refine lv_iload_n S.1 S.2.1 dX11_settle_35 rfl (lv_at hl 0 rfl) ?_
  refine lv_aload_n S.1 S.2.1 dX11_settle_36 rfl (lv_at hl 1 rfl) ?_
  refine r_get S hK hP 0 10 rfl rfl inX11 4 (by decide) kw_472 (v := .int 0) rfl dX11_settle_37 ?_
  refine r_icmp_ge S 0 0 rfl rfl dX11_settle_40 (tgt := 59) (by decide) (fun _ => ?_) (fun c => absurd c (by decide))
  refine lv_iconst (v := 0) S.1 S.2.1 dX11_settle_59 (by decide) ?_
  refine lv_istore_n (lv' := [(1, .int 0), (0, .ref (x 0))]) S.1 S.2.1 dX11_settle_60 rfl hl (by decide) rfl (fun ls hl => ?_)
  refine lv_iload_n S.1 S.2.1 dX11_settle_61 rfl (lv_at hl 0 rfl) ?_
  refine lv_iconst (v := 1) S.1 S.2.1 dX11_settle_62 (by decide) ?_
  refine lv_aload_n S.1 S.2.1 dX11_settle_63 rfl (lv_at hl 1 rfl) ?_
  refine r_get S hK hP 0 10 rfl rfl inX11 9 (by decide) kw_477 (v := .int 0) rfl dX11_settle_64 ?_
  refine r_ishl S dX11_settle_67 (v := 1) (by decide) ?_
  refine r_icmp_ge S 0 1 rfl rfl dX11_settle_68 (tgt := 110) (by decide) (fun c => absurd c (by decide)) (fun _ => ?_)
  refine lv_aload_n S.1 S.2.1 dX11_settle_71 rfl (lv_at hl 1 rfl) ?_
  refine r_get S hK hP 0 10 rfl rfl inX11 14 (by decide) kw_482 (v := .ref (x 42)) rfl dX11_settle_72 ?_
  refine lv_iload_n S.1 S.2.1 dX11_settle_75 rfl (lv_at hl 0 rfl) ?_
  refine r_aald S hK hP 3 7 rfl rfl (0) rfl (by decide) (by decide) (v := .null) rfl dX11_settle_76 ?_
  refine lv_ifnonnullN S.1 S.2.1 dX11_settle_77 ?_
  refine lv_aload_n S.1 S.2.1 dX11_settle_80 rfl (lv_at hl 1 rfl) ?_
  refine r_get S hK hP 0 10 rfl rfl inX11 14 (by decide) kw_482 (v := .ref (x 42)) rfl dX11_settle_81 ?_
  refine lv_iload_n S.1 S.2.1 dX11_settle_84 rfl (lv_at hl 0 rfl) ?_
  refine r_new S (ci := 1) inX1 tyX1 tyX1_ok kw_466 kw_1008 kw_168 hK hP hD hS hA rfl (fs := [.int 0, .int 0, .int 0, .int 0, .long 0, .int 0, .int 0, .null, .null]) rfl (by decide) (by decide) dX11_settle_85 (fun a85_1 H hP hD hS => ?_)
  have hP : va_P D vwCl [((x 0), .inr (10, [.int 0, .int (-1), .ref (x 1), .ref (x 9), .int 0, .ref (x 10), .ref (x 13), .ref (x 16), .ref (x 29), .int 0, .int 0, .ref (x 30), .int 0, .ref (x 31), .ref (x 42), .int 1, .int 0, .null, .ref (x 43)])), ((x 13), .inr (4, [.ref (x 14), .ref (x 15), .int 0, .ref (x 16)])), ((x 16), .inr (5, [.int 0, .ref (x 17), .ref (x 18), .ref (x 19), .ref (x 20), .ref (x 21), .int 0, .int 10, .int 20, .int 0, .int 0, .ref (x 22), .ref (x 23), .int 0, .ref (x 24), .ref (x 25), .ref (x 26), .ref (x 27), .ref (x 28)])), ((x 42), .inl (cy 7, 16, .inr (.inr (.inr (.inr (fun _ => none)))))), ((x 31), .inr (6, [.ref (x 32), .ref (x 9), .ref (x 29), .int 0, .int 0, .int 0, .ref (x 36), .ref (x 37), .ref (x 38), .ref (x 39), .ref (x 40), .ref (x 41), .int 0])), (a85_1, .inr (1, [.int 0, .int 0, .int 0, .int 0, .long 0, .int 0, .int 0, .null, .null]))] H := hP
  have hD : va_D A [((x 0), .inr (10, [.int 0, .int (-1), .ref (x 1), .ref (x 9), .int 0, .ref (x 10), .ref (x 13), .ref (x 16), .ref (x 29), .int 0, .int 0, .ref (x 30), .int 0, .ref (x 31), .ref (x 42), .int 1, .int 0, .null, .ref (x 43)])), ((x 13), .inr (4, [.ref (x 14), .ref (x 15), .int 0, .ref (x 16)])), ((x 16), .inr (5, [.int 0, .ref (x 17), .ref (x 18), .ref (x 19), .ref (x 20), .ref (x 21), .int 0, .int 10, .int 20, .int 0, .int 0, .ref (x 22), .ref (x 23), .int 0, .ref (x 24), .ref (x 25), .ref (x 26), .ref (x 27), .ref (x 28)])), ((x 42), .inl (cy 7, 16, .inr (.inr (.inr (.inr (fun _ => none)))))), ((x 31), .inr (6, [.ref (x 32), .ref (x 9), .ref (x 29), .int 0, .int 0, .int 0, .ref (x 36), .ref (x 37), .ref (x 38), .ref (x 39), .ref (x 40), .ref (x 41), .int 0])), (a85_1, .inr (1, [.int 0, .int 0, .int 0, .int 0, .long 0, .int 0, .int 0, .null, .null]))] := hD
  refine lv_dup S.1 S.2.1 dX11_settle_88 rfl ?_
  refine lv_iload_n S.1 S.2.1 dX11_settle_89 rfl (lv_at hl 0 rfl) ?_
  refine call_v (wr := [((x 0), .inr (10, [.int 0, .int (-1), .ref (x 1), .ref (x 9), .int 0, .ref (x 10), .ref (x 13), .ref (x 16), .ref (x 29), .int 0, .int 0, .ref (x 30), .int 0, .ref (x 31), .ref (x 42), .int 1, .int 0, .null, .ref (x 43)])), ((x 13), .inr (4, [.ref (x 14), .ref (x 15), .int 0, .ref (x 16)])), ((x 16), .inr (5, [.int 0, .ref (x 17), .ref (x 18), .ref (x 19), .ref (x 20), .ref (x 21), .int 0, .int 10, .int 20, .int 0, .int 0, .ref (x 22), .ref (x 23), .int 0, .ref (x 24), .ref (x 25), .ref (x 26), .ref (x 27), .ref (x 28)])), ((x 42), .inl (cy 7, 16, .inr (.inr (.inr (.inr (fun _ => none)))))), ((x 31), .inr (6, [.ref (x 32), .ref (x 9), .ref (x 29), .int 0, .int 0, .int 0, .ref (x 36), .ref (x 37), .ref (x 38), .ref (x 39), .ref (x 40), .ref (x 41), .int 0]))]) (runI_C (wc := [(a85_1, .inr (1, [.int 0, .int 0, .int 0, .int 0, .long 0, .int 0, .int 0, .null, .null]))]) (As := [.int 0]) (rest := [.ref a85_1, .int 0, .ref (x 42)]) S (kX1_init l D cy a85_1) hK hP hD [5] (by decide) rfl kw_1009 kw_1010 kw_168 kw_1011 okX1_init rfl rfl (by decide) hl.1 rfl (Nat.le_of_ble_eq_true rfl) dX11_settle_90 (by decide)) hP hD hS hA [5] [0, 1, 2, 3, 4] rfl rfl (by decide) (by decide) (fun u90 H locs w90 hP hD hS => ?_)
  obtain ⟨low_90, high_90⟩ := u90
  have hP : va_P D vwCl [((x 0), .inr (10, [.int 0, .int (-1), .ref (x 1), .ref (x 9), .int 0, .ref (x 10), .ref (x 13), .ref (x 16), .ref (x 29), .int 0, .int 0, .ref (x 30), .int 0, .ref (x 31), .ref (x 42), .int 1, .int 0, .null, .ref (x 43)])), ((x 13), .inr (4, [.ref (x 14), .ref (x 15), .int 0, .ref (x 16)])), ((x 16), .inr (5, [.int 0, .ref (x 17), .ref (x 18), .ref (x 19), .ref (x 20), .ref (x 21), .int 0, .int 10, .int 20, .int 0, .int 0, .ref (x 22), .ref (x 23), .int 0, .ref (x 24), .ref (x 25), .ref (x 26), .ref (x 27), .ref (x 28)])), ((x 42), .inl (cy 7, 16, .inr (.inr (.inr (.inr (fun _ => none)))))), ((x 31), .inr (6, [.ref (x 32), .ref (x 9), .ref (x 29), .int 0, .int 0, .int 0, .ref (x 36), .ref (x 37), .ref (x 38), .ref (x 39), .ref (x 40), .ref (x 41), .int 0])), (a85_1, .inr (1, [.int 0, .int 0, .int 0, .int 0, .long 0, .int 0, .int 0, .ref low_90, .ref high_90])), (low_90, .inl (cy 0, 96, .inl (fun _ => 0))), (high_90, .inl (cy 0, 96, .inl (fun _ => 0)))] H := hP
  have hD : va_D A [((x 0), .inr (10, [.int 0, .int (-1), .ref (x 1), .ref (x 9), .int 0, .ref (x 10), .ref (x 13), .ref (x 16), .ref (x 29), .int 0, .int 0, .ref (x 30), .int 0, .ref (x 31), .ref (x 42), .int 1, .int 0, .null, .ref (x 43)])), ((x 13), .inr (4, [.ref (x 14), .ref (x 15), .int 0, .ref (x 16)])), ((x 16), .inr (5, [.int 0, .ref (x 17), .ref (x 18), .ref (x 19), .ref (x 20), .ref (x 21), .int 0, .int 10, .int 20, .int 0, .int 0, .ref (x 22), .ref (x 23), .int 0, .ref (x 24), .ref (x 25), .ref (x 26), .ref (x 27), .ref (x 28)])), ((x 42), .inl (cy 7, 16, .inr (.inr (.inr (.inr (fun _ => none)))))), ((x 31), .inr (6, [.ref (x 32), .ref (x 9), .ref (x 29), .int 0, .int 0, .int 0, .ref (x 36), .ref (x 37), .ref (x 38), .ref (x 39), .ref (x 40), .ref (x 41), .int 0])), (a85_1, .inr (1, [.int 0, .int 0, .int 0, .int 0, .long 0, .int 0, .int 0, .ref low_90, .ref high_90])), (low_90, .inl (cy 0, 96, .inl (fun _ => 0))), (high_90, .inl (cy 0, 96, .inl (fun _ => 0)))] := hD
  refine r_aast S hK hP hD hS 3 7 5 1 rfl rfl rfl rfl (0) rfl (by decide) (by decide) dX11_settle_93 (fun H locs hP hD hS => ?_)
  have hP : va_P D vwCl [((x 0), .inr (10, [.int 0, .int (-1), .ref (x 1), .ref (x 9), .int 0, .ref (x 10), .ref (x 13), .ref (x 16), .ref (x 29), .int 0, .int 0, .ref (x 30), .int 0, .ref (x 31), .ref (x 42), .int 1, .int 0, .null, .ref (x 43)])), ((x 13), .inr (4, [.ref (x 14), .ref (x 15), .int 0, .ref (x 16)])), ((x 16), .inr (5, [.int 0, .ref (x 17), .ref (x 18), .ref (x 19), .ref (x 20), .ref (x 21), .int 0, .int 10, .int 20, .int 0, .int 0, .ref (x 22), .ref (x 23), .int 0, .ref (x 24), .ref (x 25), .ref (x 26), .ref (x 27), .ref (x 28)])), ((x 42), .inl (cy 7, 16, .inr (.inr (.inr (.inr (va_up (fun _ => none) (0) (some a85_1))))))), ((x 31), .inr (6, [.ref (x 32), .ref (x 9), .ref (x 29), .int 0, .int 0, .int 0, .ref (x 36), .ref (x 37), .ref (x 38), .ref (x 39), .ref (x 40), .ref (x 41), .int 0])), (a85_1, .inr (1, [.int 0, .int 0, .int 0, .int 0, .long 0, .int 0, .int 0, .ref low_90, .ref high_90])), (low_90, .inl (cy 0, 96, .inl (fun _ => 0))), (high_90, .inl (cy 0, 96, .inl (fun _ => 0)))] H := hP
  have hD : va_D A [((x 0), .inr (10, [.int 0, .int (-1), .ref (x 1), .ref (x 9), .int 0, .ref (x 10), .ref (x 13), .ref (x 16), .ref (x 29), .int 0, .int 0, .ref (x 30), .int 0, .ref (x 31), .ref (x 42), .int 1, .int 0, .null, .ref (x 43)])), ((x 13), .inr (4, [.ref (x 14), .ref (x 15), .int 0, .ref (x 16)])), ((x 16), .inr (5, [.int 0, .ref (x 17), .ref (x 18), .ref (x 19), .ref (x 20), .ref (x 21), .int 0, .int 10, .int 20, .int 0, .int 0, .ref (x 22), .ref (x 23), .int 0, .ref (x 24), .ref (x 25), .ref (x 26), .ref (x 27), .ref (x 28)])), ((x 42), .inl (cy 7, 16, .inr (.inr (.inr (.inr (va_up (fun _ => none) (0) (some a85_1))))))), ((x 31), .inr (6, [.ref (x 32), .ref (x 9), .ref (x 29), .int 0, .int 0, .int 0, .ref (x 36), .ref (x 37), .ref (x 38), .ref (x 39), .ref (x 40), .ref (x 41), .int 0])), (a85_1, .inr (1, [.int 0, .int 0, .int 0, .int 0, .long 0, .int 0, .int 0, .ref low_90, .ref high_90])), (low_90, .inl (cy 0, 96, .inl (fun _ => 0))), (high_90, .inl (cy 0, 96, .inl (fun _ => 0)))] := hD
  refine lv_aload_n S.1 S.2.1 dX11_settle_94 rfl (lv_at hl 1 rfl) ?_
  refine r_get S hK hP 0 10 rfl rfl inX11 14 (by decide) kw_482 (v := .ref (x 42)) rfl dX11_settle_95 ?_
  refine lv_iload_n S.1 S.2.1 dX11_settle_98 rfl (lv_at hl 0 rfl) ?_
  refine r_aald S hK hP 3 7 rfl rfl (0) rfl (by decide) (by decide) (v := .ref a85_1) rfl dX11_settle_99 ?_
  refine lv_iconst (v := 0) S.1 S.2.1 dX11_settle_100 (by decide) ?_
  refine r_put S hK hP hD hS 5 1 rfl rfl inX1 1 (by decide) tyX1 tyX1_ok nmX1 kw_1017 (v := .int 0) rfl (by decide) (by decide) (Nat.le_of_ble_eq_true rfl) dX11_settle_101 (fun H locs hP hD hS => ?_)
  have hP : va_P D vwCl [((x 0), .inr (10, [.int 0, .int (-1), .ref (x 1), .ref (x 9), .int 0, .ref (x 10), .ref (x 13), .ref (x 16), .ref (x 29), .int 0, .int 0, .ref (x 30), .int 0, .ref (x 31), .ref (x 42), .int 1, .int 0, .null, .ref (x 43)])), ((x 13), .inr (4, [.ref (x 14), .ref (x 15), .int 0, .ref (x 16)])), ((x 16), .inr (5, [.int 0, .ref (x 17), .ref (x 18), .ref (x 19), .ref (x 20), .ref (x 21), .int 0, .int 10, .int 20, .int 0, .int 0, .ref (x 22), .ref (x 23), .int 0, .ref (x 24), .ref (x 25), .ref (x 26), .ref (x 27), .ref (x 28)])), ((x 42), .inl (cy 7, 16, .inr (.inr (.inr (.inr (va_up (fun _ => none) (0) (some a85_1))))))), ((x 31), .inr (6, [.ref (x 32), .ref (x 9), .ref (x 29), .int 0, .int 0, .int 0, .ref (x 36), .ref (x 37), .ref (x 38), .ref (x 39), .ref (x 40), .ref (x 41), .int 0])), (a85_1, .inr (1, [.int 0, .int 0, .int 0, .int 0, .long 0, .int 0, .int 0, .ref low_90, .ref high_90])), (low_90, .inl (cy 0, 96, .inl (fun _ => 0))), (high_90, .inl (cy 0, 96, .inl (fun _ => 0)))] H := hP
  have hD : va_D A [((x 0), .inr (10, [.int 0, .int (-1), .ref (x 1), .ref (x 9), .int 0, .ref (x 10), .ref (x 13), .ref (x 16), .ref (x 29), .int 0, .int 0, .ref (x 30), .int 0, .ref (x 31), .ref (x 42), .int 1, .int 0, .null, .ref (x 43)])), ((x 13), .inr (4, [.ref (x 14), .ref (x 15), .int 0, .ref (x 16)])), ((x 16), .inr (5, [.int 0, .ref (x 17), .ref (x 18), .ref (x 19), .ref (x 20), .ref (x 21), .int 0, .int 10, .int 20, .int 0, .int 0, .ref (x 22), .ref (x 23), .int 0, .ref (x 24), .ref (x 25), .ref (x 26), .ref (x 27), .ref (x 28)])), ((x 42), .inl (cy 7, 16, .inr (.inr (.inr (.inr (va_up (fun _ => none) (0) (some a85_1))))))), ((x 31), .inr (6, [.ref (x 32), .ref (x 9), .ref (x 29), .int 0, .int 0, .int 0, .ref (x 36), .ref (x 37), .ref (x 38), .ref (x 39), .ref (x 40), .ref (x 41), .int 0])), (a85_1, .inr (1, [.int 0, .int 0, .int 0, .int 0, .long 0, .int 0, .int 0, .ref low_90, .ref high_90])), (low_90, .inl (cy 0, 96, .inl (fun _ => 0))), (high_90, .inl (cy 0, 96, .inl (fun _ => 0)))] := hD
  refine lv_iinc (v := 1) (lv' := [(1, .int 1), (0, .ref (x 0))]) S.1 S.2.1 dX11_settle_104 hl (k := 0) rfl (by decide) (by decide) rfl (fun ls hl => ?_)
  refine lv_goto (tgt := 61) S.1 S.2.1 dX11_settle_107 (by decide) ?_
  refine lv_iload_n S.1 S.2.1 dX11_settle_61 rfl (lv_at hl 0 rfl) ?_
  refine lv_iconst (v := 1) S.1 S.2.1 dX11_settle_62 (by decide) ?_
  refine lv_aload_n S.1 S.2.1 dX11_settle_63 rfl (lv_at hl 1 rfl) ?_
  refine r_get S hK hP 0 10 rfl rfl inX11 9 (by decide) kw_477 (v := .int 0) rfl dX11_settle_64 ?_
  refine r_ishl S dX11_settle_67 (v := 1) (by decide) ?_
  refine r_icmp_ge S 1 1 rfl rfl dX11_settle_68 (tgt := 110) (by decide) (fun _ => ?_) (fun c => absurd c (by decide))
  refine lv_aload_n S.1 S.2.1 dX11_settle_110 rfl (lv_at hl 1 rfl) ?_
  refine r_get S hK hP 0 10 rfl rfl inX11 13 (by decide) kw_481 (v := .ref (x 31)) rfl dX11_settle_111 ?_
  refine lv_aload_n S.1 S.2.1 dX11_settle_114 rfl (lv_at hl 1 rfl) ?_
  refine r_get S hK hP 0 10 rfl rfl inX11 4 (by decide) kw_472 (v := .int 0) rfl dX11_settle_115 ?_
  refine lv_aload_n S.1 S.2.1 dX11_settle_118 rfl (lv_at hl 1 rfl) ?_
  refine r_get S hK hP 0 10 rfl rfl inX11 9 (by decide) kw_477 (v := .int 0) rfl dX11_settle_119 ?_
  refine lv_aload_n S.1 S.2.1 dX11_settle_122 rfl (lv_at hl 1 rfl) ?_
  refine r_get S hK hP 0 10 rfl rfl inX11 7 (by decide) kw_475 (v := .ref (x 16)) rfl dX11_settle_123 ?_
  refine r_get S hK hP 2 5 rfl rfl inX5 7 (by decide) kw_311 (v := .int 10) rfl dX11_settle_126 ?_
  refine call_v (wr := [((x 0), .inr (10, [.int 0, .int (-1), .ref (x 1), .ref (x 9), .int 0, .ref (x 10), .ref (x 13), .ref (x 16), .ref (x 29), .int 0, .int 0, .ref (x 30), .int 0, .ref (x 31), .ref (x 42), .int 1, .int 0, .null, .ref (x 43)])), ((x 13), .inr (4, [.ref (x 14), .ref (x 15), .int 0, .ref (x 16)])), ((x 16), .inr (5, [.int 0, .ref (x 17), .ref (x 18), .ref (x 19), .ref (x 20), .ref (x 21), .int 0, .int 10, .int 20, .int 0, .int 0, .ref (x 22), .ref (x 23), .int 0, .ref (x 24), .ref (x 25), .ref (x 26), .ref (x 27), .ref (x 28)])), ((x 42), .inl (cy 7, 16, .inr (.inr (.inr (.inr (va_up (fun _ => none) (0) (some a85_1))))))), (a85_1, .inr (1, [.int 0, .int 0, .int 0, .int 0, .long 0, .int 0, .int 0, .ref low_90, .ref high_90])), (low_90, .inl (cy 0, 96, .inl (fun _ => 0))), (high_90, .inl (cy 0, 96, .inl (fun _ => 0)))]) (runV_C (wc := [((x 31), .inr (6, [.ref (x 32), .ref (x 9), .ref (x 29), .int 0, .int 0, .int 0, .ref (x 36), .ref (x 37), .ref (x 38), .ref (x 39), .ref (x 40), .ref (x 41), .int 0]))]) (As := [.int 0, .int 0, .int 10]) (rest := []) S (kX6_begin l D cy x) hK hP hD [4] (by decide) rfl 0 6 rfl rfl kw_1054 kw_1055 kw_1056 kw_150 kw_1057 okX6_begin rfl (by decide) hl.1 rfl (Nat.le_of_ble_eq_true rfl) dX11_settle_129 (by decide)) hP hD hS hA [4] [0, 1, 2, 3, 5, 6, 7] rfl rfl (by decide) (by decide) (fun u129 H locs w129 hP hD hS => ?_)
  have hP : va_P D vwCl [((x 0), .inr (10, [.int 0, .int (-1), .ref (x 1), .ref (x 9), .int 0, .ref (x 10), .ref (x 13), .ref (x 16), .ref (x 29), .int 0, .int 0, .ref (x 30), .int 0, .ref (x 31), .ref (x 42), .int 1, .int 0, .null, .ref (x 43)])), ((x 13), .inr (4, [.ref (x 14), .ref (x 15), .int 0, .ref (x 16)])), ((x 16), .inr (5, [.int 0, .ref (x 17), .ref (x 18), .ref (x 19), .ref (x 20), .ref (x 21), .int 0, .int 10, .int 20, .int 0, .int 0, .ref (x 22), .ref (x 23), .int 0, .ref (x 24), .ref (x 25), .ref (x 26), .ref (x 27), .ref (x 28)])), ((x 42), .inl (cy 7, 16, .inr (.inr (.inr (.inr (va_up (fun _ => none) (0) (some a85_1))))))), (a85_1, .inr (1, [.int 0, .int 0, .int 0, .int 0, .long 0, .int 0, .int 0, .ref low_90, .ref high_90])), (low_90, .inl (cy 0, 96, .inl (fun _ => 0))), (high_90, .inl (cy 0, 96, .inl (fun _ => 0))), ((x 31), .inr (6, [.ref (x 32), .ref (x 9), .ref (x 29), .int 0, .int 0, .int 10, .ref (x 36), .ref (x 37), .ref (x 38), .ref (x 39), .ref (x 40), .ref (x 41), .int 0]))] H := hP
  have hD : va_D A [((x 0), .inr (10, [.int 0, .int (-1), .ref (x 1), .ref (x 9), .int 0, .ref (x 10), .ref (x 13), .ref (x 16), .ref (x 29), .int 0, .int 0, .ref (x 30), .int 0, .ref (x 31), .ref (x 42), .int 1, .int 0, .null, .ref (x 43)])), ((x 13), .inr (4, [.ref (x 14), .ref (x 15), .int 0, .ref (x 16)])), ((x 16), .inr (5, [.int 0, .ref (x 17), .ref (x 18), .ref (x 19), .ref (x 20), .ref (x 21), .int 0, .int 10, .int 20, .int 0, .int 0, .ref (x 22), .ref (x 23), .int 0, .ref (x 24), .ref (x 25), .ref (x 26), .ref (x 27), .ref (x 28)])), ((x 42), .inl (cy 7, 16, .inr (.inr (.inr (.inr (va_up (fun _ => none) (0) (some a85_1))))))), (a85_1, .inr (1, [.int 0, .int 0, .int 0, .int 0, .long 0, .int 0, .int 0, .ref low_90, .ref high_90])), (low_90, .inl (cy 0, 96, .inl (fun _ => 0))), (high_90, .inl (cy 0, 96, .inl (fun _ => 0))), ((x 31), .inr (6, [.ref (x 32), .ref (x 9), .ref (x 29), .int 0, .int 0, .int 10, .ref (x 36), .ref (x 37), .ref (x 38), .ref (x 39), .ref (x 40), .ref (x 41), .int 0]))] := hD
  exact cv_ret (u := (a85_1, low_90, high_90)) S hr hlk hK (hP.sub [0, 1, 2, 3, 7, 4, 5, 6] rfl) (hD.sub [0, 1, 2, 3, 7, 4, 5, 6] (by decide) rfl) hS (trivial) (by decide) (by decide) dX11_settle_132
set_option maxHeartbeats 4000000 in
set_option maxRecDepth 100000 in
theorem kX11_settle_b (l : Launch) (D : va_G) (cy : Nat → ClassId) (x : Nat → Nat) : RV l D cy yX11_settle cX11_settle 2 none 0 0 [.ref (x 0)] [((x 0), .inr (10, [.int 0, .int (-1), .ref (x 1), .ref (x 9), .int 0, .ref (x 10), .ref (x 13), .ref (x 16), .ref (x 29), .int 0, .int 0, .ref (x 30), .int 0, .ref (x 31), .ref (x 42), .int 1, .int 0, .null, .ref (x 43)]))] (fun v : Unit => True) := by
  refine metr_go (by decide) (Nat.le_of_ble_eq_true rfl) (fun p e s m below meth c ls S hr hlk hP hK hl => ?_)
  have hl : lv_has ls 2 [(0, .ref (x 0))] := hl
  refine lv_aload_n S.1 S.2.1 dX11_settle_0 rfl (lv_at hl 0 rfl) ?_
  refine r_get S hK hP 0 10 rfl rfl inX11 15 (by decide) kw_483 (v := .int 1) rfl dX11_settle_1 ?_
  refine r_if_eq S 1 rfl dX11_settle_4 (tgt := 8) (by decide) (fun c => absurd c (by decide)) (fun _ => ?_)
  exact rv_ret S hr hlk (trivial) dX11_settle_7
set_option maxHeartbeats 4000000 in
set_option maxRecDepth 100000 in
theorem kX11_isSet (l : Launch) (D : va_G) (cy : Nat → ClassId) (x : Nat → Nat) (p0 : Int32) (z0 : Int) (h0 : p0.toInt = z0) : RI l D cy yX11_isSet cX11_isSet 2 (some .boolean) 0 0 [.ref (x 0), .int p0] [((x 0), .inr (10, [.int 0, .int (-1), .ref (x 1), .ref (x 9), .int 0, .ref (x 10), .ref (x 13), .ref (x 16), .ref (x 29), .int 0, .int 0, .ref (x 30), .int 0, .ref (x 31), .ref (x 42), .int 0, .int 0, .null, .ref (x 43)]))] (fun v : Int32 => (v = 1 ∧ (z0 = 0)) ∨ (v = 0 ∧ ¬ (z0 = 0))) := by
  refine metr_go (by decide) (Nat.le_of_ble_eq_true rfl) (fun p e s m below meth c ls S hr hlk hP hK hl => ?_)
  have hl : lv_has ls 2 [(0, .ref (x 0)), (1, .int p0)] := hl
  refine lv_iload_n S.1 S.2.1 dX11_isSet_0 rfl (lv_at hl 1 rfl) ?_
  refine r_if_lt S z0 h0 dX11_isSet_1 (tgt := 18) (by decide) (fun e_1_1 => ?_) (fun e_1_1 => ?_)
  · refine lv_iconst (v := 0) S.1 S.2.1 dX11_isSet_18 (by decide) ?_
    exact ri_ret S hr hlk (by decide) (Or.inr (⟨rfl, (by omega)⟩)) dX11_isSet_19
  · refine lv_iload_n S.1 S.2.1 dX11_isSet_4 rfl (lv_at hl 1 rfl) ?_
    refine lv_iconst (v := 1) S.1 S.2.1 dX11_isSet_5 (by decide) ?_
    refine lv_aload_n S.1 S.2.1 dX11_isSet_6 rfl (lv_at hl 0 rfl) ?_
    refine r_get S hK hP 0 10 rfl rfl inX11 9 (by decide) kw_477 (v := .int 0) rfl dX11_isSet_7 ?_
    refine r_ishl S dX11_isSet_10 (v := 1) (by decide) ?_
    refine r_icmp_ge S z0 1 h0 rfl dX11_isSet_11 (tgt := 18) (by decide) (fun e_11_2 => ?_) (fun e_11_2 => ?_)
    · refine lv_iconst (v := 0) S.1 S.2.1 dX11_isSet_18 (by decide) ?_
      exact ri_ret S hr hlk (by decide) (Or.inr (⟨rfl, (by omega)⟩)) dX11_isSet_19
    · refine lv_iconst (v := 1) S.1 S.2.1 dX11_isSet_14 (by decide) ?_
      refine lv_goto (tgt := 19) S.1 S.2.1 dX11_isSet_15 (by decide) ?_
      exact ri_ret S hr hlk (by decide) (Or.inl ⟨rfl, (by omega)⟩) dX11_isSet_19
