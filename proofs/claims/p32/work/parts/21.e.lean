abbrev cX4_ofDay : ByteArray := prog_6_method_2_code
def yX4_ofDay : MethodName := ⟨RX4, "ofDay", "(I)LLandSurvey$Rules;"⟩
theorem okX4_ofDay : yok yX4_ofDay 1 := by decide +kernel
theorem dX4_ofDay_0 : decode cX4_ofDay 0 = .ok (.aload_n 0, 1) := by decide +kernel
theorem dX4_ofDay_1 : decode cX4_ofDay 1 = .ok (.getfield 26, 3) := by decide +kernel
theorem kw_379 : Cond.fieldLink "LandSurvey$RuleBook" 26 "LandSurvey$RuleBook" "size" "I" ∈ uu := uu_in (i := 379) (by decide +kernel) (by decide +kernel)
theorem fk_LandSurvey_RuleBook_26 : fkI "LandSurvey$RuleBook" 26 4 2 RX4 TX4 4 := ⟨rfl, rfl, inX4, by decide, kw_379, by decide⟩
theorem dX4_ofDay_4 : decode cX4_ofDay 4 = .ok (.iconst 1, 1) := by decide +kernel
theorem dX4_ofDay_5 : decode cX4_ofDay 5 = .ok (.isub, 1) := by decide +kernel
theorem dX4_ofDay_6 : decode cX4_ofDay 6 = .ok (.istore_n 2, 1) := by decide +kernel
theorem dX4_ofDay_7 : decode cX4_ofDay 7 = .ok (.iload_n 2, 1) := by decide +kernel
theorem dX4_ofDay_8 : decode cX4_ofDay 8 = .ok (.ifCond .lt 26, 3) := by decide +kernel
theorem dX4_ofDay_34 : decode cX4_ofDay 34 = .ok (.aload_n 0, 1) := by decide +kernel
theorem dX4_ofDay_35 : decode cX4_ofDay 35 = .ok (.getfield 22, 3) := by decide +kernel
theorem kw_381 : Cond.fieldLink "LandSurvey$RuleBook" 22 "LandSurvey$RuleBook" "empty" "LLandSurvey$Rules;" ∈ uu := uu_in (i := 381) (by decide +kernel) (by decide +kernel)
theorem fk_LandSurvey_RuleBook_22 : fkR "LandSurvey$RuleBook" 22 4 3 RX4 TX4 4 := ⟨rfl, rfl, inX4, by decide, kw_381, by decide⟩
theorem dX4_ofDay_38 : decode cX4_ofDay 38 = .ok (.areturn, 1) := by decide +kernel
theorem dX4_ofDay_11 : decode cX4_ofDay 11 = .ok (.aload_n 0, 1) := by decide +kernel
theorem dX4_ofDay_12 : decode cX4_ofDay 12 = .ok (.getfield 9, 3) := by decide +kernel
theorem kw_377 : Cond.fieldLink "LandSurvey$RuleBook" 9 "LandSurvey$RuleBook" "days" "[I" ∈ uu := uu_in (i := 377) (by decide +kernel) (by decide +kernel)
theorem fk_LandSurvey_RuleBook_9 : fkR "LandSurvey$RuleBook" 9 4 0 RX4 TX4 4 := ⟨rfl, rfl, inX4, by decide, kw_377, by decide⟩
theorem dX4_ofDay_15 : decode cX4_ofDay 15 = .ok (.iload_n 2, 1) := by decide +kernel
theorem dX4_ofDay_16 : decode cX4_ofDay 16 = .ok (.iaload, 1) := by decide +kernel
theorem dX4_ofDay_17 : decode cX4_ofDay 17 = .ok (.iload_n 1, 1) := by decide +kernel
theorem dX4_ofDay_18 : decode cX4_ofDay 18 = .ok (.if_icmp .gt 10, 3) := by decide +kernel
theorem dX4_ofDay_28 : decode cX4_ofDay 28 = .ok (.iinc 2 (-1), 3) := by decide +kernel
theorem dX4_ofDay_31 : decode cX4_ofDay 31 = .ok (.goto (-24), 3) := by decide +kernel
theorem dX4_ofDay_21 : decode cX4_ofDay 21 = .ok (.aload_n 0, 1) := by decide +kernel
theorem dX4_ofDay_22 : decode cX4_ofDay 22 = .ok (.getfield 17, 3) := by decide +kernel
theorem kw_378 : Cond.fieldLink "LandSurvey$RuleBook" 17 "LandSurvey$RuleBook" "read" "[LLandSurvey$Rules;" ∈ uu := uu_in (i := 378) (by decide +kernel) (by decide +kernel)
theorem fk_LandSurvey_RuleBook_17 : fkR "LandSurvey$RuleBook" 17 4 1 RX4 TX4 4 := ⟨rfl, rfl, inX4, by decide, kw_378, by decide⟩
theorem dX4_ofDay_25 : decode cX4_ofDay 25 = .ok (.iload_n 2, 1) := by decide +kernel
theorem dX4_ofDay_26 : decode cX4_ofDay 26 = .ok (.aaload, 1) := by decide +kernel
theorem dX4_ofDay_27 : decode cX4_ofDay 27 = .ok (.areturn, 1) := by decide +kernel
abbrev cX11_interpret : ByteArray := prog_1_method_47_code
def yX11_interpret : MethodName := ⟨RX11, "interpret", "(LLandSurvey$Sight;)V"⟩
theorem okX11_interpret : yok yX11_interpret 1 := by decide +kernel
theorem kw_586 : Cond.fieldLink "LandSurvey" 194 "LandSurvey$Sight" "namedBy" "I" ∈ uu := uu_in (i := 586) (by decide +kernel) (by decide +kernel)
theorem fk_LandSurvey_194 : fkI "LandSurvey" 194 8 13 RX8 TX8 19 := ⟨rfl, rfl, inX8, by decide, kw_586, by decide⟩
theorem kw_588 : Cond.fieldLink "LandSurvey" 175 "LandSurvey$Sight" "rock" "I" ∈ uu := uu_in (i := 588) (by decide +kernel) (by decide +kernel)
theorem fk_LandSurvey_175 : fkI "LandSurvey" 175 8 14 RX8 TX8 19 := ⟨rfl, rfl, inX8, by decide, kw_588, by decide⟩
theorem kw_590 : Cond.fieldLink "LandSurvey" 178 "LandSurvey$Sight" "worth" "I" ∈ uu := uu_in (i := 590) (by decide +kernel) (by decide +kernel)
theorem fk_LandSurvey_178 : fkI "LandSurvey" 178 8 15 RX8 TX8 19 := ⟨rfl, rfl, inX8, by decide, kw_590, by decide⟩
theorem kw_592 : Cond.fieldLink "LandSurvey" 172 "LandSurvey$Sight" "says" "Z" ∈ uu := uu_in (i := 592) (by decide +kernel) (by decide +kernel)
theorem fk_LandSurvey_172 : fkI "LandSurvey" 172 8 16 RX8 TX8 19 := ⟨rfl, rfl, inX8, by decide, kw_592, by decide⟩
theorem kw_594 : Cond.fieldLink "LandSurvey" 188 "LandSurvey$Sight" "least" "I" ∈ uu := uu_in (i := 594) (by decide +kernel) (by decide +kernel)
theorem fk_LandSurvey_188 : fkI "LandSurvey" 188 8 17 RX8 TX8 19 := ⟨rfl, rfl, inX8, by decide, kw_594, by decide⟩
theorem kw_596 : Cond.fieldLink "LandSurvey" 191 "LandSurvey$Sight" "most" "I" ∈ uu := uu_in (i := 596) (by decide +kernel) (by decide +kernel)
theorem fk_LandSurvey_191 : fkI "LandSurvey" 191 8 18 RX8 TX8 19 := ⟨rfl, rfl, inX8, by decide, kw_596, by decide⟩
theorem dX11_interpret_0 : decode cX11_interpret 0 = .ok (.aload_n 0, 1) := by decide +kernel
theorem dX11_interpret_1 : decode cX11_interpret 1 = .ok (.getfield 74, 3) := by decide +kernel
theorem kw_486 : Cond.fieldLink "LandSurvey" 74 "LandSurvey" "facts" "[I" ∈ uu := uu_in (i := 486) (by decide +kernel) (by decide +kernel)
theorem fk_LandSurvey_74 : fkR "LandSurvey" 74 10 18 RX11 TX11 19 := ⟨rfl, rfl, inX11, by decide, kw_486, by decide⟩
theorem dX11_interpret_4 : decode cX11_interpret 4 = .ok (.iconst 0, 1) := by decide +kernel
theorem dX11_interpret_5 : decode cX11_interpret 5 = .ok (.invokestatic 399, 3) := by decide +kernel
theorem kw_976 : Cond.methodLink "LandSurvey" 399 yJ7_fill_53178 ∈ uu := uu_in (i := 976) (by decide +kernel) (by decide +kernel)
theorem lk_LandSurvey_399 : lkS "LandSurvey" 399 yJ7_fill_53178 cJ7_fill_53178 4 none 2 := ⟨kw_976, kw_187, kw_146, kw_188, okJ7_fill_53178⟩
theorem dX11_interpret_8 : decode cX11_interpret 8 = .ok (.aload_n 0, 1) := by decide +kernel
theorem dX11_interpret_9 : decode cX11_interpret 9 = .ok (.getfield 74, 3) := by decide +kernel
theorem dX11_interpret_12 : decode cX11_interpret 12 = .ok (.iconst 0, 1) := by decide +kernel
theorem dX11_interpret_13 : decode cX11_interpret 13 = .ok (.aload_n 1, 1) := by decide +kernel
theorem dX11_interpret_14 : decode cX11_interpret 14 = .ok (.getfield 405, 3) := by decide +kernel
theorem kw_568 : Cond.fieldLink "LandSurvey" 405 "LandSurvey$Sight" "facts" "I" ∈ uu := uu_in (i := 568) (by decide +kernel) (by decide +kernel)
theorem fk_LandSurvey_405 : fkI "LandSurvey" 405 8 4 RX8 TX8 19 := ⟨rfl, rfl, inX8, by decide, kw_568, by decide⟩
theorem dX11_interpret_17 : decode cX11_interpret 17 = .ok (.sipush 1000, 3) := by decide +kernel
theorem dX11_interpret_20 : decode cX11_interpret 20 = .ok (.idiv, 1) := by decide +kernel
theorem dX11_interpret_21 : decode cX11_interpret 21 = .ok (.iastore, 1) := by decide +kernel
theorem dX11_interpret_22 : decode cX11_interpret 22 = .ok (.aload_n 0, 1) := by decide +kernel
theorem dX11_interpret_23 : decode cX11_interpret 23 = .ok (.getfield 74, 3) := by decide +kernel
theorem dX11_interpret_26 : decode cX11_interpret 26 = .ok (.iconst 1, 1) := by decide +kernel
theorem dX11_interpret_27 : decode cX11_interpret 27 = .ok (.aload_n 1, 1) := by decide +kernel
theorem dX11_interpret_28 : decode cX11_interpret 28 = .ok (.getfield 405, 3) := by decide +kernel
theorem dX11_interpret_31 : decode cX11_interpret 31 = .ok (.bipush 100, 2) := by decide +kernel
theorem dX11_interpret_33 : decode cX11_interpret 33 = .ok (.idiv, 1) := by decide +kernel
theorem dX11_interpret_34 : decode cX11_interpret 34 = .ok (.bipush 10, 2) := by decide +kernel
theorem dX11_interpret_36 : decode cX11_interpret 36 = .ok (.irem, 1) := by decide +kernel
theorem dX11_interpret_37 : decode cX11_interpret 37 = .ok (.iastore, 1) := by decide +kernel
theorem dX11_interpret_38 : decode cX11_interpret 38 = .ok (.aload_n 0, 1) := by decide +kernel
theorem dX11_interpret_39 : decode cX11_interpret 39 = .ok (.getfield 74, 3) := by decide +kernel
theorem dX11_interpret_42 : decode cX11_interpret 42 = .ok (.iconst 2, 1) := by decide +kernel
theorem dX11_interpret_43 : decode cX11_interpret 43 = .ok (.aload_n 1, 1) := by decide +kernel
theorem dX11_interpret_44 : decode cX11_interpret 44 = .ok (.getfield 405, 3) := by decide +kernel
theorem dX11_interpret_47 : decode cX11_interpret 47 = .ok (.bipush 10, 2) := by decide +kernel
theorem dX11_interpret_49 : decode cX11_interpret 49 = .ok (.idiv, 1) := by decide +kernel
theorem dX11_interpret_50 : decode cX11_interpret 50 = .ok (.bipush 10, 2) := by decide +kernel
theorem dX11_interpret_52 : decode cX11_interpret 52 = .ok (.irem, 1) := by decide +kernel
theorem dX11_interpret_53 : decode cX11_interpret 53 = .ok (.iastore, 1) := by decide +kernel
theorem dX11_interpret_54 : decode cX11_interpret 54 = .ok (.aload_n 0, 1) := by decide +kernel
theorem dX11_interpret_55 : decode cX11_interpret 55 = .ok (.getfield 74, 3) := by decide +kernel
theorem dX11_interpret_58 : decode cX11_interpret 58 = .ok (.iconst 3, 1) := by decide +kernel
theorem dX11_interpret_59 : decode cX11_interpret 59 = .ok (.aload_n 1, 1) := by decide +kernel
theorem dX11_interpret_60 : decode cX11_interpret 60 = .ok (.getfield 405, 3) := by decide +kernel
theorem dX11_interpret_63 : decode cX11_interpret 63 = .ok (.bipush 10, 2) := by decide +kernel
theorem dX11_interpret_65 : decode cX11_interpret 65 = .ok (.irem, 1) := by decide +kernel
theorem dX11_interpret_66 : decode cX11_interpret 66 = .ok (.iastore, 1) := by decide +kernel
theorem dX11_interpret_67 : decode cX11_interpret 67 = .ok (.aload_n 0, 1) := by decide +kernel
theorem dX11_interpret_68 : decode cX11_interpret 68 = .ok (.getfield 74, 3) := by decide +kernel
theorem dX11_interpret_71 : decode cX11_interpret 71 = .ok (.iconst 4, 1) := by decide +kernel
theorem dX11_interpret_72 : decode cX11_interpret 72 = .ok (.aload_n 1, 1) := by decide +kernel
theorem dX11_interpret_73 : decode cX11_interpret 73 = .ok (.getfield 407, 3) := by decide +kernel
theorem kw_559 : Cond.fieldLink "LandSurvey" 407 "LandSurvey$Sight" "kind" "I" ∈ uu := uu_in (i := 559) (by decide +kernel) (by decide +kernel)
theorem fk_LandSurvey_407 : fkI "LandSurvey" 407 8 0 RX8 TX8 19 := ⟨rfl, rfl, inX8, by decide, kw_559, by decide⟩
theorem dX11_interpret_76 : decode cX11_interpret 76 = .ok (.iastore, 1) := by decide +kernel
theorem dX11_interpret_77 : decode cX11_interpret 77 = .ok (.aload_n 0, 1) := by decide +kernel
theorem dX11_interpret_78 : decode cX11_interpret 78 = .ok (.getfield 74, 3) := by decide +kernel
theorem dX11_interpret_81 : decode cX11_interpret 81 = .ok (.iconst 5, 1) := by decide +kernel
theorem dX11_interpret_82 : decode cX11_interpret 82 = .ok (.aload_n 1, 1) := by decide +kernel
theorem dX11_interpret_83 : decode cX11_interpret 83 = .ok (.getfield 318, 3) := by decide +kernel
theorem kw_566 : Cond.fieldLink "LandSurvey" 318 "LandSurvey$Sight" "hand" "I" ∈ uu := uu_in (i := 566) (by decide +kernel) (by decide +kernel)
theorem fk_LandSurvey_318 : fkI "LandSurvey" 318 8 3 RX8 TX8 19 := ⟨rfl, rfl, inX8, by decide, kw_566, by decide⟩
theorem dX11_interpret_86 : decode cX11_interpret 86 = .ok (.iastore, 1) := by decide +kernel
theorem dX11_interpret_87 : decode cX11_interpret 87 = .ok (.aload_n 0, 1) := by decide +kernel
theorem dX11_interpret_88 : decode cX11_interpret 88 = .ok (.getfield 74, 3) := by decide +kernel
theorem dX11_interpret_91 : decode cX11_interpret 91 = .ok (.bipush 6, 2) := by decide +kernel
theorem dX11_interpret_93 : decode cX11_interpret 93 = .ok (.aload_n 1, 1) := by decide +kernel
theorem dX11_interpret_94 : decode cX11_interpret 94 = .ok (.getfield 410, 3) := by decide +kernel
theorem kw_564 : Cond.fieldLink "LandSurvey" 410 "LandSurvey$Sight" "depth" "I" ∈ uu := uu_in (i := 564) (by decide +kernel) (by decide +kernel)
theorem fk_LandSurvey_410 : fkI "LandSurvey" 410 8 2 RX8 TX8 19 := ⟨rfl, rfl, inX8, by decide, kw_564, by decide⟩
theorem dX11_interpret_97 : decode cX11_interpret 97 = .ok (.iastore, 1) := by decide +kernel
theorem dX11_interpret_98 : decode cX11_interpret 98 = .ok (.aload_n 0, 1) := by decide +kernel
theorem dX11_interpret_99 : decode cX11_interpret 99 = .ok (.getfield 74, 3) := by decide +kernel
theorem dX11_interpret_102 : decode cX11_interpret 102 = .ok (.bipush 7, 2) := by decide +kernel
theorem dX11_interpret_104 : decode cX11_interpret 104 = .ok (.aload_n 0, 1) := by decide +kernel
theorem dX11_interpret_105 : decode cX11_interpret 105 = .ok (.getfield 16, 3) := by decide +kernel
theorem dX11_interpret_108 : decode cX11_interpret 108 = .ok (.getfield 89, 3) := by decide +kernel
theorem dX11_interpret_111 : decode cX11_interpret 111 = .ok (.aload_n 1, 1) := by decide +kernel
theorem dX11_interpret_112 : decode cX11_interpret 112 = .ok (.getfield 115, 3) := by decide +kernel
theorem kw_561 : Cond.fieldLink "LandSurvey" 115 "LandSurvey$Sight" "cell" "I" ∈ uu := uu_in (i := 561) (by decide +kernel) (by decide +kernel)
theorem fk_LandSurvey_115 : fkI "LandSurvey" 115 8 1 RX8 TX8 19 := ⟨rfl, rfl, inX8, by decide, kw_561, by decide⟩
theorem dX11_interpret_115 : decode cX11_interpret 115 = .ok (.iaload, 1) := by decide +kernel
theorem dX11_interpret_116 : decode cX11_interpret 116 = .ok (.iastore, 1) := by decide +kernel
theorem dX11_interpret_117 : decode cX11_interpret 117 = .ok (.aload_n 1, 1) := by decide +kernel
theorem dX11_interpret_118 : decode cX11_interpret 118 = .ok (.aload_n 0, 1) := by decide +kernel
theorem dX11_interpret_119 : decode cX11_interpret 119 = .ok (.getfield 44, 3) := by decide +kernel
theorem kw_475 : Cond.fieldLink "LandSurvey" 44 "LandSurvey" "inForce" "LLandSurvey$Rules;" ∈ uu := uu_in (i := 475) (by decide +kernel) (by decide +kernel)
theorem fk_LandSurvey_44 : fkR "LandSurvey" 44 10 7 RX11 TX11 19 := ⟨rfl, rfl, inX11, by decide, kw_475, by decide⟩
theorem dX11_interpret_122 : decode cX11_interpret 122 = .ok (.iconst 0, 1) := by decide +kernel
theorem dX11_interpret_123 : decode cX11_interpret 123 = .ok (.aload_n 0, 1) := by decide +kernel
theorem dX11_interpret_124 : decode cX11_interpret 124 = .ok (.getfield 74, 3) := by decide +kernel
theorem dX11_interpret_127 : decode cX11_interpret 127 = .ok (.invokevirtual 263, 3) := by decide +kernel
theorem kw_980 : Cond.code yX5_firstThatTells prog_7_method_10_code 4 (some .int) ∈ uu := uu_in (i := 980) (by decide +kernel) (by decide +kernel)
theorem kw_977 : Cond.methodLink "LandSurvey" 263 yX5_firstThatTells ∈ uu := uu_in (i := 977) (by decide +kernel) (by decide +kernel)
theorem kw_978 : Cond.instanceMethod yX5_firstThatTells ∈ uu := uu_in (i := 978) (by decide +kernel) (by decide +kernel)
theorem kw_979 : Cond.selects "LandSurvey$Rules" yX5_firstThatTells yX5_firstThatTells ∈ uu := uu_in (i := 979) (by decide +kernel) (by decide +kernel)
theorem lk_LandSurvey_263 : lkV "LandSurvey" 263 yX5_firstThatTells cX5_firstThatTells 4 (some .int) 2 := ⟨kw_977, kw_978, kw_979, kw_149, kw_980, okX5_firstThatTells⟩
theorem dX11_interpret_130 : decode cX11_interpret 130 = .ok (.putfield 194, 3) := by decide +kernel
theorem pk_LandSurvey_Sight_13 : pk RX8 TX8 19 13 tyX8 false := ⟨tyX8_ok, nmX8, rfl⟩
theorem dX11_interpret_133 : decode cX11_interpret 133 = .ok (.aload_n 1, 1) := by decide +kernel
theorem dX11_interpret_134 : decode cX11_interpret 134 = .ok (.aload_n 1, 1) := by decide +kernel
theorem dX11_interpret_135 : decode cX11_interpret 135 = .ok (.getfield 194, 3) := by decide +kernel
theorem dX11_interpret_138 : decode cX11_interpret 138 = .ok (.iconst (-1), 1) := by decide +kernel
theorem dX11_interpret_139 : decode cX11_interpret 139 = .ok (.if_icmp .ne 7, 3) := by decide +kernel
theorem dX11_interpret_146 : decode cX11_interpret 146 = .ok (.aload_n 0, 1) := by decide +kernel
theorem dX11_interpret_147 : decode cX11_interpret 147 = .ok (.getfield 44, 3) := by decide +kernel
theorem dX11_interpret_150 : decode cX11_interpret 150 = .ok (.getfield 269, 3) := by decide +kernel
theorem kw_331 : Cond.fieldLink "LandSurvey" 269 "LandSurvey$Rules" "lineSays" "[I" ∈ uu := uu_in (i := 331) (by decide +kernel) (by decide +kernel)
theorem fk_LandSurvey_269 : fkR "LandSurvey" 269 5 15 RX5 TX5 19 := ⟨rfl, rfl, inX5, by decide, kw_331, by decide⟩
theorem dX11_interpret_153 : decode cX11_interpret 153 = .ok (.aload_n 1, 1) := by decide +kernel
theorem dX11_interpret_154 : decode cX11_interpret 154 = .ok (.getfield 194, 3) := by decide +kernel
theorem dX11_interpret_157 : decode cX11_interpret 157 = .ok (.iaload, 1) := by decide +kernel
theorem dX11_interpret_158 : decode cX11_interpret 158 = .ok (.putfield 175, 3) := by decide +kernel
theorem pk_LandSurvey_Sight_14 : pk RX8 TX8 19 14 tyX8 false := ⟨tyX8_ok, nmX8, rfl⟩
theorem dX11_interpret_161 : decode cX11_interpret 161 = .ok (.aload_n 0, 1) := by decide +kernel
theorem dX11_interpret_162 : decode cX11_interpret 162 = .ok (.getfield 44, 3) := by decide +kernel
theorem dX11_interpret_165 : decode cX11_interpret 165 = .ok (.iconst 1, 1) := by decide +kernel
theorem dX11_interpret_166 : decode cX11_interpret 166 = .ok (.aload_n 0, 1) := by decide +kernel
theorem dX11_interpret_167 : decode cX11_interpret 167 = .ok (.getfield 74, 3) := by decide +kernel
theorem dX11_interpret_170 : decode cX11_interpret 170 = .ok (.invokevirtual 263, 3) := by decide +kernel
theorem dX11_interpret_173 : decode cX11_interpret 173 = .ok (.istore_n 2, 1) := by decide +kernel
theorem dX11_interpret_174 : decode cX11_interpret 174 = .ok (.aload_n 1, 1) := by decide +kernel
theorem dX11_interpret_175 : decode cX11_interpret 175 = .ok (.iload_n 2, 1) := by decide +kernel
theorem dX11_interpret_176 : decode cX11_interpret 176 = .ok (.iconst (-1), 1) := by decide +kernel
theorem dX11_interpret_177 : decode cX11_interpret 177 = .ok (.if_icmp .ne 8, 3) := by decide +kernel
theorem dX11_interpret_185 : decode cX11_interpret 185 = .ok (.aload_n 0, 1) := by decide +kernel
theorem dX11_interpret_186 : decode cX11_interpret 186 = .ok (.getfield 44, 3) := by decide +kernel
theorem dX11_interpret_189 : decode cX11_interpret 189 = .ok (.getfield 269, 3) := by decide +kernel
theorem dX11_interpret_192 : decode cX11_interpret 192 = .ok (.iload_n 2, 1) := by decide +kernel
theorem dX11_interpret_193 : decode cX11_interpret 193 = .ok (.iaload, 1) := by decide +kernel
theorem dX11_interpret_194 : decode cX11_interpret 194 = .ok (.putfield 178, 3) := by decide +kernel
theorem pk_LandSurvey_Sight_15 : pk RX8 TX8 19 15 tyX8 false := ⟨tyX8_ok, nmX8, rfl⟩
theorem dX11_interpret_197 : decode cX11_interpret 197 = .ok (.aload_n 1, 1) := by decide +kernel
theorem dX11_interpret_198 : decode cX11_interpret 198 = .ok (.aload_n 1, 1) := by decide +kernel
theorem dX11_interpret_199 : decode cX11_interpret 199 = .ok (.getfield 175, 3) := by decide +kernel
theorem dX11_interpret_202 : decode cX11_interpret 202 = .ok (.iconst (-1), 1) := by decide +kernel
theorem dX11_interpret_203 : decode cX11_interpret 203 = .ok (.if_icmp .eq 18, 3) := by decide +kernel
theorem dX11_interpret_206 : decode cX11_interpret 206 = .ok (.aload_n 1, 1) := by decide +kernel
theorem dX11_interpret_207 : decode cX11_interpret 207 = .ok (.aload_n 0, 1) := by decide +kernel
theorem dX11_interpret_208 : decode cX11_interpret 208 = .ok (.invokevirtual 362, 3) := by decide +kernel
theorem kw_967 : Cond.code yX11_dayShown prog_1_method_45_code 1 (some .int) ∈ uu := uu_in (i := 967) (by decide +kernel) (by decide +kernel)
theorem kw_964 : Cond.methodLink "LandSurvey" 362 yX11_dayShown ∈ uu := uu_in (i := 964) (by decide +kernel) (by decide +kernel)
theorem kw_966 : Cond.instanceMethod yX11_dayShown ∈ uu := uu_in (i := 966) (by decide +kernel) (by decide +kernel)
theorem kw_24 : Cond.selects "LandSurvey" yX11_dayShown yX11_dayShown ∈ uu := uu_in (i := 24) (by decide +kernel) (by decide +kernel)
theorem lk_LandSurvey_362 : lkV "LandSurvey" 362 yX11_dayShown cX11_dayShown 1 (some .int) 0 := ⟨kw_964, kw_966, kw_24, kw_144, kw_967, okX11_dayShown⟩
theorem dX11_interpret_211 : decode cX11_interpret 211 = .ok (.invokevirtual 413, 3) := by decide +kernel
theorem kw_991 : Cond.code yX8_isInView prog_10_method_2_code 2 (some .boolean) ∈ uu := uu_in (i := 991) (by decide +kernel) (by decide +kernel)
theorem kw_153 : Cond.initialized "LandSurvey$Sight" ∈ uu := uu_in (i := 153) (by decide +kernel) (by decide +kernel)
theorem kw_988 : Cond.methodLink "LandSurvey" 413 yX8_isInView ∈ uu := uu_in (i := 988) (by decide +kernel) (by decide +kernel)
theorem kw_989 : Cond.instanceMethod yX8_isInView ∈ uu := uu_in (i := 989) (by decide +kernel) (by decide +kernel)
theorem kw_990 : Cond.selects "LandSurvey$Sight" yX8_isInView yX8_isInView ∈ uu := uu_in (i := 990) (by decide +kernel) (by decide +kernel)
theorem lk_LandSurvey_413 : lkV "LandSurvey" 413 yX8_isInView cX8_isInView 2 (some .boolean) 1 := ⟨kw_988, kw_989, kw_990, kw_153, kw_991, okX8_isInView⟩
theorem dX11_interpret_214 : decode cX11_interpret 214 = .ok (.ifCond .eq 7, 3) := by decide +kernel
theorem dX11_interpret_221 : decode cX11_interpret 221 = .ok (.iconst 0, 1) := by decide +kernel
theorem dX11_interpret_222 : decode cX11_interpret 222 = .ok (.putfield 172, 3) := by decide +kernel
theorem pk_LandSurvey_Sight_16 : pk RX8 TX8 19 16 tyX8 false := ⟨tyX8_ok, nmX8, rfl⟩
theorem dX11_interpret_225 : decode cX11_interpret 225 = .ok (.aload_n 1, 1) := by decide +kernel
theorem dX11_interpret_226 : decode cX11_interpret 226 = .ok (.getfield 172, 3) := by decide +kernel
theorem dX11_interpret_229 : decode cX11_interpret 229 = .ok (.ifCond .eq 98, 3) := by decide +kernel
theorem dX11_interpret_327 : decode cX11_interpret 327 = .ok (.return_, 1) := by decide +kernel
theorem dX11_interpret_217 : decode cX11_interpret 217 = .ok (.iconst 1, 1) := by decide +kernel
theorem dX11_interpret_218 : decode cX11_interpret 218 = .ok (.goto 4, 3) := by decide +kernel
theorem dX11_interpret_232 : decode cX11_interpret 232 = .ok (.aload_n 0, 1) := by decide +kernel
theorem dX11_interpret_233 : decode cX11_interpret 233 = .ok (.getfield 16, 3) := by decide +kernel
theorem dX11_interpret_236 : decode cX11_interpret 236 = .ok (.getfield 96, 3) := by decide +kernel
theorem dX11_interpret_239 : decode cX11_interpret 239 = .ok (.aload_n 1, 1) := by decide +kernel
theorem dX11_interpret_240 : decode cX11_interpret 240 = .ok (.getfield 115, 3) := by decide +kernel
theorem dX11_interpret_243 : decode cX11_interpret 243 = .ok (.baload, 1) := by decide +kernel
theorem dX11_interpret_244 : decode cX11_interpret 244 = .ok (.istore_n 3, 1) := by decide +kernel
theorem dX11_interpret_245 : decode cX11_interpret 245 = .ok (.aload_n 0, 1) := by decide +kernel
theorem dX11_interpret_246 : decode cX11_interpret 246 = .ok (.getfield 16, 3) := by decide +kernel
theorem dX11_interpret_249 : decode cX11_interpret 249 = .ok (.getfield 89, 3) := by decide +kernel
theorem dX11_interpret_252 : decode cX11_interpret 252 = .ok (.aload_n 1, 1) := by decide +kernel
theorem dX11_interpret_253 : decode cX11_interpret 253 = .ok (.getfield 115, 3) := by decide +kernel
theorem dX11_interpret_256 : decode cX11_interpret 256 = .ok (.iaload, 1) := by decide +kernel
theorem dX11_interpret_257 : decode cX11_interpret 257 = .ok (.aload_n 1, 1) := by decide +kernel
theorem dX11_interpret_258 : decode cX11_interpret 258 = .ok (.getfield 410, 3) := by decide +kernel
theorem dX11_interpret_261 : decode cX11_interpret 261 = .ok (.isub, 1) := by decide +kernel
theorem dX11_interpret_262 : decode cX11_interpret 262 = .ok (.istore 4, 2) := by decide +kernel
theorem dX11_interpret_264 : decode cX11_interpret 264 = .ok (.aload_n 1, 1) := by decide +kernel
theorem dX11_interpret_265 : decode cX11_interpret 265 = .ok (.getfield 407, 3) := by decide +kernel
theorem dX11_interpret_268 : decode cX11_interpret 268 = .ok (.iconst 1, 1) := by decide +kernel
theorem dX11_interpret_269 : decode cX11_interpret 269 = .ok (.if_icmp .ne 13, 3) := by decide +kernel
theorem dX11_interpret_282 : decode cX11_interpret 282 = .ok (.iconst 0, 1) := by decide +kernel
theorem dX11_interpret_283 : decode cX11_interpret 283 = .ok (.istore 5, 2) := by decide +kernel
theorem dX11_interpret_285 : decode cX11_interpret 285 = .ok (.aload_n 1, 1) := by decide +kernel
theorem dX11_interpret_286 : decode cX11_interpret 286 = .ok (.aload_n 0, 1) := by decide +kernel
theorem dX11_interpret_287 : decode cX11_interpret 287 = .ok (.getfield 44, 3) := by decide +kernel
theorem dX11_interpret_290 : decode cX11_interpret 290 = .ok (.aload_n 1, 1) := by decide +kernel
theorem dX11_interpret_291 : decode cX11_interpret 291 = .ok (.getfield 175, 3) := by decide +kernel
theorem dX11_interpret_294 : decode cX11_interpret 294 = .ok (.iload_n 3, 1) := by decide +kernel
theorem dX11_interpret_295 : decode cX11_interpret 295 = .ok (.iload 4, 2) := by decide +kernel
theorem dX11_interpret_297 : decode cX11_interpret 297 = .ok (.invokevirtual 419, 3) := by decide +kernel
theorem kw_995 : Cond.code yX5_leastBase prog_7_method_8_code 4 (some .int) ∈ uu := uu_in (i := 995) (by decide +kernel) (by decide +kernel)
theorem kw_992 : Cond.methodLink "LandSurvey" 419 yX5_leastBase ∈ uu := uu_in (i := 992) (by decide +kernel) (by decide +kernel)
theorem kw_993 : Cond.instanceMethod yX5_leastBase ∈ uu := uu_in (i := 993) (by decide +kernel) (by decide +kernel)
theorem kw_994 : Cond.selects "LandSurvey$Rules" yX5_leastBase yX5_leastBase ∈ uu := uu_in (i := 994) (by decide +kernel) (by decide +kernel)
theorem lk_LandSurvey_419 : lkV "LandSurvey" 419 yX5_leastBase cX5_leastBase 4 (some .int) 3 := ⟨kw_992, kw_993, kw_994, kw_149, kw_995, okX5_leastBase⟩
theorem dX11_interpret_300 : decode cX11_interpret 300 = .ok (.iload 5, 2) := by decide +kernel
theorem dX11_interpret_302 : decode cX11_interpret 302 = .ok (.isub, 1) := by decide +kernel
theorem dX11_interpret_303 : decode cX11_interpret 303 = .ok (.putfield 188, 3) := by decide +kernel
theorem pk_LandSurvey_Sight_17 : pk RX8 TX8 19 17 tyX8 false := ⟨tyX8_ok, nmX8, rfl⟩
theorem dX11_interpret_306 : decode cX11_interpret 306 = .ok (.aload_n 1, 1) := by decide +kernel
theorem dX11_interpret_307 : decode cX11_interpret 307 = .ok (.aload_n 0, 1) := by decide +kernel
theorem dX11_interpret_308 : decode cX11_interpret 308 = .ok (.getfield 44, 3) := by decide +kernel
theorem dX11_interpret_311 : decode cX11_interpret 311 = .ok (.aload_n 1, 1) := by decide +kernel
theorem dX11_interpret_312 : decode cX11_interpret 312 = .ok (.getfield 175, 3) := by decide +kernel
theorem dX11_interpret_315 : decode cX11_interpret 315 = .ok (.iload_n 3, 1) := by decide +kernel
theorem dX11_interpret_316 : decode cX11_interpret 316 = .ok (.iload 4, 2) := by decide +kernel
theorem dX11_interpret_318 : decode cX11_interpret 318 = .ok (.invokevirtual 423, 3) := by decide +kernel
theorem kw_1003 : Cond.code yX5_mostBase prog_7_method_9_code 4 (some .int) ∈ uu := uu_in (i := 1003) (by decide +kernel) (by decide +kernel)
theorem kw_1000 : Cond.methodLink "LandSurvey" 423 yX5_mostBase ∈ uu := uu_in (i := 1000) (by decide +kernel) (by decide +kernel)
theorem kw_1001 : Cond.instanceMethod yX5_mostBase ∈ uu := uu_in (i := 1001) (by decide +kernel) (by decide +kernel)
theorem kw_1002 : Cond.selects "LandSurvey$Rules" yX5_mostBase yX5_mostBase ∈ uu := uu_in (i := 1002) (by decide +kernel) (by decide +kernel)
theorem lk_LandSurvey_423 : lkV "LandSurvey" 423 yX5_mostBase cX5_mostBase 4 (some .int) 3 := ⟨kw_1000, kw_1001, kw_1002, kw_149, kw_1003, okX5_mostBase⟩
theorem dX11_interpret_321 : decode cX11_interpret 321 = .ok (.iload 5, 2) := by decide +kernel
theorem dX11_interpret_323 : decode cX11_interpret 323 = .ok (.iadd, 1) := by decide +kernel
theorem dX11_interpret_324 : decode cX11_interpret 324 = .ok (.putfield 191, 3) := by decide +kernel
theorem pk_LandSurvey_Sight_18 : pk RX8 TX8 19 18 tyX8 false := ⟨tyX8_ok, nmX8, rfl⟩
theorem dX11_interpret_272 : decode cX11_interpret 272 = .ok (.aload_n 0, 1) := by decide +kernel
theorem dX11_interpret_273 : decode cX11_interpret 273 = .ok (.getfield 44, 3) := by decide +kernel
theorem dX11_interpret_276 : decode cX11_interpret 276 = .ok (.getfield 416, 3) := by decide +kernel
theorem kw_314 : Cond.fieldLink "LandSurvey" 416 "LandSurvey$Rules" "drift" "I" ∈ uu := uu_in (i := 314) (by decide +kernel) (by decide +kernel)
theorem fk_LandSurvey_416 : fkI "LandSurvey" 416 5 8 RX5 TX5 19 := ⟨rfl, rfl, inX5, by decide, kw_314, by decide⟩
theorem dX11_interpret_279 : decode cX11_interpret 279 = .ok (.goto 4, 3) := by decide +kernel
theorem dX11_interpret_180 : decode cX11_interpret 180 = .ok (.bipush 10, 2) := by decide +kernel
theorem dX11_interpret_182 : decode cX11_interpret 182 = .ok (.goto 12, 3) := by decide +kernel
theorem dX11_interpret_142 : decode cX11_interpret 142 = .ok (.iconst (-1), 1) := by decide +kernel
theorem dX11_interpret_143 : decode cX11_interpret 143 = .ok (.goto 15, 3) := by decide +kernel
abbrev cX1_init : ByteArray := prog_3_method_1_code
def yX1_init : MethodName := ⟨RX1, "<init>", "(I)V"⟩
theorem okX1_init : yok yX1_init 1 := by decide +kernel
theorem kw_1029 : Cond.fieldLink "LandSurvey$Ground" 9 "LandSurvey$Ground" "low" "[I" ∈ uu := uu_in (i := 1029) (by decide +kernel) (by decide +kernel)
theorem fk_LandSurvey_Ground_9 : fkR "LandSurvey$Ground" 9 1 7 RX1 TX1 9 := ⟨rfl, rfl, inX1, by decide, kw_1029, by decide⟩
theorem kw_1032 : Cond.fieldLink "LandSurvey$Ground" 15 "LandSurvey$Ground" "high" "[I" ∈ uu := uu_in (i := 1032) (by decide +kernel) (by decide +kernel)
theorem fk_LandSurvey_Ground_15 : fkR "LandSurvey$Ground" 15 1 8 RX1 TX1 9 := ⟨rfl, rfl, inX1, by decide, kw_1032, by decide⟩
theorem kw_1013 : Cond.fieldLink "LandSurvey$Ground" 18 "LandSurvey$Ground" "set" "I" ∈ uu := uu_in (i := 1013) (by decide +kernel) (by decide +kernel)
theorem fk_LandSurvey_Ground_18 : fkI "LandSurvey$Ground" 18 1 0 RX1 TX1 9 := ⟨rfl, rfl, inX1, by decide, kw_1013, by decide⟩
theorem dX1_init_0 : decode cX1_init 0 = .ok (.aload_n 0, 1) := by decide +kernel
theorem dX1_init_1 : decode cX1_init 1 = .ok (.invokespecial 3, 3) := by decide +kernel
theorem kw_1012 : Cond.methodLink "LandSurvey$Ground" 3 (⟨"java/lang/Object", "<init>", "()V"⟩ : MethodName) ∈ uu := uu_in (i := 1012) (by decide +kernel) (by decide +kernel)
theorem kw_178 : Cond.instanceMethod (⟨"java/lang/Object", "<init>", "()V"⟩ : MethodName) ∈ uu := uu_in (i := 178) (by decide +kernel) (by decide +kernel)
theorem dX1_init_4 : decode cX1_init 4 = .ok (.aload_n 0, 1) := by decide +kernel
theorem dX1_init_5 : decode cX1_init 5 = .ok (.bipush 96, 2) := by decide +kernel
theorem dX1_init_7 : decode cX1_init 7 = .ok (.newarray .int, 2) := by decide +kernel
theorem kw_224 : Cond.arrayClass .int ∈ uu := uu_in (i := 224) (by decide +kernel) (by decide +kernel)
theorem dX1_init_9 : decode cX1_init 9 = .ok (.putfield 9, 3) := by decide +kernel
theorem pk_LandSurvey_Ground_7 : pk RX1 TX1 9 7 tyX1 true := ⟨tyX1_ok, nmX1, rfl⟩
theorem dX1_init_12 : decode cX1_init 12 = .ok (.aload_n 0, 1) := by decide +kernel
theorem dX1_init_13 : decode cX1_init 13 = .ok (.bipush 96, 2) := by decide +kernel
theorem dX1_init_15 : decode cX1_init 15 = .ok (.newarray .int, 2) := by decide +kernel
theorem dX1_init_17 : decode cX1_init 17 = .ok (.putfield 15, 3) := by decide +kernel
theorem pk_LandSurvey_Ground_8 : pk RX1 TX1 9 8 tyX1 true := ⟨tyX1_ok, nmX1, rfl⟩
theorem dX1_init_20 : decode cX1_init 20 = .ok (.aload_n 0, 1) := by decide +kernel
theorem dX1_init_21 : decode cX1_init 21 = .ok (.iload_n 1, 1) := by decide +kernel
theorem dX1_init_22 : decode cX1_init 22 = .ok (.putfield 18, 3) := by decide +kernel
theorem pk_LandSurvey_Ground_0 : pk RX1 TX1 9 0 tyX1 true := ⟨tyX1_ok, nmX1, rfl⟩
theorem dX1_init_25 : decode cX1_init 25 = .ok (.return_, 1) := by decide +kernel
abbrev cX11_settle : ByteArray := prog_1_method_46_code
def yX11_settle : MethodName := ⟨RX11, "settle", "()V"⟩
theorem okX11_settle : yok yX11_settle 0 := by decide +kernel
theorem kw_484 : Cond.fieldLink "LandSurvey" 375 "LandSurvey" "judged" "Z" ∈ uu := uu_in (i := 484) (by decide +kernel) (by decide +kernel)
theorem fk_LandSurvey_375 : fkI "LandSurvey" 375 10 16 RX11 TX11 19 := ⟨rfl, rfl, inX11, by decide, kw_484, by decide⟩
theorem kw_1017 : Cond.fieldLink "LandSurvey" 389 "LandSurvey$Ground" "solved" "Z" ∈ uu := uu_in (i := 1017) (by decide +kernel) (by decide +kernel)
theorem fk_LandSurvey_389 : fkI "LandSurvey" 389 1 1 RX1 TX1 9 := ⟨rfl, rfl, inX1, by decide, kw_1017, by decide⟩
theorem dX11_settle_0 : decode cX11_settle 0 = .ok (.aload_n 0, 1) := by decide +kernel
theorem dX11_settle_1 : decode cX11_settle 1 = .ok (.getfield 81, 3) := by decide +kernel
theorem dX11_settle_4 : decode cX11_settle 4 = .ok (.ifCond .eq 4, 3) := by decide +kernel
theorem dX11_settle_8 : decode cX11_settle 8 = .ok (.aload_n 0, 1) := by decide +kernel
theorem dX11_settle_9 : decode cX11_settle 9 = .ok (.iconst 1, 1) := by decide +kernel
theorem dX11_settle_10 : decode cX11_settle 10 = .ok (.putfield 81, 3) := by decide +kernel
theorem dX11_settle_13 : decode cX11_settle 13 = .ok (.aload_n 0, 1) := by decide +kernel
theorem dX11_settle_14 : decode cX11_settle 14 = .ok (.iconst 0, 1) := by decide +kernel
theorem dX11_settle_15 : decode cX11_settle 15 = .ok (.putfield 375, 3) := by decide +kernel
theorem pk_LandSurvey_16 : pk RX11 TX11 19 16 tyX11 false := ⟨tyX11_ok, nmX11, rfl⟩
theorem dX11_settle_18 : decode cX11_settle 18 = .ok (.aload_n 0, 1) := by decide +kernel
theorem dX11_settle_19 : decode cX11_settle 19 = .ok (.aload_n 0, 1) := by decide +kernel
theorem dX11_settle_20 : decode cX11_settle 20 = .ok (.getfield 36, 3) := by decide +kernel
theorem kw_474 : Cond.fieldLink "LandSurvey" 36 "LandSurvey" "book" "LLandSurvey$RuleBook;" ∈ uu := uu_in (i := 474) (by decide +kernel) (by decide +kernel)
theorem fk_LandSurvey_36 : fkR "LandSurvey" 36 10 6 RX11 TX11 19 := ⟨rfl, rfl, inX11, by decide, kw_474, by decide⟩
theorem dX11_settle_23 : decode cX11_settle 23 = .ok (.aload_n 0, 1) := by decide +kernel
theorem dX11_settle_24 : decode cX11_settle 24 = .ok (.invokevirtual 362, 3) := by decide +kernel
theorem dX11_settle_27 : decode cX11_settle 27 = .ok (.invokevirtual 378, 3) := by decide +kernel
theorem kw_971 : Cond.code yX4_ofDay prog_6_method_2_code 3 (some (.object "LandSurvey$Rules")) ∈ uu := uu_in (i := 971) (by decide +kernel) (by decide +kernel)
theorem kw_148 : Cond.initialized "LandSurvey$RuleBook" ∈ uu := uu_in (i := 148) (by decide +kernel) (by decide +kernel)
theorem kw_968 : Cond.methodLink "LandSurvey" 378 yX4_ofDay ∈ uu := uu_in (i := 968) (by decide +kernel) (by decide +kernel)
theorem kw_969 : Cond.instanceMethod yX4_ofDay ∈ uu := uu_in (i := 969) (by decide +kernel) (by decide +kernel)
theorem kw_970 : Cond.selects "LandSurvey$RuleBook" yX4_ofDay yX4_ofDay ∈ uu := uu_in (i := 970) (by decide +kernel) (by decide +kernel)
theorem lk_LandSurvey_378 : lkV "LandSurvey" 378 yX4_ofDay cX4_ofDay 3 (some (.object "LandSurvey$Rules")) 1 := ⟨kw_968, kw_969, kw_970, kw_148, kw_971, okX4_ofDay⟩
theorem dX11_settle_30 : decode cX11_settle 30 = .ok (.putfield 44, 3) := by decide +kernel
theorem pk_LandSurvey_7 : pk RX11 TX11 19 7 tyX11 false := ⟨tyX11_ok, nmX11, rfl⟩
theorem dX11_settle_33 : decode cX11_settle 33 = .ok (.iconst 0, 1) := by decide +kernel
theorem dX11_settle_34 : decode cX11_settle 34 = .ok (.istore_n 1, 1) := by decide +kernel
theorem dX11_settle_35 : decode cX11_settle 35 = .ok (.iload_n 1, 1) := by decide +kernel
theorem dX11_settle_36 : decode cX11_settle 36 = .ok (.aload_n 0, 1) := by decide +kernel
theorem dX11_settle_37 : decode cX11_settle 37 = .ok (.getfield 102, 3) := by decide +kernel
theorem dX11_settle_40 : decode cX11_settle 40 = .ok (.if_icmp .ge 19, 3) := by decide +kernel
theorem dX11_settle_59 : decode cX11_settle 59 = .ok (.iconst 0, 1) := by decide +kernel
theorem dX11_settle_60 : decode cX11_settle 60 = .ok (.istore_n 1, 1) := by decide +kernel
theorem dX11_settle_61 : decode cX11_settle 61 = .ok (.iload_n 1, 1) := by decide +kernel
theorem dX11_settle_62 : decode cX11_settle 62 = .ok (.iconst 1, 1) := by decide +kernel
theorem dX11_settle_63 : decode cX11_settle 63 = .ok (.aload_n 0, 1) := by decide +kernel
theorem dX11_settle_64 : decode cX11_settle 64 = .ok (.getfield 157, 3) := by decide +kernel
theorem kw_477 : Cond.fieldLink "LandSurvey" 157 "LandSurvey" "breakCount" "I" ∈ uu := uu_in (i := 477) (by decide +kernel) (by decide +kernel)
theorem fk_LandSurvey_157 : fkI "LandSurvey" 157 10 9 RX11 TX11 19 := ⟨rfl, rfl, inX11, by decide, kw_477, by decide⟩
theorem dX11_settle_67 : decode cX11_settle 67 = .ok (.ishl, 1) := by decide +kernel
theorem dX11_settle_68 : decode cX11_settle 68 = .ok (.if_icmp .ge 42, 3) := by decide +kernel
theorem dX11_settle_110 : decode cX11_settle 110 = .ok (.aload_n 0, 1) := by decide +kernel
theorem dX11_settle_111 : decode cX11_settle 111 = .ok (.getfield 64, 3) := by decide +kernel
theorem kw_481 : Cond.fieldLink "LandSurvey" 64 "LandSurvey" "search" "LLandSurvey$Search;" ∈ uu := uu_in (i := 481) (by decide +kernel) (by decide +kernel)
theorem fk_LandSurvey_64 : fkR "LandSurvey" 64 10 13 RX11 TX11 19 := ⟨rfl, rfl, inX11, by decide, kw_481, by decide⟩
theorem dX11_settle_114 : decode cX11_settle 114 = .ok (.aload_n 0, 1) := by decide +kernel
theorem dX11_settle_115 : decode cX11_settle 115 = .ok (.getfield 102, 3) := by decide +kernel
theorem dX11_settle_118 : decode cX11_settle 118 = .ok (.aload_n 0, 1) := by decide +kernel
theorem dX11_settle_119 : decode cX11_settle 119 = .ok (.getfield 157, 3) := by decide +kernel
theorem dX11_settle_122 : decode cX11_settle 122 = .ok (.aload_n 0, 1) := by decide +kernel
theorem dX11_settle_123 : decode cX11_settle 123 = .ok (.getfield 44, 3) := by decide +kernel
theorem dX11_settle_126 : decode cX11_settle 126 = .ok (.getfield 392, 3) := by decide +kernel
theorem kw_311 : Cond.fieldLink "LandSurvey" 392 "LandSurvey$Rules" "steep" "I" ∈ uu := uu_in (i := 311) (by decide +kernel) (by decide +kernel)
theorem fk_LandSurvey_392 : fkI "LandSurvey" 392 5 7 RX5 TX5 19 := ⟨rfl, rfl, inX5, by decide, kw_311, by decide⟩
theorem dX11_settle_129 : decode cX11_settle 129 = .ok (.invokevirtual 395, 3) := by decide +kernel
theorem kw_1057 : Cond.code yX6_begin prog_8_method_2_code 4 none ∈ uu := uu_in (i := 1057) (by decide +kernel) (by decide +kernel)
theorem kw_1054 : Cond.methodLink "LandSurvey" 395 yX6_begin ∈ uu := uu_in (i := 1054) (by decide +kernel) (by decide +kernel)
theorem kw_1055 : Cond.instanceMethod yX6_begin ∈ uu := uu_in (i := 1055) (by decide +kernel) (by decide +kernel)
theorem kw_1056 : Cond.selects "LandSurvey$Search" yX6_begin yX6_begin ∈ uu := uu_in (i := 1056) (by decide +kernel) (by decide +kernel)
theorem lk_LandSurvey_395 : lkV "LandSurvey" 395 yX6_begin cX6_begin 4 none 3 := ⟨kw_1054, kw_1055, kw_1056, kw_150, kw_1057, okX6_begin⟩
theorem dX11_settle_132 : decode cX11_settle 132 = .ok (.return_, 1) := by decide +kernel
theorem dX11_settle_71 : decode cX11_settle 71 = .ok (.aload_n 0, 1) := by decide +kernel
theorem dX11_settle_72 : decode cX11_settle 72 = .ok (.getfield 70, 3) := by decide +kernel
theorem kw_482 : Cond.fieldLink "LandSurvey" 70 "LandSurvey" "grounds" "[LLandSurvey$Ground;" ∈ uu := uu_in (i := 482) (by decide +kernel) (by decide +kernel)
theorem fk_LandSurvey_70 : fkR "LandSurvey" 70 10 14 RX11 TX11 19 := ⟨rfl, rfl, inX11, by decide, kw_482, by decide⟩
theorem dX11_settle_75 : decode cX11_settle 75 = .ok (.iload_n 1, 1) := by decide +kernel
theorem dX11_settle_76 : decode cX11_settle 76 = .ok (.aaload, 1) := by decide +kernel
theorem dX11_settle_77 : decode cX11_settle 77 = .ok (.ifnonnull 17, 3) := by decide +kernel
theorem dX11_settle_94 : decode cX11_settle 94 = .ok (.aload_n 0, 1) := by decide +kernel
theorem dX11_settle_95 : decode cX11_settle 95 = .ok (.getfield 70, 3) := by decide +kernel
theorem dX11_settle_98 : decode cX11_settle 98 = .ok (.iload_n 1, 1) := by decide +kernel
theorem dX11_settle_99 : decode cX11_settle 99 = .ok (.aaload, 1) := by decide +kernel
theorem dX11_settle_100 : decode cX11_settle 100 = .ok (.iconst 0, 1) := by decide +kernel
theorem dX11_settle_101 : decode cX11_settle 101 = .ok (.putfield 389, 3) := by decide +kernel
theorem dX11_settle_104 : decode cX11_settle 104 = .ok (.iinc 1 1, 3) := by decide +kernel
theorem dX11_settle_107 : decode cX11_settle 107 = .ok (.goto (-46), 3) := by decide +kernel
theorem dX11_settle_80 : decode cX11_settle 80 = .ok (.aload_n 0, 1) := by decide +kernel
theorem dX11_settle_81 : decode cX11_settle 81 = .ok (.getfield 70, 3) := by decide +kernel
theorem dX11_settle_84 : decode cX11_settle 84 = .ok (.iload_n 1, 1) := by decide +kernel
theorem dX11_settle_85 : decode cX11_settle 85 = .ok (.new 68, 3) := by decide +kernel
theorem kw_466 : Cond.classLink "LandSurvey" 68 "LandSurvey$Ground" ∈ uu := uu_in (i := 466) (by decide +kernel) (by decide +kernel)
theorem kw_1008 : Cond.instantiable "LandSurvey$Ground" 9 ∈ uu := uu_in (i := 1008) (by decide +kernel) (by decide +kernel)
theorem kw_168 : Cond.initialized "LandSurvey$Ground" ∈ uu := uu_in (i := 168) (by decide +kernel) (by decide +kernel)
theorem dX11_settle_88 : decode cX11_settle 88 = .ok (.dup, 1) := by decide +kernel
theorem dX11_settle_89 : decode cX11_settle 89 = .ok (.iload_n 1, 1) := by decide +kernel
theorem dX11_settle_90 : decode cX11_settle 90 = .ok (.invokespecial 386, 3) := by decide +kernel
theorem kw_1011 : Cond.code yX1_init prog_3_method_1_code 2 none ∈ uu := uu_in (i := 1011) (by decide +kernel) (by decide +kernel)
theorem kw_1009 : Cond.methodLink "LandSurvey" 386 yX1_init ∈ uu := uu_in (i := 1009) (by decide +kernel) (by decide +kernel)
theorem kw_1010 : Cond.instanceMethod yX1_init ∈ uu := uu_in (i := 1010) (by decide +kernel) (by decide +kernel)
theorem lk_LandSurvey_386 : lkI "LandSurvey" 386 yX1_init cX1_init 2 none 1 := ⟨kw_1009, kw_1010, kw_168, kw_1011, okX1_init, rfl⟩
theorem tbI_2_1002 : ∀ j, rI 2 j = rI 1002 j := tab_I (by decide +kernel)
theorem tbE_2_1002 : ∀ j, (rE 2 j).1 = (rE 1002 j).1 ∧ (rE 2 j).2.1 = (rE 1002 j).2.1 := tab_E (by decide +kernel)
theorem tbN_2 : ∀ j, (rE 2 j).2.2 = true → ([7, 8] : List Nat).elem j = true := tab_N _ (by decide +kernel)
theorem dX11_settle_93 : decode cX11_settle 93 = .ok (.aastore, 1) := by decide +kernel
theorem dX11_settle_43 : decode cX11_settle 43 = .ok (.aload_n 0, 1) := by decide +kernel
theorem dX11_settle_44 : decode cX11_settle 44 = .ok (.aload_n 0, 1) := by decide +kernel
theorem dX11_settle_45 : decode cX11_settle 45 = .ok (.getfield 22, 3) := by decide +kernel
theorem kw_471 : Cond.fieldLink "LandSurvey" 22 "LandSurvey" "sights" "[LLandSurvey$Sight;" ∈ uu := uu_in (i := 471) (by decide +kernel) (by decide +kernel)
theorem fk_LandSurvey_22 : fkR "LandSurvey" 22 10 3 RX11 TX11 19 := ⟨rfl, rfl, inX11, by decide, kw_471, by decide⟩
theorem dX11_settle_48 : decode cX11_settle 48 = .ok (.iload_n 1, 1) := by decide +kernel
theorem dX11_settle_49 : decode cX11_settle 49 = .ok (.aaload, 1) := by decide +kernel
theorem dX11_settle_50 : decode cX11_settle 50 = .ok (.invokevirtual 382, 3) := by decide +kernel
theorem kw_975 : Cond.code yX11_interpret prog_1_method_47_code 6 none ∈ uu := uu_in (i := 975) (by decide +kernel) (by decide +kernel)
theorem kw_972 : Cond.methodLink "LandSurvey" 382 yX11_interpret ∈ uu := uu_in (i := 972) (by decide +kernel) (by decide +kernel)
theorem kw_974 : Cond.instanceMethod yX11_interpret ∈ uu := uu_in (i := 974) (by decide +kernel) (by decide +kernel)
theorem kw_25 : Cond.selects "LandSurvey" yX11_interpret yX11_interpret ∈ uu := uu_in (i := 25) (by decide +kernel) (by decide +kernel)
theorem lk_LandSurvey_382 : lkV "LandSurvey" 382 yX11_interpret cX11_interpret 6 none 1 := ⟨kw_972, kw_974, kw_25, kw_144, kw_975, okX11_interpret⟩
theorem dX11_settle_53 : decode cX11_settle 53 = .ok (.iinc 1 1, 3) := by decide +kernel
theorem dX11_settle_56 : decode cX11_settle 56 = .ok (.goto (-21), 3) := by decide +kernel
theorem dX11_settle_7 : decode cX11_settle 7 = .ok (.return_, 1) := by decide +kernel
def wr_k_X4_ofDay : List Nat := []
set_option maxRecDepth 100000 in
set_option maxHeartbeats 4000000 in
theorem k_X4_ofDay (l : Launch) (D : va_G) (cy : Nat → ClassId) (w : Nat → Nat) (z0 : Nat)  {h : Hp} {a0 : Nat} {a1 : Int}  (O : Okh h) (ta0 : Tg h a0 = 5) (fa1 : (-2147483648) ≤ a1 ∧ a1 ≤ 2147483647) (P_BkOk : BkOk h a0) : MR l D cy w z0 yX4_ofDay cX4_ofDay 3 (some (.object "LandSurvey$Rules")) 0 0 0 0 [.inr (.inr a0), .inl a1] h (fun v h1 => Okh h1 ∧ Fx wr_k_X4_ofDay h h1 ∧ (Tg h1 v = 6) ∧ (RulesOk h1 v)) := by
  refine hm_go (by decide +kernel) (Nat.le_of_ble_eq_true rfl) (fun p e s m below meth c C hr hn => ?_)
  refine g_aload_n C rfl 0 rfl dX4_ofDay_0 ?_
  obtain ⟨v1, e2⟩ : ∃ z, Iv h a0 2 = z := ⟨_, rfl⟩
  have f3 := ok_I O ta0 rI_5_2 e2
  refine gf_I C fk_LandSurvey_RuleBook_26 rfl ta0 e2 dX4_ofDay_1 ?_
  refine g_iconst C dX4_ofDay_4 ?_
  have f4 : (-1 : Int) ≤ (v1 - 1) ∧ (v1 - 1) ≤ (7 : Int) := ia_sub f3 (il 1) (by decide) (by decide)
  refine g_isub C dX4_ofDay_5 ?_
  refine g_istore_n C [(2, .inl (v1 - 1)), (0, .inr (.inr a0)), (1, .inl a1)] rfl (by decide) rfl dX4_ofDay_6 ?_
  refine GW.sub [1, 2, 0] rfl ?_
  -- loop at 7
  have L6 : ∀ (μ : Nat) (x5 : Int), (x5 - (-1)).toNat = μ → ((-1 : Int) ≤ x5 ∧ x5 ≤ (7 : Int)) → (x5 < Iv h a0 2) → GW p l e (rmm 0 0 0 0) s m (List.map toV [.inr (.inr a0), .inl a1]).toArray below meth c D cy z0 3 (MQ below (QR D cy z0 (fun v h1 => Okh h1 ∧ Fx wr_k_X4_ofDay h h1 ∧ (Tg h1 v = 6) ∧ (RulesOk h1 v))) (List.map toV [.inr (.inr a0), .inl a1]).toArray s 0 0 (Aof z0)) 7 [(0, .inr (.inr a0)), (1, .inl a1), (2, .inl x5)] [] h 0 0 := by
    intro μ
    induction μ using Nat.strongRecOn with
    | ind μ ih7 =>
      intro x5 hm8 f9 p10
      refine g_iload_n C rfl 2 rfl dX4_ofDay_7 ?_
      refine g_if_lt C (iw f9 (by decide) (by decide)) 34 (by decide) dX4_ofDay_8 (fun q11 => ?_) (fun q12 => ?_)
      · have f13 : (-1 : Int) ≤ x5 ∧ x5 ≤ (-1 : Int) := r_lt f9 (il 0) q11 (by decide) (by decide)
        refine g_aload_n C rfl 0 rfl dX4_ofDay_34 ?_
        obtain ⟨v14, e15⟩ : ∃ z, Rv h a0 3 = z := ⟨_, rfl⟩
        have t16 := ok_R O ta0 rE_5_3 e15
        refine gf_R C fk_LandSurvey_RuleBook_22 rfl ta0 e15 dX4_ofDay_35 ?_
        exact g_aret C hr (Or.inl ⟨_, rfl⟩) ⟨O, Fx.rf, t16, (by have z := P_BkOk.2; rw [e15] at z; exact z)⟩ (by decide) (by decide) dX4_ofDay_38
      · have f17 : (0 : Int) ≤ x5 ∧ x5 ≤ (7 : Int) := r_ge f9 (il 0) q12 (by decide) (by decide)
        refine g_aload_n C rfl 0 rfl dX4_ofDay_11 ?_
        obtain ⟨v18, e19⟩ : ∃ z, Rv h a0 0 = z := ⟨_, rfl⟩
        have t20 := ok_R O ta0 rE_5_0 e19
        have l21 := ok_L O ta0 rE_5_0 e19
        refine gf_R C fk_LandSurvey_RuleBook_9 rfl ta0 e19 dX4_ofDay_12 ?_
        refine g_iload_n C rfl 2 rfl dX4_ofDay_15 ?_
        obtain ⟨v22, e23⟩ : ∃ z, Iv h v18 x5.toNat = z := ⟨_, rfl⟩
        have f24 := ok_Ia O t20 ar_21100 rI_21100_0 e23
        refine g_iald C t20 rfl l21 (ix f17 (by decide) (by decide)) e23 dX4_ofDay_16 ?_
        refine g_iload_n C rfl 1 rfl dX4_ofDay_17 ?_
        refine g_icmp_gt C (iw f24 (by decide) (by decide)) fa1 28 (by decide) dX4_ofDay_18 (fun q25 => ?_) (fun q26 => ?_)
        · have f27 : (-2147483648 : Int) ≤ a1 ∧ a1 ≤ (9998 : Int) := r_lt fa1 f24 q25 (by decide) (by decide)
          have f28 : (-1 : Int) ≤ (x5 + (-1)) ∧ (x5 + (-1)) ≤ (6 : Int) := ia_add f17 (il (-1)) (by decide) (by decide)
          refine g_iinc C [(2, .inl (x5 + (-1))), (0, .inr (.inr a0)), (1, .inl a1)] 2 rfl (by decide) rfl dX4_ofDay_28 ?_
          refine g_goto C 7 (by decide) dX4_ofDay_31 ?_
          refine GW.sub [1, 2, 0] rfl ?_
          exact ih7 _ (by omega) (x5 + (-1)) rfl (iw f28 (by decide) (by decide)) (by omega)
        · have f29 : (0 : Int) ≤ a1 ∧ a1 ≤ (2147483647 : Int) := r_ge fa1 f24 q26 (by decide) (by decide)
          refine g_aload_n C rfl 0 rfl dX4_ofDay_21 ?_
          obtain ⟨v30, e31⟩ : ∃ z, Rv h a0 1 = z := ⟨_, rfl⟩
          have t32 := ok_R O ta0 rE_5_1 e31
          have l33 := ok_L O ta0 rE_5_1 e31
          refine gf_R C fk_LandSurvey_RuleBook_17 rfl ta0 e31 dX4_ofDay_22 ?_
          refine g_iload_n C rfl 2 rfl dX4_ofDay_25 ?_
          obtain ⟨v34, e35⟩ : ∃ z, Rv h v30 x5.toNat = z := ⟨_, rfl⟩
          refine g_aald (t := 8) C t32 rfl (by decide) rfl l33 (ix f17 (by decide) (by decide)) e35 dX4_ofDay_26 ?_
          have z36 := P_BkOk.1 x5.toNat (by omega)
          rw [e31, e35] at z36
          have t37 := ok_Na O t32 ar_22108 rE_22108_0 e35 z36.1
          exact g_aret C hr (Or.inl ⟨_, rfl⟩) ⟨O, Fx.rf, t37, (z36.2)⟩ (by decide) (by decide) dX4_ofDay_27
  exact L6 _ (v1 - 1) rfl f4 (by omega)
def wr_k_X11_interpret : List Nat := [1813, 1814, 1815, 1816, 1817, 1818, 7420000, 10020000]
set_option maxRecDepth 100000 in
set_option maxHeartbeats 4000000 in
theorem k_X11_interpret (l : Launch) (D : va_G) (cy : Nat → ClassId) (w : Nat → Nat) (z0 : Nat)  {h : Hp} {a0 : Nat} {a1 : Nat}  (O : Okh h) (ta0 : Tg h a0 = 11) (ta1 : Tg h a1 = 9) (P_RO7 : RulesOk h (Rv h a0 7)) : MV l D cy w z0 yX11_interpret cX11_interpret 6 none 3 70 0 0 [.inr (.inr a0), .inr (.inr a1)] h (fun h1 => Okh h1 ∧ Fx wr_k_X11_interpret h h1) := by
  obtain ⟨v1, e2⟩ : ∃ z, Rv h a0 7 = z := ⟨_, rfl⟩
  have t3 := ok_R O ta0 rE_11_7 e2
  have p4 := P_RO7
  rw [e2] at p4
  refine hm_go (by decide +kernel) (Nat.le_of_ble_eq_true rfl) (fun p e s m below meth c C hr hn => ?_)
  refine g_aload_n C rfl 0 rfl dX11_interpret_0 ?_
  obtain ⟨v5, e6⟩ : ∃ z, Rv h a0 18 = z := ⟨_, rfl⟩
  have t7 := ok_R O ta0 rE_11_18 e6
  have l8 := ok_L O ta0 rE_11_18 e6
  refine gf_R C fk_LandSurvey_74 rfl ta0 e6 dX11_interpret_1 ?_
  refine g_iconst C dX11_interpret_4 ?_
  refine g_callV (st := []) (gc_S C lk_LandSurvey_399 (k_fill_50100 l D cy w z0 O t7 l8 (iw (il 0) (by decide) (by decide))) rfl ⟨by decide, by decide⟩ (Nat.le_of_ble_eq_true rfl) dX11_interpret_5 ⟨(by decide), (by decide)⟩) (fun h10 K11 => ?_)
  obtain ⟨O13, F14⟩ := K11
  refine g_aload_n C rfl 0 rfl dX11_interpret_8 ?_
  have e15 : Tg h10 a0 = 11 := (fxT F14 ta0)
  have e16 : Rv h10 a0 18 = v5 := ((fxR F14 ta0 rfl).trans e6)
  refine gf_R C fk_LandSurvey_74 rfl e15 e16 dX11_interpret_9 ?_
  refine g_iconst C dX11_interpret_12 ?_
  refine g_aload_n C rfl 1 rfl dX11_interpret_13 ?_
  have e17 : Tg h10 a1 = 9 := (fxT F14 ta1)
  obtain ⟨v18, e19⟩ : ∃ z, Iv h10 a1 4 = z := ⟨_, rfl⟩
  have f20 := ok_I O13 e17 rI_9_4 e19
  refine gf_I C fk_LandSurvey_405 rfl e17 e19 dX11_interpret_14 ?_
  refine g_sipush C (by decide) dX11_interpret_17 ?_
  refine g_idivE (k := 1000) C (iw f20 (by decide) (by decide)) (by decide) (by decide) dX11_interpret_20 ?_
  have f21 : (0 : Int) ≤ (v18 / 1000) ∧ (v18 / 1000) ≤ (9 : Int) := iv_div (by decide) f20 (by decide) (by decide)
  have e22 : Tg h10 v5 = 50100 := (fxT F14 t7)
  have e23 : Ln h10 v5 = 12 := ((fxL F14 t7).trans l8)
  refine g_iast C e22 rfl e23 (ix (il 0) (by decide) (by decide)) (iw f21 (by decide) (by decide)) dX11_interpret_21 (fun h25 hh24 => ?_)
  have O26 := O13.pIa e22 ar_50100 hh24 rI_50100_0 (iw f21 (by decide) (by decide)) nofun
  refine g_aload_n C rfl 0 rfl dX11_interpret_22 ?_
  have e27 : Tg h25 a0 = 11 := ((pIT hh24).trans e15)
  have e28 : Rv h25 a0 18 = v5 := ((pIR hh24).trans e16)
  refine gf_R C fk_LandSurvey_74 rfl e27 e28 dX11_interpret_23 ?_
  refine g_iconst C dX11_interpret_26 ?_
  refine g_aload_n C rfl 1 rfl dX11_interpret_27 ?_
  have e29 : Tg h25 a1 = 9 := ((pIT hh24).trans e17)
  have e30 : Iv h25 a1 4 = v18 := ((pI_n hh24 (ne_tag e17 e22 (by decide))).trans e19)
  refine gf_I C fk_LandSurvey_405 rfl e29 e30 dX11_interpret_28 ?_
  refine g_bipush C (by decide) dX11_interpret_31 ?_
  refine g_idivE (k := 100) C (iw f20 (by decide) (by decide)) (by decide) (by decide) dX11_interpret_33 ?_
  have f31 : (0 : Int) ≤ (v18 / 100) ∧ (v18 / 100) ≤ (99 : Int) := iv_div (by decide) f20 (by decide) (by decide)
  refine g_bipush C (by decide) dX11_interpret_34 ?_
  refine g_iremE (k := 10) C (iw f31 (by decide) (by decide)) (by decide) (by decide) dX11_interpret_36 ?_
  have f32 : (0 : Int) ≤ ((v18 / 100) % 10) ∧ ((v18 / 100) % 10) ≤ (9 : Int) := iv_rem (by decide) (by decide)
  have e33 : Tg h25 v5 = 50100 := ((pIT hh24).trans e22)
  have e34 : Ln h25 v5 = 12 := ((pIL hh24).trans e23)
  refine g_iast C e33 rfl e34 (ix (il 1) (by decide) (by decide)) (iw f32 (by decide) (by decide)) dX11_interpret_37 (fun h36 hh35 => ?_)
  have O37 := O26.pIa e33 ar_50100 hh35 rI_50100_0 (iw f32 (by decide) (by decide)) nofun
  refine g_aload_n C rfl 0 rfl dX11_interpret_38 ?_
  have e38 : Tg h36 a0 = 11 := ((pIT hh35).trans e27)
  have e39 : Rv h36 a0 18 = v5 := ((pIR hh35).trans e28)
  refine gf_R C fk_LandSurvey_74 rfl e38 e39 dX11_interpret_39 ?_
  refine g_iconst C dX11_interpret_42 ?_
  refine g_aload_n C rfl 1 rfl dX11_interpret_43 ?_
  have e40 : Tg h36 a1 = 9 := ((pIT hh35).trans e29)
  have e41 : Iv h36 a1 4 = v18 := ((pI_n hh35 (ne_tag e29 e33 (by decide))).trans e30)
  refine gf_I C fk_LandSurvey_405 rfl e40 e41 dX11_interpret_44 ?_
  refine g_bipush C (by decide) dX11_interpret_47 ?_
  refine g_idivE (k := 10) C (iw f20 (by decide) (by decide)) (by decide) (by decide) dX11_interpret_49 ?_
  have f42 : (0 : Int) ≤ (v18 / 10) ∧ (v18 / 10) ≤ (999 : Int) := iv_div (by decide) f20 (by decide) (by decide)
  refine g_bipush C (by decide) dX11_interpret_50 ?_
  refine g_iremE (k := 10) C (iw f42 (by decide) (by decide)) (by decide) (by decide) dX11_interpret_52 ?_
  have f43 : (0 : Int) ≤ ((v18 / 10) % 10) ∧ ((v18 / 10) % 10) ≤ (9 : Int) := iv_rem (by decide) (by decide)
  have e44 : Tg h36 v5 = 50100 := ((pIT hh35).trans e33)
  have e45 : Ln h36 v5 = 12 := ((pIL hh35).trans e34)
  refine g_iast C e44 rfl e45 (ix (il 2) (by decide) (by decide)) (iw f43 (by decide) (by decide)) dX11_interpret_53 (fun h47 hh46 => ?_)
  have O48 := O37.pIa e44 ar_50100 hh46 rI_50100_0 (iw f43 (by decide) (by decide)) nofun
  refine g_aload_n C rfl 0 rfl dX11_interpret_54 ?_
  have e49 : Tg h47 a0 = 11 := ((pIT hh46).trans e38)
  have e50 : Rv h47 a0 18 = v5 := ((pIR hh46).trans e39)
  refine gf_R C fk_LandSurvey_74 rfl e49 e50 dX11_interpret_55 ?_
  refine g_iconst C dX11_interpret_58 ?_
  refine g_aload_n C rfl 1 rfl dX11_interpret_59 ?_
  have e51 : Tg h47 a1 = 9 := ((pIT hh46).trans e40)
  have e52 : Iv h47 a1 4 = v18 := ((pI_n hh46 (ne_tag e40 e44 (by decide))).trans e41)
  refine gf_I C fk_LandSurvey_405 rfl e51 e52 dX11_interpret_60 ?_
  refine g_bipush C (by decide) dX11_interpret_63 ?_
  refine g_iremE (k := 10) C (iw f20 (by decide) (by decide)) (by decide) (by decide) dX11_interpret_65 ?_
  have f53 : (0 : Int) ≤ (v18 % 10) ∧ (v18 % 10) ≤ (9 : Int) := iv_rem (by decide) (by decide)
  have e54 : Tg h47 v5 = 50100 := ((pIT hh46).trans e44)
  have e55 : Ln h47 v5 = 12 := ((pIL hh46).trans e45)
  refine g_iast C e54 rfl e55 (ix (il 3) (by decide) (by decide)) (iw f53 (by decide) (by decide)) dX11_interpret_66 (fun h57 hh56 => ?_)
  have O58 := O48.pIa e54 ar_50100 hh56 rI_50100_0 (iw f53 (by decide) (by decide)) nofun
  refine g_aload_n C rfl 0 rfl dX11_interpret_67 ?_
  have e59 : Tg h57 a0 = 11 := ((pIT hh56).trans e49)
  have e60 : Rv h57 a0 18 = v5 := ((pIR hh56).trans e50)
  refine gf_R C fk_LandSurvey_74 rfl e59 e60 dX11_interpret_68 ?_
  refine g_iconst C dX11_interpret_71 ?_
  refine g_aload_n C rfl 1 rfl dX11_interpret_72 ?_
  have e61 : Tg h57 a1 = 9 := ((pIT hh56).trans e51)
  obtain ⟨v62, e63⟩ : ∃ z, Iv h57 a1 0 = z := ⟨_, rfl⟩
  have f64 := ok_I O58 e61 rI_9_0 e63
  refine gf_I C fk_LandSurvey_407 rfl e61 e63 dX11_interpret_73 ?_
  have e65 : Tg h57 v5 = 50100 := ((pIT hh56).trans e54)
  have e66 : Ln h57 v5 = 12 := ((pIL hh56).trans e55)
  refine g_iast C e65 rfl e66 (ix (il 4) (by decide) (by decide)) (iw f64 (by decide) (by decide)) dX11_interpret_76 (fun h68 hh67 => ?_)
  have O69 := O58.pIa e65 ar_50100 hh67 rI_50100_0 (iw f64 (by decide) (by decide)) nofun
  refine g_aload_n C rfl 0 rfl dX11_interpret_77 ?_
  have e70 : Tg h68 a0 = 11 := ((pIT hh67).trans e59)
  have e71 : Rv h68 a0 18 = v5 := ((pIR hh67).trans e60)
  refine gf_R C fk_LandSurvey_74 rfl e70 e71 dX11_interpret_78 ?_
  refine g_iconst C dX11_interpret_81 ?_
  refine g_aload_n C rfl 1 rfl dX11_interpret_82 ?_
  have e72 : Tg h68 a1 = 9 := ((pIT hh67).trans e61)
  obtain ⟨v73, e74⟩ : ∃ z, Iv h68 a1 3 = z := ⟨_, rfl⟩
  have f75 := ok_I O69 e72 rI_9_3 e74
  refine gf_I C fk_LandSurvey_318 rfl e72 e74 dX11_interpret_83 ?_
  have e76 : Tg h68 v5 = 50100 := ((pIT hh67).trans e65)
  have e77 : Ln h68 v5 = 12 := ((pIL hh67).trans e66)
  refine g_iast C e76 rfl e77 (ix (il 5) (by decide) (by decide)) (iw f75 (by decide) (by decide)) dX11_interpret_86 (fun h79 hh78 => ?_)
  have O80 := O69.pIa e76 ar_50100 hh78 rI_50100_0 (iw f75 (by decide) (by decide)) nofun
  refine g_aload_n C rfl 0 rfl dX11_interpret_87 ?_
  have e81 : Tg h79 a0 = 11 := ((pIT hh78).trans e70)
  have e82 : Rv h79 a0 18 = v5 := ((pIR hh78).trans e71)
  refine gf_R C fk_LandSurvey_74 rfl e81 e82 dX11_interpret_88 ?_
  refine g_bipush C (by decide) dX11_interpret_91 ?_
  refine g_aload_n C rfl 1 rfl dX11_interpret_93 ?_
  have e83 : Tg h79 a1 = 9 := ((pIT hh78).trans e72)
  obtain ⟨v84, e85⟩ : ∃ z, Iv h79 a1 2 = z := ⟨_, rfl⟩
  have f86 := ok_I O80 e83 rI_9_2 e85
  refine gf_I C fk_LandSurvey_410 rfl e83 e85 dX11_interpret_94 ?_
  have e87 : Tg h79 v5 = 50100 := ((pIT hh78).trans e76)
  have e88 : Ln h79 v5 = 12 := ((pIL hh78).trans e77)
  refine g_iast C e87 rfl e88 (ix (il 6) (by decide) (by decide)) (iw f86 (by decide) (by decide)) dX11_interpret_97 (fun h90 hh89 => ?_)
  have O91 := O80.pIa e87 ar_50100 hh89 rI_50100_0 (iw f86 (by decide) (by decide)) nofun
  refine g_aload_n C rfl 0 rfl dX11_interpret_98 ?_
  have e92 : Tg h90 a0 = 11 := ((pIT hh89).trans e81)
  have e93 : Rv h90 a0 18 = v5 := ((pIR hh89).trans e82)
  refine gf_R C fk_LandSurvey_74 rfl e92 e93 dX11_interpret_99 ?_
  refine g_bipush C (by decide) dX11_interpret_102 ?_
  refine g_aload_n C rfl 0 rfl dX11_interpret_104 ?_
  obtain ⟨v94, e95⟩ : ∃ z, Rv h90 a0 2 = z := ⟨_, rfl⟩
  have t96 := ok_R O91 e92 rE_11_2 e95
  refine gf_R C fk_LandSurvey_16 rfl e92 e95 dX11_interpret_105 ?_
  obtain ⟨v97, e98⟩ : ∃ z, Rv h90 v94 0 = z := ⟨_, rfl⟩
  have t99 := ok_R O91 t96 rE_3_0 e98
  have l100 := ok_L O91 t96 rE_3_0 e98
  refine gf_R C fk_LandSurvey_89 rfl t96 e98 dX11_interpret_108 ?_
  refine g_aload_n C rfl 1 rfl dX11_interpret_111 ?_
  have e101 : Tg h90 a1 = 9 := ((pIT hh89).trans e83)
  obtain ⟨v102, e103⟩ : ∃ z, Iv h90 a1 1 = z := ⟨_, rfl⟩
  have f104 := ok_I O91 e101 rI_9_1 e103
  refine gf_I C fk_LandSurvey_115 rfl e101 e103 dX11_interpret_112 ?_
  obtain ⟨v105, e106⟩ : ∃ z, Iv h90 v97 v102.toNat = z := ⟨_, rfl⟩
  have f107 := ok_Ia O91 t99 ar_12100 rI_12100_0 e106
  refine g_iald C t99 rfl l100 (ix f104 (by decide) (by decide)) e106 dX11_interpret_115 ?_
  have e108 : Tg h90 v5 = 50100 := ((pIT hh89).trans e87)
  have e109 : Ln h90 v5 = 12 := ((pIL hh89).trans e88)
  refine g_iast C e108 rfl e109 (ix (il 7) (by decide) (by decide)) (iw f107 (by decide) (by decide)) dX11_interpret_116 (fun h111 hh110 => ?_)
  have O112 := O91.pIa e108 ar_50100 hh110 rI_50100_0 (iw f107 (by decide) (by decide)) nofun
  refine g_aload_n C rfl 1 rfl dX11_interpret_117 ?_
  refine g_aload_n C rfl 0 rfl dX11_interpret_118 ?_
  have e113 : Tg h111 a0 = 11 := ((pIT hh110).trans e92)
  have e114 : Rv h111 a0 7 = v1 := ((pIR hh110).trans ((pIR hh89).trans ((pIR hh78).trans ((pIR hh67).trans ((pIR hh56).trans ((pIR hh46).trans ((pIR hh35).trans ((pIR hh24).trans ((fxR F14 ta0 rfl).trans e2)))))))))
  refine gf_R C fk_LandSurvey_44 rfl e113 e114 dX11_interpret_119 ?_
  refine g_iconst C dX11_interpret_122 ?_
  refine g_aload_n C rfl 0 rfl dX11_interpret_123 ?_
  have e115 : Rv h111 a0 18 = v5 := ((pIR hh110).trans e93)
  refine gf_R C fk_LandSurvey_74 rfl e113 e115 dX11_interpret_124 ?_
  have e116 : Tg h111 v1 = 6 := ((pIT hh110).trans ((pIT hh89).trans ((pIT hh78).trans ((pIT hh67).trans ((pIT hh56).trans ((pIT hh46).trans ((pIT hh35).trans ((pIT hh24).trans (fxT F14 t3)))))))))
  have e117 : Tg h111 v5 = 50100 := ((pIT hh110).trans e108)
  have e118 : Ln h111 v5 = 12 := ((pIL hh110).trans e109)
  have e119 : Tg h10 v1 = 6 := (fxT F14 t3)
  have e120 : Tg h25 v1 = 6 := ((pIT hh24).trans e119)
  have e121 : Tg h36 v1 = 6 := ((pIT hh35).trans e120)
  have e122 : Tg h47 v1 = 6 := ((pIT hh46).trans e121)
  have e123 : Tg h57 v1 = 6 := ((pIT hh56).trans e122)
  have e124 : Tg h68 v1 = 6 := ((pIT hh67).trans e123)
  have e125 : Tg h79 v1 = 6 := ((pIT hh78).trans e124)
  have e126 : Tg h90 v1 = 6 := ((pIT hh89).trans e125)
  have p127 := (RulesOk_fx O91 ((Fx.rf (wr := [10020000]) (h := h90)).pIa e108 ar_50100 hh110 rfl) e126 rfl (RulesOk_fx O80 ((Fx.rf (wr := [10020000]) (h := h79)).pIa e87 ar_50100 hh89 rfl) e125 rfl (RulesOk_fx O69 ((Fx.rf (wr := [10020000]) (h := h68)).pIa e76 ar_50100 hh78 rfl) e124 rfl (RulesOk_fx O58 ((Fx.rf (wr := [10020000]) (h := h57)).pIa e65 ar_50100 hh67 rfl) e123 rfl (RulesOk_fx O48 ((Fx.rf (wr := [10020000]) (h := h47)).pIa e54 ar_50100 hh56 rfl) e122 rfl (RulesOk_fx O37 ((Fx.rf (wr := [10020000]) (h := h36)).pIa e44 ar_50100 hh46 rfl) e121 rfl (RulesOk_fx O26 ((Fx.rf (wr := [10020000]) (h := h25)).pIa e33 ar_50100 hh35 rfl) e120 rfl (RulesOk_fx O13 ((Fx.rf (wr := [10020000]) (h := h10)).pIa e22 ar_50100 hh24 rfl) e119 rfl (RulesOk_fx O F14 t3 rfl p4)))))))))
  refine g_callI (st := [.inr (.inr a1)]) (gc_V C lk_LandSurvey_263 (k_X5_firstThatTells l D cy w z0 O112 e116 (iw (il 0) (by decide) (by decide)) e117 e118 p127) e116 rfl rfl rfl ⟨by decide, by decide⟩ (Nat.le_of_ble_eq_true rfl) dX11_interpret_127 ⟨(by decide), (by decide)⟩) (fun r128 h129 f131 K130 => ?_)
  obtain ⟨O132, F133, f134, p135⟩ := K130
  obtain ⟨v136, e137⟩ : ∃ z, Iv h129 v1 13 = z := ⟨_, rfl⟩
  have e138 : Tg h129 v1 = 6 := (fxT F133 e116)
  have f139 := ok_I O132 e138 rI_6_13 e137
  obtain ⟨v140, e141⟩ : ∃ z, Rv h129 v1 14 = z := ⟨_, rfl⟩
  have t142 := ok_R O132 e138 rE_6_14 e141
  have l143 := ok_L O132 e138 rE_6_14 e141
  obtain ⟨v144, e145⟩ : ∃ z, Rv h129 v1 15 = z := ⟨_, rfl⟩
  have t146 := ok_R O132 e138 rE_6_15 e145
  have l147 := ok_L O132 e138 rE_6_15 e145
  have p148 := (RulesOk_fx O112 F133 e116 rfl p127)
  rw [e137, e141] at p135
  obtain ⟨v149, e150⟩ : ∃ z, Iv h129 v144 r128.toNat = z := ⟨_, rfl⟩
  have f151 := ok_Ia O132 t146 ar_32100 rI_32100_0 e150
  have z152 : 0 ≤ r128 → v149 ≤ 9 := fun hz => by have q := p148 r128.toNat (by rw [e137]; have := (p135 hz).1; omega); rw [e141, e145, e150] at q; exact q.1 (p135 hz).2
  have e153 : Tg h129 a1 = 9 := (fxT F133 ((pIT hh110).trans e101))
  refine gp_I C fk_LandSurvey_194 pk_LandSurvey_Sight_13 rfl e153 (iw f134 (by decide) (by decide)) (nf_i _) dX11_interpret_130 (fun h155 hh154 => ?_)
  have O156 := O132.pI e153 hh154 rI_9_13 f134 nofun
  refine g_aload_n C rfl 1 rfl dX11_interpret_133 ?_
  refine g_aload_n C rfl 1 rfl dX11_interpret_134 ?_
  have e157 : Tg h155 a1 = 9 := ((pIT hh154).trans e153)
  refine gf_I C fk_LandSurvey_194 rfl e157 (pI_e hh154) dX11_interpret_135 ?_
  refine g_iconst C dX11_interpret_138 ?_
  refine g_icmp_ne C (iw f134 (by decide) (by decide)) (iw (il (-1)) (by decide) (by decide)) 146 (by decide) dX11_interpret_139 (fun q158 => ?_) (fun q159 => ?_)
  · have f160 : (0 : Int) ≤ r128 ∧ r128 ≤ (23 : Int) := r_nl f134 q158
    refine g_aload_n C rfl 0 rfl dX11_interpret_146 ?_
    have e161 : Tg h155 a0 = 11 := ((pIT hh154).trans (fxT F133 e113))
    have e162 : Rv h155 a0 7 = v1 := ((pIR hh154).trans ((fxR F133 e113 rfl).trans e114))
    refine gf_R C fk_LandSurvey_44 rfl e161 e162 dX11_interpret_147 ?_
    have e163 : Tg h155 v1 = 6 := ((pIT hh154).trans e138)
    have e164 : Rv h155 v1 15 = v144 := ((pIR hh154).trans e145)
    refine gf_R C fk_LandSurvey_269 rfl e163 e164 dX11_interpret_150 ?_
    refine g_aload_n C rfl 1 rfl dX11_interpret_153 ?_
    refine gf_I C fk_LandSurvey_194 rfl e157 (pI_e hh154) dX11_interpret_154 ?_
    have e165 : Tg h155 v144 = 32100 := ((pIT hh154).trans t146)
    have e166 : Ln h155 v144 = 24 := ((pIL hh154).trans l147)
    have e167 : Iv h155 v144 r128.toNat = v149 := ((pI_n hh154 (ne_tag t146 e153 (by decide))).trans e150)
    refine g_iald C e165 rfl e166 (ix f160 (by decide) (by decide)) e167 dX11_interpret_157 ?_
    refine gp_I C fk_LandSurvey_175 pk_LandSurvey_Sight_14 rfl e157 (iw f151 (by decide) (by decide)) (nf_i _) dX11_interpret_158 (fun h169 hh168 => ?_)
    have O170 := O156.pI e157 hh168 rI_9_14 (by omega) nofun
    refine g_aload_n C rfl 0 rfl dX11_interpret_161 ?_
    have e171 : Tg h169 a0 = 11 := ((pIT hh168).trans e161)
    have e172 : Rv h169 a0 7 = v1 := ((pIR hh168).trans e162)
    refine gf_R C fk_LandSurvey_44 rfl e171 e172 dX11_interpret_162 ?_
    refine g_iconst C dX11_interpret_165 ?_
    refine g_aload_n C rfl 0 rfl dX11_interpret_166 ?_
    have e173 : Rv h169 a0 18 = v5 := ((pIR hh168).trans ((pIR hh154).trans ((fxR F133 e113 rfl).trans e115)))
    refine gf_R C fk_LandSurvey_74 rfl e171 e173 dX11_interpret_167 ?_
    have e174 : Tg h169 v1 = 6 := ((pIT hh168).trans e163)
    have e175 : Tg h169 v5 = 50100 := ((pIT hh168).trans ((pIT hh154).trans (fxT F133 e117)))
    have e176 : Ln h169 v5 = 12 := ((pIL hh168).trans ((pIL hh154).trans ((fxL F133 e117).trans e118)))
    have p177 := (RulesOk_fx O156 ((Fx.rf (wr := [1814]) (h := h155)).pI e157 hh168 rfl) e163 rfl (RulesOk_fx O132 ((Fx.rf (wr := [1813]) (h := h129)).pI e153 hh154 rfl) e138 rfl p148))
    refine g_callI (st := []) (gc_V C lk_LandSurvey_263 (k_X5_firstThatTells l D cy w z0 O170 e174 (iw (il 1) (by decide) (by decide)) e175 e176 p177) e174 rfl rfl rfl ⟨by decide, by decide⟩ (Nat.le_of_ble_eq_true rfl) dX11_interpret_170 ⟨(by decide), (by decide)⟩) (fun r178 h179 f181 K180 => ?_)
    obtain ⟨O182, F183, f184, p185⟩ := K180
    refine g_istore_n C [(2, .inl r178), (0, .inr (.inr a0)), (1, .inr (.inr a1))] rfl (by decide) rfl dX11_interpret_173 ?_
    refine g_aload_n C rfl 2 rfl dX11_interpret_174 ?_
    refine g_iload_n C rfl 0 rfl dX11_interpret_175 ?_
    refine g_iconst C dX11_interpret_176 ?_
    refine g_icmp_ne C (iw f184 (by decide) (by decide)) (iw (il (-1)) (by decide) (by decide)) 185 (by decide) dX11_interpret_177 (fun q186 => ?_) (fun q187 => ?_)
    · have f188 : (0 : Int) ≤ r178 ∧ r178 ≤ (23 : Int) := r_nl f184 q186
      refine g_aload_n C rfl 1 rfl dX11_interpret_185 ?_
      have e189 : Tg h179 a0 = 11 := (fxT F183 e171)
      have e190 : Rv h179 a0 7 = v1 := ((fxR F183 e171 rfl).trans e172)
      refine gf_R C fk_LandSurvey_44 rfl e189 e190 dX11_interpret_186 ?_
      have e191 : Tg h179 v1 = 6 := (fxT F183 e174)
      have e192 : Rv h179 v1 15 = v144 := ((fxR F183 e174 rfl).trans ((pIR hh168).trans e164))
      refine gf_R C fk_LandSurvey_269 rfl e191 e192 dX11_interpret_189 ?_
      refine g_iload_n C rfl 0 rfl dX11_interpret_192 ?_
      have e193 : Tg h179 v144 = 32100 := (fxT F183 ((pIT hh168).trans e165))
      have e194 : Tg h169 v144 = 32100 := ((pIT hh168).trans e165)
      have e195 : Ln h179 v144 = 24 := ((fxL F183 e194).trans ((pIL hh168).trans e166))
      obtain ⟨v196, e197⟩ : ∃ z, Iv h179 v144 r178.toNat = z := ⟨_, rfl⟩
      have f198 := ok_Ia O182 e193 ar_32100 rI_32100_0 e197
      refine g_iald C e193 rfl e195 (ix f188 (by decide) (by decide)) e197 dX11_interpret_193 ?_
      have e199 : Tg h179 a1 = 9 := (fxT F183 ((pIT hh168).trans e157))
      refine gp_I C fk_LandSurvey_178 pk_LandSurvey_Sight_15 rfl e199 (iw f198 (by decide) (by decide)) (nf_i _) dX11_interpret_194 (fun h201 hh200 => ?_)
      have O202 := O182.pI e199 hh200 rI_9_15 f198 nofun
      refine g_aload_n C rfl 2 rfl dX11_interpret_197 ?_
      refine g_aload_n C rfl 2 rfl dX11_interpret_198 ?_
      have e203 : Tg h201 a1 = 9 := ((pIT hh200).trans e199)
      have e204 : Tg h169 a1 = 9 := ((pIT hh168).trans e157)
      have e205 : Iv h201 a1 14 = v149 := ((pI_j hh200 (by decide)).trans ((fxI F183 e204 rfl).trans (pI_e hh168)))
      refine gf_I C fk_LandSurvey_175 rfl e203 e205 dX11_interpret_199 ?_
      refine g_iconst C dX11_interpret_202 ?_
      refine g_icmp_eq C (iw f151 (by decide) (by decide)) (iw (il (-1)) (by decide) (by decide)) 221 (by decide) dX11_interpret_203 (fun q206 => ?_) (fun q207 => ?_)
      · exact (no_eq f151 (il (-1)) q206 (by decide)).elim
      · refine g_aload_n C rfl 2 rfl dX11_interpret_206 ?_
        refine g_aload_n C rfl 1 rfl dX11_interpret_207 ?_
        have e208 : Tg h201 a0 = 11 := ((pIT hh200).trans e189)
        refine g_callI (st := [.inr (.inr a1), .inr (.inr a1)]) (gc_V C lk_LandSurvey_362 (k_X11_dayShown l D cy w z0 O202 e208) e208 rfl rfl rfl ⟨by decide, by decide⟩ (Nat.le_of_ble_eq_true rfl) dX11_interpret_208 ⟨(by decide), (by decide)⟩) (fun r209 h210 f212 K211 => ?_)
        obtain ⟨O213, F214, f215⟩ := K211
        have e216 : Tg h210 a1 = 9 := (fxT F214 e203)
        refine g_callI (st := [.inr (.inr a1)]) (gc_V C lk_LandSurvey_413 (k_X8_isInView l D cy w z0 O213 e216 (iw f215 (by decide) (by decide))) e216 rfl rfl rfl ⟨by decide, by decide⟩ (Nat.le_of_ble_eq_true rfl) dX11_interpret_211 ⟨(by decide), (by decide)⟩) (fun r217 h218 f220 K219 => ?_)
        obtain ⟨O221, F222, f223⟩ := K219
        refine g_if_eq C (iw f223 (by decide) (by decide)) 221 (by decide) dX11_interpret_214 (fun q224 => ?_) (fun q225 => ?_)
        · have f226 : (0 : Int) ≤ r217 ∧ r217 ≤ (0 : Int) := ii f223 (r_eq (il 0) q224) (by decide) (by decide)
          refine g_iconst C dX11_interpret_221 ?_
          have e227 : Tg h218 a1 = 9 := (fxT F222 e216)
          refine gp_I C fk_LandSurvey_172 pk_LandSurvey_Sight_16 rfl e227 (iw (il 0) (by decide) (by decide)) (nar_z2 (iw (il 0) (by decide) (by decide))) dX11_interpret_222 (fun h229 hh228 => ?_)
          have O230 := O221.pI e227 hh228 rI_9_16 (iw (il 0) (by decide) (by decide)) nofun
          refine g_aload_n C rfl 2 rfl dX11_interpret_225 ?_
          have e231 : Tg h229 a1 = 9 := ((pIT hh228).trans e227)
          refine gf_I C fk_LandSurvey_172 rfl e231 (pI_e hh228) dX11_interpret_226 ?_
          refine g_if_eq C (iw (il 0) (by decide) (by decide)) 327 (by decide) dX11_interpret_229 (fun q232 => ?_) (fun q233 => ?_)
          · exact g_vret C hr ⟨O230, ((((((((((((((((((Fx.rf (wr := wr_k_X11_interpret)).call F14 rfl).pIa e22 ar_50100 hh24 rfl).pIa e33 ar_50100 hh35 rfl).pIa e44 ar_50100 hh46 rfl).pIa e54 ar_50100 hh56 rfl).pIa e65 ar_50100 hh67 rfl).pIa e76 ar_50100 hh78 rfl).pIa e87 ar_50100 hh89 rfl).pIa e108 ar_50100 hh110 rfl).call F133 rfl).pI e153 hh154 rfl).pI e157 hh168 rfl).call F183 rfl).pI e199 hh200 rfl).call F214 rfl).call F222 rfl).pI e227 hh228 rfl)⟩ (by decide) (by decide) dX11_interpret_327
          · exact (no_ne (il 0) (il 0) q233 (by decide)).elim
        · have f234 : (1 : Int) ≤ r217 ∧ r217 ≤ (1 : Int) := r_nl f223 q225
          refine g_iconst C dX11_interpret_217 ?_
          refine g_goto C 222 (by decide) dX11_interpret_218 ?_
          have e235 : Tg h218 a1 = 9 := (fxT F222 e216)
          refine gp_I C fk_LandSurvey_172 pk_LandSurvey_Sight_16 rfl e235 (iw (il 1) (by decide) (by decide)) (nar_z2 (iw (il 1) (by decide) (by decide))) dX11_interpret_222 (fun h237 hh236 => ?_)
          have O238 := O221.pI e235 hh236 rI_9_16 (iw (il 1) (by decide) (by decide)) nofun
          refine g_aload_n C rfl 2 rfl dX11_interpret_225 ?_
          have e239 : Tg h237 a1 = 9 := ((pIT hh236).trans e235)
          refine gf_I C fk_LandSurvey_172 rfl e239 (pI_e hh236) dX11_interpret_226 ?_
          refine g_if_eq C (iw (il 1) (by decide) (by decide)) 327 (by decide) dX11_interpret_229 (fun q240 => ?_) (fun q241 => ?_)
          · exact (no_eq (il 1) (il 0) q240 (by decide)).elim
          · refine g_aload_n C rfl 1 rfl dX11_interpret_232 ?_
            have e242 : Tg h237 a0 = 11 := ((pIT hh236).trans (fxT F222 (fxT F214 e208)))
            have e243 : Tg h210 a0 = 11 := (fxT F214 e208)
            have e244 : Rv h237 a0 2 = v94 := ((pIR hh236).trans ((fxR F222 e243 rfl).trans ((fxR F214 e208 rfl).trans ((pIR hh200).trans ((fxR F183 e171 rfl).trans ((pIR hh168).trans ((pIR hh154).trans ((fxR F133 e113 rfl).trans ((pIR hh110).trans e95)))))))))
            refine gf_R C fk_LandSurvey_16 rfl e242 e244 dX11_interpret_233 ?_
            have e245 : Tg h237 v94 = 3 := ((pIT hh236).trans (fxT F222 (fxT F214 ((pIT hh200).trans (fxT F183 ((pIT hh168).trans ((pIT hh154).trans (fxT F133 ((pIT hh110).trans t96)))))))))
            obtain ⟨v246, e247⟩ : ∃ z, Rv h237 v94 2 = z := ⟨_, rfl⟩
            have t248 := ok_R O238 e245 rE_3_2 e247
            have l249 := ok_L O238 e245 rE_3_2 e247
            refine gf_R C fk_LandSurvey_96 rfl e245 e247 dX11_interpret_236 ?_
            refine g_aload_n C rfl 2 rfl dX11_interpret_239 ?_
            have e250 : Tg h111 a1 = 9 := ((pIT hh110).trans e101)
            have e251 : Iv h237 a1 1 = v102 := ((pI_j hh236 (by decide)).trans ((fxI F222 e216 rfl).trans ((fxI F214 e203 rfl).trans ((pI_j hh200 (by decide)).trans ((fxI F183 e204 rfl).trans ((pI_j hh168 (by decide)).trans ((pI_j hh154 (by decide)).trans ((fxI F133 e250 rfl).trans ((pI_n hh110 (ne_tag e101 e108 (by decide))).trans e103)))))))))
            refine gf_I C fk_LandSurvey_115 rfl e239 e251 dX11_interpret_240 ?_
            obtain ⟨v252, e253⟩ : ∃ z, Iv h237 v246 v102.toNat = z := ⟨_, rfl⟩
            have f254 := ok_Ia O238 t248 ar_14101 rI_14101_0 e253
            refine g_zald C t248 rfl l249 (ix f104 (by decide) (by decide)) e253 dX11_interpret_243 ?_
            refine g_istore_n C [(3, .inl v252), (2, .inl r178), (0, .inr (.inr a0)), (1, .inr (.inr a1))] rfl (by decide) rfl dX11_interpret_244 ?_
            refine g_aload_n C rfl 2 rfl dX11_interpret_245 ?_
            refine gf_R C fk_LandSurvey_16 rfl e242 e244 dX11_interpret_246 ?_
            have e255 : Tg h111 v94 = 3 := ((pIT hh110).trans t96)
            have e256 : Tg h169 v94 = 3 := ((pIT hh168).trans ((pIT hh154).trans (fxT F133 e255)))
            have e257 : Tg h201 v94 = 3 := ((pIT hh200).trans (fxT F183 e256))
            have e258 : Tg h210 v94 = 3 := (fxT F214 e257)
            have e259 : Rv h237 v94 0 = v97 := ((pIR hh236).trans ((fxR F222 e258 rfl).trans ((fxR F214 e257 rfl).trans ((pIR hh200).trans ((fxR F183 e256 rfl).trans ((pIR hh168).trans ((pIR hh154).trans ((fxR F133 e255 rfl).trans ((pIR hh110).trans e98)))))))))
            refine gf_R C fk_LandSurvey_89 rfl e245 e259 dX11_interpret_249 ?_
            refine g_aload_n C rfl 3 rfl dX11_interpret_252 ?_
            refine gf_I C fk_LandSurvey_115 rfl e239 e251 dX11_interpret_253 ?_
            have e260 : Tg h237 v97 = 12100 := ((pIT hh236).trans (fxT F222 (fxT F214 ((pIT hh200).trans (fxT F183 ((pIT hh168).trans ((pIT hh154).trans (fxT F133 ((pIT hh110).trans t99)))))))))
            have e261 : Tg h111 v97 = 12100 := ((pIT hh110).trans t99)
            have e262 : Tg h169 v97 = 12100 := ((pIT hh168).trans ((pIT hh154).trans (fxT F133 e261)))
            have e263 : Tg h201 v97 = 12100 := ((pIT hh200).trans (fxT F183 e262))
            have e264 : Tg h210 v97 = 12100 := (fxT F214 e263)
            have e265 : Ln h237 v97 = 96 := ((pIL hh236).trans ((fxL F222 e264).trans ((fxL F214 e263).trans ((pIL hh200).trans ((fxL F183 e262).trans ((pIL hh168).trans ((pIL hh154).trans ((fxL F133 e261).trans ((pIL hh110).trans l100)))))))))
            have e266 : Tg h129 v97 = 12100 := (fxT F133 e261)
            have e267 : Tg h155 v97 = 12100 := ((pIT hh154).trans e266)
            have e268 : Tg h179 v97 = 12100 := (fxT F183 e262)
            have e269 : Tg h218 v97 = 12100 := (fxT F222 e264)
            have e270 : Iv h237 v97 v102.toNat = v105 := ((pI_n hh236 (ne_tag e269 e235 (by decide))).trans ((fxIa F222 e264 ar_12100 rfl).trans ((fxIa F214 e263 ar_12100 rfl).trans ((pI_n hh200 (ne_tag e268 e199 (by decide))).trans ((fxIa F183 e262 ar_12100 rfl).trans ((pI_n hh168 (ne_tag e267 e157 (by decide))).trans ((pI_n hh154 (ne_tag e266 e153 (by decide))).trans ((fxIa F133 e261 ar_12100 rfl).trans ((pI_n hh110 (ne_tag t99 e108 (by decide))).trans e106)))))))))
            refine g_iald C e260 rfl e265 (ix f104 (by decide) (by decide)) e270 dX11_interpret_256 ?_
            refine g_aload_n C rfl 3 rfl dX11_interpret_257 ?_
            have e271 : Iv h237 a1 2 = v84 := ((pI_j hh236 (by decide)).trans ((fxI F222 e216 rfl).trans ((fxI F214 e203 rfl).trans ((pI_j hh200 (by decide)).trans ((fxI F183 e204 rfl).trans ((pI_j hh168 (by decide)).trans ((pI_j hh154 (by decide)).trans ((fxI F133 e250 rfl).trans ((pI_n hh110 (ne_tag e101 e108 (by decide))).trans ((pI_n hh89 (ne_tag e83 e87 (by decide))).trans e85))))))))))
            refine gf_I C fk_LandSurvey_410 rfl e239 e271 dX11_interpret_258 ?_
            have f272 : (-999 : Int) ≤ (v105 - v84) ∧ (v105 - v84) ≤ (999 : Int) := ia_sub f107 f86 (by decide) (by decide)
            refine g_isub C dX11_interpret_261 ?_
            refine g_istore C [(4, .inl (v105 - v84)), (3, .inl v252), (2, .inl r178), (0, .inr (.inr a0)), (1, .inr (.inr a1))] (by decide) rfl dX11_interpret_262 ?_
            refine g_aload_n C rfl 4 rfl dX11_interpret_264 ?_
            have e273 : Iv h237 a1 0 = v62 := ((pI_j hh236 (by decide)).trans ((fxI F222 e216 rfl).trans ((fxI F214 e203 rfl).trans ((pI_j hh200 (by decide)).trans ((fxI F183 e204 rfl).trans ((pI_j hh168 (by decide)).trans ((pI_j hh154 (by decide)).trans ((fxI F133 e250 rfl).trans ((pI_n hh110 (ne_tag e101 e108 (by decide))).trans ((pI_n hh89 (ne_tag e83 e87 (by decide))).trans ((pI_n hh78 (ne_tag e72 e76 (by decide))).trans ((pI_n hh67 (ne_tag e61 e65 (by decide))).trans e63))))))))))))
            refine gf_I C fk_LandSurvey_407 rfl e239 e273 dX11_interpret_265 ?_
            refine g_iconst C dX11_interpret_268 ?_
            refine g_icmp_ne C (iw f64 (by decide) (by decide)) (iw (il 1) (by decide) (by decide)) 282 (by decide) dX11_interpret_269 (fun q274 => ?_) (fun q275 => ?_)
            · refine g_iconst C dX11_interpret_282 ?_
              refine g_istore C [(5, .inl 0), (4, .inl (v105 - v84)), (3, .inl v252), (2, .inl r178), (0, .inr (.inr a0)), (1, .inr (.inr a1))] (by decide) rfl dX11_interpret_283 ?_
              refine g_aload_n C rfl 5 rfl dX11_interpret_285 ?_
              refine g_aload_n C rfl 4 rfl dX11_interpret_286 ?_
              have e276 : Rv h237 a0 7 = v1 := ((pIR hh236).trans ((fxR F222 e243 rfl).trans ((fxR F214 e208 rfl).trans ((pIR hh200).trans e190))))
              refine gf_R C fk_LandSurvey_44 rfl e242 e276 dX11_interpret_287 ?_
              refine g_aload_n C rfl 5 rfl dX11_interpret_290 ?_
              have e277 : Iv h237 a1 14 = v149 := ((pI_j hh236 (by decide)).trans ((fxI F222 e216 rfl).trans ((fxI F214 e203 rfl).trans e205)))
              refine gf_I C fk_LandSurvey_175 rfl e239 e277 dX11_interpret_291 ?_
              refine g_iload_n C rfl 2 rfl dX11_interpret_294 ?_
              refine g_iload C 1 rfl dX11_interpret_295 ?_
              have e278 : Tg h237 v1 = 6 := ((pIT hh236).trans (fxT F222 (fxT F214 ((pIT hh200).trans e191))))
              refine g_callI (st := [.inr (.inr a1)]) (gc_V C lk_LandSurvey_419 (k_X5_leastBase l D cy w z0 O238 e278 (by omega) f254 (iw f272 (by decide) (by decide))) e278 rfl rfl rfl ⟨by decide, by decide⟩ (Nat.le_of_ble_eq_true rfl) dX11_interpret_297 ⟨(by decide), (by decide)⟩) (fun r279 h280 f282 K281 => ?_)
              obtain ⟨O283, F284, f285⟩ := K281
              refine g_iload C 0 rfl dX11_interpret_300 ?_
              have f286 : (-2147483648 : Int) ≤ (r279 - 0) ∧ (r279 - 0) ≤ (2147483647 : Int) := ia_sub f285 (il 0) (by decide) (by decide)
              refine g_isub C dX11_interpret_302 ?_
              have e287 : Tg h280 a1 = 9 := (fxT F284 e239)
              refine gp_I C fk_LandSurvey_188 pk_LandSurvey_Sight_17 rfl e287 f286 (nf_i _) dX11_interpret_303 (fun h289 hh288 => ?_)
              have O290 := O283.pI e287 hh288 rI_9_17 f286 nofun
              refine g_aload_n C rfl 5 rfl dX11_interpret_306 ?_
              refine g_aload_n C rfl 4 rfl dX11_interpret_307 ?_
              have e291 : Tg h289 a0 = 11 := ((pIT hh288).trans (fxT F284 e242))
              have e292 : Rv h289 a0 7 = v1 := ((pIR hh288).trans ((fxR F284 e242 rfl).trans e276))
              refine gf_R C fk_LandSurvey_44 rfl e291 e292 dX11_interpret_308 ?_
              refine g_aload_n C rfl 5 rfl dX11_interpret_311 ?_
              have e293 : Tg h289 a1 = 9 := ((pIT hh288).trans e287)
              have e294 : Iv h289 a1 14 = v149 := ((pI_j hh288 (by decide)).trans ((fxI F284 e239 rfl).trans e277))
              refine gf_I C fk_LandSurvey_175 rfl e293 e294 dX11_interpret_312 ?_
              refine g_iload_n C rfl 2 rfl dX11_interpret_315 ?_
              refine g_iload C 1 rfl dX11_interpret_316 ?_
              have e295 : Tg h289 v1 = 6 := ((pIT hh288).trans (fxT F284 e278))
              refine g_callI (st := [.inr (.inr a1)]) (gc_V C lk_LandSurvey_423 (k_X5_mostBase l D cy w z0 O290 e295 (by omega) f254 (iw f272 (by decide) (by decide))) e295 rfl rfl rfl ⟨by decide, by decide⟩ (Nat.le_of_ble_eq_true rfl) dX11_interpret_318 ⟨(by decide), (by decide)⟩) (fun r296 h297 f299 K298 => ?_)
              obtain ⟨O300, F301, f302⟩ := K298
              refine g_iload C 0 rfl dX11_interpret_321 ?_
              have f303 : (-2147483648 : Int) ≤ (r296 + 0) ∧ (r296 + 0) ≤ (2147483647 : Int) := ia_add f302 (il 0) (by decide) (by decide)
              refine g_iadd C dX11_interpret_323 ?_
              have e304 : Tg h297 a1 = 9 := (fxT F301 e293)
              refine gp_I C fk_LandSurvey_191 pk_LandSurvey_Sight_18 rfl e304 f303 (nf_i _) dX11_interpret_324 (fun h306 hh305 => ?_)
              have O307 := O300.pI e304 hh305 rI_9_18 f303 nofun
              exact g_vret C hr ⟨O307, ((((((((((((((((((((((Fx.rf (wr := wr_k_X11_interpret)).call F14 rfl).pIa e22 ar_50100 hh24 rfl).pIa e33 ar_50100 hh35 rfl).pIa e44 ar_50100 hh46 rfl).pIa e54 ar_50100 hh56 rfl).pIa e65 ar_50100 hh67 rfl).pIa e76 ar_50100 hh78 rfl).pIa e87 ar_50100 hh89 rfl).pIa e108 ar_50100 hh110 rfl).call F133 rfl).pI e153 hh154 rfl).pI e157 hh168 rfl).call F183 rfl).pI e199 hh200 rfl).call F214 rfl).call F222 rfl).pI e235 hh236 rfl).call F284 rfl).pI e287 hh288 rfl).call F301 rfl).pI e304 hh305 rfl)⟩ (by decide) (by decide) dX11_interpret_327
            · have f308 : (1 : Int) ≤ v62 ∧ v62 ≤ (1 : Int) := ii f64 (r_eq (il 1) q275) (by decide) (by decide)
              refine g_aload_n C rfl 3 rfl dX11_interpret_272 ?_
              have e309 : Rv h237 a0 7 = v1 := ((pIR hh236).trans ((fxR F222 e243 rfl).trans ((fxR F214 e208 rfl).trans ((pIR hh200).trans e190))))
              refine gf_R C fk_LandSurvey_44 rfl e242 e309 dX11_interpret_273 ?_
              have e310 : Tg h237 v1 = 6 := ((pIT hh236).trans (fxT F222 (fxT F214 ((pIT hh200).trans e191))))
              obtain ⟨v311, e312⟩ : ∃ z, Iv h237 v1 8 = z := ⟨_, rfl⟩
              have f313 := ok_I O238 e310 rI_6_8 e312
              refine gf_I C fk_LandSurvey_416 rfl e310 e312 dX11_interpret_276 ?_
              refine g_goto C 283 (by decide) dX11_interpret_279 ?_
              refine g_istore C [(5, .inl v311), (4, .inl (v105 - v84)), (3, .inl v252), (2, .inl r178), (0, .inr (.inr a0)), (1, .inr (.inr a1))] (by decide) rfl dX11_interpret_283 ?_
              refine g_aload_n C rfl 5 rfl dX11_interpret_285 ?_
              refine g_aload_n C rfl 4 rfl dX11_interpret_286 ?_
              refine gf_R C fk_LandSurvey_44 rfl e242 e309 dX11_interpret_287 ?_
              refine g_aload_n C rfl 5 rfl dX11_interpret_290 ?_
              have e314 : Iv h237 a1 14 = v149 := ((pI_j hh236 (by decide)).trans ((fxI F222 e216 rfl).trans ((fxI F214 e203 rfl).trans e205)))
              refine gf_I C fk_LandSurvey_175 rfl e239 e314 dX11_interpret_291 ?_
              refine g_iload_n C rfl 2 rfl dX11_interpret_294 ?_
              refine g_iload C 1 rfl dX11_interpret_295 ?_
              refine g_callI (st := [.inr (.inr a1)]) (gc_V C lk_LandSurvey_419 (k_X5_leastBase l D cy w z0 O238 e310 (by omega) f254 (iw f272 (by decide) (by decide))) e310 rfl rfl rfl ⟨by decide, by decide⟩ (Nat.le_of_ble_eq_true rfl) dX11_interpret_297 ⟨(by decide), (by decide)⟩) (fun r315 h316 f318 K317 => ?_)
              obtain ⟨O319, F320, f321⟩ := K317
              refine g_iload C 0 rfl dX11_interpret_300 ?_
              have f322 : (-2147483648 : Int) ≤ (w32 (r315 - v311)) ∧ (w32 (r315 - v311)) ≤ (2147483647 : Int) := w32_inR _
              refine g_isubW C dX11_interpret_302 ?_
              have e323 : Tg h316 a1 = 9 := (fxT F320 e239)
              refine gp_I C fk_LandSurvey_188 pk_LandSurvey_Sight_17 rfl e323 f322 (nf_i _) dX11_interpret_303 (fun h325 hh324 => ?_)
              have O326 := O319.pI e323 hh324 rI_9_17 f322 nofun
              refine g_aload_n C rfl 5 rfl dX11_interpret_306 ?_
              refine g_aload_n C rfl 4 rfl dX11_interpret_307 ?_
              have e327 : Tg h325 a0 = 11 := ((pIT hh324).trans (fxT F320 e242))
              have e328 : Rv h325 a0 7 = v1 := ((pIR hh324).trans ((fxR F320 e242 rfl).trans e309))
              refine gf_R C fk_LandSurvey_44 rfl e327 e328 dX11_interpret_308 ?_
              refine g_aload_n C rfl 5 rfl dX11_interpret_311 ?_
              have e329 : Tg h325 a1 = 9 := ((pIT hh324).trans e323)
              have e330 : Iv h325 a1 14 = v149 := ((pI_j hh324 (by decide)).trans ((fxI F320 e239 rfl).trans e314))
              refine gf_I C fk_LandSurvey_175 rfl e329 e330 dX11_interpret_312 ?_
              refine g_iload_n C rfl 2 rfl dX11_interpret_315 ?_
              refine g_iload C 1 rfl dX11_interpret_316 ?_
              have e331 : Tg h325 v1 = 6 := ((pIT hh324).trans (fxT F320 e310))
              refine g_callI (st := [.inr (.inr a1)]) (gc_V C lk_LandSurvey_423 (k_X5_mostBase l D cy w z0 O326 e331 (by omega) f254 (iw f272 (by decide) (by decide))) e331 rfl rfl rfl ⟨by decide, by decide⟩ (Nat.le_of_ble_eq_true rfl) dX11_interpret_318 ⟨(by decide), (by decide)⟩) (fun r332 h333 f335 K334 => ?_)
              obtain ⟨O336, F337, f338⟩ := K334
              refine g_iload C 0 rfl dX11_interpret_321 ?_
              have f339 : (-2147483648 : Int) ≤ (w32 (r332 + v311)) ∧ (w32 (r332 + v311)) ≤ (2147483647 : Int) := w32_inR _
              refine g_iaddW C dX11_interpret_323 ?_
              have e340 : Tg h333 a1 = 9 := (fxT F337 e329)
              refine gp_I C fk_LandSurvey_191 pk_LandSurvey_Sight_18 rfl e340 f339 (nf_i _) dX11_interpret_324 (fun h342 hh341 => ?_)
              have O343 := O336.pI e340 hh341 rI_9_18 f339 nofun
              exact g_vret C hr ⟨O343, ((((((((((((((((((((((Fx.rf (wr := wr_k_X11_interpret)).call F14 rfl).pIa e22 ar_50100 hh24 rfl).pIa e33 ar_50100 hh35 rfl).pIa e44 ar_50100 hh46 rfl).pIa e54 ar_50100 hh56 rfl).pIa e65 ar_50100 hh67 rfl).pIa e76 ar_50100 hh78 rfl).pIa e87 ar_50100 hh89 rfl).pIa e108 ar_50100 hh110 rfl).call F133 rfl).pI e153 hh154 rfl).pI e157 hh168 rfl).call F183 rfl).pI e199 hh200 rfl).call F214 rfl).call F222 rfl).pI e235 hh236 rfl).call F320 rfl).pI e323 hh324 rfl).call F337 rfl).pI e340 hh341 rfl)⟩ (by decide) (by decide) dX11_interpret_327
    · have f344 : (-1 : Int) ≤ r178 ∧ r178 ≤ (-1 : Int) := ii f184 (r_eq (il (-1)) q187) (by decide) (by decide)
      refine g_bipush C (by decide) dX11_interpret_180 ?_
      refine g_goto C 194 (by decide) dX11_interpret_182 ?_
      have e345 : Tg h179 a1 = 9 := (fxT F183 ((pIT hh168).trans e157))
      refine gp_I C fk_LandSurvey_178 pk_LandSurvey_Sight_15 rfl e345 (iw (il 10) (by decide) (by decide)) (nf_i _) dX11_interpret_194 (fun h347 hh346 => ?_)
      have O348 := O182.pI e345 hh346 rI_9_15 (iw (il 10) (by decide) (by decide)) nofun
      refine g_aload_n C rfl 2 rfl dX11_interpret_197 ?_
      refine g_aload_n C rfl 2 rfl dX11_interpret_198 ?_
      have e349 : Tg h347 a1 = 9 := ((pIT hh346).trans e345)
      have e350 : Tg h169 a1 = 9 := ((pIT hh168).trans e157)
      have e351 : Iv h347 a1 14 = v149 := ((pI_j hh346 (by decide)).trans ((fxI F183 e350 rfl).trans (pI_e hh168)))
      refine gf_I C fk_LandSurvey_175 rfl e349 e351 dX11_interpret_199 ?_
      refine g_iconst C dX11_interpret_202 ?_
      refine g_icmp_eq C (iw f151 (by decide) (by decide)) (iw (il (-1)) (by decide) (by decide)) 221 (by decide) dX11_interpret_203 (fun q352 => ?_) (fun q353 => ?_)
      · exact (no_eq f151 (il (-1)) q352 (by decide)).elim
      · refine g_aload_n C rfl 2 rfl dX11_interpret_206 ?_
        refine g_aload_n C rfl 1 rfl dX11_interpret_207 ?_
        have e354 : Tg h347 a0 = 11 := ((pIT hh346).trans (fxT F183 e171))
        refine g_callI (st := [.inr (.inr a1), .inr (.inr a1)]) (gc_V C lk_LandSurvey_362 (k_X11_dayShown l D cy w z0 O348 e354) e354 rfl rfl rfl ⟨by decide, by decide⟩ (Nat.le_of_ble_eq_true rfl) dX11_interpret_208 ⟨(by decide), (by decide)⟩) (fun r355 h356 f358 K357 => ?_)
        obtain ⟨O359, F360, f361⟩ := K357
        have e362 : Tg h356 a1 = 9 := (fxT F360 e349)
        refine g_callI (st := [.inr (.inr a1)]) (gc_V C lk_LandSurvey_413 (k_X8_isInView l D cy w z0 O359 e362 (iw f361 (by decide) (by decide))) e362 rfl rfl rfl ⟨by decide, by decide⟩ (Nat.le_of_ble_eq_true rfl) dX11_interpret_211 ⟨(by decide), (by decide)⟩) (fun r363 h364 f366 K365 => ?_)
        obtain ⟨O367, F368, f369⟩ := K365
        refine g_if_eq C (iw f369 (by decide) (by decide)) 221 (by decide) dX11_interpret_214 (fun q370 => ?_) (fun q371 => ?_)
        · have f372 : (0 : Int) ≤ r363 ∧ r363 ≤ (0 : Int) := ii f369 (r_eq (il 0) q370) (by decide) (by decide)
          refine g_iconst C dX11_interpret_221 ?_
          have e373 : Tg h364 a1 = 9 := (fxT F368 e362)
          refine gp_I C fk_LandSurvey_172 pk_LandSurvey_Sight_16 rfl e373 (iw (il 0) (by decide) (by decide)) (nar_z2 (iw (il 0) (by decide) (by decide))) dX11_interpret_222 (fun h375 hh374 => ?_)
          have O376 := O367.pI e373 hh374 rI_9_16 (iw (il 0) (by decide) (by decide)) nofun
          refine g_aload_n C rfl 2 rfl dX11_interpret_225 ?_
          have e377 : Tg h375 a1 = 9 := ((pIT hh374).trans e373)
          refine gf_I C fk_LandSurvey_172 rfl e377 (pI_e hh374) dX11_interpret_226 ?_
          refine g_if_eq C (iw (il 0) (by decide) (by decide)) 327 (by decide) dX11_interpret_229 (fun q378 => ?_) (fun q379 => ?_)
          · exact g_vret C hr ⟨O376, ((((((((((((((((((Fx.rf (wr := wr_k_X11_interpret)).call F14 rfl).pIa e22 ar_50100 hh24 rfl).pIa e33 ar_50100 hh35 rfl).pIa e44 ar_50100 hh46 rfl).pIa e54 ar_50100 hh56 rfl).pIa e65 ar_50100 hh67 rfl).pIa e76 ar_50100 hh78 rfl).pIa e87 ar_50100 hh89 rfl).pIa e108 ar_50100 hh110 rfl).call F133 rfl).pI e153 hh154 rfl).pI e157 hh168 rfl).call F183 rfl).pI e345 hh346 rfl).call F360 rfl).call F368 rfl).pI e373 hh374 rfl)⟩ (by decide) (by decide) dX11_interpret_327
          · exact (no_ne (il 0) (il 0) q379 (by decide)).elim
        · have f380 : (1 : Int) ≤ r363 ∧ r363 ≤ (1 : Int) := r_nl f369 q371
          refine g_iconst C dX11_interpret_217 ?_
          refine g_goto C 222 (by decide) dX11_interpret_218 ?_
          have e381 : Tg h364 a1 = 9 := (fxT F368 e362)
          refine gp_I C fk_LandSurvey_172 pk_LandSurvey_Sight_16 rfl e381 (iw (il 1) (by decide) (by decide)) (nar_z2 (iw (il 1) (by decide) (by decide))) dX11_interpret_222 (fun h383 hh382 => ?_)
          have O384 := O367.pI e381 hh382 rI_9_16 (iw (il 1) (by decide) (by decide)) nofun
          refine g_aload_n C rfl 2 rfl dX11_interpret_225 ?_
          have e385 : Tg h383 a1 = 9 := ((pIT hh382).trans e381)
          refine gf_I C fk_LandSurvey_172 rfl e385 (pI_e hh382) dX11_interpret_226 ?_
          refine g_if_eq C (iw (il 1) (by decide) (by decide)) 327 (by decide) dX11_interpret_229 (fun q386 => ?_) (fun q387 => ?_)
          · exact (no_eq (il 1) (il 0) q386 (by decide)).elim
          · refine g_aload_n C rfl 1 rfl dX11_interpret_232 ?_
            have e388 : Tg h383 a0 = 11 := ((pIT hh382).trans (fxT F368 (fxT F360 e354)))
            have e389 : Tg h356 a0 = 11 := (fxT F360 e354)
            have e390 : Rv h383 a0 2 = v94 := ((pIR hh382).trans ((fxR F368 e389 rfl).trans ((fxR F360 e354 rfl).trans ((pIR hh346).trans ((fxR F183 e171 rfl).trans ((pIR hh168).trans ((pIR hh154).trans ((fxR F133 e113 rfl).trans ((pIR hh110).trans e95)))))))))
            refine gf_R C fk_LandSurvey_16 rfl e388 e390 dX11_interpret_233 ?_
            have e391 : Tg h383 v94 = 3 := ((pIT hh382).trans (fxT F368 (fxT F360 ((pIT hh346).trans (fxT F183 ((pIT hh168).trans ((pIT hh154).trans (fxT F133 ((pIT hh110).trans t96)))))))))
            obtain ⟨v392, e393⟩ : ∃ z, Rv h383 v94 2 = z := ⟨_, rfl⟩
            have t394 := ok_R O384 e391 rE_3_2 e393
            have l395 := ok_L O384 e391 rE_3_2 e393
            refine gf_R C fk_LandSurvey_96 rfl e391 e393 dX11_interpret_236 ?_
            refine g_aload_n C rfl 2 rfl dX11_interpret_239 ?_
            have e396 : Tg h111 a1 = 9 := ((pIT hh110).trans e101)
            have e397 : Iv h383 a1 1 = v102 := ((pI_j hh382 (by decide)).trans ((fxI F368 e362 rfl).trans ((fxI F360 e349 rfl).trans ((pI_j hh346 (by decide)).trans ((fxI F183 e350 rfl).trans ((pI_j hh168 (by decide)).trans ((pI_j hh154 (by decide)).trans ((fxI F133 e396 rfl).trans ((pI_n hh110 (ne_tag e101 e108 (by decide))).trans e103)))))))))
            refine gf_I C fk_LandSurvey_115 rfl e385 e397 dX11_interpret_240 ?_
            obtain ⟨v398, e399⟩ : ∃ z, Iv h383 v392 v102.toNat = z := ⟨_, rfl⟩
            have f400 := ok_Ia O384 t394 ar_14101 rI_14101_0 e399
            refine g_zald C t394 rfl l395 (ix f104 (by decide) (by decide)) e399 dX11_interpret_243 ?_
            refine g_istore_n C [(3, .inl v398), (2, .inl r178), (0, .inr (.inr a0)), (1, .inr (.inr a1))] rfl (by decide) rfl dX11_interpret_244 ?_
            refine g_aload_n C rfl 2 rfl dX11_interpret_245 ?_
            refine gf_R C fk_LandSurvey_16 rfl e388 e390 dX11_interpret_246 ?_
            have e401 : Tg h111 v94 = 3 := ((pIT hh110).trans t96)
            have e402 : Tg h169 v94 = 3 := ((pIT hh168).trans ((pIT hh154).trans (fxT F133 e401)))
            have e403 : Tg h347 v94 = 3 := ((pIT hh346).trans (fxT F183 e402))
            have e404 : Tg h356 v94 = 3 := (fxT F360 e403)
            have e405 : Rv h383 v94 0 = v97 := ((pIR hh382).trans ((fxR F368 e404 rfl).trans ((fxR F360 e403 rfl).trans ((pIR hh346).trans ((fxR F183 e402 rfl).trans ((pIR hh168).trans ((pIR hh154).trans ((fxR F133 e401 rfl).trans ((pIR hh110).trans e98)))))))))
            refine gf_R C fk_LandSurvey_89 rfl e391 e405 dX11_interpret_249 ?_
            refine g_aload_n C rfl 3 rfl dX11_interpret_252 ?_
            refine gf_I C fk_LandSurvey_115 rfl e385 e397 dX11_interpret_253 ?_
            have e406 : Tg h383 v97 = 12100 := ((pIT hh382).trans (fxT F368 (fxT F360 ((pIT hh346).trans (fxT F183 ((pIT hh168).trans ((pIT hh154).trans (fxT F133 ((pIT hh110).trans t99)))))))))
            have e407 : Tg h111 v97 = 12100 := ((pIT hh110).trans t99)
            have e408 : Tg h169 v97 = 12100 := ((pIT hh168).trans ((pIT hh154).trans (fxT F133 e407)))
            have e409 : Tg h347 v97 = 12100 := ((pIT hh346).trans (fxT F183 e408))
            have e410 : Tg h356 v97 = 12100 := (fxT F360 e409)
            have e411 : Ln h383 v97 = 96 := ((pIL hh382).trans ((fxL F368 e410).trans ((fxL F360 e409).trans ((pIL hh346).trans ((fxL F183 e408).trans ((pIL hh168).trans ((pIL hh154).trans ((fxL F133 e407).trans ((pIL hh110).trans l100)))))))))
            have e412 : Tg h129 v97 = 12100 := (fxT F133 e407)
            have e413 : Tg h155 v97 = 12100 := ((pIT hh154).trans e412)
            have e414 : Tg h179 v97 = 12100 := (fxT F183 e408)
            have e415 : Tg h364 v97 = 12100 := (fxT F368 e410)
            have e416 : Iv h383 v97 v102.toNat = v105 := ((pI_n hh382 (ne_tag e415 e381 (by decide))).trans ((fxIa F368 e410 ar_12100 rfl).trans ((fxIa F360 e409 ar_12100 rfl).trans ((pI_n hh346 (ne_tag e414 e345 (by decide))).trans ((fxIa F183 e408 ar_12100 rfl).trans ((pI_n hh168 (ne_tag e413 e157 (by decide))).trans ((pI_n hh154 (ne_tag e412 e153 (by decide))).trans ((fxIa F133 e407 ar_12100 rfl).trans ((pI_n hh110 (ne_tag t99 e108 (by decide))).trans e106)))))))))
            refine g_iald C e406 rfl e411 (ix f104 (by decide) (by decide)) e416 dX11_interpret_256 ?_
            refine g_aload_n C rfl 3 rfl dX11_interpret_257 ?_
            have e417 : Iv h383 a1 2 = v84 := ((pI_j hh382 (by decide)).trans ((fxI F368 e362 rfl).trans ((fxI F360 e349 rfl).trans ((pI_j hh346 (by decide)).trans ((fxI F183 e350 rfl).trans ((pI_j hh168 (by decide)).trans ((pI_j hh154 (by decide)).trans ((fxI F133 e396 rfl).trans ((pI_n hh110 (ne_tag e101 e108 (by decide))).trans ((pI_n hh89 (ne_tag e83 e87 (by decide))).trans e85))))))))))
            refine gf_I C fk_LandSurvey_410 rfl e385 e417 dX11_interpret_258 ?_
            have f418 : (-999 : Int) ≤ (v105 - v84) ∧ (v105 - v84) ≤ (999 : Int) := ia_sub f107 f86 (by decide) (by decide)
            refine g_isub C dX11_interpret_261 ?_
            refine g_istore C [(4, .inl (v105 - v84)), (3, .inl v398), (2, .inl r178), (0, .inr (.inr a0)), (1, .inr (.inr a1))] (by decide) rfl dX11_interpret_262 ?_
            refine g_aload_n C rfl 4 rfl dX11_interpret_264 ?_
            have e419 : Iv h383 a1 0 = v62 := ((pI_j hh382 (by decide)).trans ((fxI F368 e362 rfl).trans ((fxI F360 e349 rfl).trans ((pI_j hh346 (by decide)).trans ((fxI F183 e350 rfl).trans ((pI_j hh168 (by decide)).trans ((pI_j hh154 (by decide)).trans ((fxI F133 e396 rfl).trans ((pI_n hh110 (ne_tag e101 e108 (by decide))).trans ((pI_n hh89 (ne_tag e83 e87 (by decide))).trans ((pI_n hh78 (ne_tag e72 e76 (by decide))).trans ((pI_n hh67 (ne_tag e61 e65 (by decide))).trans e63))))))))))))
            refine gf_I C fk_LandSurvey_407 rfl e385 e419 dX11_interpret_265 ?_
            refine g_iconst C dX11_interpret_268 ?_
            refine g_icmp_ne C (iw f64 (by decide) (by decide)) (iw (il 1) (by decide) (by decide)) 282 (by decide) dX11_interpret_269 (fun q420 => ?_) (fun q421 => ?_)
            · refine g_iconst C dX11_interpret_282 ?_
              refine g_istore C [(5, .inl 0), (4, .inl (v105 - v84)), (3, .inl v398), (2, .inl r178), (0, .inr (.inr a0)), (1, .inr (.inr a1))] (by decide) rfl dX11_interpret_283 ?_
              refine g_aload_n C rfl 5 rfl dX11_interpret_285 ?_
              refine g_aload_n C rfl 4 rfl dX11_interpret_286 ?_
              have e422 : Rv h383 a0 7 = v1 := ((pIR hh382).trans ((fxR F368 e389 rfl).trans ((fxR F360 e354 rfl).trans ((pIR hh346).trans ((fxR F183 e171 rfl).trans e172)))))
              refine gf_R C fk_LandSurvey_44 rfl e388 e422 dX11_interpret_287 ?_
              refine g_aload_n C rfl 5 rfl dX11_interpret_290 ?_
              have e423 : Iv h383 a1 14 = v149 := ((pI_j hh382 (by decide)).trans ((fxI F368 e362 rfl).trans ((fxI F360 e349 rfl).trans e351)))
              refine gf_I C fk_LandSurvey_175 rfl e385 e423 dX11_interpret_291 ?_
              refine g_iload_n C rfl 2 rfl dX11_interpret_294 ?_
              refine g_iload C 1 rfl dX11_interpret_295 ?_
              have e424 : Tg h383 v1 = 6 := ((pIT hh382).trans (fxT F368 (fxT F360 ((pIT hh346).trans (fxT F183 e174)))))
              refine g_callI (st := [.inr (.inr a1)]) (gc_V C lk_LandSurvey_419 (k_X5_leastBase l D cy w z0 O384 e424 (by omega) f400 (iw f418 (by decide) (by decide))) e424 rfl rfl rfl ⟨by decide, by decide⟩ (Nat.le_of_ble_eq_true rfl) dX11_interpret_297 ⟨(by decide), (by decide)⟩) (fun r425 h426 f428 K427 => ?_)
              obtain ⟨O429, F430, f431⟩ := K427
              refine g_iload C 0 rfl dX11_interpret_300 ?_
              have f432 : (-2147483648 : Int) ≤ (r425 - 0) ∧ (r425 - 0) ≤ (2147483647 : Int) := ia_sub f431 (il 0) (by decide) (by decide)
              refine g_isub C dX11_interpret_302 ?_
              have e433 : Tg h426 a1 = 9 := (fxT F430 e385)
              refine gp_I C fk_LandSurvey_188 pk_LandSurvey_Sight_17 rfl e433 f432 (nf_i _) dX11_interpret_303 (fun h435 hh434 => ?_)
              have O436 := O429.pI e433 hh434 rI_9_17 f432 nofun
              refine g_aload_n C rfl 5 rfl dX11_interpret_306 ?_
              refine g_aload_n C rfl 4 rfl dX11_interpret_307 ?_
              have e437 : Tg h435 a0 = 11 := ((pIT hh434).trans (fxT F430 e388))
              have e438 : Rv h435 a0 7 = v1 := ((pIR hh434).trans ((fxR F430 e388 rfl).trans e422))
              refine gf_R C fk_LandSurvey_44 rfl e437 e438 dX11_interpret_308 ?_
              refine g_aload_n C rfl 5 rfl dX11_interpret_311 ?_
              have e439 : Tg h435 a1 = 9 := ((pIT hh434).trans e433)
              have e440 : Iv h435 a1 14 = v149 := ((pI_j hh434 (by decide)).trans ((fxI F430 e385 rfl).trans e423))
              refine gf_I C fk_LandSurvey_175 rfl e439 e440 dX11_interpret_312 ?_
              refine g_iload_n C rfl 2 rfl dX11_interpret_315 ?_
              refine g_iload C 1 rfl dX11_interpret_316 ?_
              have e441 : Tg h435 v1 = 6 := ((pIT hh434).trans (fxT F430 e424))
              refine g_callI (st := [.inr (.inr a1)]) (gc_V C lk_LandSurvey_423 (k_X5_mostBase l D cy w z0 O436 e441 (by omega) f400 (iw f418 (by decide) (by decide))) e441 rfl rfl rfl ⟨by decide, by decide⟩ (Nat.le_of_ble_eq_true rfl) dX11_interpret_318 ⟨(by decide), (by decide)⟩) (fun r442 h443 f445 K444 => ?_)
              obtain ⟨O446, F447, f448⟩ := K444
              refine g_iload C 0 rfl dX11_interpret_321 ?_
              have f449 : (-2147483648 : Int) ≤ (r442 + 0) ∧ (r442 + 0) ≤ (2147483647 : Int) := ia_add f448 (il 0) (by decide) (by decide)
              refine g_iadd C dX11_interpret_323 ?_
              have e450 : Tg h443 a1 = 9 := (fxT F447 e439)
              refine gp_I C fk_LandSurvey_191 pk_LandSurvey_Sight_18 rfl e450 f449 (nf_i _) dX11_interpret_324 (fun h452 hh451 => ?_)
              have O453 := O446.pI e450 hh451 rI_9_18 f449 nofun
              exact g_vret C hr ⟨O453, ((((((((((((((((((((((Fx.rf (wr := wr_k_X11_interpret)).call F14 rfl).pIa e22 ar_50100 hh24 rfl).pIa e33 ar_50100 hh35 rfl).pIa e44 ar_50100 hh46 rfl).pIa e54 ar_50100 hh56 rfl).pIa e65 ar_50100 hh67 rfl).pIa e76 ar_50100 hh78 rfl).pIa e87 ar_50100 hh89 rfl).pIa e108 ar_50100 hh110 rfl).call F133 rfl).pI e153 hh154 rfl).pI e157 hh168 rfl).call F183 rfl).pI e345 hh346 rfl).call F360 rfl).call F368 rfl).pI e381 hh382 rfl).call F430 rfl).pI e433 hh434 rfl).call F447 rfl).pI e450 hh451 rfl)⟩ (by decide) (by decide) dX11_interpret_327
            · have f454 : (1 : Int) ≤ v62 ∧ v62 ≤ (1 : Int) := ii f64 (r_eq (il 1) q421) (by decide) (by decide)
              refine g_aload_n C rfl 3 rfl dX11_interpret_272 ?_
              have e455 : Rv h383 a0 7 = v1 := ((pIR hh382).trans ((fxR F368 e389 rfl).trans ((fxR F360 e354 rfl).trans ((pIR hh346).trans ((fxR F183 e171 rfl).trans e172)))))
              refine gf_R C fk_LandSurvey_44 rfl e388 e455 dX11_interpret_273 ?_
              have e456 : Tg h383 v1 = 6 := ((pIT hh382).trans (fxT F368 (fxT F360 ((pIT hh346).trans (fxT F183 e174)))))
              obtain ⟨v457, e458⟩ : ∃ z, Iv h383 v1 8 = z := ⟨_, rfl⟩
              have f459 := ok_I O384 e456 rI_6_8 e458
              refine gf_I C fk_LandSurvey_416 rfl e456 e458 dX11_interpret_276 ?_
              refine g_goto C 283 (by decide) dX11_interpret_279 ?_
              refine g_istore C [(5, .inl v457), (4, .inl (v105 - v84)), (3, .inl v398), (2, .inl r178), (0, .inr (.inr a0)), (1, .inr (.inr a1))] (by decide) rfl dX11_interpret_283 ?_
              refine g_aload_n C rfl 5 rfl dX11_interpret_285 ?_
              refine g_aload_n C rfl 4 rfl dX11_interpret_286 ?_
              refine gf_R C fk_LandSurvey_44 rfl e388 e455 dX11_interpret_287 ?_
              refine g_aload_n C rfl 5 rfl dX11_interpret_290 ?_
              have e460 : Iv h383 a1 14 = v149 := ((pI_j hh382 (by decide)).trans ((fxI F368 e362 rfl).trans ((fxI F360 e349 rfl).trans e351)))
              refine gf_I C fk_LandSurvey_175 rfl e385 e460 dX11_interpret_291 ?_
              refine g_iload_n C rfl 2 rfl dX11_interpret_294 ?_
              refine g_iload C 1 rfl dX11_interpret_295 ?_
              refine g_callI (st := [.inr (.inr a1)]) (gc_V C lk_LandSurvey_419 (k_X5_leastBase l D cy w z0 O384 e456 (by omega) f400 (iw f418 (by decide) (by decide))) e456 rfl rfl rfl ⟨by decide, by decide⟩ (Nat.le_of_ble_eq_true rfl) dX11_interpret_297 ⟨(by decide), (by decide)⟩) (fun r461 h462 f464 K463 => ?_)
              obtain ⟨O465, F466, f467⟩ := K463
              refine g_iload C 0 rfl dX11_interpret_300 ?_
              have f468 : (-2147483648 : Int) ≤ (w32 (r461 - v457)) ∧ (w32 (r461 - v457)) ≤ (2147483647 : Int) := w32_inR _
              refine g_isubW C dX11_interpret_302 ?_
              have e469 : Tg h462 a1 = 9 := (fxT F466 e385)
              refine gp_I C fk_LandSurvey_188 pk_LandSurvey_Sight_17 rfl e469 f468 (nf_i _) dX11_interpret_303 (fun h471 hh470 => ?_)
              have O472 := O465.pI e469 hh470 rI_9_17 f468 nofun
              refine g_aload_n C rfl 5 rfl dX11_interpret_306 ?_
              refine g_aload_n C rfl 4 rfl dX11_interpret_307 ?_
              have e473 : Tg h471 a0 = 11 := ((pIT hh470).trans (fxT F466 e388))
              have e474 : Rv h471 a0 7 = v1 := ((pIR hh470).trans ((fxR F466 e388 rfl).trans e455))
              refine gf_R C fk_LandSurvey_44 rfl e473 e474 dX11_interpret_308 ?_
              refine g_aload_n C rfl 5 rfl dX11_interpret_311 ?_
              have e475 : Tg h471 a1 = 9 := ((pIT hh470).trans e469)
              have e476 : Iv h471 a1 14 = v149 := ((pI_j hh470 (by decide)).trans ((fxI F466 e385 rfl).trans e460))
              refine gf_I C fk_LandSurvey_175 rfl e475 e476 dX11_interpret_312 ?_
              refine g_iload_n C rfl 2 rfl dX11_interpret_315 ?_
              refine g_iload C 1 rfl dX11_interpret_316 ?_
              have e477 : Tg h471 v1 = 6 := ((pIT hh470).trans (fxT F466 e456))
              refine g_callI (st := [.inr (.inr a1)]) (gc_V C lk_LandSurvey_423 (k_X5_mostBase l D cy w z0 O472 e477 (by omega) f400 (iw f418 (by decide) (by decide))) e477 rfl rfl rfl ⟨by decide, by decide⟩ (Nat.le_of_ble_eq_true rfl) dX11_interpret_318 ⟨(by decide), (by decide)⟩) (fun r478 h479 f481 K480 => ?_)
              obtain ⟨O482, F483, f484⟩ := K480
              refine g_iload C 0 rfl dX11_interpret_321 ?_
              have f485 : (-2147483648 : Int) ≤ (w32 (r478 + v457)) ∧ (w32 (r478 + v457)) ≤ (2147483647 : Int) := w32_inR _
              refine g_iaddW C dX11_interpret_323 ?_
              have e486 : Tg h479 a1 = 9 := (fxT F483 e475)
              refine gp_I C fk_LandSurvey_191 pk_LandSurvey_Sight_18 rfl e486 f485 (nf_i _) dX11_interpret_324 (fun h488 hh487 => ?_)
              have O489 := O482.pI e486 hh487 rI_9_18 f485 nofun
              exact g_vret C hr ⟨O489, ((((((((((((((((((((((Fx.rf (wr := wr_k_X11_interpret)).call F14 rfl).pIa e22 ar_50100 hh24 rfl).pIa e33 ar_50100 hh35 rfl).pIa e44 ar_50100 hh46 rfl).pIa e54 ar_50100 hh56 rfl).pIa e65 ar_50100 hh67 rfl).pIa e76 ar_50100 hh78 rfl).pIa e87 ar_50100 hh89 rfl).pIa e108 ar_50100 hh110 rfl).call F133 rfl).pI e153 hh154 rfl).pI e157 hh168 rfl).call F183 rfl).pI e345 hh346 rfl).call F360 rfl).call F368 rfl).pI e381 hh382 rfl).call F466 rfl).pI e469 hh470 rfl).call F483 rfl).pI e486 hh487 rfl)⟩ (by decide) (by decide) dX11_interpret_327
  · have f490 : (-1 : Int) ≤ r128 ∧ r128 ≤ (-1 : Int) := ii f134 (r_eq (il (-1)) q159) (by decide) (by decide)
    refine g_iconst C dX11_interpret_142 ?_
    refine g_goto C 158 (by decide) dX11_interpret_143 ?_
    refine gp_I C fk_LandSurvey_175 pk_LandSurvey_Sight_14 rfl e157 (iw (il (-1)) (by decide) (by decide)) (nf_i _) dX11_interpret_158 (fun h492 hh491 => ?_)
    have O493 := O156.pI e157 hh491 rI_9_14 (iw (il (-1)) (by decide) (by decide)) nofun
    refine g_aload_n C rfl 0 rfl dX11_interpret_161 ?_
    have e494 : Tg h492 a0 = 11 := ((pIT hh491).trans ((pIT hh154).trans (fxT F133 e113)))
    have e495 : Rv h492 a0 7 = v1 := ((pIR hh491).trans ((pIR hh154).trans ((fxR F133 e113 rfl).trans e114)))
    refine gf_R C fk_LandSurvey_44 rfl e494 e495 dX11_interpret_162 ?_
    refine g_iconst C dX11_interpret_165 ?_
    refine g_aload_n C rfl 0 rfl dX11_interpret_166 ?_
    have e496 : Rv h492 a0 18 = v5 := ((pIR hh491).trans ((pIR hh154).trans ((fxR F133 e113 rfl).trans e115)))
    refine gf_R C fk_LandSurvey_74 rfl e494 e496 dX11_interpret_167 ?_
    have e497 : Tg h492 v1 = 6 := ((pIT hh491).trans ((pIT hh154).trans e138))
    have e498 : Tg h492 v5 = 50100 := ((pIT hh491).trans ((pIT hh154).trans (fxT F133 e117)))
    have e499 : Ln h492 v5 = 12 := ((pIL hh491).trans ((pIL hh154).trans ((fxL F133 e117).trans e118)))
    have e500 : Tg h155 v1 = 6 := ((pIT hh154).trans e138)
    have p501 := (RulesOk_fx O156 ((Fx.rf (wr := [1814]) (h := h155)).pI e157 hh491 rfl) e500 rfl (RulesOk_fx O132 ((Fx.rf (wr := [1813]) (h := h129)).pI e153 hh154 rfl) e138 rfl p148))
    refine g_callI (st := []) (gc_V C lk_LandSurvey_263 (k_X5_firstThatTells l D cy w z0 O493 e497 (iw (il 1) (by decide) (by decide)) e498 e499 p501) e497 rfl rfl rfl ⟨by decide, by decide⟩ (Nat.le_of_ble_eq_true rfl) dX11_interpret_170 ⟨(by decide), (by decide)⟩) (fun r502 h503 f505 K504 => ?_)
    obtain ⟨O506, F507, f508, p509⟩ := K504
    refine g_istore_n C [(2, .inl r502), (0, .inr (.inr a0)), (1, .inr (.inr a1))] rfl (by decide) rfl dX11_interpret_173 ?_
    refine g_aload_n C rfl 2 rfl dX11_interpret_174 ?_
    refine g_iload_n C rfl 0 rfl dX11_interpret_175 ?_
    refine g_iconst C dX11_interpret_176 ?_
    refine g_icmp_ne C (iw f508 (by decide) (by decide)) (iw (il (-1)) (by decide) (by decide)) 185 (by decide) dX11_interpret_177 (fun q510 => ?_) (fun q511 => ?_)
    · have f512 : (0 : Int) ≤ r502 ∧ r502 ≤ (23 : Int) := r_nl f508 q510
      refine g_aload_n C rfl 1 rfl dX11_interpret_185 ?_
      have e513 : Tg h503 a0 = 11 := (fxT F507 e494)
      have e514 : Rv h503 a0 7 = v1 := ((fxR F507 e494 rfl).trans e495)
      refine gf_R C fk_LandSurvey_44 rfl e513 e514 dX11_interpret_186 ?_
      have e515 : Tg h503 v1 = 6 := (fxT F507 e497)
      have e516 : Rv h503 v1 15 = v144 := ((fxR F507 e497 rfl).trans ((pIR hh491).trans ((pIR hh154).trans e145)))
      refine gf_R C fk_LandSurvey_269 rfl e515 e516 dX11_interpret_189 ?_
      refine g_iload_n C rfl 0 rfl dX11_interpret_192 ?_
      have e517 : Tg h503 v144 = 32100 := (fxT F507 ((pIT hh491).trans ((pIT hh154).trans t146)))
      have e518 : Tg h492 v144 = 32100 := ((pIT hh491).trans ((pIT hh154).trans t146))
      have e519 : Ln h503 v144 = 24 := ((fxL F507 e518).trans ((pIL hh491).trans ((pIL hh154).trans l147)))
      obtain ⟨v520, e521⟩ : ∃ z, Iv h503 v144 r502.toNat = z := ⟨_, rfl⟩
      have f522 := ok_Ia O506 e517 ar_32100 rI_32100_0 e521
      refine g_iald C e517 rfl e519 (ix f512 (by decide) (by decide)) e521 dX11_interpret_193 ?_
      have e523 : Tg h503 a1 = 9 := (fxT F507 ((pIT hh491).trans e157))
      refine gp_I C fk_LandSurvey_178 pk_LandSurvey_Sight_15 rfl e523 (iw f522 (by decide) (by decide)) (nf_i _) dX11_interpret_194 (fun h525 hh524 => ?_)
      have O526 := O506.pI e523 hh524 rI_9_15 f522 nofun
      refine g_aload_n C rfl 2 rfl dX11_interpret_197 ?_
      refine g_aload_n C rfl 2 rfl dX11_interpret_198 ?_
      have e527 : Tg h525 a1 = 9 := ((pIT hh524).trans e523)
      have e528 : Tg h492 a1 = 9 := ((pIT hh491).trans e157)
      have e529 : Iv h525 a1 14 = (-1) := ((pI_j hh524 (by decide)).trans ((fxI F507 e528 rfl).trans (pI_e hh491)))
      refine gf_I C fk_LandSurvey_175 rfl e527 e529 dX11_interpret_199 ?_
      refine g_iconst C dX11_interpret_202 ?_
      refine g_icmp_eq C (iw (il (-1)) (by decide) (by decide)) (iw (il (-1)) (by decide) (by decide)) 221 (by decide) dX11_interpret_203 (fun q530 => ?_) (fun q531 => ?_)
      · refine g_iconst C dX11_interpret_221 ?_
        refine gp_I C fk_LandSurvey_172 pk_LandSurvey_Sight_16 rfl e527 (iw (il 0) (by decide) (by decide)) (nar_z2 (iw (il 0) (by decide) (by decide))) dX11_interpret_222 (fun h533 hh532 => ?_)
        have O534 := O526.pI e527 hh532 rI_9_16 (iw (il 0) (by decide) (by decide)) nofun
        refine g_aload_n C rfl 2 rfl dX11_interpret_225 ?_
        have e535 : Tg h533 a1 = 9 := ((pIT hh532).trans e527)
        refine gf_I C fk_LandSurvey_172 rfl e535 (pI_e hh532) dX11_interpret_226 ?_
        refine g_if_eq C (iw (il 0) (by decide) (by decide)) 327 (by decide) dX11_interpret_229 (fun q536 => ?_) (fun q537 => ?_)
        · exact g_vret C hr ⟨O534, ((((((((((((((((Fx.rf (wr := wr_k_X11_interpret)).call F14 rfl).pIa e22 ar_50100 hh24 rfl).pIa e33 ar_50100 hh35 rfl).pIa e44 ar_50100 hh46 rfl).pIa e54 ar_50100 hh56 rfl).pIa e65 ar_50100 hh67 rfl).pIa e76 ar_50100 hh78 rfl).pIa e87 ar_50100 hh89 rfl).pIa e108 ar_50100 hh110 rfl).call F133 rfl).pI e153 hh154 rfl).pI e157 hh491 rfl).call F507 rfl).pI e523 hh524 rfl).pI e527 hh532 rfl)⟩ (by decide) (by decide) dX11_interpret_327
        · exact (no_ne (il 0) (il 0) q537 (by decide)).elim
      · exact (no_ne (il (-1)) (il (-1)) q531 (by decide)).elim
    · have f538 : (-1 : Int) ≤ r502 ∧ r502 ≤ (-1 : Int) := ii f508 (r_eq (il (-1)) q511) (by decide) (by decide)
      refine g_bipush C (by decide) dX11_interpret_180 ?_
      refine g_goto C 194 (by decide) dX11_interpret_182 ?_
      have e539 : Tg h503 a1 = 9 := (fxT F507 ((pIT hh491).trans e157))
      refine gp_I C fk_LandSurvey_178 pk_LandSurvey_Sight_15 rfl e539 (iw (il 10) (by decide) (by decide)) (nf_i _) dX11_interpret_194 (fun h541 hh540 => ?_)
      have O542 := O506.pI e539 hh540 rI_9_15 (iw (il 10) (by decide) (by decide)) nofun
      refine g_aload_n C rfl 2 rfl dX11_interpret_197 ?_
      refine g_aload_n C rfl 2 rfl dX11_interpret_198 ?_
      have e543 : Tg h541 a1 = 9 := ((pIT hh540).trans e539)
      have e544 : Tg h492 a1 = 9 := ((pIT hh491).trans e157)
      have e545 : Iv h541 a1 14 = (-1) := ((pI_j hh540 (by decide)).trans ((fxI F507 e544 rfl).trans (pI_e hh491)))
      refine gf_I C fk_LandSurvey_175 rfl e543 e545 dX11_interpret_199 ?_
      refine g_iconst C dX11_interpret_202 ?_
      refine g_icmp_eq C (iw (il (-1)) (by decide) (by decide)) (iw (il (-1)) (by decide) (by decide)) 221 (by decide) dX11_interpret_203 (fun q546 => ?_) (fun q547 => ?_)
      · refine g_iconst C dX11_interpret_221 ?_
        refine gp_I C fk_LandSurvey_172 pk_LandSurvey_Sight_16 rfl e543 (iw (il 0) (by decide) (by decide)) (nar_z2 (iw (il 0) (by decide) (by decide))) dX11_interpret_222 (fun h549 hh548 => ?_)
        have O550 := O542.pI e543 hh548 rI_9_16 (iw (il 0) (by decide) (by decide)) nofun
        refine g_aload_n C rfl 2 rfl dX11_interpret_225 ?_
        have e551 : Tg h549 a1 = 9 := ((pIT hh548).trans e543)
        refine gf_I C fk_LandSurvey_172 rfl e551 (pI_e hh548) dX11_interpret_226 ?_
        refine g_if_eq C (iw (il 0) (by decide) (by decide)) 327 (by decide) dX11_interpret_229 (fun q552 => ?_) (fun q553 => ?_)
        · exact g_vret C hr ⟨O550, ((((((((((((((((Fx.rf (wr := wr_k_X11_interpret)).call F14 rfl).pIa e22 ar_50100 hh24 rfl).pIa e33 ar_50100 hh35 rfl).pIa e44 ar_50100 hh46 rfl).pIa e54 ar_50100 hh56 rfl).pIa e65 ar_50100 hh67 rfl).pIa e76 ar_50100 hh78 rfl).pIa e87 ar_50100 hh89 rfl).pIa e108 ar_50100 hh110 rfl).call F133 rfl).pI e153 hh154 rfl).pI e157 hh491 rfl).call F507 rfl).pI e539 hh540 rfl).pI e543 hh548 rfl)⟩ (by decide) (by decide) dX11_interpret_327
        · exact (no_ne (il 0) (il 0) q553 (by decide)).elim
      · exact (no_ne (il (-1)) (il (-1)) q547 (by decide)).elim
def wr_k_X1_init : List Nat := [200400, 200407, 200408, 1000010100, 1000011100]
set_option maxRecDepth 100000 in
set_option maxHeartbeats 4000000 in
theorem k_X1_init (l : Launch) (D : va_G) (cy : Nat → ClassId) (w : Nat → Nat) (z0 : Nat)  {h : Hp} {a0 : Nat} {a1 : Int}  (O : Okh h) (ta0 : Tg h a0 = 1002) (fa1 : 0 ≤ a1 ∧ a1 ≤ 15) : MV l D cy w z0 yX1_init cX1_init 2 none 1 24 2 192 [.inr (.inr a0), .inl a1] h (fun h1 => Okh h1 ∧ Fx wr_k_X1_init h h1 ∧ (¬ Rv h1 a0 7 = 0) ∧ (¬ Rv h1 a0 8 = 0)) := by
  refine hm_go (by decide +kernel) (Nat.le_of_ble_eq_true rfl) (fun p e s m below meth c C hr hn => ?_)
  refine g_aload_n C rfl 0 rfl dX1_init_0 ?_
  refine g_oinit C (tg_nz ta0) kw_1012 kw_178 (by decide) (Nat.le_of_ble_eq_true rfl) dX1_init_1 ?_
  refine g_aload_n C rfl 0 rfl dX1_init_4 ?_
  refine g_bipush C (by decide) dX1_init_5 ?_
  refine g_newa (atype := .int) (t := 0) (ty := .int) (N := 96) C 10100 rfl (iw (il 96) (by decide) (by decide)) (by decide) rfl kw_224 rfl (fun _ => rfl) (by decide) (by decide) (by decide) (by decide) dX1_init_7 (fun n1 z2 z3 h5 hh4 => ?_)
  have O6 := O.pN z2 z3 hh4 (by decide) nn_10100
  have e7 : Tg h5 a0 = 1002 := ((pNT hh4 (pN_n hh4 z3 ta0)).trans ta0)
  refine gp_RF C fk_LandSurvey_Ground_9 pk_LandSurvey_Ground_7 rfl e7 hn rfl (nf_a _ _) dX1_init_9 (fun h9 hh8 => ?_)
  have O10 := O6.pR e7 hh8 (okR_l rE_1002_7 (pN_T hh4) (pN_L hh4))
  refine g_aload_n C rfl 0 rfl dX1_init_12 ?_
  refine g_bipush C (by decide) dX1_init_13 ?_
  refine g_newa (atype := .int) (t := 0) (ty := .int) (N := 96) C 11100 rfl (iw (il 96) (by decide) (by decide)) (by decide) rfl kw_224 rfl (fun _ => rfl) (by decide) (by decide) (by decide) (by decide) dX1_init_15 (fun n11 z12 z13 h15 hh14 => ?_)
  have O16 := O10.pN z12 z13 hh14 (by decide) nn_11100
  have e17 : Tg h15 a0 = 1002 := ((pNT hh14 (pN_n hh14 z13 ((pRT hh8).trans e7))).trans ((pRT hh8).trans e7))
  refine gp_RF C fk_LandSurvey_Ground_15 pk_LandSurvey_Ground_8 rfl e17 hn rfl (nf_a _ _) dX1_init_17 (fun h19 hh18 => ?_)
  have O20 := O16.pR e17 hh18 (okR_l rE_1002_8 (pN_T hh14) (pN_L hh14))
  refine g_aload_n C rfl 0 rfl dX1_init_20 ?_
  refine g_iload_n C rfl 1 rfl dX1_init_21 ?_
  have e21 : Tg h19 a0 = 1002 := ((pRT hh18).trans e17)
  refine gp_IF C fk_LandSurvey_Ground_18 pk_LandSurvey_Ground_0 rfl e21 hn rfl (iw fa1 (by decide) (by decide)) (nf_i _) dX1_init_22 (fun h23 hh22 => ?_)
  have O24 := O20.pI e21 hh22 rI_1002_0 fa1 nofun
  have e25 : Tg h9 a0 = 1002 := ((pRT hh8).trans e7)
  have e26 : Rv h23 a0 7 = n1 := ((pIR hh22).trans ((pR_j hh18 (by decide)).trans ((pNR hh14 (pN_n hh14 z13 e25)).trans (pR_e hh8))))
  have e27 : Tg h23 n1 = 10100 := ((pIT hh22).trans ((pRT hh18).trans ((pNT hh14 (pN_n hh14 z13 ((pRT hh8).trans (pN_T hh4)))).trans ((pRT hh8).trans (pN_T hh4)))))
  have e28 : Rv h23 a0 8 = n11 := ((pIR hh22).trans (pR_e hh18))
  have e29 : Tg h23 n11 = 11100 := ((pIT hh22).trans ((pRT hh18).trans (pN_T hh14)))
  exact g_vret C hr ⟨O24, ((((((Fx.rf (wr := wr_k_X1_init)).pN z3 hh4 rfl).pR e7 hh8 rfl).pN z13 hh14 rfl).pR e17 hh18 rfl).pI e21 hh22 rfl), (by rw [e26]; exact nz_of O24 e27), (by rw [e28]; exact nz_of O24 e29)⟩ (by decide) (by decide) dX1_init_25
def wr_k_X11_settle : List Nat := [401, 1403, 1404, 1405, 1813, 1814, 1815, 1816, 1817, 1818, 2207, 2215, 2216, 200400, 200407, 200408, 7420000, 9821400, 10020000, 1000000002, 1000001002, 1000010100, 1000011100]
set_option maxRecDepth 100000 in
set_option maxHeartbeats 4000000 in
theorem k_X11_settle (l : Launch) (D : va_G) (cy : Nat → ClassId) (w : Nat → Nat) (z0 : Nat)  {h : Hp} {a0 : Nat}  (O : Okh h) (ta0 : Tg h a0 = 11) (P_XInv : XInv h a0) : MV l D cy w z0 yX11_settle cX11_settle 2 none 4 95 48 3216 [.inr (.inr a0)] h (fun h1 => Okh h1 ∧ Fx wr_k_X11_settle h h1 ∧ (XInv h1 a0) ∧ (Iv h1 a0 15 = 1)) := by
  obtain ⟨v1, e2⟩ : ∃ z, Rv h a0 3 = z := ⟨_, rfl⟩
  have t3 := ok_R O ta0 rE_11_3 e2
  have l4 := ok_L O ta0 rE_11_3 e2
  obtain ⟨v5, e6⟩ : ∃ z, Iv h a0 4 = z := ⟨_, rfl⟩
  have f7 := ok_I O ta0 rI_11_4 e6
  obtain ⟨v8, e9⟩ : ∃ z, Rv h a0 8 = z := ⟨_, rfl⟩
  have t10 := ok_R O ta0 rE_11_8 e9
  have l11 := ok_L O ta0 rE_11_8 e9
  obtain ⟨v12, e13⟩ : ∃ z, Iv h a0 9 = z := ⟨_, rfl⟩
  have f14 := ok_I O ta0 rI_11_9 e13
  obtain ⟨v15, e16⟩ : ∃ z, Rv h a0 11 = z := ⟨_, rfl⟩
  have t17 := ok_R O ta0 rE_11_11 e16
  have l18 := ok_L O ta0 rE_11_11 e16
  obtain ⟨v19, e20⟩ : ∃ z, Iv h a0 12 = z := ⟨_, rfl⟩
  have f21 := ok_I O ta0 rI_11_12 e20
  obtain ⟨v22, e23⟩ : ∃ z, Iv h a0 15 = z := ⟨_, rfl⟩
  have f24 := ok_I O ta0 rI_11_15 e23
  obtain ⟨v25, e26⟩ : ∃ z, Rv h a0 14 = z := ⟨_, rfl⟩
  have t27 := ok_R O ta0 rE_11_14 e26
  have l28 := ok_L O ta0 rE_11_14 e26
  obtain ⟨v29, e30⟩ : ∃ z, Rv h a0 13 = z := ⟨_, rfl⟩
  have t31 := ok_R O ta0 rE_11_13 e30
  obtain ⟨v32, e33⟩ : ∃ z, Rv h a0 6 = z := ⟨_, rfl⟩
  have t34 := ok_R O ta0 rE_11_6 e33
  obtain ⟨v35, e36⟩ : ∃ z, Rv h a0 7 = z := ⟨_, rfl⟩
  have t37 := ok_R O ta0 rE_11_7 e36
  have p49 := P_XInv
  unfold XInv at p49
  rw [e2, e6, e9, e13, e16, e20, e23, e26, e30, e33, e36] at p49
  obtain ⟨p38, p39, p40, p41, p42, p43, p44, p45, p46, p47, p48⟩ := p49
  obtain ⟨v50, e51⟩ : ∃ z, Iv h v29 3 = z := ⟨_, rfl⟩
  have f52 := ok_I O t31 rI_7_3 e51
  obtain ⟨v53, e54⟩ : ∃ z, Iv h v29 4 = z := ⟨_, rfl⟩
  have f55 := ok_I O t31 rI_7_4 e54
  rw [e51] at p44
  rw [e54] at p45
  refine hm_go (by decide +kernel) (Nat.le_of_ble_eq_true rfl) (fun p e s m below meth c C hr hn => ?_)
  refine g_aload_n C rfl 0 rfl dX11_settle_0 ?_
  refine gf_I C fk_LandSurvey_81 rfl ta0 e23 dX11_settle_1 ?_
  refine g_if_eq C (iw f24 (by decide) (by decide)) 8 (by decide) dX11_settle_4 (fun q56 => ?_) (fun q57 => ?_)
  · have f58 : (0 : Int) ≤ v22 ∧ v22 ≤ (0 : Int) := ii f24 (r_eq (il 0) q56) (by decide) (by decide)
    refine g_aload_n C rfl 0 rfl dX11_settle_8 ?_
    refine g_iconst C dX11_settle_9 ?_
    refine gp_I C fk_LandSurvey_81 pk_LandSurvey_15 rfl ta0 (iw (il 1) (by decide) (by decide)) (nar_z2 (iw (il 1) (by decide) (by decide))) dX11_settle_10 (fun h60 hh59 => ?_)
    have O61 := O.pI ta0 hh59 rI_11_15 (iw (il 1) (by decide) (by decide)) nofun
    refine g_aload_n C rfl 0 rfl dX11_settle_13 ?_
    refine g_iconst C dX11_settle_14 ?_
    have e62 : Tg h60 a0 = 11 := ((pIT hh59).trans ta0)
    refine gp_I C fk_LandSurvey_375 pk_LandSurvey_16 rfl e62 (iw (il 0) (by decide) (by decide)) (nar_z2 (iw (il 0) (by decide) (by decide))) dX11_settle_15 (fun h64 hh63 => ?_)
    have O65 := O61.pI e62 hh63 rI_11_16 (iw (il 0) (by decide) (by decide)) nofun
    refine g_aload_n C rfl 0 rfl dX11_settle_18 ?_
    refine g_aload_n C rfl 0 rfl dX11_settle_19 ?_
    have e66 : Tg h64 a0 = 11 := ((pIT hh63).trans e62)
    have e67 : Rv h64 a0 6 = v32 := ((pIR hh63).trans ((pIR hh59).trans e33))
    refine gf_R C fk_LandSurvey_36 rfl e66 e67 dX11_settle_20 ?_
    refine g_aload_n C rfl 0 rfl dX11_settle_23 ?_
    refine g_callI (st := [.inr (.inr v32), .inr (.inr a0)]) (gc_V C lk_LandSurvey_362 (k_X11_dayShown l D cy w z0 O65 e66) e66 rfl rfl rfl ⟨by decide, by decide⟩ (Nat.le_of_ble_eq_true rfl) dX11_settle_24 ⟨(by decide), (by decide)⟩) (fun r68 h69 f71 K70 => ?_)
    obtain ⟨O72, F73, f74⟩ := K70
    have e75 : Tg h69 v32 = 5 := (fxT F73 ((pIT hh63).trans ((pIT hh59).trans t34)))
    have e76 : Tg h60 v32 = 5 := ((pIT hh59).trans t34)
    have e77 : Tg h64 v32 = 5 := ((pIT hh63).trans e76)
    have p78 := (BkOk_fx O65 F73 e77 rfl rfl (BkOk_fx O61 ((Fx.rf (wr := [2216]) (h := h60)).pI e62 hh63 rfl) e76 rfl rfl (BkOk_fx O ((Fx.rf (wr := [2215]) (h := h)).pI ta0 hh59 rfl) t34 rfl rfl p46)))
    refine g_callR (st := [.inr (.inr a0)]) (gc_V C lk_LandSurvey_378 (k_X4_ofDay l D cy w z0 O72 e75 (iw f74 (by decide) (by decide)) p78) e75 rfl rfl rfl ⟨by decide, by decide⟩ (Nat.le_of_ble_eq_true rfl) dX11_settle_27 ⟨(by decide), (by decide)⟩) (fun r79 h80 K81 => ?_)
    obtain ⟨O83, F84, p85, p86⟩ := K81
    have e87 : Tg h80 a0 = 11 := (fxT F84 (fxT F73 e66))
    refine gp_R C fk_LandSurvey_44 pk_LandSurvey_7 rfl e87 (nf_o _ _) dX11_settle_30 (fun h89 hh88 => ?_)
    have O90 := O83.pR e87 hh88 (okR_o rE_11_7 p85)
    refine g_iconst C dX11_settle_33 ?_
    refine g_istore_n C [(1, .inl 0), (0, .inr (.inr a0))] rfl (by decide) rfl dX11_settle_34 ?_
    refine GW.sub [1, 0] rfl ?_
    -- loop at 35
    have L93 : ∀ (μ : Nat) (x91 : Int) (h92 : Hp), (40 - x91).toNat = μ → Okh h92 → Fx [1813, 1814, 1815, 1816, 1817, 1818, 7420000, 10020000] h89 h92 → ((0 : Int) ≤ x91 ∧ x91 ≤ (40 : Int)) → GW p l e (rmm 4 95 48 3216) s m (List.map toV [.inr (.inr a0)]).toArray below meth c D cy z0 2 (MQ below (QV D cy z0 (fun h1 => Okh h1 ∧ Fx wr_k_X11_settle h h1 ∧ (XInv h1 a0) ∧ (Iv h1 a0 15 = 1))) (List.map toV [.inr (.inr a0)]).toArray s 48 3216 (Aof z0)) 35 [(0, .inr (.inr a0)), (1, .inl x91)] [] h92 0 0 := by
      intro μ
      induction μ using Nat.strongRecOn with
      | ind μ ih94 =>
        intro x91 h92 hm95 O96 F97 f98
        refine g_iload_n C rfl 1 rfl dX11_settle_35 ?_
        refine g_aload_n C rfl 0 rfl dX11_settle_36 ?_
        have e99 : Tg h92 a0 = 11 := (fxT F97 ((pRT hh88).trans e87))
        have e100 : Tg h69 a0 = 11 := (fxT F73 e66)
        have e101 : Tg h89 a0 = 11 := ((pRT hh88).trans e87)
        have e102 : Iv h92 a0 4 = v5 := ((fxI F97 e101 rfl).trans ((pRI hh88).trans ((fxI F84 e100 rfl).trans ((fxI F73 e66 rfl).trans ((pI_j hh63 (by decide)).trans ((pI_j hh59 (by decide)).trans e6))))))
        refine gf_I C fk_LandSurvey_102 rfl e99 e102 dX11_settle_37 ?_
        refine g_icmp_ge C (iw f98 (by decide) (by decide)) (iw f7 (by decide) (by decide)) 59 (by decide) dX11_settle_40 (fun q103 => ?_) (fun q104 => ?_)
        · refine g_iconst C dX11_settle_59 ?_
          refine g_istore_n C [(1, .inl 0), (0, .inr (.inr a0))] rfl (by decide) rfl dX11_settle_60 ?_
          refine GW.sub [1, 0] rfl ?_
          -- loop at 61
          have L107 : ∀ (μ : Nat) (x105 : Int) (h106 : Hp), (16 - x105).toNat = μ → Okh h106 → Fx [401, 200400, 200407, 200408, 9821400, 1000000002, 1000001002, 1000010100, 1000011100] h92 h106 → ((0 : Int) ≤ x105 ∧ x105 ≤ (16 : Int)) → (NN h106 (Rv h106 a0 14) x105) → GW p l e (rmm 4 95 48 3216) s m (List.map toV [.inr (.inr a0)]).toArray below meth c D cy z0 2 (MQ below (QV D cy z0 (fun h1 => Okh h1 ∧ Fx wr_k_X11_settle h h1 ∧ (XInv h1 a0) ∧ (Iv h1 a0 15 = 1))) (List.map toV [.inr (.inr a0)]).toArray s 48 3216 (Aof z0)) 61 [(0, .inr (.inr a0)), (1, .inl x105)] [] h106 (3 * x105.toNat + 0) (201 * x105.toNat + 0) := by
            intro μ
            induction μ using Nat.strongRecOn with
            | ind μ ih108 =>
              intro x105 h106 hm109 O110 F111 f112 p113
              have e114 : Rv h106 a0 14 = v25 := ((fxR F111 e99 rfl).trans ((fxR F97 e101 rfl).trans ((pR_j hh88 (by decide)).trans ((fxR F84 e100 rfl).trans ((fxR F73 e66 rfl).trans ((pIR hh63).trans ((pIR hh59).trans e26)))))))
              have p115 := p113
              rw [e114] at p115
              refine g_iload_n C rfl 1 rfl dX11_settle_61 ?_
              refine g_iconst C dX11_settle_62 ?_
              refine g_aload_n C rfl 0 rfl dX11_settle_63 ?_
              have e116 : Tg h106 a0 = 11 := (fxT F111 e99)
              have e117 : Iv h106 a0 9 = v12 := ((fxI F111 e99 rfl).trans ((fxI F97 e101 rfl).trans ((pRI hh88).trans ((fxI F84 e100 rfl).trans ((fxI F73 e66 rfl).trans ((pI_j hh63 (by decide)).trans ((pI_j hh59 (by decide)).trans e13)))))))
              refine gf_I C fk_LandSurvey_157 rfl e116 e117 dX11_settle_64 ?_
              refine g_ishl C dX11_settle_67 ?_
              have f118 : (1 : Int) ≤ (bShl 1 v12) ∧ (bShl 1 v12) ≤ (16 : Int) := bShl_4 f14
              refine g_icmp_ge C (iw f112 (by decide) (by decide)) (iw f118 (by decide) (by decide)) 110 (by decide) dX11_settle_68 (fun q119 => ?_) (fun q120 => ?_)
              · have f121 : (1 : Int) ≤ x105 ∧ x105 ≤ (16 : Int) := r_ge f112 f118 q119 (by decide) (by decide)
                have p122 : NN h106 v25 (bShl 1 v12) := NN_le p115 (by omega)
                refine GW.widen (by omega : _ ≤ 48) (by omega : _ ≤ 3216) ?_
                refine g_aload_n C rfl 0 rfl dX11_settle_110 ?_
                have e123 : Rv h106 a0 13 = v29 := ((fxR F111 e99 rfl).trans ((fxR F97 e101 rfl).trans ((pR_j hh88 (by decide)).trans ((fxR F84 e100 rfl).trans ((fxR F73 e66 rfl).trans ((pIR hh63).trans ((pIR hh59).trans e30)))))))
                refine gf_R C fk_LandSurvey_64 rfl e116 e123 dX11_settle_111 ?_
                refine g_aload_n C rfl 0 rfl dX11_settle_114 ?_
                have e124 : Iv h106 a0 4 = v5 := ((fxI F111 e99 rfl).trans e102)
                refine gf_I C fk_LandSurvey_102 rfl e116 e124 dX11_settle_115 ?_
                refine g_aload_n C rfl 0 rfl dX11_settle_118 ?_
                refine gf_I C fk_LandSurvey_157 rfl e116 e117 dX11_settle_119 ?_
                refine g_aload_n C rfl 0 rfl dX11_settle_122 ?_
                have e125 : Rv h106 a0 7 = r79 := ((fxR F111 e99 rfl).trans ((fxR F97 e101 rfl).trans (pR_e hh88)))
                refine gf_R C fk_LandSurvey_44 rfl e116 e125 dX11_settle_123 ?_
                have e126 : Tg h106 r79 = 6 := (fxT F111 (fxT F97 ((pRT hh88).trans p85)))
                obtain ⟨v127, e128⟩ : ∃ z, Iv h106 r79 7 = z := ⟨_, rfl⟩
                have f129 := ok_I O110 e126 rI_6_7 e128
                refine gf_I C fk_LandSurvey_392 rfl e126 e128 dX11_settle_126 ?_
                have e130 : Tg h106 v29 = 7 := (fxT F111 (fxT F97 ((pRT hh88).trans (fxT F84 (fxT F73 ((pIT hh63).trans ((pIT hh59).trans t31)))))))
                refine g_callV (st := []) (gc_V C lk_LandSurvey_395 (k_X6_begin l D cy w z0 O110 e130 f7 f14 f129) e130 rfl rfl rfl ⟨by decide, by decide⟩ (Nat.le_of_ble_eq_true rfl) dX11_settle_129 ⟨(by decide), (by decide)⟩) (fun h132 K133 => ?_)
                obtain ⟨O135, F136, p137, p138⟩ := K133
                have e139 : Rv h132 a0 3 = v1 := ((fxR F136 e116 rfl).trans ((fxR F111 e99 rfl).trans ((fxR F97 e101 rfl).trans ((pR_j hh88 (by decide)).trans ((fxR F84 e100 rfl).trans ((fxR F73 e66 rfl).trans ((pIR hh63).trans ((pIR hh59).trans e2))))))))
                have e140 : Iv h132 a0 4 = v5 := ((fxI F136 e116 rfl).trans e124)
                have e141 : Rv h132 a0 8 = v8 := ((fxR F136 e116 rfl).trans ((fxR F111 e99 rfl).trans ((fxR F97 e101 rfl).trans ((pR_j hh88 (by decide)).trans ((fxR F84 e100 rfl).trans ((fxR F73 e66 rfl).trans ((pIR hh63).trans ((pIR hh59).trans e9))))))))
                have e142 : Iv h132 a0 9 = v12 := ((fxI F136 e116 rfl).trans e117)
                have e143 : Rv h132 a0 11 = v15 := ((fxR F136 e116 rfl).trans ((fxR F111 e99 rfl).trans ((fxR F97 e101 rfl).trans ((pR_j hh88 (by decide)).trans ((fxR F84 e100 rfl).trans ((fxR F73 e66 rfl).trans ((pIR hh63).trans ((pIR hh59).trans e16))))))))
                have e144 : Iv h132 a0 12 = v19 := ((fxI F136 e116 rfl).trans ((fxI F111 e99 rfl).trans ((fxI F97 e101 rfl).trans ((pRI hh88).trans ((fxI F84 e100 rfl).trans ((fxI F73 e66 rfl).trans ((pI_j hh63 (by decide)).trans ((pI_j hh59 (by decide)).trans e20))))))))
                have e145 : Rv h132 a0 14 = v25 := ((fxR F136 e116 rfl).trans e114)
                have e146 : Iv h132 a0 15 = 1 := ((fxI F136 e116 rfl).trans ((fxI F111 e99 rfl).trans ((fxI F97 e101 rfl).trans ((pRI hh88).trans ((fxI F84 e100 rfl).trans ((fxI F73 e66 rfl).trans ((pI_j hh63 (by decide)).trans (pI_e hh59))))))))
                have e147 : Rv h132 a0 13 = v29 := ((fxR F136 e116 rfl).trans e123)
                have e148 : Rv h132 a0 6 = v32 := ((fxR F136 e116 rfl).trans ((fxR F111 e99 rfl).trans ((fxR F97 e101 rfl).trans ((pR_j hh88 (by decide)).trans ((fxR F84 e100 rfl).trans ((fxR F73 e66 rfl).trans e67))))))
                have e149 : Rv h132 a0 7 = r79 := ((fxR F136 e116 rfl).trans e125)
                have e150 : Tg h106 v25 = 49107 := (fxT F111 (fxT F97 ((pRT hh88).trans (fxT F84 (fxT F73 ((pIT hh63).trans ((pIT hh59).trans t27)))))))
                have p151 := (NN_fx F136 e150 ar_49107 rfl p122)
                have e152 : Tg h64 v29 = 7 := ((pIT hh63).trans ((pIT hh59).trans t31))
                have e153 : Tg h69 v29 = 7 := (fxT F73 e152)
                have e154 : Tg h80 v29 = 7 := (fxT F84 e153)
                have e155 : Tg h89 v29 = 7 := ((pRT hh88).trans e154)
                have e156 : Tg h92 v29 = 7 := (fxT F97 e155)
                have e157 : Rv h132 v29 1 = v1 := ((fxR F136 e130 rfl).trans ((fxR F111 e156 rfl).trans ((fxR F97 e155 rfl).trans ((pR_n hh88 (ne_tag e154 e87 (by decide))).trans ((fxR F84 e153 rfl).trans ((fxR F73 e152 rfl).trans ((pIR hh63).trans ((pIR hh59).trans p42))))))))
                have e158 : Rv h132 v29 2 = v8 := ((fxR F136 e130 rfl).trans ((fxR F111 e156 rfl).trans ((fxR F97 e155 rfl).trans ((pR_n hh88 (ne_tag e154 e87 (by decide))).trans ((fxR F84 e153 rfl).trans ((fxR F73 e152 rfl).trans ((pIR hh63).trans ((pIR hh59).trans p43))))))))
                have e159 : Tg h60 v1 = 38104 := ((pIT hh59).trans t3)
                have e160 : Tg h64 v1 = 38104 := ((pIT hh63).trans e159)
                have e161 : Tg h69 v1 = 38104 := (fxT F73 e160)
                have e162 : Tg h80 v1 = 38104 := (fxT F84 e161)
                have e163 : Tg h89 v1 = 38104 := ((pRT hh88).trans e162)
                have e164 : Tg h92 v1 = 38104 := (fxT F97 e163)
                have e165 : Tg h106 v1 = 38104 := (fxT F111 e164)
                have p166 := (SOK_fx O110 F136 e165 rfl rfl rfl (SOK_fx O96 F111 e164 rfl rfl rfl (SOK_fx O90 F97 e163 rfl rfl rfl (SOK_fx O83 ((Fx.rf (wr := [2207]) (h := h80)).pR e87 hh88 rfl) e162 rfl rfl rfl (SOK_fx O72 F84 e161 rfl rfl rfl (SOK_fx O65 F73 e160 rfl rfl rfl (SOK_fx O61 ((Fx.rf (wr := [2216]) (h := h60)).pI e62 hh63 rfl) e159 rfl rfl rfl (SOK_fx O ((Fx.rf (wr := [2215]) (h := h)).pI ta0 hh59 rfl) t3 rfl rfl rfl p38))))))))
                have e167 : Tg h60 v8 = 39105 := ((pIT hh59).trans t10)
                have e168 : Tg h64 v8 = 39105 := ((pIT hh63).trans e167)
                have e169 : Tg h69 v8 = 39105 := (fxT F73 e168)
                have e170 : Tg h80 v8 = 39105 := (fxT F84 e169)
                have e171 : Tg h89 v8 = 39105 := ((pRT hh88).trans e170)
                have e172 : Tg h92 v8 = 39105 := (fxT F97 e171)
                have e173 : Tg h106 v8 = 39105 := (fxT F111 e172)
                have p174 := (BOK_fx O110 F136 e173 rfl rfl rfl rfl (BOK_fx O96 F111 e172 rfl rfl rfl rfl (BOK_fx O90 F97 e171 rfl rfl rfl rfl (BOK_fx O83 ((Fx.rf (wr := [2207]) (h := h80)).pR e87 hh88 rfl) e170 rfl rfl rfl rfl (BOK_fx O72 F84 e169 rfl rfl rfl rfl (BOK_fx O65 F73 e168 rfl rfl rfl rfl (BOK_fx O61 ((Fx.rf (wr := [2216]) (h := h60)).pI e62 hh63 rfl) e167 rfl rfl rfl rfl (BOK_fx O ((Fx.rf (wr := [2215]) (h := h)).pI ta0 hh59 rfl) t10 rfl rfl rfl rfl p39))))))))
                have e175 : Tg h60 v15 = 48106 := ((pIT hh59).trans t17)
                have e176 : Tg h64 v15 = 48106 := ((pIT hh63).trans e175)
                have e177 : Tg h69 v15 = 48106 := (fxT F73 e176)
                have e178 : Tg h80 v15 = 48106 := (fxT F84 e177)
                have e179 : Tg h89 v15 = 48106 := ((pRT hh88).trans e178)
                have e180 : Tg h92 v15 = 48106 := (fxT F97 e179)
                have e181 : Tg h106 v15 = 48106 := (fxT F111 e180)
                have p182 := (NN_fx F136 e181 ar_48106 rfl (NN_fx F111 e180 ar_48106 rfl (NN_fx F97 e179 ar_48106 rfl (NN_fx ((Fx.rf (wr := [2207]) (h := h80)).pR e87 hh88 rfl) e178 ar_48106 rfl (NN_fx F84 e177 ar_48106 rfl (NN_fx F73 e176 ar_48106 rfl (NN_fx ((Fx.rf (wr := [2216]) (h := h60)).pI e62 hh63 rfl) e175 ar_48106 rfl (NN_fx ((Fx.rf (wr := [2215]) (h := h)).pI ta0 hh59 rfl) t17 ar_48106 rfl p40))))))))
                have e183 : Tg h80 v32 = 5 := (fxT F84 e75)
                have e184 : Tg h89 v32 = 5 := ((pRT hh88).trans e183)
                have e185 : Tg h92 v32 = 5 := (fxT F97 e184)
                have e186 : Tg h106 v32 = 5 := (fxT F111 e185)
                have p187 := (BkOk_fx O110 F136 e186 rfl rfl (BkOk_fx O96 F111 e185 rfl rfl (BkOk_fx O90 F97 e184 rfl rfl (BkOk_fx O83 ((Fx.rf (wr := [2207]) (h := h80)).pR e87 hh88 rfl) e183 rfl rfl (BkOk_fx O72 F84 e75 rfl rfl p78)))))
                have e188 : Tg h89 r79 = 6 := ((pRT hh88).trans p85)
                have e189 : Tg h92 r79 = 6 := (fxT F97 e188)
                have p190 := (RulesOk_fx O110 F136 e126 rfl (RulesOk_fx O96 F111 e189 rfl (RulesOk_fx O90 F97 e188 rfl (RulesOk_fx O83 ((Fx.rf (wr := [2207]) (h := h80)).pR e87 hh88 rfl) p85 rfl p86))))
                have p191 := (ND_fx F136 rfl rfl (ND_fx F111 rfl rfl (ND_fx F97 rfl rfl (ND_fx ((Fx.rf (wr := [2207]) (h := h80)).pR e87 hh88 rfl) rfl rfl (ND_fx F84 rfl rfl (ND_fx F73 rfl rfl (ND_fx ((Fx.rf (wr := [2216]) (h := h60)).pI e62 hh63 rfl) rfl rfl (ND_fx ((Fx.rf (wr := [2215]) (h := h)).pI ta0 hh59 rfl) rfl rfl p48))))))))
                exact g_vret C hr ⟨O135, (((((((((Fx.rf (wr := wr_k_X11_settle)).pI ta0 hh59 rfl).pI e62 hh63 rfl).call F73 rfl).call F84 rfl).pR e87 hh88 rfl).call F97 rfl).call F111 rfl).call F136 rfl), (by unfold XInv; rw [e139, e140, e141, e142, e143, e144, e146, e145, e147, e148, e149, e157, e158, p137, p138]; exact ⟨p166, p174, p182, (fun _ => p151), rfl, rfl, (by omega), (by omega), p187, p190, p191⟩), e146⟩ (by decide) (by decide) dX11_settle_132
              · have f192 : (0 : Int) ≤ x105 ∧ x105 ≤ (15 : Int) := r_lt f112 f118 q120 (by decide) (by decide)
                refine g_aload_n C rfl 0 rfl dX11_settle_71 ?_
                refine gf_R C fk_LandSurvey_70 rfl e116 e114 dX11_settle_72 ?_
                refine g_iload_n C rfl 1 rfl dX11_settle_75 ?_
                have e193 : Tg h106 v25 = 49107 := (fxT F111 (fxT F97 ((pRT hh88).trans (fxT F84 (fxT F73 ((pIT hh63).trans ((pIT hh59).trans t27)))))))
                have e194 : Tg h64 v25 = 49107 := ((pIT hh63).trans ((pIT hh59).trans t27))
                have e195 : Tg h69 v25 = 49107 := (fxT F73 e194)
                have e196 : Tg h89 v25 = 49107 := ((pRT hh88).trans (fxT F84 e195))
                have e197 : Tg h92 v25 = 49107 := (fxT F97 e196)
                have e198 : Ln h106 v25 = 16 := ((fxL F111 e197).trans ((fxL F97 e196).trans ((pRL hh88).trans ((fxL F84 e195).trans ((fxL F73 e194).trans ((pIL hh63).trans ((pIL hh59).trans l28)))))))
                obtain ⟨v199, e200⟩ : ∃ z, Rv h106 v25 x105.toNat = z := ⟨_, rfl⟩
                refine g_aald (t := 7) C e193 rfl (by decide) rfl e198 (ix f192 (by decide) (by decide)) e200 dX11_settle_76 ?_
                refine g_ifnonnull C 94 (by decide) dX11_settle_77 (fun q201 => ?_) (fun q202 => ?_)
                · have t203 := ok_Na O110 e193 ar_49107 rE_49107_0 e200 q201
                  refine g_aload_n C rfl 0 rfl dX11_settle_94 ?_
                  refine gf_R C fk_LandSurvey_70 rfl e116 e114 dX11_settle_95 ?_
                  refine g_iload_n C rfl 1 rfl dX11_settle_98 ?_
                  refine g_aald (t := 7) C e193 rfl (by decide) rfl e198 (ix f192 (by decide) (by decide)) e200 dX11_settle_99 ?_
                  refine g_iconst C dX11_settle_100 ?_
                  refine gp_I C fk_LandSurvey_389 pk_LandSurvey_Ground_1 rfl t203 (iw (il 0) (by decide) (by decide)) (nar_z2 (iw (il 0) (by decide) (by decide))) dX11_settle_101 (fun h205 hh204 => ?_)
                  have O206 := O110.pI t203 hh204 rI_2_1 (iw (il 0) (by decide) (by decide)) nofun
                  have f207 : (1 : Int) ≤ (x105 + 1) ∧ (x105 + 1) ≤ (16 : Int) := ia_add f192 (il 1) (by decide) (by decide)
                  refine g_iinc C [(1, .inl (x105 + 1)), (0, .inr (.inr a0))] 1 rfl (by decide) rfl dX11_settle_104 ?_
                  refine g_goto C 61 (by decide) dX11_settle_107 ?_
                  refine GW.sub [1, 0] rfl ?_
                  have e208 : Rv h205 a0 14 = v25 := ((pIR hh204).trans e114)
                  have p209 := (NN_fx ((Fx.rf (wr := [401]) (h := h106)).pI t203 hh204 rfl) e193 ar_49107 rfl p115)
                  have e210 : Rv h205 v25 x105.toNat = v199 := ((pIR hh204).trans e200)
                  have e211 : Tg h205 v199 = 2 := ((pIT hh204).trans t203)
                  refine GW.widen (by omega : _ ≤ 3 * (x105 + 1).toNat + 0) (by omega : _ ≤ 201 * (x105 + 1).toNat + 0) ?_
                  exact ih108 _ (by omega) (x105 + 1) h205 rfl O206 (F111.pI t203 hh204 rfl) (iw f207 (by decide) (by decide)) (by rw [e208]; exact NN_ext p209 (by omega) e210 (nz_of O206 e211))
                · refine g_aload_n C rfl 0 rfl dX11_settle_80 ?_
                  refine gf_R C fk_LandSurvey_70 rfl e116 e114 dX11_settle_81 ?_
                  refine g_iload_n C rfl 1 rfl dX11_settle_84 ?_
                  refine g_new C 1002 rfl rfl rfl inX1 tyX1 tyX1_ok kw_466 kw_1008 kw_168 (by decide +kernel) (by show _ ≤ 48; omega) (by show _ ≤ 3216; omega) dX11_settle_85 (fun n212 z213 z214 h216 hh215 => ?_)
                  have O217 := O110.pN z213 z214 hh215 (by decide) nn_1002
                  refine g_dup C rfl dX11_settle_88 ?_
                  refine g_iload_n C rfl 1 rfl dX11_settle_89 ?_
                  refine g_callV (st := [.inr (.inr n212), .inl x105, .inr (.inr v25)]) (gc_I C lk_LandSurvey_386 rfl (k_X1_init l D cy w z0 O217 (pN_T hh215) f192) (tg_nz (pN_T hh215)) rfl ⟨by decide, by decide⟩ (Nat.le_of_ble_eq_true rfl) dX11_settle_90 ⟨(by show _ ≤ 48; omega), (by show _ ≤ 3216; omega)⟩) (fun h219 K220 => ?_)
                  obtain ⟨O222, F223, p224, p225⟩ := K220
                  have e226 : Tg h219 n212 = 1002 := (fxT F223 (pN_T hh215))
                  refine g_rt (T0 := 1001) (T1 := 1) e226 rfl (fun h228 hh227 => ?_)
                  have O229 := O222.rt1 (T0 := 2) (T1 := 1001) e226 hh227 nu_1002 tbI_2_1002 tbE_2_1002 (fun j hj => by
                      have z := List.elem_iff.mp (tbN_2 j hj)
                      simp only [List.mem_cons, List.not_mem_nil, or_false] at z
                      rcases z with rfl | rfl
                      · exact p224
                      · exact p225)
                  have e230 : Ln h228 n212 = 0 := ((pTL hh227).trans ((fxL F223 (pN_T hh215)).trans (pN_L hh215)))
                  have F231 : Fx [200400, 200407, 200408, 1000000002, 1000001002, 1000010100, 1000011100] h106 h228 := ((((Fx.rf (wr := [200400, 200407, 200408, 1000000002, 1000001002, 1000010100, 1000011100]) (h := h106)).pN z214 hh215 rfl).call F223 rfl).pT (nt_of (Fx.rf (wr := [200400, 200407, 200408, 1000000002, 1000001002, 1000010100, 1000011100]) (h := h106)) z214) hh227 rfl)
                  have e232 : Tg h228 v25 = 49107 := (fxT F231 e193)
                  have e233 : Ln h228 v25 = 16 := ((fxL F231 e193).trans e198)
                  refine g_aast (t := 7) C e232 rfl (by decide) rfl (pT_T hh227) rfl rfl e233 (ix f192 (by decide) (by decide)) dX11_settle_93 (fun h235 hh234 => ?_)
                  have O236 := O229.pR e232 hh234 (okR_o ((rE_arr ar_49107 _).trans rE_49107_0) (pT_T hh227))
                  have p237 := (NN_fx F231 e193 ar_49107 rfl p115)
                  have e238 : Tg h235 n212 = 2 := ((pRT hh234).trans (pT_T hh227))
                  refine g_aload_n C rfl 0 rfl dX11_settle_94 ?_
                  have e239 : Tg h235 a0 = 11 := ((pRT hh234).trans (fxT F231 e116))
                  have e240 : Tg h228 a0 = 11 := (fxT F231 e116)
                  have e241 : Rv h235 a0 14 = v25 := ((pR_n hh234 (ne_tag e240 e232 (by decide))).trans ((fxR F231 e116 rfl).trans e114))
                  refine gf_R C fk_LandSurvey_70 rfl e239 e241 dX11_settle_95 ?_
                  refine g_iload_n C rfl 1 rfl dX11_settle_98 ?_
                  have e242 : Tg h235 v25 = 49107 := ((pRT hh234).trans e232)
                  have e243 : Ln h235 v25 = 16 := ((pRL hh234).trans e233)
                  refine g_aald (t := 7) C e242 rfl (by decide) rfl e243 (ix f192 (by decide) (by decide)) (pR_e hh234) dX11_settle_99 ?_
                  refine g_iconst C dX11_settle_100 ?_
                  refine gp_I C fk_LandSurvey_389 pk_LandSurvey_Ground_1 rfl e238 (iw (il 0) (by decide) (by decide)) (nar_z2 (iw (il 0) (by decide) (by decide))) dX11_settle_101 (fun h245 hh244 => ?_)
                  have O246 := O236.pI e238 hh244 rI_2_1 (iw (il 0) (by decide) (by decide)) nofun
                  have f247 : (1 : Int) ≤ (x105 + 1) ∧ (x105 + 1) ≤ (16 : Int) := ia_add f192 (il 1) (by decide) (by decide)
                  refine g_iinc C [(1, .inl (x105 + 1)), (0, .inr (.inr a0))] 1 rfl (by decide) rfl dX11_settle_104 ?_
                  refine g_goto C 61 (by decide) dX11_settle_107 ?_
                  refine GW.sub [1, 0] rfl ?_
                  have e248 : Rv h245 a0 14 = v25 := ((pIR hh244).trans e241)
                  have p249 := (NN_fx ((Fx.rf (wr := [401]) (h := h235)).pI e238 hh244 rfl) e242 ar_49107 rfl (NN_put p237 hh234 (nz_of O236 e238)))
                  have e250 : Rv h245 v25 x105.toNat = n212 := ((pIR hh244).trans (pR_e hh234))
                  have e251 : Tg h245 n212 = 2 := ((pIT hh244).trans e238)
                  refine GW.widen (by omega : _ ≤ 3 * (x105 + 1).toNat + 0) (by omega : _ ≤ 201 * (x105 + 1).toNat + 0) ?_
                  exact ih108 _ (by omega) (x105 + 1) h245 rfl O246 (((F111.call F231 rfl).pRa e232 ar_49107 hh234 rfl).pI e238 hh244 rfl) (iw f247 (by decide) (by decide)) (by rw [e248]; exact NN_ext p249 (by omega) e250 (nz_of O246 e251))
          refine GW.widen (by omega : _ ≤ 3 * (0 : Int).toNat + 0) (by omega : _ ≤ 201 * (0 : Int).toNat + 0) ?_
          have e252 : Rv h92 a0 14 = v25 := ((fxR F97 e101 rfl).trans ((pR_j hh88 (by decide)).trans ((fxR F84 e100 rfl).trans ((fxR F73 e66 rfl).trans ((pIR hh63).trans ((pIR hh59).trans e26))))))
          exact L107 _ 0 h92 rfl O96 Fx.rf (iw (il 0) (by decide) (by decide)) (fun k hk => absurd hk (by omega))
        · have f253 : (0 : Int) ≤ x91 ∧ x91 ≤ (39 : Int) := r_lt f98 f7 q104 (by decide) (by decide)
          have f254 : (1 : Int) ≤ v5 ∧ v5 ≤ (40 : Int) := r_gt f7 f98 q104 (by decide) (by decide)
          refine g_aload_n C rfl 0 rfl dX11_settle_43 ?_
          refine g_aload_n C rfl 0 rfl dX11_settle_44 ?_
          have e255 : Rv h92 a0 3 = v1 := ((fxR F97 e101 rfl).trans ((pR_j hh88 (by decide)).trans ((fxR F84 e100 rfl).trans ((fxR F73 e66 rfl).trans ((pIR hh63).trans ((pIR hh59).trans e2))))))
          refine gf_R C fk_LandSurvey_22 rfl e99 e255 dX11_settle_45 ?_
          refine g_iload_n C rfl 1 rfl dX11_settle_48 ?_
          have e256 : Tg h92 v1 = 38104 := (fxT F97 ((pRT hh88).trans (fxT F84 (fxT F73 ((pIT hh63).trans ((pIT hh59).trans t3))))))
          have e257 : Tg h64 v1 = 38104 := ((pIT hh63).trans ((pIT hh59).trans t3))
          have e258 : Tg h69 v1 = 38104 := (fxT F73 e257)
          have e259 : Tg h89 v1 = 38104 := ((pRT hh88).trans (fxT F84 e258))
          have e260 : Ln h92 v1 = 40 := ((fxL F97 e259).trans ((pRL hh88).trans ((fxL F84 e258).trans ((fxL F73 e257).trans ((pIL hh63).trans ((pIL hh59).trans l4))))))
          obtain ⟨v261, e262⟩ : ∃ z, Rv h92 v1 x91.toNat = z := ⟨_, rfl⟩
          refine g_aald (t := 4) C e256 rfl (by decide) rfl e260 (ix f253 (by decide) (by decide)) e262 dX11_settle_49 ?_
          have e263 : Tg h60 v1 = 38104 := ((pIT hh59).trans t3)
          have e264 : Tg h80 v1 = 38104 := (fxT F84 e258)
          have p265 := (SOK_fx O90 F97 e259 rfl rfl rfl (SOK_fx O83 ((Fx.rf (wr := [2207]) (h := h80)).pR e87 hh88 rfl) e264 rfl rfl rfl (SOK_fx O72 F84 e258 rfl rfl rfl (SOK_fx O65 F73 e257 rfl rfl rfl (SOK_fx O61 ((Fx.rf (wr := [2216]) (h := h60)).pI e62 hh63 rfl) e263 rfl rfl rfl (SOK_fx O ((Fx.rf (wr := [2215]) (h := h)).pI ta0 hh59 rfl) t3 rfl rfl rfl p38))))))
          have q266 := nn_get p265.nn (by omega) e262
          have t267 := ok_Na O96 e256 ar_38104 rE_38104_0 e262 q266
          have e268 : Rv h92 a0 7 = r79 := ((fxR F97 e101 rfl).trans (pR_e hh88))
          have e269 : Tg h89 r79 = 6 := ((pRT hh88).trans p85)
          have p270 := (RulesOk_fx O90 F97 e269 rfl (RulesOk_fx O83 ((Fx.rf (wr := [2207]) (h := h80)).pR e87 hh88 rfl) p85 rfl p86))
          refine g_callV (st := []) (gc_V C lk_LandSurvey_382 (k_X11_interpret l D cy w z0 O96 e99 t267 (by rw [e268]; exact p270)) e99 rfl rfl rfl ⟨by decide, by decide⟩ (Nat.le_of_ble_eq_true rfl) dX11_settle_50 ⟨(by decide), (by decide)⟩) (fun h272 K273 => ?_)
          obtain ⟨O275, F276⟩ := K273
          have f277 : (1 : Int) ≤ (x91 + 1) ∧ (x91 + 1) ≤ (40 : Int) := ia_add f253 (il 1) (by decide) (by decide)
          refine g_iinc C [(1, .inl (x91 + 1)), (0, .inr (.inr a0))] 1 rfl (by decide) rfl dX11_settle_53 ?_
          refine g_goto C 35 (by decide) dX11_settle_56 ?_
          refine GW.sub [1, 0] rfl ?_
          exact ih94 _ (by omega) (x91 + 1) h272 rfl O275 (F97.call F276 rfl) (iw f277 (by decide) (by decide))
    exact L93 _ 0 h89 rfl O90 Fx.rf (iw (il 0) (by decide) (by decide))
  · have f278 : (1 : Int) ≤ v22 ∧ v22 ≤ (1 : Int) := r_nl f24 q57
    exact g_vret C hr ⟨O, Fx.rf, P_XInv, (by rw [e23]; omega)⟩ (by decide) (by decide) dX11_settle_7
