abbrev cX11_groundOf : ByteArray := prog_1_method_52_code
def yX11_groundOf : MethodName := ⟨RX11, "groundOf", "(I)LLandSurvey$Ground;"⟩
theorem okX11_groundOf : yok yX11_groundOf 1 := by decide +kernel
abbrev cX11_judge : ByteArray := prog_1_method_53_code
def yX11_judge : MethodName := ⟨RX11, "judge", "()Z"⟩
theorem okX11_judge : yok yX11_judge 0 := by decide +kernel
abbrev cX11_isKept : ByteArray := prog_1_method_54_code
def yX11_isKept : MethodName := ⟨RX11, "isKept", "(I)Z"⟩
theorem okX11_isKept : yok yX11_isKept 1 := by decide +kernel
abbrev cX11_countKept : ByteArray := prog_1_method_55_code
def yX11_countKept : MethodName := ⟨RX11, "countKept", "()I"⟩
theorem okX11_countKept : yok yX11_countKept 0 := by decide +kernel
abbrev cX11_prepare : ByteArray := prog_1_method_56_code
def yX11_prepare : MethodName := ⟨RX11, "prepare", "()Z"⟩
theorem okX11_prepare : yok yX11_prepare 0 := by decide +kernel
abbrev cX11_allKeptKnown : ByteArray := prog_1_method_57_code
def yX11_allKeptKnown : MethodName := ⟨RX11, "allKeptKnown", "()Z"⟩
theorem okX11_allKeptKnown : yok yX11_allKeptKnown 0 := by decide +kernel
abbrev cX11_knownBest : ByteArray := prog_1_method_58_code
def yX11_knownBest : MethodName := ⟨RX11, "knownBest", "()LLandSurvey$Ground;"⟩
theorem okX11_knownBest : yok yX11_knownBest 0 := by decide +kernel
abbrev cX11_mayLie : ByteArray := prog_1_method_59_code
def yX11_mayLie : MethodName := ⟨RX11, "mayLie", "(LLandSurvey$Ground;II)I"⟩
theorem okX11_mayLie : yok yX11_mayLie 3 := by decide +kernel
abbrev cX11_mayLieByAll : ByteArray := prog_1_method_60_code
def yX11_mayLieByAll : MethodName := ⟨RX11, "mayLieByAll", "(II)I"⟩
theorem okX11_mayLieByAll : yok yX11_mayLieByAll 2 := by decide +kernel
abbrev cJ6_bitCount_0f7a4 : ByteArray := prog_19_method_49_code
def yJ6_bitCount_0f7a4 : MethodName := ⟨"java/lang/Integer", "bitCount", "(I)I"⟩
theorem okJ6_bitCount_0f7a4 : yok yJ6_bitCount_0f7a4 1 := by decide +kernel
abbrev cJ13_bitCount_95d88 : ByteArray := prog_20_method_50_code
def yJ13_bitCount_95d88 : MethodName := ⟨"java/lang/Long", "bitCount", "(J)I"⟩
theorem okJ13_bitCount_95d88 : yok yJ13_bitCount_95d88 1 := by decide +kernel
abbrev cX11_countSaying : ByteArray := prog_1_method_50_code
def yX11_countSaying : MethodName := ⟨RX11, "countSaying", "(Z)I"⟩
theorem okX11_countSaying : yok yX11_countSaying 1 := by decide +kernel
abbrev cX11_countCertain : ByteArray := prog_1_method_61_code
def yX11_countCertain : MethodName := ⟨RX11, "countCertain", "()I"⟩
theorem okX11_countCertain : yok yX11_countCertain 0 := by decide +kernel
abbrev cX11_gatherLineFacts : ByteArray := prog_1_method_62_code
def yX11_gatherLineFacts : MethodName := ⟨RX11, "gatherLineFacts", "(II)V"⟩
theorem okX11_gatherLineFacts : yok yX11_gatherLineFacts 2 := by decide +kernel
abbrev cX5_firstThatTells : ByteArray := prog_7_method_10_code
def yX5_firstThatTells : MethodName := ⟨RX5, "firstThatTells", "(I[I)I"⟩
theorem okX5_firstThatTells : yok yX5_firstThatTells 2 := by decide +kernel
abbrev cX11_neighbour : ByteArray := prog_1_method_39_code
def yX11_neighbour : MethodName := ⟨RX11, "neighbour", "(II)I"⟩
theorem okX11_neighbour : yok yX11_neighbour 2 := by decide +kernel
abbrev cX11_isRock : ByteArray := prog_1_method_42_code
def yX11_isRock : MethodName := ⟨RX11, "isRock", "(I)Z"⟩
theorem okX11_isRock : yok yX11_isRock 1 := by decide +kernel
theorem kw_959 : Cond.code yX11_isSet prog_1_method_43_code 2 (some .boolean) ∈ uu := uu_in (i := 959) (by decide +kernel) (by decide +kernel)
theorem kw_956 : Cond.methodLink "LandSurvey" 231 yX11_isSet ∈ uu := uu_in (i := 956) (by decide +kernel) (by decide +kernel)
theorem kw_958 : Cond.instanceMethod yX11_isSet ∈ uu := uu_in (i := 958) (by decide +kernel) (by decide +kernel)
theorem kw_22 : Cond.selects "LandSurvey" yX11_isSet yX11_isSet ∈ uu := uu_in (i := 22) (by decide +kernel) (by decide +kernel)
theorem kw_963 : Cond.code yX11_settle prog_1_method_46_code 2 none ∈ uu := uu_in (i := 963) (by decide +kernel) (by decide +kernel)
theorem kw_960 : Cond.methodLink "LandSurvey" 169 yX11_settle ∈ uu := uu_in (i := 960) (by decide +kernel) (by decide +kernel)
theorem kw_962 : Cond.instanceMethod yX11_settle ∈ uu := uu_in (i := 962) (by decide +kernel) (by decide +kernel)
theorem kw_23 : Cond.selects "LandSurvey" yX11_settle yX11_settle ∈ uu := uu_in (i := 23) (by decide +kernel) (by decide +kernel)
theorem kw_1061 : Cond.code yX6_solve prog_8_method_3_code 4 none ∈ uu := uu_in (i := 1061) (by decide +kernel) (by decide +kernel)
theorem kw_1058 : Cond.methodLink "LandSurvey" 432 yX6_solve ∈ uu := uu_in (i := 1058) (by decide +kernel) (by decide +kernel)
theorem kw_1059 : Cond.instanceMethod yX6_solve ∈ uu := uu_in (i := 1059) (by decide +kernel) (by decide +kernel)
theorem kw_1060 : Cond.selects "LandSurvey$Search" yX6_solve yX6_solve ∈ uu := uu_in (i := 1060) (by decide +kernel) (by decide +kernel)
theorem kw_1019 : Cond.fieldLink "LandSurvey" 435 "LandSurvey$Ground" "found" "Z" ∈ uu := uu_in (i := 1019) (by decide +kernel) (by decide +kernel)
theorem kw_485 : Cond.fieldLink "LandSurvey" 214 "LandSurvey" "finest" "LLandSurvey$Ground;" ∈ uu := uu_in (i := 485) (by decide +kernel) (by decide +kernel)
theorem kw_1021 : Cond.fieldLink "LandSurvey" 201 "LandSurvey$Ground" "cost" "I" ∈ uu := uu_in (i := 1021) (by decide +kernel) (by decide +kernel)
theorem kw_1152 : Cond.code yX11_isKept prog_1_method_54_code 2 (some .boolean) ∈ uu := uu_in (i := 1152) (by decide +kernel) (by decide +kernel)
theorem kw_1149 : Cond.methodLink "LandSurvey" 234 yX11_isKept ∈ uu := uu_in (i := 1149) (by decide +kernel) (by decide +kernel)
theorem kw_1151 : Cond.instanceMethod yX11_isKept ∈ uu := uu_in (i := 1151) (by decide +kernel) (by decide +kernel)
theorem kw_38 : Cond.selects "LandSurvey" yX11_isKept yX11_isKept ∈ uu := uu_in (i := 38) (by decide +kernel) (by decide +kernel)
theorem kw_1144 : Cond.code yX11_judge prog_1_method_53_code 3 (some .boolean) ∈ uu := uu_in (i := 1144) (by decide +kernel) (by decide +kernel)
theorem kw_1141 : Cond.methodLink "LandSurvey" 207 yX11_judge ∈ uu := uu_in (i := 1141) (by decide +kernel) (by decide +kernel)
theorem kw_1143 : Cond.instanceMethod yX11_judge ∈ uu := uu_in (i := 1143) (by decide +kernel) (by decide +kernel)
theorem kw_36 : Cond.selects "LandSurvey" yX11_judge yX11_judge ∈ uu := uu_in (i := 36) (by decide +kernel) (by decide +kernel)
theorem kw_1026 : Cond.fieldLink "LandSurvey" 237 "LandSurvey$Ground" "known" "Z" ∈ uu := uu_in (i := 1026) (by decide +kernel) (by decide +kernel)
theorem kw_296 : Cond.fieldLink "LandSurvey" 284 "LandSurvey$Rules" "rocks" "I" ∈ uu := uu_in (i := 296) (by decide +kernel) (by decide +kernel)
theorem kw_1187 : Cond.code yX11_mayLie prog_1_method_59_code 10 (some .int) ∈ uu := uu_in (i := 1187) (by decide +kernel) (by decide +kernel)
theorem kw_1184 : Cond.methodLink "LandSurvey" 441 yX11_mayLie ∈ uu := uu_in (i := 1184) (by decide +kernel) (by decide +kernel)
theorem kw_1186 : Cond.instanceMethod yX11_mayLie ∈ uu := uu_in (i := 1186) (by decide +kernel) (by decide +kernel)
theorem kw_41 : Cond.selects "LandSurvey" yX11_mayLie yX11_mayLie ∈ uu := uu_in (i := 41) (by decide +kernel) (by decide +kernel)
theorem kw_1199 : Cond.constant "java/lang/Integer" 265 (1431655765) ∈ uu := uu_in (i := 1199) (by decide +kernel) (by decide +kernel)
theorem kw_1200 : Cond.constant "java/lang/Integer" 266 (858993459) ∈ uu := uu_in (i := 1200) (by decide +kernel) (by decide +kernel)
theorem kw_1201 : Cond.constant "java/lang/Integer" 267 (252645135) ∈ uu := uu_in (i := 1201) (by decide +kernel) (by decide +kernel)
theorem kw_1156 : Cond.constantLong "java/lang/Long" 314 (6148914691236517205) ∈ uu := uu_in (i := 1156) (by decide +kernel) (by decide +kernel)
theorem kw_1157 : Cond.constantLong "java/lang/Long" 316 (3689348814741910323) ∈ uu := uu_in (i := 1157) (by decide +kernel) (by decide +kernel)
theorem kw_1158 : Cond.constantLong "java/lang/Long" 318 (1085102592571150095) ∈ uu := uu_in (i := 1158) (by decide +kernel) (by decide +kernel)
theorem kw_1183 : Cond.code yX11_mayLieByAll prog_1_method_60_code 5 (some .int) ∈ uu := uu_in (i := 1183) (by decide +kernel) (by decide +kernel)
theorem kw_1180 : Cond.methodLink "LandSurvey" 256 yX11_mayLieByAll ∈ uu := uu_in (i := 1180) (by decide +kernel) (by decide +kernel)
theorem kw_1182 : Cond.instanceMethod yX11_mayLieByAll ∈ uu := uu_in (i := 1182) (by decide +kernel) (by decide +kernel)
theorem kw_40 : Cond.selects "LandSurvey" yX11_mayLieByAll yX11_mayLieByAll ∈ uu := uu_in (i := 40) (by decide +kernel) (by decide +kernel)
theorem kw_170 : Cond.initialized "java/lang/Integer" ∈ uu := uu_in (i := 170) (by decide +kernel) (by decide +kernel)
theorem kw_1198 : Cond.code yJ6_bitCount_0f7a4 prog_19_method_49_code 1 (some .int) ∈ uu := uu_in (i := 1198) (by decide +kernel) (by decide +kernel)
theorem kw_1196 : Cond.methodLink "LandSurvey" 445 yJ6_bitCount_0f7a4 ∈ uu := uu_in (i := 1196) (by decide +kernel) (by decide +kernel)
theorem kw_1197 : Cond.static yJ6_bitCount_0f7a4 ∈ uu := uu_in (i := 1197) (by decide +kernel) (by decide +kernel)
theorem kw_976 : Cond.methodLink "LandSurvey" 399 yJ7_fill_53178 ∈ uu := uu_in (i := 976) (by decide +kernel) (by decide +kernel)
theorem kw_325 : Cond.fieldLink "LandSurvey$Rules" 81 "LandSurvey$Rules" "lines" "I" ∈ uu := uu_in (i := 325) (by decide +kernel) (by decide +kernel)
theorem dX11_groundOf_0 : decode cX11_groundOf 0 = .ok (.aload_n 0, 1) := by decide +kernel
theorem dX11_groundOf_1 : decode cX11_groundOf 1 = .ok (.iload_n 1, 1) := by decide +kernel
theorem dX11_groundOf_2 : decode cX11_groundOf 2 = .ok (.invokevirtual 231, 3) := by decide +kernel
theorem dX11_groundOf_5 : decode cX11_groundOf 5 = .ok (.ifCond .ne 5, 3) := by decide +kernel
theorem dX11_groundOf_10 : decode cX11_groundOf 10 = .ok (.aload_n 0, 1) := by decide +kernel
theorem dX11_groundOf_11 : decode cX11_groundOf 11 = .ok (.invokevirtual 169, 3) := by decide +kernel
theorem dX11_groundOf_14 : decode cX11_groundOf 14 = .ok (.aload_n 0, 1) := by decide +kernel
theorem dX11_groundOf_15 : decode cX11_groundOf 15 = .ok (.getfield 70, 3) := by decide +kernel
theorem dX11_groundOf_18 : decode cX11_groundOf 18 = .ok (.iload_n 1, 1) := by decide +kernel
theorem dX11_groundOf_19 : decode cX11_groundOf 19 = .ok (.aaload, 1) := by decide +kernel
theorem dX11_groundOf_20 : decode cX11_groundOf 20 = .ok (.astore_n 2, 1) := by decide +kernel
theorem dX11_groundOf_21 : decode cX11_groundOf 21 = .ok (.aload_n 2, 1) := by decide +kernel
theorem dX11_groundOf_22 : decode cX11_groundOf 22 = .ok (.getfield 389, 3) := by decide +kernel
theorem dX11_groundOf_25 : decode cX11_groundOf 25 = .ok (.ifCond .ne 11, 3) := by decide +kernel
theorem dX11_groundOf_28 : decode cX11_groundOf 28 = .ok (.aload_n 0, 1) := by decide +kernel
theorem dX11_groundOf_29 : decode cX11_groundOf 29 = .ok (.getfield 64, 3) := by decide +kernel
theorem dX11_groundOf_32 : decode cX11_groundOf 32 = .ok (.aload_n 2, 1) := by decide +kernel
theorem dX11_groundOf_33 : decode cX11_groundOf 33 = .ok (.invokevirtual 432, 3) := by decide +kernel
theorem dX11_groundOf_36 : decode cX11_groundOf 36 = .ok (.aload_n 2, 1) := by decide +kernel
theorem dX11_groundOf_37 : decode cX11_groundOf 37 = .ok (.getfield 435, 3) := by decide +kernel
theorem dX11_groundOf_40 : decode cX11_groundOf 40 = .ok (.ifCond .eq 7, 3) := by decide +kernel
theorem dX11_groundOf_43 : decode cX11_groundOf 43 = .ok (.aload_n 2, 1) := by decide +kernel
theorem dX11_groundOf_44 : decode cX11_groundOf 44 = .ok (.goto 4, 3) := by decide +kernel
theorem dX11_groundOf_48 : decode cX11_groundOf 48 = .ok (.areturn, 1) := by decide +kernel
theorem dX11_groundOf_8 : decode cX11_groundOf 8 = .ok (.aconst_null, 1) := by decide +kernel
theorem dX11_groundOf_9 : decode cX11_groundOf 9 = .ok (.areturn, 1) := by decide +kernel
theorem dX11_judge_0 : decode cX11_judge 0 = .ok (.aload_n 0, 1) := by decide +kernel
theorem dX11_judge_1 : decode cX11_judge 1 = .ok (.invokevirtual 169, 3) := by decide +kernel
theorem dX11_judge_4 : decode cX11_judge 4 = .ok (.aload_n 0, 1) := by decide +kernel
theorem dX11_judge_5 : decode cX11_judge 5 = .ok (.getfield 375, 3) := by decide +kernel
theorem dX11_judge_8 : decode cX11_judge 8 = .ok (.ifCond .ne 86, 3) := by decide +kernel
theorem dX11_judge_11 : decode cX11_judge 11 = .ok (.aload_n 0, 1) := by decide +kernel
theorem dX11_judge_12 : decode cX11_judge 12 = .ok (.iconst 1, 1) := by decide +kernel
theorem dX11_judge_13 : decode cX11_judge 13 = .ok (.putfield 375, 3) := by decide +kernel
theorem dX11_judge_16 : decode cX11_judge 16 = .ok (.aload_n 0, 1) := by decide +kernel
theorem dX11_judge_17 : decode cX11_judge 17 = .ok (.aconst_null, 1) := by decide +kernel
theorem dX11_judge_18 : decode cX11_judge 18 = .ok (.putfield 214, 3) := by decide +kernel
theorem dX11_judge_21 : decode cX11_judge 21 = .ok (.iconst 0, 1) := by decide +kernel
theorem dX11_judge_22 : decode cX11_judge 22 = .ok (.istore_n 1, 1) := by decide +kernel
theorem dX11_judge_23 : decode cX11_judge 23 = .ok (.iload_n 1, 1) := by decide +kernel
theorem dX11_judge_24 : decode cX11_judge 24 = .ok (.iconst 1, 1) := by decide +kernel
theorem dX11_judge_25 : decode cX11_judge 25 = .ok (.aload_n 0, 1) := by decide +kernel
theorem dX11_judge_26 : decode cX11_judge 26 = .ok (.getfield 157, 3) := by decide +kernel
theorem dX11_judge_29 : decode cX11_judge 29 = .ok (.ishl, 1) := by decide +kernel
theorem dX11_judge_30 : decode cX11_judge 30 = .ok (.if_icmp .ge 64, 3) := by decide +kernel
theorem dX11_judge_33 : decode cX11_judge 33 = .ok (.aload_n 0, 1) := by decide +kernel
theorem dX11_judge_34 : decode cX11_judge 34 = .ok (.getfield 70, 3) := by decide +kernel
theorem dX11_judge_37 : decode cX11_judge 37 = .ok (.iload_n 1, 1) := by decide +kernel
theorem dX11_judge_38 : decode cX11_judge 38 = .ok (.aaload, 1) := by decide +kernel
theorem dX11_judge_39 : decode cX11_judge 39 = .ok (.astore_n 2, 1) := by decide +kernel
theorem dX11_judge_40 : decode cX11_judge 40 = .ok (.aload_n 2, 1) := by decide +kernel
theorem dX11_judge_41 : decode cX11_judge 41 = .ok (.getfield 389, 3) := by decide +kernel
theorem dX11_judge_44 : decode cX11_judge 44 = .ok (.ifCond .ne 11, 3) := by decide +kernel
theorem dX11_judge_47 : decode cX11_judge 47 = .ok (.aload_n 0, 1) := by decide +kernel
theorem dX11_judge_48 : decode cX11_judge 48 = .ok (.getfield 64, 3) := by decide +kernel
theorem dX11_judge_51 : decode cX11_judge 51 = .ok (.aload_n 2, 1) := by decide +kernel
theorem dX11_judge_52 : decode cX11_judge 52 = .ok (.invokevirtual 432, 3) := by decide +kernel
theorem dX11_judge_55 : decode cX11_judge 55 = .ok (.aload_n 2, 1) := by decide +kernel
theorem dX11_judge_56 : decode cX11_judge 56 = .ok (.getfield 435, 3) := by decide +kernel
theorem dX11_judge_59 : decode cX11_judge 59 = .ok (.ifCond .eq 29, 3) := by decide +kernel
theorem dX11_judge_62 : decode cX11_judge 62 = .ok (.aload_n 0, 1) := by decide +kernel
theorem dX11_judge_63 : decode cX11_judge 63 = .ok (.getfield 214, 3) := by decide +kernel
theorem dX11_judge_66 : decode cX11_judge 66 = .ok (.ifnull 17, 3) := by decide +kernel
theorem dX11_judge_83 : decode cX11_judge 83 = .ok (.aload_n 0, 1) := by decide +kernel
theorem dX11_judge_84 : decode cX11_judge 84 = .ok (.aload_n 2, 1) := by decide +kernel
theorem dX11_judge_85 : decode cX11_judge 85 = .ok (.putfield 214, 3) := by decide +kernel
theorem dX11_judge_88 : decode cX11_judge 88 = .ok (.iinc 1 1, 3) := by decide +kernel
theorem dX11_judge_91 : decode cX11_judge 91 = .ok (.goto (-68), 3) := by decide +kernel
theorem dX11_judge_94 : decode cX11_judge 94 = .ok (.aload_n 0, 1) := by decide +kernel
theorem dX11_judge_95 : decode cX11_judge 95 = .ok (.getfield 214, 3) := by decide +kernel
theorem dX11_judge_98 : decode cX11_judge 98 = .ok (.ifnull 7, 3) := by decide +kernel
theorem dX11_judge_101 : decode cX11_judge 101 = .ok (.iconst 1, 1) := by decide +kernel
theorem dX11_judge_102 : decode cX11_judge 102 = .ok (.goto 4, 3) := by decide +kernel
theorem dX11_judge_106 : decode cX11_judge 106 = .ok (.ireturn, 1) := by decide +kernel
theorem dX11_isKept_0 : decode cX11_isKept 0 = .ok (.aload_n 0, 1) := by decide +kernel
theorem dX11_isKept_1 : decode cX11_isKept 1 = .ok (.getfield 214, 3) := by decide +kernel
theorem dX11_isKept_4 : decode cX11_isKept 4 = .ok (.ifnull 43, 3) := by decide +kernel
theorem dX11_isKept_7 : decode cX11_isKept 7 = .ok (.aload_n 0, 1) := by decide +kernel
theorem dX11_isKept_8 : decode cX11_isKept 8 = .ok (.getfield 70, 3) := by decide +kernel
theorem dX11_isKept_11 : decode cX11_isKept 11 = .ok (.iload_n 1, 1) := by decide +kernel
theorem dX11_isKept_12 : decode cX11_isKept 12 = .ok (.aaload, 1) := by decide +kernel
theorem dX11_isKept_13 : decode cX11_isKept 13 = .ok (.getfield 435, 3) := by decide +kernel
theorem dX11_isKept_16 : decode cX11_isKept 16 = .ok (.ifCond .eq 31, 3) := by decide +kernel
theorem dX11_isKept_19 : decode cX11_isKept 19 = .ok (.aload_n 0, 1) := by decide +kernel
theorem dX11_isKept_20 : decode cX11_isKept 20 = .ok (.getfield 70, 3) := by decide +kernel
theorem dX11_isKept_23 : decode cX11_isKept 23 = .ok (.iload_n 1, 1) := by decide +kernel
theorem dX11_isKept_24 : decode cX11_isKept 24 = .ok (.aaload, 1) := by decide +kernel
theorem dX11_isKept_25 : decode cX11_isKept 25 = .ok (.getfield 201, 3) := by decide +kernel
theorem dX11_isKept_28 : decode cX11_isKept 28 = .ok (.aload_n 0, 1) := by decide +kernel
theorem dX11_isKept_29 : decode cX11_isKept 29 = .ok (.getfield 214, 3) := by decide +kernel
theorem dX11_isKept_32 : decode cX11_isKept 32 = .ok (.getfield 201, 3) := by decide +kernel
theorem dX11_isKept_35 : decode cX11_isKept 35 = .ok (.aload_n 0, 1) := by decide +kernel
theorem dX11_isKept_36 : decode cX11_isKept 36 = .ok (.getfield 163, 3) := by decide +kernel
theorem dX11_isKept_39 : decode cX11_isKept 39 = .ok (.iadd, 1) := by decide +kernel
theorem dX11_isKept_40 : decode cX11_isKept 40 = .ok (.if_icmp .gt 7, 3) := by decide +kernel
theorem dX11_isKept_43 : decode cX11_isKept 43 = .ok (.iconst 1, 1) := by decide +kernel
theorem dX11_isKept_44 : decode cX11_isKept 44 = .ok (.goto 4, 3) := by decide +kernel
theorem dX11_isKept_48 : decode cX11_isKept 48 = .ok (.ireturn, 1) := by decide +kernel
theorem dX11_countKept_0 : decode cX11_countKept 0 = .ok (.iconst 0, 1) := by decide +kernel
theorem dX11_countKept_1 : decode cX11_countKept 1 = .ok (.istore_n 1, 1) := by decide +kernel
theorem dX11_countKept_2 : decode cX11_countKept 2 = .ok (.iconst 0, 1) := by decide +kernel
theorem dX11_countKept_3 : decode cX11_countKept 3 = .ok (.istore_n 2, 1) := by decide +kernel
theorem dX11_countKept_4 : decode cX11_countKept 4 = .ok (.iload_n 2, 1) := by decide +kernel
theorem dX11_countKept_5 : decode cX11_countKept 5 = .ok (.iconst 1, 1) := by decide +kernel
theorem dX11_countKept_6 : decode cX11_countKept 6 = .ok (.aload_n 0, 1) := by decide +kernel
theorem dX11_countKept_7 : decode cX11_countKept 7 = .ok (.getfield 157, 3) := by decide +kernel
theorem dX11_countKept_10 : decode cX11_countKept 10 = .ok (.ishl, 1) := by decide +kernel
theorem dX11_countKept_11 : decode cX11_countKept 11 = .ok (.if_icmp .ge 25, 3) := by decide +kernel
theorem dX11_countKept_14 : decode cX11_countKept 14 = .ok (.iload_n 1, 1) := by decide +kernel
theorem dX11_countKept_15 : decode cX11_countKept 15 = .ok (.aload_n 0, 1) := by decide +kernel
theorem dX11_countKept_16 : decode cX11_countKept 16 = .ok (.iload_n 2, 1) := by decide +kernel
theorem dX11_countKept_17 : decode cX11_countKept 17 = .ok (.invokevirtual 234, 3) := by decide +kernel
theorem dX11_countKept_20 : decode cX11_countKept 20 = .ok (.ifCond .eq 7, 3) := by decide +kernel
theorem dX11_countKept_23 : decode cX11_countKept 23 = .ok (.iconst 1, 1) := by decide +kernel
theorem dX11_countKept_24 : decode cX11_countKept 24 = .ok (.goto 4, 3) := by decide +kernel
theorem dX11_countKept_28 : decode cX11_countKept 28 = .ok (.iadd, 1) := by decide +kernel
theorem dX11_countKept_29 : decode cX11_countKept 29 = .ok (.istore_n 1, 1) := by decide +kernel
theorem dX11_countKept_30 : decode cX11_countKept 30 = .ok (.iinc 2 1, 3) := by decide +kernel
theorem dX11_countKept_33 : decode cX11_countKept 33 = .ok (.goto (-29), 3) := by decide +kernel
theorem dX11_countKept_36 : decode cX11_countKept 36 = .ok (.iload_n 1, 1) := by decide +kernel
theorem dX11_countKept_37 : decode cX11_countKept 37 = .ok (.ireturn, 1) := by decide +kernel
theorem dX11_prepare_0 : decode cX11_prepare 0 = .ok (.aload_n 0, 1) := by decide +kernel
theorem dX11_prepare_1 : decode cX11_prepare 1 = .ok (.invokevirtual 207, 3) := by decide +kernel
theorem dX11_prepare_4 : decode cX11_prepare 4 = .ok (.ifCond .ne 5, 3) := by decide +kernel
theorem dX11_prepare_9 : decode cX11_prepare 9 = .ok (.iconst 0, 1) := by decide +kernel
theorem dX11_prepare_10 : decode cX11_prepare 10 = .ok (.istore_n 1, 1) := by decide +kernel
theorem dX11_prepare_11 : decode cX11_prepare 11 = .ok (.iload_n 1, 1) := by decide +kernel
theorem dX11_prepare_12 : decode cX11_prepare 12 = .ok (.iconst 1, 1) := by decide +kernel
theorem dX11_prepare_13 : decode cX11_prepare 13 = .ok (.aload_n 0, 1) := by decide +kernel
theorem dX11_prepare_14 : decode cX11_prepare 14 = .ok (.getfield 157, 3) := by decide +kernel
theorem dX11_prepare_17 : decode cX11_prepare 17 = .ok (.ishl, 1) := by decide +kernel
theorem dX11_prepare_18 : decode cX11_prepare 18 = .ok (.if_icmp .ge 54, 3) := by decide +kernel
theorem dX11_prepare_21 : decode cX11_prepare 21 = .ok (.aload_n 0, 1) := by decide +kernel
theorem dX11_prepare_22 : decode cX11_prepare 22 = .ok (.iload_n 1, 1) := by decide +kernel
theorem dX11_prepare_23 : decode cX11_prepare 23 = .ok (.invokevirtual 234, 3) := by decide +kernel
theorem dX11_prepare_26 : decode cX11_prepare 26 = .ok (.ifCond .eq 40, 3) := by decide +kernel
theorem dX11_prepare_29 : decode cX11_prepare 29 = .ok (.aload_n 0, 1) := by decide +kernel
theorem dX11_prepare_30 : decode cX11_prepare 30 = .ok (.getfield 70, 3) := by decide +kernel
theorem dX11_prepare_33 : decode cX11_prepare 33 = .ok (.iload_n 1, 1) := by decide +kernel
theorem dX11_prepare_34 : decode cX11_prepare 34 = .ok (.aaload, 1) := by decide +kernel
theorem dX11_prepare_35 : decode cX11_prepare 35 = .ok (.getfield 237, 3) := by decide +kernel
theorem dX11_prepare_38 : decode cX11_prepare 38 = .ok (.ifCond .eq 28, 3) := by decide +kernel
theorem dX11_prepare_66 : decode cX11_prepare 66 = .ok (.iinc 1 1, 3) := by decide +kernel
theorem dX11_prepare_69 : decode cX11_prepare 69 = .ok (.goto (-58), 3) := by decide +kernel
theorem dX11_prepare_72 : decode cX11_prepare 72 = .ok (.iconst 1, 1) := by decide +kernel
theorem dX11_prepare_73 : decode cX11_prepare 73 = .ok (.ireturn, 1) := by decide +kernel
theorem dX11_allKeptKnown_0 : decode cX11_allKeptKnown 0 = .ok (.iconst 0, 1) := by decide +kernel
theorem dX11_allKeptKnown_1 : decode cX11_allKeptKnown 1 = .ok (.istore_n 1, 1) := by decide +kernel
theorem dX11_allKeptKnown_2 : decode cX11_allKeptKnown 2 = .ok (.iload_n 1, 1) := by decide +kernel
theorem dX11_allKeptKnown_3 : decode cX11_allKeptKnown 3 = .ok (.iconst 1, 1) := by decide +kernel
theorem dX11_allKeptKnown_4 : decode cX11_allKeptKnown 4 = .ok (.aload_n 0, 1) := by decide +kernel
theorem dX11_allKeptKnown_5 : decode cX11_allKeptKnown 5 = .ok (.getfield 157, 3) := by decide +kernel
theorem dX11_allKeptKnown_8 : decode cX11_allKeptKnown 8 = .ok (.ishl, 1) := by decide +kernel
theorem dX11_allKeptKnown_9 : decode cX11_allKeptKnown 9 = .ok (.if_icmp .ge 31, 3) := by decide +kernel
theorem dX11_allKeptKnown_12 : decode cX11_allKeptKnown 12 = .ok (.aload_n 0, 1) := by decide +kernel
theorem dX11_allKeptKnown_13 : decode cX11_allKeptKnown 13 = .ok (.iload_n 1, 1) := by decide +kernel
theorem dX11_allKeptKnown_14 : decode cX11_allKeptKnown 14 = .ok (.invokevirtual 234, 3) := by decide +kernel
theorem dX11_allKeptKnown_17 : decode cX11_allKeptKnown 17 = .ok (.ifCond .eq 17, 3) := by decide +kernel
theorem dX11_allKeptKnown_20 : decode cX11_allKeptKnown 20 = .ok (.aload_n 0, 1) := by decide +kernel
theorem dX11_allKeptKnown_21 : decode cX11_allKeptKnown 21 = .ok (.getfield 70, 3) := by decide +kernel
theorem dX11_allKeptKnown_24 : decode cX11_allKeptKnown 24 = .ok (.iload_n 1, 1) := by decide +kernel
theorem dX11_allKeptKnown_25 : decode cX11_allKeptKnown 25 = .ok (.aaload, 1) := by decide +kernel
theorem dX11_allKeptKnown_26 : decode cX11_allKeptKnown 26 = .ok (.getfield 237, 3) := by decide +kernel
theorem dX11_allKeptKnown_29 : decode cX11_allKeptKnown 29 = .ok (.ifCond .ne 5, 3) := by decide +kernel
theorem dX11_allKeptKnown_32 : decode cX11_allKeptKnown 32 = .ok (.iconst 0, 1) := by decide +kernel
theorem dX11_allKeptKnown_33 : decode cX11_allKeptKnown 33 = .ok (.ireturn, 1) := by decide +kernel
theorem dX11_knownBest_0 : decode cX11_knownBest 0 = .ok (.aload_n 0, 1) := by decide +kernel
theorem dX11_knownBest_1 : decode cX11_knownBest 1 = .ok (.invokevirtual 207, 3) := by decide +kernel
theorem dX11_knownBest_4 : decode cX11_knownBest 4 = .ok (.ifCond .eq 13, 3) := by decide +kernel
theorem dX11_knownBest_7 : decode cX11_knownBest 7 = .ok (.aload_n 0, 1) := by decide +kernel
theorem dX11_knownBest_8 : decode cX11_knownBest 8 = .ok (.getfield 214, 3) := by decide +kernel
theorem dX11_knownBest_11 : decode cX11_knownBest 11 = .ok (.getfield 237, 3) := by decide +kernel
theorem dX11_knownBest_14 : decode cX11_knownBest 14 = .ok (.ifCond .ne 5, 3) := by decide +kernel
theorem dX11_knownBest_17 : decode cX11_knownBest 17 = .ok (.aconst_null, 1) := by decide +kernel
theorem dX11_knownBest_18 : decode cX11_knownBest 18 = .ok (.areturn, 1) := by decide +kernel
theorem dX11_mayLie_0 : decode cX11_mayLie 0 = .ok (.aload_n 1, 1) := by decide +kernel
theorem dX11_mayLie_1 : decode cX11_mayLie 1 = .ok (.getfield 237, 3) := by decide +kernel
theorem dX11_mayLie_4 : decode cX11_mayLie 4 = .ok (.ifCond .ne 23, 3) := by decide +kernel
theorem dX11_mayLie_7 : decode cX11_mayLie 7 = .ok (.iconst 1, 1) := by decide +kernel
theorem dX11_mayLie_8 : decode cX11_mayLie 8 = .ok (.aload_n 0, 1) := by decide +kernel
theorem dX11_mayLie_9 : decode cX11_mayLie 9 = .ok (.getfield 44, 3) := by decide +kernel
theorem dX11_mayLie_12 : decode cX11_mayLie 12 = .ok (.getfield 284, 3) := by decide +kernel
theorem dX11_mayLie_15 : decode cX11_mayLie 15 = .ok (.ishl, 1) := by decide +kernel
theorem dX11_mayLie_16 : decode cX11_mayLie 16 = .ok (.iconst 1, 1) := by decide +kernel
theorem dX11_mayLie_17 : decode cX11_mayLie 17 = .ok (.isub, 1) := by decide +kernel
theorem dX11_mayLie_18 : decode cX11_mayLie 18 = .ok (.sipush 1024, 3) := by decide +kernel
theorem dX11_mayLie_21 : decode cX11_mayLie 21 = .ok (.ior, 1) := by decide +kernel
theorem dX11_mayLie_22 : decode cX11_mayLie 22 = .ok (.sipush 2048, 3) := by decide +kernel
theorem dX11_mayLie_25 : decode cX11_mayLie 25 = .ok (.ior, 1) := by decide +kernel
theorem dX11_mayLie_26 : decode cX11_mayLie 26 = .ok (.ireturn, 1) := by decide +kernel
theorem dX11_mayLieByAll_0 : decode cX11_mayLieByAll 0 = .ok (.iconst 0, 1) := by decide +kernel
theorem dX11_mayLieByAll_1 : decode cX11_mayLieByAll 1 = .ok (.istore_n 3, 1) := by decide +kernel
theorem dX11_mayLieByAll_2 : decode cX11_mayLieByAll 2 = .ok (.iconst 0, 1) := by decide +kernel
theorem dX11_mayLieByAll_3 : decode cX11_mayLieByAll 3 = .ok (.istore 4, 2) := by decide +kernel
theorem dX11_mayLieByAll_5 : decode cX11_mayLieByAll 5 = .ok (.iload 4, 2) := by decide +kernel
theorem dX11_mayLieByAll_7 : decode cX11_mayLieByAll 7 = .ok (.iconst 1, 1) := by decide +kernel
theorem dX11_mayLieByAll_8 : decode cX11_mayLieByAll 8 = .ok (.aload_n 0, 1) := by decide +kernel
theorem dX11_mayLieByAll_9 : decode cX11_mayLieByAll 9 = .ok (.getfield 157, 3) := by decide +kernel
theorem dX11_mayLieByAll_12 : decode cX11_mayLieByAll 12 = .ok (.ishl, 1) := by decide +kernel
theorem dX11_mayLieByAll_13 : decode cX11_mayLieByAll 13 = .ok (.if_icmp .ge 34, 3) := by decide +kernel
theorem dX11_mayLieByAll_16 : decode cX11_mayLieByAll 16 = .ok (.aload_n 0, 1) := by decide +kernel
theorem dX11_mayLieByAll_17 : decode cX11_mayLieByAll 17 = .ok (.iload 4, 2) := by decide +kernel
theorem dX11_mayLieByAll_19 : decode cX11_mayLieByAll 19 = .ok (.invokevirtual 234, 3) := by decide +kernel
theorem dX11_mayLieByAll_22 : decode cX11_mayLieByAll 22 = .ok (.ifCond .eq 19, 3) := by decide +kernel
theorem dX11_mayLieByAll_25 : decode cX11_mayLieByAll 25 = .ok (.iload_n 3, 1) := by decide +kernel
theorem dX11_mayLieByAll_26 : decode cX11_mayLieByAll 26 = .ok (.aload_n 0, 1) := by decide +kernel
theorem dX11_mayLieByAll_27 : decode cX11_mayLieByAll 27 = .ok (.aload_n 0, 1) := by decide +kernel
theorem dX11_mayLieByAll_28 : decode cX11_mayLieByAll 28 = .ok (.getfield 70, 3) := by decide +kernel
theorem dX11_mayLieByAll_31 : decode cX11_mayLieByAll 31 = .ok (.iload 4, 2) := by decide +kernel
theorem dX11_mayLieByAll_33 : decode cX11_mayLieByAll 33 = .ok (.aaload, 1) := by decide +kernel
theorem dX11_mayLieByAll_34 : decode cX11_mayLieByAll 34 = .ok (.iload_n 1, 1) := by decide +kernel
theorem dX11_mayLieByAll_35 : decode cX11_mayLieByAll 35 = .ok (.iload_n 2, 1) := by decide +kernel
theorem dX11_mayLieByAll_36 : decode cX11_mayLieByAll 36 = .ok (.invokevirtual 441, 3) := by decide +kernel
theorem dX11_mayLieByAll_39 : decode cX11_mayLieByAll 39 = .ok (.ior, 1) := by decide +kernel
theorem dX11_mayLieByAll_40 : decode cX11_mayLieByAll 40 = .ok (.istore_n 3, 1) := by decide +kernel
theorem dX11_mayLieByAll_41 : decode cX11_mayLieByAll 41 = .ok (.iinc 4 1, 3) := by decide +kernel
theorem dX11_mayLieByAll_44 : decode cX11_mayLieByAll 44 = .ok (.goto (-39), 3) := by decide +kernel
theorem dX11_mayLieByAll_47 : decode cX11_mayLieByAll 47 = .ok (.iload_n 3, 1) := by decide +kernel
theorem dX11_mayLieByAll_48 : decode cX11_mayLieByAll 48 = .ok (.ireturn, 1) := by decide +kernel
theorem dJ6_bitCount_0f7a4_0 : decode cJ6_bitCount_0f7a4 0 = .ok (.iload_n 0, 1) := by decide +kernel
theorem dJ6_bitCount_0f7a4_1 : decode cJ6_bitCount_0f7a4 1 = .ok (.iload_n 0, 1) := by decide +kernel
theorem dJ6_bitCount_0f7a4_2 : decode cJ6_bitCount_0f7a4 2 = .ok (.iconst 1, 1) := by decide +kernel
theorem dJ6_bitCount_0f7a4_3 : decode cJ6_bitCount_0f7a4 3 = .ok (.iushr, 1) := by decide +kernel
theorem dJ6_bitCount_0f7a4_4 : decode cJ6_bitCount_0f7a4 4 = .ok (.ldc_w 265, 3) := by decide +kernel
theorem dJ6_bitCount_0f7a4_7 : decode cJ6_bitCount_0f7a4 7 = .ok (.iand, 1) := by decide +kernel
theorem dJ6_bitCount_0f7a4_8 : decode cJ6_bitCount_0f7a4 8 = .ok (.isub, 1) := by decide +kernel
theorem dJ6_bitCount_0f7a4_9 : decode cJ6_bitCount_0f7a4 9 = .ok (.istore_n 0, 1) := by decide +kernel
theorem dJ6_bitCount_0f7a4_10 : decode cJ6_bitCount_0f7a4 10 = .ok (.iload_n 0, 1) := by decide +kernel
theorem dJ6_bitCount_0f7a4_11 : decode cJ6_bitCount_0f7a4 11 = .ok (.ldc_w 266, 3) := by decide +kernel
theorem dJ6_bitCount_0f7a4_14 : decode cJ6_bitCount_0f7a4 14 = .ok (.iand, 1) := by decide +kernel
theorem dJ6_bitCount_0f7a4_15 : decode cJ6_bitCount_0f7a4 15 = .ok (.iload_n 0, 1) := by decide +kernel
theorem dJ6_bitCount_0f7a4_16 : decode cJ6_bitCount_0f7a4 16 = .ok (.iconst 2, 1) := by decide +kernel
theorem dJ6_bitCount_0f7a4_17 : decode cJ6_bitCount_0f7a4 17 = .ok (.iushr, 1) := by decide +kernel
theorem dJ6_bitCount_0f7a4_18 : decode cJ6_bitCount_0f7a4 18 = .ok (.ldc_w 266, 3) := by decide +kernel
theorem dJ6_bitCount_0f7a4_21 : decode cJ6_bitCount_0f7a4 21 = .ok (.iand, 1) := by decide +kernel
theorem dJ6_bitCount_0f7a4_22 : decode cJ6_bitCount_0f7a4 22 = .ok (.iadd, 1) := by decide +kernel
theorem dJ6_bitCount_0f7a4_23 : decode cJ6_bitCount_0f7a4 23 = .ok (.istore_n 0, 1) := by decide +kernel
theorem dJ6_bitCount_0f7a4_24 : decode cJ6_bitCount_0f7a4 24 = .ok (.iload_n 0, 1) := by decide +kernel
theorem dJ6_bitCount_0f7a4_25 : decode cJ6_bitCount_0f7a4 25 = .ok (.iload_n 0, 1) := by decide +kernel
theorem dJ6_bitCount_0f7a4_26 : decode cJ6_bitCount_0f7a4 26 = .ok (.iconst 4, 1) := by decide +kernel
theorem dJ6_bitCount_0f7a4_27 : decode cJ6_bitCount_0f7a4 27 = .ok (.iushr, 1) := by decide +kernel
theorem dJ6_bitCount_0f7a4_28 : decode cJ6_bitCount_0f7a4 28 = .ok (.iadd, 1) := by decide +kernel
theorem dJ6_bitCount_0f7a4_29 : decode cJ6_bitCount_0f7a4 29 = .ok (.ldc_w 267, 3) := by decide +kernel
theorem dJ6_bitCount_0f7a4_32 : decode cJ6_bitCount_0f7a4 32 = .ok (.iand, 1) := by decide +kernel
theorem dJ6_bitCount_0f7a4_33 : decode cJ6_bitCount_0f7a4 33 = .ok (.istore_n 0, 1) := by decide +kernel
theorem dJ6_bitCount_0f7a4_34 : decode cJ6_bitCount_0f7a4 34 = .ok (.iload_n 0, 1) := by decide +kernel
theorem dJ6_bitCount_0f7a4_35 : decode cJ6_bitCount_0f7a4 35 = .ok (.iload_n 0, 1) := by decide +kernel
theorem dJ6_bitCount_0f7a4_36 : decode cJ6_bitCount_0f7a4 36 = .ok (.bipush 8, 2) := by decide +kernel
theorem dJ6_bitCount_0f7a4_38 : decode cJ6_bitCount_0f7a4 38 = .ok (.iushr, 1) := by decide +kernel
theorem dJ6_bitCount_0f7a4_39 : decode cJ6_bitCount_0f7a4 39 = .ok (.iadd, 1) := by decide +kernel
theorem dJ6_bitCount_0f7a4_40 : decode cJ6_bitCount_0f7a4 40 = .ok (.istore_n 0, 1) := by decide +kernel
theorem dJ6_bitCount_0f7a4_41 : decode cJ6_bitCount_0f7a4 41 = .ok (.iload_n 0, 1) := by decide +kernel
theorem dJ6_bitCount_0f7a4_42 : decode cJ6_bitCount_0f7a4 42 = .ok (.iload_n 0, 1) := by decide +kernel
theorem dJ6_bitCount_0f7a4_43 : decode cJ6_bitCount_0f7a4 43 = .ok (.bipush 16, 2) := by decide +kernel
theorem dJ6_bitCount_0f7a4_45 : decode cJ6_bitCount_0f7a4 45 = .ok (.iushr, 1) := by decide +kernel
theorem dJ6_bitCount_0f7a4_46 : decode cJ6_bitCount_0f7a4 46 = .ok (.iadd, 1) := by decide +kernel
theorem dJ6_bitCount_0f7a4_47 : decode cJ6_bitCount_0f7a4 47 = .ok (.istore_n 0, 1) := by decide +kernel
theorem dJ6_bitCount_0f7a4_48 : decode cJ6_bitCount_0f7a4 48 = .ok (.iload_n 0, 1) := by decide +kernel
theorem dJ6_bitCount_0f7a4_49 : decode cJ6_bitCount_0f7a4 49 = .ok (.bipush 63, 2) := by decide +kernel
theorem dJ6_bitCount_0f7a4_51 : decode cJ6_bitCount_0f7a4 51 = .ok (.iand, 1) := by decide +kernel
theorem dJ6_bitCount_0f7a4_52 : decode cJ6_bitCount_0f7a4 52 = .ok (.ireturn, 1) := by decide +kernel
theorem dJ13_bitCount_95d88_0 : decode cJ13_bitCount_95d88 0 = .ok (.lload_n 0, 1) := by decide +kernel
theorem dJ13_bitCount_95d88_1 : decode cJ13_bitCount_95d88 1 = .ok (.lload_n 0, 1) := by decide +kernel
theorem dJ13_bitCount_95d88_2 : decode cJ13_bitCount_95d88 2 = .ok (.iconst 1, 1) := by decide +kernel
theorem dJ13_bitCount_95d88_3 : decode cJ13_bitCount_95d88 3 = .ok (.lushr, 1) := by decide +kernel
theorem dJ13_bitCount_95d88_4 : decode cJ13_bitCount_95d88 4 = .ok (.ldc2_w 314, 3) := by decide +kernel
theorem dJ13_bitCount_95d88_7 : decode cJ13_bitCount_95d88 7 = .ok (.land, 1) := by decide +kernel
theorem dJ13_bitCount_95d88_8 : decode cJ13_bitCount_95d88 8 = .ok (.lsub, 1) := by decide +kernel
theorem dJ13_bitCount_95d88_9 : decode cJ13_bitCount_95d88 9 = .ok (.lstore_n 0, 1) := by decide +kernel
theorem dJ13_bitCount_95d88_10 : decode cJ13_bitCount_95d88 10 = .ok (.lload_n 0, 1) := by decide +kernel
theorem dJ13_bitCount_95d88_11 : decode cJ13_bitCount_95d88 11 = .ok (.ldc2_w 316, 3) := by decide +kernel
theorem dJ13_bitCount_95d88_14 : decode cJ13_bitCount_95d88 14 = .ok (.land, 1) := by decide +kernel
theorem dJ13_bitCount_95d88_15 : decode cJ13_bitCount_95d88 15 = .ok (.lload_n 0, 1) := by decide +kernel
theorem dJ13_bitCount_95d88_16 : decode cJ13_bitCount_95d88 16 = .ok (.iconst 2, 1) := by decide +kernel
theorem dJ13_bitCount_95d88_17 : decode cJ13_bitCount_95d88 17 = .ok (.lushr, 1) := by decide +kernel
theorem dJ13_bitCount_95d88_18 : decode cJ13_bitCount_95d88 18 = .ok (.ldc2_w 316, 3) := by decide +kernel
theorem dJ13_bitCount_95d88_21 : decode cJ13_bitCount_95d88 21 = .ok (.land, 1) := by decide +kernel
theorem dJ13_bitCount_95d88_22 : decode cJ13_bitCount_95d88 22 = .ok (.ladd, 1) := by decide +kernel
theorem dJ13_bitCount_95d88_23 : decode cJ13_bitCount_95d88 23 = .ok (.lstore_n 0, 1) := by decide +kernel
theorem dJ13_bitCount_95d88_24 : decode cJ13_bitCount_95d88 24 = .ok (.lload_n 0, 1) := by decide +kernel
theorem dJ13_bitCount_95d88_25 : decode cJ13_bitCount_95d88 25 = .ok (.lload_n 0, 1) := by decide +kernel
theorem dJ13_bitCount_95d88_26 : decode cJ13_bitCount_95d88 26 = .ok (.iconst 4, 1) := by decide +kernel
theorem dJ13_bitCount_95d88_27 : decode cJ13_bitCount_95d88 27 = .ok (.lushr, 1) := by decide +kernel
theorem dJ13_bitCount_95d88_28 : decode cJ13_bitCount_95d88 28 = .ok (.ladd, 1) := by decide +kernel
theorem dJ13_bitCount_95d88_29 : decode cJ13_bitCount_95d88 29 = .ok (.ldc2_w 318, 3) := by decide +kernel
theorem dJ13_bitCount_95d88_32 : decode cJ13_bitCount_95d88 32 = .ok (.land, 1) := by decide +kernel
theorem dJ13_bitCount_95d88_33 : decode cJ13_bitCount_95d88 33 = .ok (.lstore_n 0, 1) := by decide +kernel
theorem dJ13_bitCount_95d88_34 : decode cJ13_bitCount_95d88 34 = .ok (.lload_n 0, 1) := by decide +kernel
theorem dJ13_bitCount_95d88_35 : decode cJ13_bitCount_95d88 35 = .ok (.lload_n 0, 1) := by decide +kernel
theorem dJ13_bitCount_95d88_36 : decode cJ13_bitCount_95d88 36 = .ok (.bipush 8, 2) := by decide +kernel
theorem dJ13_bitCount_95d88_38 : decode cJ13_bitCount_95d88 38 = .ok (.lushr, 1) := by decide +kernel
theorem dJ13_bitCount_95d88_39 : decode cJ13_bitCount_95d88 39 = .ok (.ladd, 1) := by decide +kernel
theorem dJ13_bitCount_95d88_40 : decode cJ13_bitCount_95d88 40 = .ok (.lstore_n 0, 1) := by decide +kernel
theorem dJ13_bitCount_95d88_41 : decode cJ13_bitCount_95d88 41 = .ok (.lload_n 0, 1) := by decide +kernel
theorem dJ13_bitCount_95d88_42 : decode cJ13_bitCount_95d88 42 = .ok (.lload_n 0, 1) := by decide +kernel
theorem dJ13_bitCount_95d88_43 : decode cJ13_bitCount_95d88 43 = .ok (.bipush 16, 2) := by decide +kernel
theorem dJ13_bitCount_95d88_45 : decode cJ13_bitCount_95d88 45 = .ok (.lushr, 1) := by decide +kernel
theorem dJ13_bitCount_95d88_46 : decode cJ13_bitCount_95d88 46 = .ok (.ladd, 1) := by decide +kernel
theorem dJ13_bitCount_95d88_47 : decode cJ13_bitCount_95d88 47 = .ok (.lstore_n 0, 1) := by decide +kernel
theorem dJ13_bitCount_95d88_48 : decode cJ13_bitCount_95d88 48 = .ok (.lload_n 0, 1) := by decide +kernel
theorem dJ13_bitCount_95d88_49 : decode cJ13_bitCount_95d88 49 = .ok (.lload_n 0, 1) := by decide +kernel
theorem dJ13_bitCount_95d88_50 : decode cJ13_bitCount_95d88 50 = .ok (.bipush 32, 2) := by decide +kernel
theorem dJ13_bitCount_95d88_52 : decode cJ13_bitCount_95d88 52 = .ok (.lushr, 1) := by decide +kernel
theorem dJ13_bitCount_95d88_53 : decode cJ13_bitCount_95d88 53 = .ok (.ladd, 1) := by decide +kernel
theorem dJ13_bitCount_95d88_54 : decode cJ13_bitCount_95d88 54 = .ok (.lstore_n 0, 1) := by decide +kernel
theorem dJ13_bitCount_95d88_55 : decode cJ13_bitCount_95d88 55 = .ok (.lload_n 0, 1) := by decide +kernel
theorem dJ13_bitCount_95d88_56 : decode cJ13_bitCount_95d88 56 = .ok (.l2i, 1) := by decide +kernel
theorem dJ13_bitCount_95d88_57 : decode cJ13_bitCount_95d88 57 = .ok (.bipush 127, 2) := by decide +kernel
theorem dJ13_bitCount_95d88_59 : decode cJ13_bitCount_95d88 59 = .ok (.iand, 1) := by decide +kernel
theorem dJ13_bitCount_95d88_60 : decode cJ13_bitCount_95d88 60 = .ok (.ireturn, 1) := by decide +kernel
theorem dX11_countSaying_0 : decode cX11_countSaying 0 = .ok (.iconst 0, 1) := by decide +kernel
theorem dX11_countSaying_1 : decode cX11_countSaying 1 = .ok (.istore_n 2, 1) := by decide +kernel
theorem dX11_countSaying_2 : decode cX11_countSaying 2 = .ok (.iconst 0, 1) := by decide +kernel
theorem dX11_countSaying_3 : decode cX11_countSaying 3 = .ok (.istore_n 3, 1) := by decide +kernel
theorem dX11_countSaying_4 : decode cX11_countSaying 4 = .ok (.iload_n 3, 1) := by decide +kernel
theorem dX11_countSaying_5 : decode cX11_countSaying 5 = .ok (.aload_n 0, 1) := by decide +kernel
theorem dX11_countSaying_6 : decode cX11_countSaying 6 = .ok (.getfield 102, 3) := by decide +kernel
theorem dX11_countSaying_9 : decode cX11_countSaying 9 = .ok (.if_icmp .ge 41, 3) := by decide +kernel
theorem dX11_countSaying_50 : decode cX11_countSaying 50 = .ok (.iload_n 2, 1) := by decide +kernel
theorem dX11_countSaying_51 : decode cX11_countSaying 51 = .ok (.ireturn, 1) := by decide +kernel
theorem dX11_countCertain_0 : decode cX11_countCertain 0 = .ok (.iconst 0, 1) := by decide +kernel
theorem dX11_countCertain_1 : decode cX11_countCertain 1 = .ok (.istore_n 1, 1) := by decide +kernel
theorem dX11_countCertain_2 : decode cX11_countCertain 2 = .ok (.iconst 0, 1) := by decide +kernel
theorem dX11_countCertain_3 : decode cX11_countCertain 3 = .ok (.istore_n 2, 1) := by decide +kernel
theorem dX11_countCertain_4 : decode cX11_countCertain 4 = .ok (.iload_n 2, 1) := by decide +kernel
theorem dX11_countCertain_5 : decode cX11_countCertain 5 = .ok (.bipush 96, 2) := by decide +kernel
theorem dX11_countCertain_7 : decode cX11_countCertain 7 = .ok (.if_icmp .ge 30, 3) := by decide +kernel
theorem dX11_countCertain_37 : decode cX11_countCertain 37 = .ok (.iload_n 1, 1) := by decide +kernel
theorem dX11_countCertain_38 : decode cX11_countCertain 38 = .ok (.ireturn, 1) := by decide +kernel
theorem dX11_countCertain_10 : decode cX11_countCertain 10 = .ok (.iload_n 1, 1) := by decide +kernel
theorem dX11_countCertain_11 : decode cX11_countCertain 11 = .ok (.aload_n 0, 1) := by decide +kernel
theorem dX11_countCertain_12 : decode cX11_countCertain 12 = .ok (.iload_n 2, 1) := by decide +kernel
theorem dX11_countCertain_13 : decode cX11_countCertain 13 = .ok (.iconst 0, 1) := by decide +kernel
theorem dX11_countCertain_14 : decode cX11_countCertain 14 = .ok (.invokevirtual 256, 3) := by decide +kernel
theorem dX11_countCertain_17 : decode cX11_countCertain 17 = .ok (.invokestatic 445, 3) := by decide +kernel
theorem dX11_countCertain_20 : decode cX11_countCertain 20 = .ok (.iconst 1, 1) := by decide +kernel
theorem dX11_countCertain_21 : decode cX11_countCertain 21 = .ok (.if_icmp .ne 7, 3) := by decide +kernel
theorem dX11_countCertain_28 : decode cX11_countCertain 28 = .ok (.iconst 0, 1) := by decide +kernel
theorem dX11_countCertain_29 : decode cX11_countCertain 29 = .ok (.iadd, 1) := by decide +kernel
theorem dX11_countCertain_30 : decode cX11_countCertain 30 = .ok (.istore_n 1, 1) := by decide +kernel
theorem dX11_countCertain_31 : decode cX11_countCertain 31 = .ok (.iinc 2 1, 3) := by decide +kernel
theorem dX11_countCertain_34 : decode cX11_countCertain 34 = .ok (.goto (-30), 3) := by decide +kernel
theorem dX11_gatherLineFacts_0 : decode cX11_gatherLineFacts 0 = .ok (.iconst 0, 1) := by decide +kernel
theorem dX11_gatherLineFacts_1 : decode cX11_gatherLineFacts 1 = .ok (.istore_n 3, 1) := by decide +kernel
theorem dX11_gatherLineFacts_2 : decode cX11_gatherLineFacts 2 = .ok (.iconst 0, 1) := by decide +kernel
theorem dX11_gatherLineFacts_3 : decode cX11_gatherLineFacts 3 = .ok (.istore 4, 2) := by decide +kernel
theorem dX11_gatherLineFacts_5 : decode cX11_gatherLineFacts 5 = .ok (.iconst 0, 1) := by decide +kernel
theorem dX11_gatherLineFacts_6 : decode cX11_gatherLineFacts 6 = .ok (.istore 5, 2) := by decide +kernel
theorem dX11_gatherLineFacts_8 : decode cX11_gatherLineFacts 8 = .ok (.iconst 0, 1) := by decide +kernel
theorem dX11_gatherLineFacts_9 : decode cX11_gatherLineFacts 9 = .ok (.istore 6, 2) := by decide +kernel
theorem dX11_gatherLineFacts_11 : decode cX11_gatherLineFacts 11 = .ok (.iconst 0, 1) := by decide +kernel
theorem dX11_gatherLineFacts_12 : decode cX11_gatherLineFacts 12 = .ok (.istore 7, 2) := by decide +kernel
theorem dX11_gatherLineFacts_14 : decode cX11_gatherLineFacts 14 = .ok (.iload 7, 2) := by decide +kernel
theorem dX11_gatherLineFacts_16 : decode cX11_gatherLineFacts 16 = .ok (.iconst 1, 1) := by decide +kernel
theorem dX11_gatherLineFacts_17 : decode cX11_gatherLineFacts 17 = .ok (.aload_n 0, 1) := by decide +kernel
theorem dX11_gatherLineFacts_18 : decode cX11_gatherLineFacts 18 = .ok (.getfield 157, 3) := by decide +kernel
theorem dX11_gatherLineFacts_21 : decode cX11_gatherLineFacts 21 = .ok (.ishl, 1) := by decide +kernel
theorem dX11_gatherLineFacts_22 : decode cX11_gatherLineFacts 22 = .ok (.if_icmp .ge 138, 3) := by decide +kernel
theorem dX11_gatherLineFacts_25 : decode cX11_gatherLineFacts 25 = .ok (.aload_n 0, 1) := by decide +kernel
theorem dX11_gatherLineFacts_26 : decode cX11_gatherLineFacts 26 = .ok (.iload 7, 2) := by decide +kernel
theorem dX11_gatherLineFacts_28 : decode cX11_gatherLineFacts 28 = .ok (.invokevirtual 234, 3) := by decide +kernel
theorem dX11_gatherLineFacts_31 : decode cX11_gatherLineFacts 31 = .ok (.ifCond .eq 123, 3) := by decide +kernel
theorem dX11_gatherLineFacts_34 : decode cX11_gatherLineFacts 34 = .ok (.aload_n 0, 1) := by decide +kernel
theorem dX11_gatherLineFacts_35 : decode cX11_gatherLineFacts 35 = .ok (.aload_n 0, 1) := by decide +kernel
theorem dX11_gatherLineFacts_36 : decode cX11_gatherLineFacts 36 = .ok (.getfield 70, 3) := by decide +kernel
theorem dX11_gatherLineFacts_39 : decode cX11_gatherLineFacts 39 = .ok (.iload 7, 2) := by decide +kernel
theorem dX11_gatherLineFacts_41 : decode cX11_gatherLineFacts 41 = .ok (.aaload, 1) := by decide +kernel
theorem dX11_gatherLineFacts_42 : decode cX11_gatherLineFacts 42 = .ok (.iload_n 1, 1) := by decide +kernel
theorem dX11_gatherLineFacts_43 : decode cX11_gatherLineFacts 43 = .ok (.iconst 0, 1) := by decide +kernel
theorem dX11_gatherLineFacts_44 : decode cX11_gatherLineFacts 44 = .ok (.invokevirtual 441, 3) := by decide +kernel
theorem dX11_gatherLineFacts_47 : decode cX11_gatherLineFacts 47 = .ok (.istore 8, 2) := by decide +kernel
theorem dX11_gatherLineFacts_49 : decode cX11_gatherLineFacts 49 = .ok (.aload_n 0, 1) := by decide +kernel
theorem dX11_gatherLineFacts_50 : decode cX11_gatherLineFacts 50 = .ok (.aload_n 0, 1) := by decide +kernel
theorem dX11_gatherLineFacts_51 : decode cX11_gatherLineFacts 51 = .ok (.getfield 70, 3) := by decide +kernel
theorem dX11_gatherLineFacts_54 : decode cX11_gatherLineFacts 54 = .ok (.iload 7, 2) := by decide +kernel
theorem dX11_gatherLineFacts_56 : decode cX11_gatherLineFacts 56 = .ok (.aaload, 1) := by decide +kernel
theorem dX11_gatherLineFacts_57 : decode cX11_gatherLineFacts 57 = .ok (.iload_n 2, 1) := by decide +kernel
theorem dX11_gatherLineFacts_58 : decode cX11_gatherLineFacts 58 = .ok (.iconst 0, 1) := by decide +kernel
theorem dX11_gatherLineFacts_59 : decode cX11_gatherLineFacts 59 = .ok (.invokevirtual 441, 3) := by decide +kernel
theorem dX11_gatherLineFacts_62 : decode cX11_gatherLineFacts 62 = .ok (.istore 9, 2) := by decide +kernel
theorem dX11_gatherLineFacts_64 : decode cX11_gatherLineFacts 64 = .ok (.iload 8, 2) := by decide +kernel
theorem dX11_gatherLineFacts_66 : decode cX11_gatherLineFacts 66 = .ok (.invokestatic 445, 3) := by decide +kernel
theorem dX11_gatherLineFacts_69 : decode cX11_gatherLineFacts 69 = .ok (.iconst 1, 1) := by decide +kernel
theorem dX11_gatherLineFacts_70 : decode cX11_gatherLineFacts 70 = .ok (.if_icmp .ne 16, 3) := by decide +kernel
theorem dX11_gatherLineFacts_86 : decode cX11_gatherLineFacts 86 = .ok (.iconst 0, 1) := by decide +kernel
theorem dX11_gatherLineFacts_87 : decode cX11_gatherLineFacts 87 = .ok (.istore 10, 2) := by decide +kernel
theorem dX11_gatherLineFacts_89 : decode cX11_gatherLineFacts 89 = .ok (.iinc 3 1, 3) := by decide +kernel
theorem dX11_gatherLineFacts_92 : decode cX11_gatherLineFacts 92 = .ok (.iload 4, 2) := by decide +kernel
theorem dX11_gatherLineFacts_94 : decode cX11_gatherLineFacts 94 = .ok (.iload 10, 2) := by decide +kernel
theorem dX11_gatherLineFacts_96 : decode cX11_gatherLineFacts 96 = .ok (.ifCond .eq 14, 3) := by decide +kernel
theorem dX11_gatherLineFacts_110 : decode cX11_gatherLineFacts 110 = .ok (.iconst 0, 1) := by decide +kernel
theorem dX11_gatherLineFacts_111 : decode cX11_gatherLineFacts 111 = .ok (.iadd, 1) := by decide +kernel
theorem dX11_gatherLineFacts_112 : decode cX11_gatherLineFacts 112 = .ok (.istore 4, 2) := by decide +kernel
theorem dX11_gatherLineFacts_114 : decode cX11_gatherLineFacts 114 = .ok (.iload 5, 2) := by decide +kernel
theorem dX11_gatherLineFacts_116 : decode cX11_gatherLineFacts 116 = .ok (.iload 8, 2) := by decide +kernel
theorem dX11_gatherLineFacts_118 : decode cX11_gatherLineFacts 118 = .ok (.iload 9, 2) := by decide +kernel
theorem dX11_gatherLineFacts_120 : decode cX11_gatherLineFacts 120 = .ok (.iand, 1) := by decide +kernel
theorem dX11_gatherLineFacts_121 : decode cX11_gatherLineFacts 121 = .ok (.ifCond .ne 7, 3) := by decide +kernel
theorem dX11_gatherLineFacts_128 : decode cX11_gatherLineFacts 128 = .ok (.iconst 0, 1) := by decide +kernel
theorem dX11_gatherLineFacts_129 : decode cX11_gatherLineFacts 129 = .ok (.iadd, 1) := by decide +kernel
theorem dX11_gatherLineFacts_130 : decode cX11_gatherLineFacts 130 = .ok (.istore 5, 2) := by decide +kernel
theorem dX11_gatherLineFacts_132 : decode cX11_gatherLineFacts 132 = .ok (.iload 6, 2) := by decide +kernel
theorem dX11_gatherLineFacts_134 : decode cX11_gatherLineFacts 134 = .ok (.iload 10, 2) := by decide +kernel
theorem dX11_gatherLineFacts_136 : decode cX11_gatherLineFacts 136 = .ok (.ifCond .eq 14, 3) := by decide +kernel
theorem dX11_gatherLineFacts_150 : decode cX11_gatherLineFacts 150 = .ok (.iconst 0, 1) := by decide +kernel
theorem dX11_gatherLineFacts_151 : decode cX11_gatherLineFacts 151 = .ok (.iadd, 1) := by decide +kernel
theorem dX11_gatherLineFacts_152 : decode cX11_gatherLineFacts 152 = .ok (.istore 6, 2) := by decide +kernel
theorem dX11_gatherLineFacts_154 : decode cX11_gatherLineFacts 154 = .ok (.iinc 7 1, 3) := by decide +kernel
theorem dX11_gatherLineFacts_157 : decode cX11_gatherLineFacts 157 = .ok (.goto (-143), 3) := by decide +kernel
theorem dX11_gatherLineFacts_160 : decode cX11_gatherLineFacts 160 = .ok (.aload_n 0, 1) := by decide +kernel
theorem dX11_gatherLineFacts_161 : decode cX11_gatherLineFacts 161 = .ok (.getfield 74, 3) := by decide +kernel
theorem dX11_gatherLineFacts_164 : decode cX11_gatherLineFacts 164 = .ok (.iconst 0, 1) := by decide +kernel
theorem dX11_gatherLineFacts_165 : decode cX11_gatherLineFacts 165 = .ok (.invokestatic 399, 3) := by decide +kernel
theorem dX11_gatherLineFacts_168 : decode cX11_gatherLineFacts 168 = .ok (.iload_n 3, 1) := by decide +kernel
theorem dX11_gatherLineFacts_169 : decode cX11_gatherLineFacts 169 = .ok (.ifCond .le 56, 3) := by decide +kernel
theorem dX11_gatherLineFacts_172 : decode cX11_gatherLineFacts 172 = .ok (.aload_n 0, 1) := by decide +kernel
theorem dX11_gatherLineFacts_173 : decode cX11_gatherLineFacts 173 = .ok (.getfield 74, 3) := by decide +kernel
theorem dX11_gatherLineFacts_176 : decode cX11_gatherLineFacts 176 = .ok (.bipush 8, 2) := by decide +kernel
theorem dX11_gatherLineFacts_178 : decode cX11_gatherLineFacts 178 = .ok (.sipush 1000, 3) := by decide +kernel
theorem dX11_gatherLineFacts_181 : decode cX11_gatherLineFacts 181 = .ok (.iload 4, 2) := by decide +kernel
theorem dX11_gatherLineFacts_183 : decode cX11_gatherLineFacts 183 = .ok (.imul, 1) := by decide +kernel
theorem dX11_gatherLineFacts_184 : decode cX11_gatherLineFacts 184 = .ok (.iload_n 3, 1) := by decide +kernel
theorem dX11_gatherLineFacts_185 : decode cX11_gatherLineFacts 185 = .ok (.idiv, 1) := by decide +kernel
theorem dX11_gatherLineFacts_186 : decode cX11_gatherLineFacts 186 = .ok (.iastore, 1) := by decide +kernel
theorem dX11_gatherLineFacts_187 : decode cX11_gatherLineFacts 187 = .ok (.aload_n 0, 1) := by decide +kernel
theorem dX11_gatherLineFacts_188 : decode cX11_gatherLineFacts 188 = .ok (.getfield 74, 3) := by decide +kernel
theorem dX11_gatherLineFacts_191 : decode cX11_gatherLineFacts 191 = .ok (.bipush 9, 2) := by decide +kernel
theorem dX11_gatherLineFacts_193 : decode cX11_gatherLineFacts 193 = .ok (.sipush 1000, 3) := by decide +kernel
theorem dX11_gatherLineFacts_196 : decode cX11_gatherLineFacts 196 = .ok (.iload 5, 2) := by decide +kernel
theorem dX11_gatherLineFacts_198 : decode cX11_gatherLineFacts 198 = .ok (.imul, 1) := by decide +kernel
theorem dX11_gatherLineFacts_199 : decode cX11_gatherLineFacts 199 = .ok (.iload_n 3, 1) := by decide +kernel
theorem dX11_gatherLineFacts_200 : decode cX11_gatherLineFacts 200 = .ok (.idiv, 1) := by decide +kernel
theorem dX11_gatherLineFacts_201 : decode cX11_gatherLineFacts 201 = .ok (.iastore, 1) := by decide +kernel
theorem dX11_gatherLineFacts_202 : decode cX11_gatherLineFacts 202 = .ok (.aload_n 0, 1) := by decide +kernel
theorem dX11_gatherLineFacts_203 : decode cX11_gatherLineFacts 203 = .ok (.getfield 74, 3) := by decide +kernel
theorem dX11_gatherLineFacts_206 : decode cX11_gatherLineFacts 206 = .ok (.bipush 10, 2) := by decide +kernel
theorem dX11_gatherLineFacts_208 : decode cX11_gatherLineFacts 208 = .ok (.sipush 1000, 3) := by decide +kernel
theorem dX11_gatherLineFacts_211 : decode cX11_gatherLineFacts 211 = .ok (.iload 6, 2) := by decide +kernel
theorem dX11_gatherLineFacts_213 : decode cX11_gatherLineFacts 213 = .ok (.imul, 1) := by decide +kernel
theorem dX11_gatherLineFacts_214 : decode cX11_gatherLineFacts 214 = .ok (.iload_n 3, 1) := by decide +kernel
theorem dX11_gatherLineFacts_215 : decode cX11_gatherLineFacts 215 = .ok (.idiv, 1) := by decide +kernel
theorem dX11_gatherLineFacts_216 : decode cX11_gatherLineFacts 216 = .ok (.iastore, 1) := by decide +kernel
theorem dX11_gatherLineFacts_217 : decode cX11_gatherLineFacts 217 = .ok (.aload_n 0, 1) := by decide +kernel
theorem dX11_gatherLineFacts_218 : decode cX11_gatherLineFacts 218 = .ok (.getfield 74, 3) := by decide +kernel
theorem dX11_gatherLineFacts_221 : decode cX11_gatherLineFacts 221 = .ok (.bipush 11, 2) := by decide +kernel
theorem dX11_gatherLineFacts_223 : decode cX11_gatherLineFacts 223 = .ok (.iload_n 3, 1) := by decide +kernel
theorem dX11_gatherLineFacts_224 : decode cX11_gatherLineFacts 224 = .ok (.iastore, 1) := by decide +kernel
theorem dX11_gatherLineFacts_225 : decode cX11_gatherLineFacts 225 = .ok (.return_, 1) := by decide +kernel
theorem dX5_firstThatTells_0 : decode cX5_firstThatTells 0 = .ok (.iconst 0, 1) := by decide +kernel
theorem dX5_firstThatTells_1 : decode cX5_firstThatTells 1 = .ok (.istore_n 3, 1) := by decide +kernel
theorem dX5_firstThatTells_2 : decode cX5_firstThatTells 2 = .ok (.iload_n 3, 1) := by decide +kernel
theorem dX5_firstThatTells_3 : decode cX5_firstThatTells 3 = .ok (.aload_n 0, 1) := by decide +kernel
theorem dX5_firstThatTells_4 : decode cX5_firstThatTells 4 = .ok (.getfield 81, 3) := by decide +kernel
theorem dX5_firstThatTells_7 : decode cX5_firstThatTells 7 = .ok (.if_icmp .ge 30, 3) := by decide +kernel
theorem dX5_firstThatTells_37 : decode cX5_firstThatTells 37 = .ok (.iconst (-1), 1) := by decide +kernel
theorem dX5_firstThatTells_38 : decode cX5_firstThatTells 38 = .ok (.ireturn, 1) := by decide +kernel
theorem dX11_neighbour_0 : decode cX11_neighbour 0 = .ok (.iload_n 1, 1) := by decide +kernel
theorem dX11_neighbour_1 : decode cX11_neighbour 1 = .ok (.tableswitch 93 0 3 #[31, 46, 63, 78], 31) := by decide +kernel
theorem dX11_neighbour_32 : decode cX11_neighbour 32 = .ok (.iload_n 0, 1) := by decide +kernel
theorem dX11_neighbour_33 : decode cX11_neighbour 33 = .ok (.bipush 12, 2) := by decide +kernel
theorem dX11_neighbour_35 : decode cX11_neighbour 35 = .ok (.irem, 1) := by decide +kernel
theorem dX11_neighbour_36 : decode cX11_neighbour 36 = .ok (.ifCond .le 9, 3) := by decide +kernel
theorem dX11_neighbour_45 : decode cX11_neighbour 45 = .ok (.iconst (-1), 1) := by decide +kernel
theorem dX11_neighbour_46 : decode cX11_neighbour 46 = .ok (.ireturn, 1) := by decide +kernel
theorem dX11_neighbour_39 : decode cX11_neighbour 39 = .ok (.iload_n 0, 1) := by decide +kernel
theorem dX11_neighbour_40 : decode cX11_neighbour 40 = .ok (.iconst 1, 1) := by decide +kernel
theorem dX11_neighbour_41 : decode cX11_neighbour 41 = .ok (.isub, 1) := by decide +kernel
theorem dX11_neighbour_42 : decode cX11_neighbour 42 = .ok (.goto 4, 3) := by decide +kernel
theorem dX11_neighbour_47 : decode cX11_neighbour 47 = .ok (.iload_n 0, 1) := by decide +kernel
theorem dX11_neighbour_48 : decode cX11_neighbour 48 = .ok (.bipush 12, 2) := by decide +kernel
theorem dX11_neighbour_50 : decode cX11_neighbour 50 = .ok (.irem, 1) := by decide +kernel
theorem dX11_neighbour_51 : decode cX11_neighbour 51 = .ok (.bipush 11, 2) := by decide +kernel
theorem dX11_neighbour_53 : decode cX11_neighbour 53 = .ok (.if_icmp .ge 9, 3) := by decide +kernel
theorem dX11_neighbour_62 : decode cX11_neighbour 62 = .ok (.iconst (-1), 1) := by decide +kernel
theorem dX11_neighbour_63 : decode cX11_neighbour 63 = .ok (.ireturn, 1) := by decide +kernel
theorem dX11_neighbour_56 : decode cX11_neighbour 56 = .ok (.iload_n 0, 1) := by decide +kernel
theorem dX11_neighbour_57 : decode cX11_neighbour 57 = .ok (.iconst 1, 1) := by decide +kernel
theorem dX11_neighbour_58 : decode cX11_neighbour 58 = .ok (.iadd, 1) := by decide +kernel
theorem dX11_neighbour_59 : decode cX11_neighbour 59 = .ok (.goto 4, 3) := by decide +kernel
theorem dX11_neighbour_64 : decode cX11_neighbour 64 = .ok (.iload_n 0, 1) := by decide +kernel
theorem dX11_neighbour_65 : decode cX11_neighbour 65 = .ok (.bipush 12, 2) := by decide +kernel
theorem dX11_neighbour_67 : decode cX11_neighbour 67 = .ok (.if_icmp .lt 10, 3) := by decide +kernel
theorem dX11_neighbour_77 : decode cX11_neighbour 77 = .ok (.iconst (-1), 1) := by decide +kernel
theorem dX11_neighbour_78 : decode cX11_neighbour 78 = .ok (.ireturn, 1) := by decide +kernel
theorem dX11_neighbour_70 : decode cX11_neighbour 70 = .ok (.iload_n 0, 1) := by decide +kernel
theorem dX11_neighbour_71 : decode cX11_neighbour 71 = .ok (.bipush 12, 2) := by decide +kernel
theorem dX11_neighbour_73 : decode cX11_neighbour 73 = .ok (.isub, 1) := by decide +kernel
theorem dX11_neighbour_74 : decode cX11_neighbour 74 = .ok (.goto 4, 3) := by decide +kernel
theorem dX11_neighbour_79 : decode cX11_neighbour 79 = .ok (.iload_n 0, 1) := by decide +kernel
theorem dX11_neighbour_80 : decode cX11_neighbour 80 = .ok (.bipush 84, 2) := by decide +kernel
theorem dX11_neighbour_82 : decode cX11_neighbour 82 = .ok (.if_icmp .ge 10, 3) := by decide +kernel
theorem dX11_neighbour_92 : decode cX11_neighbour 92 = .ok (.iconst (-1), 1) := by decide +kernel
theorem dX11_neighbour_93 : decode cX11_neighbour 93 = .ok (.ireturn, 1) := by decide +kernel
theorem dX11_neighbour_85 : decode cX11_neighbour 85 = .ok (.iload_n 0, 1) := by decide +kernel
theorem dX11_neighbour_86 : decode cX11_neighbour 86 = .ok (.bipush 12, 2) := by decide +kernel
theorem dX11_neighbour_88 : decode cX11_neighbour 88 = .ok (.iadd, 1) := by decide +kernel
theorem dX11_neighbour_89 : decode cX11_neighbour 89 = .ok (.goto 4, 3) := by decide +kernel
theorem dX11_neighbour_94 : decode cX11_neighbour 94 = .ok (.iconst (-1), 1) := by decide +kernel
theorem dX11_neighbour_95 : decode cX11_neighbour 95 = .ok (.ireturn, 1) := by decide +kernel
theorem dX11_isRock_0 : decode cX11_isRock 0 = .ok (.iload_n 1, 1) := by decide +kernel
theorem dX11_isRock_1 : decode cX11_isRock 1 = .ok (.ifCond .lt 18, 3) := by decide +kernel
theorem dX11_isRock_19 : decode cX11_isRock 19 = .ok (.iconst 0, 1) := by decide +kernel
theorem dX11_isRock_20 : decode cX11_isRock 20 = .ok (.ireturn, 1) := by decide +kernel
theorem dX11_isRock_4 : decode cX11_isRock 4 = .ok (.iload_n 1, 1) := by decide +kernel
theorem dX11_isRock_5 : decode cX11_isRock 5 = .ok (.aload_n 0, 1) := by decide +kernel
theorem dX11_isRock_6 : decode cX11_isRock 6 = .ok (.getfield 44, 3) := by decide +kernel
theorem dX11_isRock_9 : decode cX11_isRock 9 = .ok (.getfield 284, 3) := by decide +kernel
theorem dX11_isRock_12 : decode cX11_isRock 12 = .ok (.if_icmp .ge 7, 3) := by decide +kernel
set_option maxHeartbeats 4000000 in
set_option maxRecDepth 100000 in
theorem kX11_isSet_a (l : Launch) (D : va_G) (cy : Nat → ClassId) (x : Nat → Nat) : RI l D cy yX11_isSet cX11_isSet 2 (some .boolean) 0 0 [.ref (x 0), .int 0] [((x 0), .inr (10, [.int 0, .int (-1), .ref (x 1), .ref (x 9), .int 0, .ref (x 10), .ref (x 13), .ref (x 16), .ref (x 29), .int 0, .int 0, .ref (x 30), .int 0, .ref (x 31), .ref (x 42), .int 0, .int 0, .null, .ref (x 43)]))] (fun v : Int32 => v = 1) := by
  refine metr_go (by decide) (Nat.le_of_ble_eq_true rfl) (fun p e s m below meth c ls S hr hlk hP hK hl => ?_)
  have hl : lv_has ls 2 [(0, .ref (x 0)), (1, .int 0)] := hl
  refine lv_iload_n S.1 S.2.1 dX11_isSet_0 rfl (lv_at hl 1 rfl) ?_
  refine r_if_lt S 0 rfl dX11_isSet_1 (tgt := 18) (by decide) (fun c => absurd c (by decide)) (fun _ => ?_)
  refine lv_iload_n S.1 S.2.1 dX11_isSet_4 rfl (lv_at hl 1 rfl) ?_
  refine lv_iconst (v := 1) S.1 S.2.1 dX11_isSet_5 (by decide) ?_
  refine lv_aload_n S.1 S.2.1 dX11_isSet_6 rfl (lv_at hl 0 rfl) ?_
  refine r_get S hK hP 0 10 rfl rfl inX11 9 (by decide) kw_477 (v := .int 0) rfl dX11_isSet_7 ?_
  refine r_ishl S dX11_isSet_10 (v := 1) (by decide) ?_
  refine r_icmp_ge S 0 1 rfl rfl dX11_isSet_11 (tgt := 18) (by decide) (fun c => absurd c (by decide)) (fun _ => ?_)
  refine lv_iconst (v := 1) S.1 S.2.1 dX11_isSet_14 (by decide) ?_
  refine lv_goto (tgt := 19) S.1 S.2.1 dX11_isSet_15 (by decide) ?_
  exact ri_ret S hr hlk (by decide) (rfl) dX11_isSet_19
set_option maxHeartbeats 4000000 in
set_option maxRecDepth 100000 in
theorem kX11_isSet_b (l : Launch) (D : va_G) (cy : Nat → ClassId) (x : Nat → Nat) (p0 : Int32) (z0 : Int) (h0 : p0.toInt = z0) (hz : ¬ z0 = 0) : RI l D cy yX11_isSet cX11_isSet 2 (some .boolean) 0 0 [.ref (x 0), .int p0] [((x 0), .inr (10, [.int 0, .int (-1), .ref (x 1), .ref (x 9), .int 0, .ref (x 10), .ref (x 13), .ref (x 16), .ref (x 29), .int 0, .int 0, .ref (x 30), .int 0, .ref (x 31), .ref (x 42), .int 0, .int 0, .null, .ref (x 43)]))] (fun v : Int32 => v = 0) := by
  refine metr_go (by decide) (Nat.le_of_ble_eq_true rfl) (fun p e s m below meth c ls S hr hlk hP hK hl => ?_)
  have hl : lv_has ls 2 [(0, .ref (x 0)), (1, .int p0)] := hl
  refine lv_iload_n S.1 S.2.1 dX11_isSet_0 rfl (lv_at hl 1 rfl) ?_
  refine r_if_lt S z0 h0 dX11_isSet_1 (tgt := 18) (by decide) (fun e_1_1 => ?_) (fun e_1_1 => ?_)
  · refine lv_iconst (v := 0) S.1 S.2.1 dX11_isSet_18 (by decide) ?_
    exact ri_ret S hr hlk (by decide) (rfl) dX11_isSet_19
  · refine lv_iload_n S.1 S.2.1 dX11_isSet_4 rfl (lv_at hl 1 rfl) ?_
    refine lv_iconst (v := 1) S.1 S.2.1 dX11_isSet_5 (by decide) ?_
    refine lv_aload_n S.1 S.2.1 dX11_isSet_6 rfl (lv_at hl 0 rfl) ?_
    refine r_get S hK hP 0 10 rfl rfl inX11 9 (by decide) kw_477 (v := .int 0) rfl dX11_isSet_7 ?_
    refine r_ishl S dX11_isSet_10 (v := 1) (by decide) ?_
    refine r_icmp_ge S z0 1 h0 rfl dX11_isSet_11 (tgt := 18) (by decide) (fun _ => ?_) (fun c => absurd c (by omega))
    refine lv_iconst (v := 0) S.1 S.2.1 dX11_isSet_18 (by decide) ?_
    exact ri_ret S hr hlk (by decide) (rfl) dX11_isSet_19
set_option maxHeartbeats 4000000 in
set_option maxRecDepth 100000 in
theorem kX11_groundOf_a (l : Launch) (D : va_G) (cy : Nat → ClassId) (x : Nat → Nat) : CQ l D cy yX11_groundOf cX11_groundOf 3 (some (.object "LandSurvey$Ground")) 6 155 3 201 [.ref (x 0), .int 0] [((x 0), .inr (10, [.int 0, .int (-1), .ref (x 1), .ref (x 9), .int 0, .ref (x 10), .ref (x 13), .ref (x 16), .ref (x 29), .int 0, .int 0, .ref (x 30), .int 0, .ref (x 31), .ref (x 42), .int 0, .int 0, .null, .ref (x 43)])), ((x 13), .inr (4, [.ref (x 14), .ref (x 15), .int 0, .ref (x 16)])), ((x 16), .inr (5, [.int 0, .ref (x 17), .ref (x 18), .ref (x 19), .ref (x 20), .ref (x 21), .int 0, .int 10, .int 20, .int 0, .int 0, .ref (x 22), .ref (x 23), .int 0, .ref (x 24), .ref (x 25), .ref (x 26), .ref (x 27), .ref (x 28)])), ((x 42), .inl (cy 7, 16, .inr (.inr (.inr (.inr (fun _ => none)))))), ((x 31), .inr (6, [.ref (x 32), .ref (x 9), .ref (x 29), .int 0, .int 0, .int 0, .ref (x 36), .ref (x 37), .ref (x 38), .ref (x 39), .ref (x 40), .ref (x 41), .int 0])), ((x 32), .inr (9, [.ref (x 33), .ref (x 34), .ref (x 35), .int 0])), ((x 33), .inl (cy 0, 384, .inl (fun _ => 0))), ((x 34), .inl (cy 2, 384, .inr (.inl (fun _ => 0)))), ((x 35), .inl (cy 0, 96, .inl (fun _ => 0))), ((x 36), .inl (cy 0, 96, .inl (fun _ => 0))), ((x 38), .inl (cy 0, 96, .inl (fun _ => 0)))] (fun (v : Option Nat) (u : (Nat) × (Nat) × (Nat)) => v = (some (u.1))) (fun (u : (Nat) × (Nat) × (Nat)) => [((x 0), .inr (10, [.int 0, .int (-1), .ref (x 1), .ref (x 9), .int 0, .ref (x 10), .ref (x 13), .ref (x 16), .ref (x 29), .int 0, .int 0, .ref (x 30), .int 0, .ref (x 31), .ref (x 42), .int 1, .int 0, .null, .ref (x 43)])), ((x 13), .inr (4, [.ref (x 14), .ref (x 15), .int 0, .ref (x 16)])), ((x 16), .inr (5, [.int 0, .ref (x 17), .ref (x 18), .ref (x 19), .ref (x 20), .ref (x 21), .int 0, .int 10, .int 20, .int 0, .int 0, .ref (x 22), .ref (x 23), .int 0, .ref (x 24), .ref (x 25), .ref (x 26), .ref (x 27), .ref (x 28)])), ((x 42), .inl (cy 7, 16, .inr (.inr (.inr (.inr (va_up (fun _ => none) (0) (some (u.1)))))))), ((x 31), .inr (6, [.ref (x 32), .ref (x 9), .ref (x 29), .int 0, .int 0, .int 10, .ref (x 36), .ref (x 37), .ref (x 38), .ref (x 39), .ref (x 40), .ref (x 41), .int 1])), ((x 32), .inr (9, [.ref (x 33), .ref (x 34), .ref (x 35), .int 0])), ((x 33), .inl (cy 0, 384, .inl (fun _ => 10))), ((x 34), .inl (cy 2, 384, .inr (.inl (fun _ => 0)))), ((x 35), .inl (cy 0, 96, .inl (fun _ => (-1)))), ((x 36), .inl (cy 0, 96, .inl (fun _ => 0))), ((x 38), .inl (cy 0, 96, .inl (fun _ => (-268435456)))), ((u.1), .inr (1, [.int 0, .int 1, .int 1, .int 0, .long 0, .int 0, .int 0, .ref (u.2.1), .ref (u.2.2)])), ((u.2.1), .inl (cy 0, 96, .inl (fun _ => 0))), ((u.2.2), .inl (cy 0, 96, .inl (fun _ => 0)))]) := by
  refine cq_go (by decide) (Nat.le_of_ble_eq_true rfl) (fun p e s m below meth c ls A hA S hr hlk hnm hP hK hD hl => ?_)
  have hS : va_S A s.heap s.heap [] := va_S.rf
  have hl : lv_has ls 3 [(0, .ref (x 0)), (1, .int 0)] := hl
  refine lv_aload_n S.1 S.2.1 dX11_groundOf_0 rfl (lv_at hl 0 rfl) ?_
  refine lv_iload_n S.1 S.2.1 dX11_groundOf_1 rfl (lv_at hl 1 rfl) ?_
  refine call_ri (runV_R (wc := [((x 0), .inr (10, [.int 0, .int (-1), .ref (x 1), .ref (x 9), .int 0, .ref (x 10), .ref (x 13), .ref (x 16), .ref (x 29), .int 0, .int 0, .ref (x 30), .int 0, .ref (x 31), .ref (x 42), .int 0, .int 0, .null, .ref (x 43)]))]) (As := [.int 0]) (rest := []) S (kX11_isSet_a l D cy x) hK hP [0] rfl 0 10 rfl rfl kw_956 kw_958 kw_22 kw_144 kw_959 okX11_isSet rfl (by decide) hl.1 rfl (Nat.le_of_ble_eq_true rfl) dX11_groundOf_2 (by decide)) (fun v2 w2 => ?_)
  subst w2
  refine r_if_ne S 1 rfl dX11_groundOf_5 (tgt := 10) (by decide) (fun _ => ?_) (fun c => absurd c (by decide))
  refine lv_aload_n S.1 S.2.1 dX11_groundOf_10 rfl (lv_at hl 0 rfl) ?_
  refine call_v (wr := [((x 32), .inr (9, [.ref (x 33), .ref (x 34), .ref (x 35), .int 0])), ((x 33), .inl (cy 0, 384, .inl (fun _ => 0))), ((x 34), .inl (cy 2, 384, .inr (.inl (fun _ => 0)))), ((x 35), .inl (cy 0, 96, .inl (fun _ => 0))), ((x 36), .inl (cy 0, 96, .inl (fun _ => 0))), ((x 38), .inl (cy 0, 96, .inl (fun _ => 0)))]) (runV_C (wc := [((x 0), .inr (10, [.int 0, .int (-1), .ref (x 1), .ref (x 9), .int 0, .ref (x 10), .ref (x 13), .ref (x 16), .ref (x 29), .int 0, .int 0, .ref (x 30), .int 0, .ref (x 31), .ref (x 42), .int 0, .int 0, .null, .ref (x 43)])), ((x 13), .inr (4, [.ref (x 14), .ref (x 15), .int 0, .ref (x 16)])), ((x 16), .inr (5, [.int 0, .ref (x 17), .ref (x 18), .ref (x 19), .ref (x 20), .ref (x 21), .int 0, .int 10, .int 20, .int 0, .int 0, .ref (x 22), .ref (x 23), .int 0, .ref (x 24), .ref (x 25), .ref (x 26), .ref (x 27), .ref (x 28)])), ((x 42), .inl (cy 7, 16, .inr (.inr (.inr (.inr (fun _ => none)))))), ((x 31), .inr (6, [.ref (x 32), .ref (x 9), .ref (x 29), .int 0, .int 0, .int 0, .ref (x 36), .ref (x 37), .ref (x 38), .ref (x 39), .ref (x 40), .ref (x 41), .int 0]))]) (As := []) (rest := []) S (kX11_settle_a l D cy x) hK hP hD [0, 1, 2, 3, 4] (by decide) rfl 0 10 rfl rfl kw_960 kw_962 kw_23 kw_144 kw_963 okX11_settle rfl (by decide) hl.1 rfl (Nat.le_of_ble_eq_true rfl) dX11_groundOf_11 (by decide)) hP hD hS hA [0, 1, 2, 3, 4] [5, 6, 7, 8, 9, 10] rfl rfl (by decide) (by decide) (fun u11 H locs w11 hP hD hS => ?_)
  obtain ⟨g_11, lo_11, hi_11⟩ := u11
  have hP : va_P D vwCl [((x 32), .inr (9, [.ref (x 33), .ref (x 34), .ref (x 35), .int 0])), ((x 33), .inl (cy 0, 384, .inl (fun _ => 0))), ((x 34), .inl (cy 2, 384, .inr (.inl (fun _ => 0)))), ((x 35), .inl (cy 0, 96, .inl (fun _ => 0))), ((x 36), .inl (cy 0, 96, .inl (fun _ => 0))), ((x 38), .inl (cy 0, 96, .inl (fun _ => 0))), ((x 0), .inr (10, [.int 0, .int (-1), .ref (x 1), .ref (x 9), .int 0, .ref (x 10), .ref (x 13), .ref (x 16), .ref (x 29), .int 0, .int 0, .ref (x 30), .int 0, .ref (x 31), .ref (x 42), .int 1, .int 0, .null, .ref (x 43)])), ((x 13), .inr (4, [.ref (x 14), .ref (x 15), .int 0, .ref (x 16)])), ((x 16), .inr (5, [.int 0, .ref (x 17), .ref (x 18), .ref (x 19), .ref (x 20), .ref (x 21), .int 0, .int 10, .int 20, .int 0, .int 0, .ref (x 22), .ref (x 23), .int 0, .ref (x 24), .ref (x 25), .ref (x 26), .ref (x 27), .ref (x 28)])), ((x 42), .inl (cy 7, 16, .inr (.inr (.inr (.inr (va_up (fun _ => none) (0) (some g_11))))))), ((x 31), .inr (6, [.ref (x 32), .ref (x 9), .ref (x 29), .int 0, .int 0, .int 10, .ref (x 36), .ref (x 37), .ref (x 38), .ref (x 39), .ref (x 40), .ref (x 41), .int 0])), (g_11, .inr (1, [.int 0, .int 0, .int 0, .int 0, .long 0, .int 0, .int 0, .ref lo_11, .ref hi_11])), (lo_11, .inl (cy 0, 96, .inl (fun _ => 0))), (hi_11, .inl (cy 0, 96, .inl (fun _ => 0)))] H := hP
  have hD : va_D A [((x 32), .inr (9, [.ref (x 33), .ref (x 34), .ref (x 35), .int 0])), ((x 33), .inl (cy 0, 384, .inl (fun _ => 0))), ((x 34), .inl (cy 2, 384, .inr (.inl (fun _ => 0)))), ((x 35), .inl (cy 0, 96, .inl (fun _ => 0))), ((x 36), .inl (cy 0, 96, .inl (fun _ => 0))), ((x 38), .inl (cy 0, 96, .inl (fun _ => 0))), ((x 0), .inr (10, [.int 0, .int (-1), .ref (x 1), .ref (x 9), .int 0, .ref (x 10), .ref (x 13), .ref (x 16), .ref (x 29), .int 0, .int 0, .ref (x 30), .int 0, .ref (x 31), .ref (x 42), .int 1, .int 0, .null, .ref (x 43)])), ((x 13), .inr (4, [.ref (x 14), .ref (x 15), .int 0, .ref (x 16)])), ((x 16), .inr (5, [.int 0, .ref (x 17), .ref (x 18), .ref (x 19), .ref (x 20), .ref (x 21), .int 0, .int 10, .int 20, .int 0, .int 0, .ref (x 22), .ref (x 23), .int 0, .ref (x 24), .ref (x 25), .ref (x 26), .ref (x 27), .ref (x 28)])), ((x 42), .inl (cy 7, 16, .inr (.inr (.inr (.inr (va_up (fun _ => none) (0) (some g_11))))))), ((x 31), .inr (6, [.ref (x 32), .ref (x 9), .ref (x 29), .int 0, .int 0, .int 10, .ref (x 36), .ref (x 37), .ref (x 38), .ref (x 39), .ref (x 40), .ref (x 41), .int 0])), (g_11, .inr (1, [.int 0, .int 0, .int 0, .int 0, .long 0, .int 0, .int 0, .ref lo_11, .ref hi_11])), (lo_11, .inl (cy 0, 96, .inl (fun _ => 0))), (hi_11, .inl (cy 0, 96, .inl (fun _ => 0)))] := hD
  refine lv_aload_n S.1 S.2.1 dX11_groundOf_14 rfl (lv_at hl 0 rfl) ?_
  refine r_get S hK hP 6 10 rfl rfl inX11 14 (by decide) kw_482 (v := .ref (x 42)) rfl dX11_groundOf_15 ?_
  refine lv_iload_n S.1 S.2.1 dX11_groundOf_18 rfl (lv_at hl 1 rfl) ?_
  refine r_aald S hK hP 9 7 rfl rfl (0) rfl (by decide) (by decide) (v := .ref g_11) rfl dX11_groundOf_19 ?_
  refine lv_astore_n (lv' := [(2, .ref g_11), (0, .ref (x 0)), (1, .int 0)]) S.1 S.2.1 dX11_groundOf_20 rfl hl (by decide) rfl (fun ls hl => ?_)
  refine lv_aload_n S.1 S.2.1 dX11_groundOf_21 rfl (lv_at hl 0 rfl) ?_
  refine r_get S hK hP 11 1 rfl rfl inX1 1 (by decide) kw_1017 (v := .int 0) rfl dX11_groundOf_22 ?_
  refine r_if_ne S 0 rfl dX11_groundOf_25 (tgt := 36) (by decide) (fun c => absurd c (by decide)) (fun _ => ?_)
  refine lv_aload_n S.1 S.2.1 dX11_groundOf_28 rfl (lv_at hl 1 rfl) ?_
  refine r_get S hK hP 6 10 rfl rfl inX11 13 (by decide) kw_481 (v := .ref (x 31)) rfl dX11_groundOf_29 ?_
  refine lv_aload_n S.1 S.2.1 dX11_groundOf_32 rfl (lv_at hl 0 rfl) ?_
  refine call_v (wr := [((x 0), .inr (10, [.int 0, .int (-1), .ref (x 1), .ref (x 9), .int 0, .ref (x 10), .ref (x 13), .ref (x 16), .ref (x 29), .int 0, .int 0, .ref (x 30), .int 0, .ref (x 31), .ref (x 42), .int 1, .int 0, .null, .ref (x 43)])), ((x 13), .inr (4, [.ref (x 14), .ref (x 15), .int 0, .ref (x 16)])), ((x 16), .inr (5, [.int 0, .ref (x 17), .ref (x 18), .ref (x 19), .ref (x 20), .ref (x 21), .int 0, .int 10, .int 20, .int 0, .int 0, .ref (x 22), .ref (x 23), .int 0, .ref (x 24), .ref (x 25), .ref (x 26), .ref (x 27), .ref (x 28)])), ((x 42), .inl (cy 7, 16, .inr (.inr (.inr (.inr (va_up (fun _ => none) (0) (some g_11))))))), (lo_11, .inl (cy 0, 96, .inl (fun _ => 0))), (hi_11, .inl (cy 0, 96, .inl (fun _ => 0)))]) (runV_C (wc := [((x 31), .inr (6, [.ref (x 32), .ref (x 9), .ref (x 29), .int 0, .int 0, .int 10, .ref (x 36), .ref (x 37), .ref (x 38), .ref (x 39), .ref (x 40), .ref (x 41), .int 0])), ((x 32), .inr (9, [.ref (x 33), .ref (x 34), .ref (x 35), .int 0])), ((x 33), .inl (cy 0, 384, .inl (fun _ => 0))), ((x 34), .inl (cy 2, 384, .inr (.inl (fun _ => 0)))), ((x 35), .inl (cy 0, 96, .inl (fun _ => 0))), ((x 36), .inl (cy 0, 96, .inl (fun _ => 0))), ((x 38), .inl (cy 0, 96, .inl (fun _ => 0))), (g_11, .inr (1, [.int 0, .int 0, .int 0, .int 0, .long 0, .int 0, .int 0, .ref lo_11, .ref hi_11]))]) (As := [.ref g_11]) (rest := []) S (kX6_solve l D cy x g_11 lo_11 hi_11) hK hP hD [10, 0, 1, 2, 3, 4, 5, 11] (by decide) rfl 0 6 rfl rfl kw_1058 kw_1059 kw_1060 kw_150 kw_1061 okX6_solve rfl (by decide) hl.1 rfl (Nat.le_of_ble_eq_true rfl) dX11_groundOf_33 (by decide)) hP hD hS hA [10, 0, 1, 2, 3, 4, 5, 11] [6, 7, 8, 9, 12, 13] rfl rfl (by decide) (by decide) (fun u33 H locs w33 hP hD hS => ?_)
  have hP : va_P D vwCl [((x 0), .inr (10, [.int 0, .int (-1), .ref (x 1), .ref (x 9), .int 0, .ref (x 10), .ref (x 13), .ref (x 16), .ref (x 29), .int 0, .int 0, .ref (x 30), .int 0, .ref (x 31), .ref (x 42), .int 1, .int 0, .null, .ref (x 43)])), ((x 13), .inr (4, [.ref (x 14), .ref (x 15), .int 0, .ref (x 16)])), ((x 16), .inr (5, [.int 0, .ref (x 17), .ref (x 18), .ref (x 19), .ref (x 20), .ref (x 21), .int 0, .int 10, .int 20, .int 0, .int 0, .ref (x 22), .ref (x 23), .int 0, .ref (x 24), .ref (x 25), .ref (x 26), .ref (x 27), .ref (x 28)])), ((x 42), .inl (cy 7, 16, .inr (.inr (.inr (.inr (va_up (fun _ => none) (0) (some g_11))))))), (lo_11, .inl (cy 0, 96, .inl (fun _ => 0))), (hi_11, .inl (cy 0, 96, .inl (fun _ => 0))), ((x 31), .inr (6, [.ref (x 32), .ref (x 9), .ref (x 29), .int 0, .int 0, .int 10, .ref (x 36), .ref (x 37), .ref (x 38), .ref (x 39), .ref (x 40), .ref (x 41), .int 1])), ((x 32), .inr (9, [.ref (x 33), .ref (x 34), .ref (x 35), .int 0])), ((x 33), .inl (cy 0, 384, .inl (fun _ => 10))), ((x 34), .inl (cy 2, 384, .inr (.inl (fun _ => 0)))), ((x 35), .inl (cy 0, 96, .inl (fun _ => (-1)))), ((x 36), .inl (cy 0, 96, .inl (fun _ => 0))), ((x 38), .inl (cy 0, 96, .inl (fun _ => (-268435456)))), (g_11, .inr (1, [.int 0, .int 1, .int 1, .int 0, .long 0, .int 0, .int 0, .ref lo_11, .ref hi_11]))] H := hP
  have hD : va_D A [((x 0), .inr (10, [.int 0, .int (-1), .ref (x 1), .ref (x 9), .int 0, .ref (x 10), .ref (x 13), .ref (x 16), .ref (x 29), .int 0, .int 0, .ref (x 30), .int 0, .ref (x 31), .ref (x 42), .int 1, .int 0, .null, .ref (x 43)])), ((x 13), .inr (4, [.ref (x 14), .ref (x 15), .int 0, .ref (x 16)])), ((x 16), .inr (5, [.int 0, .ref (x 17), .ref (x 18), .ref (x 19), .ref (x 20), .ref (x 21), .int 0, .int 10, .int 20, .int 0, .int 0, .ref (x 22), .ref (x 23), .int 0, .ref (x 24), .ref (x 25), .ref (x 26), .ref (x 27), .ref (x 28)])), ((x 42), .inl (cy 7, 16, .inr (.inr (.inr (.inr (va_up (fun _ => none) (0) (some g_11))))))), (lo_11, .inl (cy 0, 96, .inl (fun _ => 0))), (hi_11, .inl (cy 0, 96, .inl (fun _ => 0))), ((x 31), .inr (6, [.ref (x 32), .ref (x 9), .ref (x 29), .int 0, .int 0, .int 10, .ref (x 36), .ref (x 37), .ref (x 38), .ref (x 39), .ref (x 40), .ref (x 41), .int 1])), ((x 32), .inr (9, [.ref (x 33), .ref (x 34), .ref (x 35), .int 0])), ((x 33), .inl (cy 0, 384, .inl (fun _ => 10))), ((x 34), .inl (cy 2, 384, .inr (.inl (fun _ => 0)))), ((x 35), .inl (cy 0, 96, .inl (fun _ => (-1)))), ((x 36), .inl (cy 0, 96, .inl (fun _ => 0))), ((x 38), .inl (cy 0, 96, .inl (fun _ => (-268435456)))), (g_11, .inr (1, [.int 0, .int 1, .int 1, .int 0, .long 0, .int 0, .int 0, .ref lo_11, .ref hi_11]))] := hD
  refine lv_aload_n S.1 S.2.1 dX11_groundOf_36 rfl (lv_at hl 0 rfl) ?_
  refine r_get S hK hP 13 1 rfl rfl inX1 2 (by decide) kw_1019 (v := .int 1) rfl dX11_groundOf_37 ?_
  refine r_if_eq S 1 rfl dX11_groundOf_40 (tgt := 47) (by decide) (fun c => absurd c (by decide)) (fun _ => ?_)
  refine lv_aload_n S.1 S.2.1 dX11_groundOf_43 rfl (lv_at hl 0 rfl) ?_
  refine lv_goto (tgt := 48) S.1 S.2.1 dX11_groundOf_44 (by decide) ?_
  exact cq_ret (u := (g_11, lo_11, hi_11)) (v := (some g_11)) rfl S hr hlk (Or.inl ⟨_, rfl⟩) hK (hP.sub [0, 1, 2, 3, 6, 7, 8, 9, 10, 11, 12, 13, 4, 5] rfl) (hD.sub [0, 1, 2, 3, 6, 7, 8, 9, 10, 11, 12, 13, 4, 5] (by decide) rfl) hS (rfl) (by decide) (by decide) dX11_groundOf_48
set_option maxHeartbeats 4000000 in
set_option maxRecDepth 100000 in
theorem kX11_groundOf_b (l : Launch) (D : va_G) (cy : Nat → ClassId) (x : Nat → Nat) (p0 : Int32) (z0 : Int) (h0 : p0.toInt = z0) (hz : ¬ z0 = 0) : RQ l D cy yX11_groundOf cX11_groundOf 3 (some (.object "LandSurvey$Ground")) 1 21 [.ref (x 0), .int p0] [((x 0), .inr (10, [.int 0, .int (-1), .ref (x 1), .ref (x 9), .int 0, .ref (x 10), .ref (x 13), .ref (x 16), .ref (x 29), .int 0, .int 0, .ref (x 30), .int 0, .ref (x 31), .ref (x 42), .int 0, .int 0, .null, .ref (x 43)]))] (fun v : Option Nat => v = none) := by
  refine metr_go (by decide) (Nat.le_of_ble_eq_true rfl) (fun p e s m below meth c ls S hr hlk hP hK hl => ?_)
  have hl : lv_has ls 3 [(0, .ref (x 0)), (1, .int p0)] := hl
  refine lv_aload_n S.1 S.2.1 dX11_groundOf_0 rfl (lv_at hl 0 rfl) ?_
  refine lv_iload_n S.1 S.2.1 dX11_groundOf_1 rfl (lv_at hl 1 rfl) ?_
  refine call_ri (runV_R (wc := [((x 0), .inr (10, [.int 0, .int (-1), .ref (x 1), .ref (x 9), .int 0, .ref (x 10), .ref (x 13), .ref (x 16), .ref (x 29), .int 0, .int 0, .ref (x 30), .int 0, .ref (x 31), .ref (x 42), .int 0, .int 0, .null, .ref (x 43)]))]) (As := [.int p0]) (rest := []) S (kX11_isSet_b l D cy x p0 z0 h0 (by omega)) hK hP [0] rfl 0 10 rfl rfl kw_956 kw_958 kw_22 kw_144 kw_959 okX11_isSet rfl (by decide) hl.1 rfl (Nat.le_of_ble_eq_true rfl) dX11_groundOf_2 (by decide)) (fun v2 w2 => ?_)
  subst w2
  refine r_if_ne S 0 rfl dX11_groundOf_5 (tgt := 10) (by decide) (fun c => absurd c (by decide)) (fun _ => ?_)
  refine lv_null S.1 S.2.1 dX11_groundOf_8 ?_
  exact rq_ret (v := none) rfl S hr hlk (Or.inl ⟨_, rfl⟩) (rfl) dX11_groundOf_9
set_option maxHeartbeats 4000000 in
set_option maxRecDepth 100000 in
theorem kX11_judge_a (l : Launch) (D : va_G) (cy : Nat → ClassId) (x : Nat → Nat) : CI l D cy yX11_judge cX11_judge 3 (some .boolean) 6 155 3 201 [.ref (x 0)] [((x 0), .inr (10, [.int 0, .int (-1), .ref (x 1), .ref (x 9), .int 0, .ref (x 10), .ref (x 13), .ref (x 16), .ref (x 29), .int 0, .int 0, .ref (x 30), .int 0, .ref (x 31), .ref (x 42), .int 0, .int 0, .null, .ref (x 43)])), ((x 13), .inr (4, [.ref (x 14), .ref (x 15), .int 0, .ref (x 16)])), ((x 16), .inr (5, [.int 0, .ref (x 17), .ref (x 18), .ref (x 19), .ref (x 20), .ref (x 21), .int 0, .int 10, .int 20, .int 0, .int 0, .ref (x 22), .ref (x 23), .int 0, .ref (x 24), .ref (x 25), .ref (x 26), .ref (x 27), .ref (x 28)])), ((x 42), .inl (cy 7, 16, .inr (.inr (.inr (.inr (fun _ => none)))))), ((x 31), .inr (6, [.ref (x 32), .ref (x 9), .ref (x 29), .int 0, .int 0, .int 0, .ref (x 36), .ref (x 37), .ref (x 38), .ref (x 39), .ref (x 40), .ref (x 41), .int 0])), ((x 32), .inr (9, [.ref (x 33), .ref (x 34), .ref (x 35), .int 0])), ((x 33), .inl (cy 0, 384, .inl (fun _ => 0))), ((x 34), .inl (cy 2, 384, .inr (.inl (fun _ => 0)))), ((x 35), .inl (cy 0, 96, .inl (fun _ => 0))), ((x 36), .inl (cy 0, 96, .inl (fun _ => 0))), ((x 38), .inl (cy 0, 96, .inl (fun _ => 0)))] (fun (v : Int32) (u : (Nat) × (Nat) × (Nat)) => v = 1) (fun (u : (Nat) × (Nat) × (Nat)) => [((x 0), .inr (10, [.int 0, .int (-1), .ref (x 1), .ref (x 9), .int 0, .ref (x 10), .ref (x 13), .ref (x 16), .ref (x 29), .int 0, .int 0, .ref (x 30), .int 0, .ref (x 31), .ref (x 42), .int 1, .int 1, .ref (u.1), .ref (x 43)])), ((x 13), .inr (4, [.ref (x 14), .ref (x 15), .int 0, .ref (x 16)])), ((x 16), .inr (5, [.int 0, .ref (x 17), .ref (x 18), .ref (x 19), .ref (x 20), .ref (x 21), .int 0, .int 10, .int 20, .int 0, .int 0, .ref (x 22), .ref (x 23), .int 0, .ref (x 24), .ref (x 25), .ref (x 26), .ref (x 27), .ref (x 28)])), ((x 42), .inl (cy 7, 16, .inr (.inr (.inr (.inr (va_up (fun _ => none) (0) (some (u.1)))))))), ((x 31), .inr (6, [.ref (x 32), .ref (x 9), .ref (x 29), .int 0, .int 0, .int 10, .ref (x 36), .ref (x 37), .ref (x 38), .ref (x 39), .ref (x 40), .ref (x 41), .int 1])), ((x 32), .inr (9, [.ref (x 33), .ref (x 34), .ref (x 35), .int 0])), ((x 33), .inl (cy 0, 384, .inl (fun _ => 10))), ((x 34), .inl (cy 2, 384, .inr (.inl (fun _ => 0)))), ((x 35), .inl (cy 0, 96, .inl (fun _ => (-1)))), ((x 36), .inl (cy 0, 96, .inl (fun _ => 0))), ((x 38), .inl (cy 0, 96, .inl (fun _ => (-268435456)))), ((u.1), .inr (1, [.int 0, .int 1, .int 1, .int 0, .long 0, .int 0, .int 0, .ref (u.2.1), .ref (u.2.2)])), ((u.2.1), .inl (cy 0, 96, .inl (fun _ => 0))), ((u.2.2), .inl (cy 0, 96, .inl (fun _ => 0)))]) := by
  refine ci_go (by decide) (Nat.le_of_ble_eq_true rfl) (fun p e s m below meth c ls A hA S hr hlk hnm hP hK hD hl => ?_)
  have hS : va_S A s.heap s.heap [] := va_S.rf
  have hl : lv_has ls 3 [(0, .ref (x 0))] := hl
  refine lv_aload_n S.1 S.2.1 dX11_judge_0 rfl (lv_at hl 0 rfl) ?_
  refine call_v (wr := [((x 32), .inr (9, [.ref (x 33), .ref (x 34), .ref (x 35), .int 0])), ((x 33), .inl (cy 0, 384, .inl (fun _ => 0))), ((x 34), .inl (cy 2, 384, .inr (.inl (fun _ => 0)))), ((x 35), .inl (cy 0, 96, .inl (fun _ => 0))), ((x 36), .inl (cy 0, 96, .inl (fun _ => 0))), ((x 38), .inl (cy 0, 96, .inl (fun _ => 0)))]) (runV_C (wc := [((x 0), .inr (10, [.int 0, .int (-1), .ref (x 1), .ref (x 9), .int 0, .ref (x 10), .ref (x 13), .ref (x 16), .ref (x 29), .int 0, .int 0, .ref (x 30), .int 0, .ref (x 31), .ref (x 42), .int 0, .int 0, .null, .ref (x 43)])), ((x 13), .inr (4, [.ref (x 14), .ref (x 15), .int 0, .ref (x 16)])), ((x 16), .inr (5, [.int 0, .ref (x 17), .ref (x 18), .ref (x 19), .ref (x 20), .ref (x 21), .int 0, .int 10, .int 20, .int 0, .int 0, .ref (x 22), .ref (x 23), .int 0, .ref (x 24), .ref (x 25), .ref (x 26), .ref (x 27), .ref (x 28)])), ((x 42), .inl (cy 7, 16, .inr (.inr (.inr (.inr (fun _ => none)))))), ((x 31), .inr (6, [.ref (x 32), .ref (x 9), .ref (x 29), .int 0, .int 0, .int 0, .ref (x 36), .ref (x 37), .ref (x 38), .ref (x 39), .ref (x 40), .ref (x 41), .int 0]))]) (As := []) (rest := []) S (kX11_settle_a l D cy x) hK hP hD [0, 1, 2, 3, 4] (by decide) rfl 0 10 rfl rfl kw_960 kw_962 kw_23 kw_144 kw_963 okX11_settle rfl (by decide) hl.1 rfl (Nat.le_of_ble_eq_true rfl) dX11_judge_1 (by decide)) hP hD hS hA [0, 1, 2, 3, 4] [5, 6, 7, 8, 9, 10] rfl rfl (by decide) (by decide) (fun u1 H locs w1 hP hD hS => ?_)
  obtain ⟨g_1, lo_1, hi_1⟩ := u1
  have hP : va_P D vwCl [((x 32), .inr (9, [.ref (x 33), .ref (x 34), .ref (x 35), .int 0])), ((x 33), .inl (cy 0, 384, .inl (fun _ => 0))), ((x 34), .inl (cy 2, 384, .inr (.inl (fun _ => 0)))), ((x 35), .inl (cy 0, 96, .inl (fun _ => 0))), ((x 36), .inl (cy 0, 96, .inl (fun _ => 0))), ((x 38), .inl (cy 0, 96, .inl (fun _ => 0))), ((x 0), .inr (10, [.int 0, .int (-1), .ref (x 1), .ref (x 9), .int 0, .ref (x 10), .ref (x 13), .ref (x 16), .ref (x 29), .int 0, .int 0, .ref (x 30), .int 0, .ref (x 31), .ref (x 42), .int 1, .int 0, .null, .ref (x 43)])), ((x 13), .inr (4, [.ref (x 14), .ref (x 15), .int 0, .ref (x 16)])), ((x 16), .inr (5, [.int 0, .ref (x 17), .ref (x 18), .ref (x 19), .ref (x 20), .ref (x 21), .int 0, .int 10, .int 20, .int 0, .int 0, .ref (x 22), .ref (x 23), .int 0, .ref (x 24), .ref (x 25), .ref (x 26), .ref (x 27), .ref (x 28)])), ((x 42), .inl (cy 7, 16, .inr (.inr (.inr (.inr (va_up (fun _ => none) (0) (some g_1))))))), ((x 31), .inr (6, [.ref (x 32), .ref (x 9), .ref (x 29), .int 0, .int 0, .int 10, .ref (x 36), .ref (x 37), .ref (x 38), .ref (x 39), .ref (x 40), .ref (x 41), .int 0])), (g_1, .inr (1, [.int 0, .int 0, .int 0, .int 0, .long 0, .int 0, .int 0, .ref lo_1, .ref hi_1])), (lo_1, .inl (cy 0, 96, .inl (fun _ => 0))), (hi_1, .inl (cy 0, 96, .inl (fun _ => 0)))] H := hP
  have hD : va_D A [((x 32), .inr (9, [.ref (x 33), .ref (x 34), .ref (x 35), .int 0])), ((x 33), .inl (cy 0, 384, .inl (fun _ => 0))), ((x 34), .inl (cy 2, 384, .inr (.inl (fun _ => 0)))), ((x 35), .inl (cy 0, 96, .inl (fun _ => 0))), ((x 36), .inl (cy 0, 96, .inl (fun _ => 0))), ((x 38), .inl (cy 0, 96, .inl (fun _ => 0))), ((x 0), .inr (10, [.int 0, .int (-1), .ref (x 1), .ref (x 9), .int 0, .ref (x 10), .ref (x 13), .ref (x 16), .ref (x 29), .int 0, .int 0, .ref (x 30), .int 0, .ref (x 31), .ref (x 42), .int 1, .int 0, .null, .ref (x 43)])), ((x 13), .inr (4, [.ref (x 14), .ref (x 15), .int 0, .ref (x 16)])), ((x 16), .inr (5, [.int 0, .ref (x 17), .ref (x 18), .ref (x 19), .ref (x 20), .ref (x 21), .int 0, .int 10, .int 20, .int 0, .int 0, .ref (x 22), .ref (x 23), .int 0, .ref (x 24), .ref (x 25), .ref (x 26), .ref (x 27), .ref (x 28)])), ((x 42), .inl (cy 7, 16, .inr (.inr (.inr (.inr (va_up (fun _ => none) (0) (some g_1))))))), ((x 31), .inr (6, [.ref (x 32), .ref (x 9), .ref (x 29), .int 0, .int 0, .int 10, .ref (x 36), .ref (x 37), .ref (x 38), .ref (x 39), .ref (x 40), .ref (x 41), .int 0])), (g_1, .inr (1, [.int 0, .int 0, .int 0, .int 0, .long 0, .int 0, .int 0, .ref lo_1, .ref hi_1])), (lo_1, .inl (cy 0, 96, .inl (fun _ => 0))), (hi_1, .inl (cy 0, 96, .inl (fun _ => 0)))] := hD
  refine lv_aload_n S.1 S.2.1 dX11_judge_4 rfl (lv_at hl 0 rfl) ?_
  refine r_get S hK hP 6 10 rfl rfl inX11 16 (by decide) kw_484 (v := .int 0) rfl dX11_judge_5 ?_
  refine r_if_ne S 0 rfl dX11_judge_8 (tgt := 94) (by decide) (fun c => absurd c (by decide)) (fun _ => ?_)
  refine lv_aload_n S.1 S.2.1 dX11_judge_11 rfl (lv_at hl 0 rfl) ?_
  refine lv_iconst (v := 1) S.1 S.2.1 dX11_judge_12 (by decide) ?_
  refine r_put S hK hP hD hS 6 10 rfl rfl inX11 16 (by decide) tyX11 tyX11_ok nmX11 kw_484 (v := .int 1) rfl (by decide) (by decide) (Nat.le_of_ble_eq_true rfl) dX11_judge_13 (fun H locs hP hD hS => ?_)
  have hP : va_P D vwCl [((x 32), .inr (9, [.ref (x 33), .ref (x 34), .ref (x 35), .int 0])), ((x 33), .inl (cy 0, 384, .inl (fun _ => 0))), ((x 34), .inl (cy 2, 384, .inr (.inl (fun _ => 0)))), ((x 35), .inl (cy 0, 96, .inl (fun _ => 0))), ((x 36), .inl (cy 0, 96, .inl (fun _ => 0))), ((x 38), .inl (cy 0, 96, .inl (fun _ => 0))), ((x 0), .inr (10, [.int 0, .int (-1), .ref (x 1), .ref (x 9), .int 0, .ref (x 10), .ref (x 13), .ref (x 16), .ref (x 29), .int 0, .int 0, .ref (x 30), .int 0, .ref (x 31), .ref (x 42), .int 1, .int 1, .null, .ref (x 43)])), ((x 13), .inr (4, [.ref (x 14), .ref (x 15), .int 0, .ref (x 16)])), ((x 16), .inr (5, [.int 0, .ref (x 17), .ref (x 18), .ref (x 19), .ref (x 20), .ref (x 21), .int 0, .int 10, .int 20, .int 0, .int 0, .ref (x 22), .ref (x 23), .int 0, .ref (x 24), .ref (x 25), .ref (x 26), .ref (x 27), .ref (x 28)])), ((x 42), .inl (cy 7, 16, .inr (.inr (.inr (.inr (va_up (fun _ => none) (0) (some g_1))))))), ((x 31), .inr (6, [.ref (x 32), .ref (x 9), .ref (x 29), .int 0, .int 0, .int 10, .ref (x 36), .ref (x 37), .ref (x 38), .ref (x 39), .ref (x 40), .ref (x 41), .int 0])), (g_1, .inr (1, [.int 0, .int 0, .int 0, .int 0, .long 0, .int 0, .int 0, .ref lo_1, .ref hi_1])), (lo_1, .inl (cy 0, 96, .inl (fun _ => 0))), (hi_1, .inl (cy 0, 96, .inl (fun _ => 0)))] H := hP
  have hD : va_D A [((x 32), .inr (9, [.ref (x 33), .ref (x 34), .ref (x 35), .int 0])), ((x 33), .inl (cy 0, 384, .inl (fun _ => 0))), ((x 34), .inl (cy 2, 384, .inr (.inl (fun _ => 0)))), ((x 35), .inl (cy 0, 96, .inl (fun _ => 0))), ((x 36), .inl (cy 0, 96, .inl (fun _ => 0))), ((x 38), .inl (cy 0, 96, .inl (fun _ => 0))), ((x 0), .inr (10, [.int 0, .int (-1), .ref (x 1), .ref (x 9), .int 0, .ref (x 10), .ref (x 13), .ref (x 16), .ref (x 29), .int 0, .int 0, .ref (x 30), .int 0, .ref (x 31), .ref (x 42), .int 1, .int 1, .null, .ref (x 43)])), ((x 13), .inr (4, [.ref (x 14), .ref (x 15), .int 0, .ref (x 16)])), ((x 16), .inr (5, [.int 0, .ref (x 17), .ref (x 18), .ref (x 19), .ref (x 20), .ref (x 21), .int 0, .int 10, .int 20, .int 0, .int 0, .ref (x 22), .ref (x 23), .int 0, .ref (x 24), .ref (x 25), .ref (x 26), .ref (x 27), .ref (x 28)])), ((x 42), .inl (cy 7, 16, .inr (.inr (.inr (.inr (va_up (fun _ => none) (0) (some g_1))))))), ((x 31), .inr (6, [.ref (x 32), .ref (x 9), .ref (x 29), .int 0, .int 0, .int 10, .ref (x 36), .ref (x 37), .ref (x 38), .ref (x 39), .ref (x 40), .ref (x 41), .int 0])), (g_1, .inr (1, [.int 0, .int 0, .int 0, .int 0, .long 0, .int 0, .int 0, .ref lo_1, .ref hi_1])), (lo_1, .inl (cy 0, 96, .inl (fun _ => 0))), (hi_1, .inl (cy 0, 96, .inl (fun _ => 0)))] := hD
  refine lv_aload_n S.1 S.2.1 dX11_judge_16 rfl (lv_at hl 0 rfl) ?_
  refine lv_null S.1 S.2.1 dX11_judge_17 ?_
  refine r_put S hK hP hD hS 6 10 rfl rfl inX11 17 (by decide) tyX11 tyX11_ok nmX11 kw_485 (v := .null) rfl rfl rfl (Nat.le_of_ble_eq_true rfl) dX11_judge_18 (fun H locs hP hD hS => ?_)
  have hP : va_P D vwCl [((x 32), .inr (9, [.ref (x 33), .ref (x 34), .ref (x 35), .int 0])), ((x 33), .inl (cy 0, 384, .inl (fun _ => 0))), ((x 34), .inl (cy 2, 384, .inr (.inl (fun _ => 0)))), ((x 35), .inl (cy 0, 96, .inl (fun _ => 0))), ((x 36), .inl (cy 0, 96, .inl (fun _ => 0))), ((x 38), .inl (cy 0, 96, .inl (fun _ => 0))), ((x 0), .inr (10, [.int 0, .int (-1), .ref (x 1), .ref (x 9), .int 0, .ref (x 10), .ref (x 13), .ref (x 16), .ref (x 29), .int 0, .int 0, .ref (x 30), .int 0, .ref (x 31), .ref (x 42), .int 1, .int 1, .null, .ref (x 43)])), ((x 13), .inr (4, [.ref (x 14), .ref (x 15), .int 0, .ref (x 16)])), ((x 16), .inr (5, [.int 0, .ref (x 17), .ref (x 18), .ref (x 19), .ref (x 20), .ref (x 21), .int 0, .int 10, .int 20, .int 0, .int 0, .ref (x 22), .ref (x 23), .int 0, .ref (x 24), .ref (x 25), .ref (x 26), .ref (x 27), .ref (x 28)])), ((x 42), .inl (cy 7, 16, .inr (.inr (.inr (.inr (va_up (fun _ => none) (0) (some g_1))))))), ((x 31), .inr (6, [.ref (x 32), .ref (x 9), .ref (x 29), .int 0, .int 0, .int 10, .ref (x 36), .ref (x 37), .ref (x 38), .ref (x 39), .ref (x 40), .ref (x 41), .int 0])), (g_1, .inr (1, [.int 0, .int 0, .int 0, .int 0, .long 0, .int 0, .int 0, .ref lo_1, .ref hi_1])), (lo_1, .inl (cy 0, 96, .inl (fun _ => 0))), (hi_1, .inl (cy 0, 96, .inl (fun _ => 0)))] H := hP
  have hD : va_D A [((x 32), .inr (9, [.ref (x 33), .ref (x 34), .ref (x 35), .int 0])), ((x 33), .inl (cy 0, 384, .inl (fun _ => 0))), ((x 34), .inl (cy 2, 384, .inr (.inl (fun _ => 0)))), ((x 35), .inl (cy 0, 96, .inl (fun _ => 0))), ((x 36), .inl (cy 0, 96, .inl (fun _ => 0))), ((x 38), .inl (cy 0, 96, .inl (fun _ => 0))), ((x 0), .inr (10, [.int 0, .int (-1), .ref (x 1), .ref (x 9), .int 0, .ref (x 10), .ref (x 13), .ref (x 16), .ref (x 29), .int 0, .int 0, .ref (x 30), .int 0, .ref (x 31), .ref (x 42), .int 1, .int 1, .null, .ref (x 43)])), ((x 13), .inr (4, [.ref (x 14), .ref (x 15), .int 0, .ref (x 16)])), ((x 16), .inr (5, [.int 0, .ref (x 17), .ref (x 18), .ref (x 19), .ref (x 20), .ref (x 21), .int 0, .int 10, .int 20, .int 0, .int 0, .ref (x 22), .ref (x 23), .int 0, .ref (x 24), .ref (x 25), .ref (x 26), .ref (x 27), .ref (x 28)])), ((x 42), .inl (cy 7, 16, .inr (.inr (.inr (.inr (va_up (fun _ => none) (0) (some g_1))))))), ((x 31), .inr (6, [.ref (x 32), .ref (x 9), .ref (x 29), .int 0, .int 0, .int 10, .ref (x 36), .ref (x 37), .ref (x 38), .ref (x 39), .ref (x 40), .ref (x 41), .int 0])), (g_1, .inr (1, [.int 0, .int 0, .int 0, .int 0, .long 0, .int 0, .int 0, .ref lo_1, .ref hi_1])), (lo_1, .inl (cy 0, 96, .inl (fun _ => 0))), (hi_1, .inl (cy 0, 96, .inl (fun _ => 0)))] := hD
  refine lv_iconst (v := 0) S.1 S.2.1 dX11_judge_21 (by decide) ?_
  refine lv_istore_n (lv' := [(1, .int 0), (0, .ref (x 0))]) S.1 S.2.1 dX11_judge_22 rfl hl (by decide) rfl (fun ls hl => ?_)
  refine lv_iload_n S.1 S.2.1 dX11_judge_23 rfl (lv_at hl 0 rfl) ?_
  refine lv_iconst (v := 1) S.1 S.2.1 dX11_judge_24 (by decide) ?_
  refine lv_aload_n S.1 S.2.1 dX11_judge_25 rfl (lv_at hl 1 rfl) ?_
  refine r_get S hK hP 6 10 rfl rfl inX11 9 (by decide) kw_477 (v := .int 0) rfl dX11_judge_26 ?_
  refine r_ishl S dX11_judge_29 (v := 1) (by decide) ?_
  refine r_icmp_ge S 0 1 rfl rfl dX11_judge_30 (tgt := 94) (by decide) (fun c => absurd c (by decide)) (fun _ => ?_)
  refine lv_aload_n S.1 S.2.1 dX11_judge_33 rfl (lv_at hl 1 rfl) ?_
  refine r_get S hK hP 6 10 rfl rfl inX11 14 (by decide) kw_482 (v := .ref (x 42)) rfl dX11_judge_34 ?_
  refine lv_iload_n S.1 S.2.1 dX11_judge_37 rfl (lv_at hl 0 rfl) ?_
  refine r_aald S hK hP 9 7 rfl rfl (0) rfl (by decide) (by decide) (v := .ref g_1) rfl dX11_judge_38 ?_
  refine lv_astore_n (lv' := [(2, .ref g_1), (1, .int 0), (0, .ref (x 0))]) S.1 S.2.1 dX11_judge_39 rfl hl (by decide) rfl (fun ls hl => ?_)
  refine lv_aload_n S.1 S.2.1 dX11_judge_40 rfl (lv_at hl 0 rfl) ?_
  refine r_get S hK hP 11 1 rfl rfl inX1 1 (by decide) kw_1017 (v := .int 0) rfl dX11_judge_41 ?_
  refine r_if_ne S 0 rfl dX11_judge_44 (tgt := 55) (by decide) (fun c => absurd c (by decide)) (fun _ => ?_)
  refine lv_aload_n S.1 S.2.1 dX11_judge_47 rfl (lv_at hl 2 rfl) ?_
  refine r_get S hK hP 6 10 rfl rfl inX11 13 (by decide) kw_481 (v := .ref (x 31)) rfl dX11_judge_48 ?_
  refine lv_aload_n S.1 S.2.1 dX11_judge_51 rfl (lv_at hl 0 rfl) ?_
  refine call_v (wr := [((x 0), .inr (10, [.int 0, .int (-1), .ref (x 1), .ref (x 9), .int 0, .ref (x 10), .ref (x 13), .ref (x 16), .ref (x 29), .int 0, .int 0, .ref (x 30), .int 0, .ref (x 31), .ref (x 42), .int 1, .int 1, .null, .ref (x 43)])), ((x 13), .inr (4, [.ref (x 14), .ref (x 15), .int 0, .ref (x 16)])), ((x 16), .inr (5, [.int 0, .ref (x 17), .ref (x 18), .ref (x 19), .ref (x 20), .ref (x 21), .int 0, .int 10, .int 20, .int 0, .int 0, .ref (x 22), .ref (x 23), .int 0, .ref (x 24), .ref (x 25), .ref (x 26), .ref (x 27), .ref (x 28)])), ((x 42), .inl (cy 7, 16, .inr (.inr (.inr (.inr (va_up (fun _ => none) (0) (some g_1))))))), (lo_1, .inl (cy 0, 96, .inl (fun _ => 0))), (hi_1, .inl (cy 0, 96, .inl (fun _ => 0)))]) (runV_C (wc := [((x 31), .inr (6, [.ref (x 32), .ref (x 9), .ref (x 29), .int 0, .int 0, .int 10, .ref (x 36), .ref (x 37), .ref (x 38), .ref (x 39), .ref (x 40), .ref (x 41), .int 0])), ((x 32), .inr (9, [.ref (x 33), .ref (x 34), .ref (x 35), .int 0])), ((x 33), .inl (cy 0, 384, .inl (fun _ => 0))), ((x 34), .inl (cy 2, 384, .inr (.inl (fun _ => 0)))), ((x 35), .inl (cy 0, 96, .inl (fun _ => 0))), ((x 36), .inl (cy 0, 96, .inl (fun _ => 0))), ((x 38), .inl (cy 0, 96, .inl (fun _ => 0))), (g_1, .inr (1, [.int 0, .int 0, .int 0, .int 0, .long 0, .int 0, .int 0, .ref lo_1, .ref hi_1]))]) (As := [.ref g_1]) (rest := []) S (kX6_solve l D cy x g_1 lo_1 hi_1) hK hP hD [10, 0, 1, 2, 3, 4, 5, 11] (by decide) rfl 0 6 rfl rfl kw_1058 kw_1059 kw_1060 kw_150 kw_1061 okX6_solve rfl (by decide) hl.1 rfl (Nat.le_of_ble_eq_true rfl) dX11_judge_52 (by decide)) hP hD hS hA [10, 0, 1, 2, 3, 4, 5, 11] [6, 7, 8, 9, 12, 13] rfl rfl (by decide) (by decide) (fun u52 H locs w52 hP hD hS => ?_)
  have hP : va_P D vwCl [((x 0), .inr (10, [.int 0, .int (-1), .ref (x 1), .ref (x 9), .int 0, .ref (x 10), .ref (x 13), .ref (x 16), .ref (x 29), .int 0, .int 0, .ref (x 30), .int 0, .ref (x 31), .ref (x 42), .int 1, .int 1, .null, .ref (x 43)])), ((x 13), .inr (4, [.ref (x 14), .ref (x 15), .int 0, .ref (x 16)])), ((x 16), .inr (5, [.int 0, .ref (x 17), .ref (x 18), .ref (x 19), .ref (x 20), .ref (x 21), .int 0, .int 10, .int 20, .int 0, .int 0, .ref (x 22), .ref (x 23), .int 0, .ref (x 24), .ref (x 25), .ref (x 26), .ref (x 27), .ref (x 28)])), ((x 42), .inl (cy 7, 16, .inr (.inr (.inr (.inr (va_up (fun _ => none) (0) (some g_1))))))), (lo_1, .inl (cy 0, 96, .inl (fun _ => 0))), (hi_1, .inl (cy 0, 96, .inl (fun _ => 0))), ((x 31), .inr (6, [.ref (x 32), .ref (x 9), .ref (x 29), .int 0, .int 0, .int 10, .ref (x 36), .ref (x 37), .ref (x 38), .ref (x 39), .ref (x 40), .ref (x 41), .int 1])), ((x 32), .inr (9, [.ref (x 33), .ref (x 34), .ref (x 35), .int 0])), ((x 33), .inl (cy 0, 384, .inl (fun _ => 10))), ((x 34), .inl (cy 2, 384, .inr (.inl (fun _ => 0)))), ((x 35), .inl (cy 0, 96, .inl (fun _ => (-1)))), ((x 36), .inl (cy 0, 96, .inl (fun _ => 0))), ((x 38), .inl (cy 0, 96, .inl (fun _ => (-268435456)))), (g_1, .inr (1, [.int 0, .int 1, .int 1, .int 0, .long 0, .int 0, .int 0, .ref lo_1, .ref hi_1]))] H := hP
  have hD : va_D A [((x 0), .inr (10, [.int 0, .int (-1), .ref (x 1), .ref (x 9), .int 0, .ref (x 10), .ref (x 13), .ref (x 16), .ref (x 29), .int 0, .int 0, .ref (x 30), .int 0, .ref (x 31), .ref (x 42), .int 1, .int 1, .null, .ref (x 43)])), ((x 13), .inr (4, [.ref (x 14), .ref (x 15), .int 0, .ref (x 16)])), ((x 16), .inr (5, [.int 0, .ref (x 17), .ref (x 18), .ref (x 19), .ref (x 20), .ref (x 21), .int 0, .int 10, .int 20, .int 0, .int 0, .ref (x 22), .ref (x 23), .int 0, .ref (x 24), .ref (x 25), .ref (x 26), .ref (x 27), .ref (x 28)])), ((x 42), .inl (cy 7, 16, .inr (.inr (.inr (.inr (va_up (fun _ => none) (0) (some g_1))))))), (lo_1, .inl (cy 0, 96, .inl (fun _ => 0))), (hi_1, .inl (cy 0, 96, .inl (fun _ => 0))), ((x 31), .inr (6, [.ref (x 32), .ref (x 9), .ref (x 29), .int 0, .int 0, .int 10, .ref (x 36), .ref (x 37), .ref (x 38), .ref (x 39), .ref (x 40), .ref (x 41), .int 1])), ((x 32), .inr (9, [.ref (x 33), .ref (x 34), .ref (x 35), .int 0])), ((x 33), .inl (cy 0, 384, .inl (fun _ => 10))), ((x 34), .inl (cy 2, 384, .inr (.inl (fun _ => 0)))), ((x 35), .inl (cy 0, 96, .inl (fun _ => (-1)))), ((x 36), .inl (cy 0, 96, .inl (fun _ => 0))), ((x 38), .inl (cy 0, 96, .inl (fun _ => (-268435456)))), (g_1, .inr (1, [.int 0, .int 1, .int 1, .int 0, .long 0, .int 0, .int 0, .ref lo_1, .ref hi_1]))] := hD
  refine lv_aload_n S.1 S.2.1 dX11_judge_55 rfl (lv_at hl 0 rfl) ?_
  refine r_get S hK hP 13 1 rfl rfl inX1 2 (by decide) kw_1019 (v := .int 1) rfl dX11_judge_56 ?_
  refine r_if_eq S 1 rfl dX11_judge_59 (tgt := 88) (by decide) (fun c => absurd c (by decide)) (fun _ => ?_)
  refine lv_aload_n S.1 S.2.1 dX11_judge_62 rfl (lv_at hl 2 rfl) ?_
  refine r_get S hK hP 0 10 rfl rfl inX11 17 (by decide) kw_485 (v := .null) rfl dX11_judge_63 ?_
  refine lv_ifnullN (tgt := 83) S.1 S.2.1 dX11_judge_66 (by decide) ?_
  refine lv_aload_n S.1 S.2.1 dX11_judge_83 rfl (lv_at hl 2 rfl) ?_
  refine lv_aload_n S.1 S.2.1 dX11_judge_84 rfl (lv_at hl 0 rfl) ?_
  refine r_put S hK hP hD hS 0 10 rfl rfl inX11 17 (by decide) tyX11 tyX11_ok nmX11 kw_485 (v := .ref g_1) rfl rfl rfl (Nat.le_of_ble_eq_true rfl) dX11_judge_85 (fun H locs hP hD hS => ?_)
  have hP : va_P D vwCl [((x 0), .inr (10, [.int 0, .int (-1), .ref (x 1), .ref (x 9), .int 0, .ref (x 10), .ref (x 13), .ref (x 16), .ref (x 29), .int 0, .int 0, .ref (x 30), .int 0, .ref (x 31), .ref (x 42), .int 1, .int 1, .ref g_1, .ref (x 43)])), ((x 13), .inr (4, [.ref (x 14), .ref (x 15), .int 0, .ref (x 16)])), ((x 16), .inr (5, [.int 0, .ref (x 17), .ref (x 18), .ref (x 19), .ref (x 20), .ref (x 21), .int 0, .int 10, .int 20, .int 0, .int 0, .ref (x 22), .ref (x 23), .int 0, .ref (x 24), .ref (x 25), .ref (x 26), .ref (x 27), .ref (x 28)])), ((x 42), .inl (cy 7, 16, .inr (.inr (.inr (.inr (va_up (fun _ => none) (0) (some g_1))))))), (lo_1, .inl (cy 0, 96, .inl (fun _ => 0))), (hi_1, .inl (cy 0, 96, .inl (fun _ => 0))), ((x 31), .inr (6, [.ref (x 32), .ref (x 9), .ref (x 29), .int 0, .int 0, .int 10, .ref (x 36), .ref (x 37), .ref (x 38), .ref (x 39), .ref (x 40), .ref (x 41), .int 1])), ((x 32), .inr (9, [.ref (x 33), .ref (x 34), .ref (x 35), .int 0])), ((x 33), .inl (cy 0, 384, .inl (fun _ => 10))), ((x 34), .inl (cy 2, 384, .inr (.inl (fun _ => 0)))), ((x 35), .inl (cy 0, 96, .inl (fun _ => (-1)))), ((x 36), .inl (cy 0, 96, .inl (fun _ => 0))), ((x 38), .inl (cy 0, 96, .inl (fun _ => (-268435456)))), (g_1, .inr (1, [.int 0, .int 1, .int 1, .int 0, .long 0, .int 0, .int 0, .ref lo_1, .ref hi_1]))] H := hP
  have hD : va_D A [((x 0), .inr (10, [.int 0, .int (-1), .ref (x 1), .ref (x 9), .int 0, .ref (x 10), .ref (x 13), .ref (x 16), .ref (x 29), .int 0, .int 0, .ref (x 30), .int 0, .ref (x 31), .ref (x 42), .int 1, .int 1, .ref g_1, .ref (x 43)])), ((x 13), .inr (4, [.ref (x 14), .ref (x 15), .int 0, .ref (x 16)])), ((x 16), .inr (5, [.int 0, .ref (x 17), .ref (x 18), .ref (x 19), .ref (x 20), .ref (x 21), .int 0, .int 10, .int 20, .int 0, .int 0, .ref (x 22), .ref (x 23), .int 0, .ref (x 24), .ref (x 25), .ref (x 26), .ref (x 27), .ref (x 28)])), ((x 42), .inl (cy 7, 16, .inr (.inr (.inr (.inr (va_up (fun _ => none) (0) (some g_1))))))), (lo_1, .inl (cy 0, 96, .inl (fun _ => 0))), (hi_1, .inl (cy 0, 96, .inl (fun _ => 0))), ((x 31), .inr (6, [.ref (x 32), .ref (x 9), .ref (x 29), .int 0, .int 0, .int 10, .ref (x 36), .ref (x 37), .ref (x 38), .ref (x 39), .ref (x 40), .ref (x 41), .int 1])), ((x 32), .inr (9, [.ref (x 33), .ref (x 34), .ref (x 35), .int 0])), ((x 33), .inl (cy 0, 384, .inl (fun _ => 10))), ((x 34), .inl (cy 2, 384, .inr (.inl (fun _ => 0)))), ((x 35), .inl (cy 0, 96, .inl (fun _ => (-1)))), ((x 36), .inl (cy 0, 96, .inl (fun _ => 0))), ((x 38), .inl (cy 0, 96, .inl (fun _ => (-268435456)))), (g_1, .inr (1, [.int 0, .int 1, .int 1, .int 0, .long 0, .int 0, .int 0, .ref lo_1, .ref hi_1]))] := hD
  refine lv_iinc (v := 1) (lv' := [(1, .int 1), (2, .ref g_1), (0, .ref (x 0))]) S.1 S.2.1 dX11_judge_88 hl (k := 1) rfl (by decide) (by decide) rfl (fun ls hl => ?_)
  refine lv_goto (tgt := 23) S.1 S.2.1 dX11_judge_91 (by decide) ?_
  refine lv_iload_n S.1 S.2.1 dX11_judge_23 rfl (lv_at hl 0 rfl) ?_
  refine lv_iconst (v := 1) S.1 S.2.1 dX11_judge_24 (by decide) ?_
  refine lv_aload_n S.1 S.2.1 dX11_judge_25 rfl (lv_at hl 2 rfl) ?_
  refine r_get S hK hP 0 10 rfl rfl inX11 9 (by decide) kw_477 (v := .int 0) rfl dX11_judge_26 ?_
  refine r_ishl S dX11_judge_29 (v := 1) (by decide) ?_
  refine r_icmp_ge S 1 1 rfl rfl dX11_judge_30 (tgt := 94) (by decide) (fun _ => ?_) (fun c => absurd c (by decide))
  refine lv_aload_n S.1 S.2.1 dX11_judge_94 rfl (lv_at hl 2 rfl) ?_
  refine r_get S hK hP 0 10 rfl rfl inX11 17 (by decide) kw_485 (v := .ref g_1) rfl dX11_judge_95 ?_
  refine lv_ifnull S.1 S.2.1 dX11_judge_98 ?_
  refine lv_iconst (v := 1) S.1 S.2.1 dX11_judge_101 (by decide) ?_
  refine lv_goto (tgt := 106) S.1 S.2.1 dX11_judge_102 (by decide) ?_
  exact ci_ret (u := (g_1, lo_1, hi_1)) S hr hlk (by decide) hK (hP.sub [0, 1, 2, 3, 6, 7, 8, 9, 10, 11, 12, 13, 4, 5] rfl) (hD.sub [0, 1, 2, 3, 6, 7, 8, 9, 10, 11, 12, 13, 4, 5] (by decide) rfl) hS (rfl) (by decide) (by decide) dX11_judge_106
set_option maxHeartbeats 4000000 in
set_option maxRecDepth 100000 in
theorem kX11_judge_b (l : Launch) (D : va_G) (cy : Nat → ClassId) (x : Nat → Nat) (g : Nat) (lo : Nat) (hi : Nat) : CI l D cy yX11_judge cX11_judge 3 (some .boolean) 6 155 0 0 [.ref (x 0)] [((x 0), .inr (10, [.int 0, .int (-1), .ref (x 1), .ref (x 9), .int 0, .ref (x 10), .ref (x 13), .ref (x 16), .ref (x 29), .int 0, .int 0, .ref (x 30), .int 0, .ref (x 31), .ref (x 42), .int 1, .int 0, .null, .ref (x 43)])), ((x 13), .inr (4, [.ref (x 14), .ref (x 15), .int 0, .ref (x 16)])), ((x 16), .inr (5, [.int 0, .ref (x 17), .ref (x 18), .ref (x 19), .ref (x 20), .ref (x 21), .int 0, .int 10, .int 20, .int 0, .int 0, .ref (x 22), .ref (x 23), .int 0, .ref (x 24), .ref (x 25), .ref (x 26), .ref (x 27), .ref (x 28)])), ((x 42), .inl (cy 7, 16, .inr (.inr (.inr (.inr (va_up (fun _ => none) (0) (some g))))))), ((x 31), .inr (6, [.ref (x 32), .ref (x 9), .ref (x 29), .int 0, .int 0, .int 10, .ref (x 36), .ref (x 37), .ref (x 38), .ref (x 39), .ref (x 40), .ref (x 41), .int 0])), ((x 32), .inr (9, [.ref (x 33), .ref (x 34), .ref (x 35), .int 0])), ((x 33), .inl (cy 0, 384, .inl (fun _ => 0))), ((x 34), .inl (cy 2, 384, .inr (.inl (fun _ => 0)))), ((x 35), .inl (cy 0, 96, .inl (fun _ => 0))), ((x 36), .inl (cy 0, 96, .inl (fun _ => 0))), ((x 38), .inl (cy 0, 96, .inl (fun _ => 0))), (g, .inr (1, [.int 0, .int 0, .int 0, .int 0, .long 0, .int 0, .int 0, .ref lo, .ref hi])), (lo, .inl (cy 0, 96, .inl (fun _ => 0))), (hi, .inl (cy 0, 96, .inl (fun _ => 0)))] (fun (v : Int32) (u : Unit) => v = 1) (fun (u : Unit) => [((x 0), .inr (10, [.int 0, .int (-1), .ref (x 1), .ref (x 9), .int 0, .ref (x 10), .ref (x 13), .ref (x 16), .ref (x 29), .int 0, .int 0, .ref (x 30), .int 0, .ref (x 31), .ref (x 42), .int 1, .int 1, .ref g, .ref (x 43)])), ((x 13), .inr (4, [.ref (x 14), .ref (x 15), .int 0, .ref (x 16)])), ((x 16), .inr (5, [.int 0, .ref (x 17), .ref (x 18), .ref (x 19), .ref (x 20), .ref (x 21), .int 0, .int 10, .int 20, .int 0, .int 0, .ref (x 22), .ref (x 23), .int 0, .ref (x 24), .ref (x 25), .ref (x 26), .ref (x 27), .ref (x 28)])), ((x 42), .inl (cy 7, 16, .inr (.inr (.inr (.inr (va_up (fun _ => none) (0) (some g))))))), ((x 31), .inr (6, [.ref (x 32), .ref (x 9), .ref (x 29), .int 0, .int 0, .int 10, .ref (x 36), .ref (x 37), .ref (x 38), .ref (x 39), .ref (x 40), .ref (x 41), .int 1])), ((x 32), .inr (9, [.ref (x 33), .ref (x 34), .ref (x 35), .int 0])), ((x 33), .inl (cy 0, 384, .inl (fun _ => 10))), ((x 34), .inl (cy 2, 384, .inr (.inl (fun _ => 0)))), ((x 35), .inl (cy 0, 96, .inl (fun _ => (-1)))), ((x 36), .inl (cy 0, 96, .inl (fun _ => 0))), ((x 38), .inl (cy 0, 96, .inl (fun _ => (-268435456)))), (g, .inr (1, [.int 0, .int 1, .int 1, .int 0, .long 0, .int 0, .int 0, .ref lo, .ref hi])), (lo, .inl (cy 0, 96, .inl (fun _ => 0))), (hi, .inl (cy 0, 96, .inl (fun _ => 0)))]) := by
  refine ci_go (by decide) (Nat.le_of_ble_eq_true rfl) (fun p e s m below meth c ls A hA S hr hlk hnm hP hK hD hl => ?_)
  have hS : va_S A s.heap s.heap [] := va_S.rf
  have hl : lv_has ls 3 [(0, .ref (x 0))] := hl
  refine lv_aload_n S.1 S.2.1 dX11_judge_0 rfl (lv_at hl 0 rfl) ?_
  refine call_rv (runV_R (wc := [((x 0), .inr (10, [.int 0, .int (-1), .ref (x 1), .ref (x 9), .int 0, .ref (x 10), .ref (x 13), .ref (x 16), .ref (x 29), .int 0, .int 0, .ref (x 30), .int 0, .ref (x 31), .ref (x 42), .int 1, .int 0, .null, .ref (x 43)]))]) (As := []) (rest := []) S (kX11_settle_b l D cy x) hK hP [0] rfl 0 10 rfl rfl kw_960 kw_962 kw_23 kw_144 kw_963 okX11_settle rfl (by decide) hl.1 rfl (Nat.le_of_ble_eq_true rfl) dX11_judge_1 (by decide)) (fun w1 => ?_)
  refine lv_aload_n S.1 S.2.1 dX11_judge_4 rfl (lv_at hl 0 rfl) ?_
  refine r_get S hK hP 0 10 rfl rfl inX11 16 (by decide) kw_484 (v := .int 0) rfl dX11_judge_5 ?_
  refine r_if_ne S 0 rfl dX11_judge_8 (tgt := 94) (by decide) (fun c => absurd c (by decide)) (fun _ => ?_)
  refine lv_aload_n S.1 S.2.1 dX11_judge_11 rfl (lv_at hl 0 rfl) ?_
  refine lv_iconst (v := 1) S.1 S.2.1 dX11_judge_12 (by decide) ?_
  refine r_put S hK hP hD hS 0 10 rfl rfl inX11 16 (by decide) tyX11 tyX11_ok nmX11 kw_484 (v := .int 1) rfl (by decide) (by decide) (Nat.le_of_ble_eq_true rfl) dX11_judge_13 (fun H locs hP hD hS => ?_)
  have hP : va_P D vwCl [((x 0), .inr (10, [.int 0, .int (-1), .ref (x 1), .ref (x 9), .int 0, .ref (x 10), .ref (x 13), .ref (x 16), .ref (x 29), .int 0, .int 0, .ref (x 30), .int 0, .ref (x 31), .ref (x 42), .int 1, .int 1, .null, .ref (x 43)])), ((x 13), .inr (4, [.ref (x 14), .ref (x 15), .int 0, .ref (x 16)])), ((x 16), .inr (5, [.int 0, .ref (x 17), .ref (x 18), .ref (x 19), .ref (x 20), .ref (x 21), .int 0, .int 10, .int 20, .int 0, .int 0, .ref (x 22), .ref (x 23), .int 0, .ref (x 24), .ref (x 25), .ref (x 26), .ref (x 27), .ref (x 28)])), ((x 42), .inl (cy 7, 16, .inr (.inr (.inr (.inr (va_up (fun _ => none) (0) (some g))))))), ((x 31), .inr (6, [.ref (x 32), .ref (x 9), .ref (x 29), .int 0, .int 0, .int 10, .ref (x 36), .ref (x 37), .ref (x 38), .ref (x 39), .ref (x 40), .ref (x 41), .int 0])), ((x 32), .inr (9, [.ref (x 33), .ref (x 34), .ref (x 35), .int 0])), ((x 33), .inl (cy 0, 384, .inl (fun _ => 0))), ((x 34), .inl (cy 2, 384, .inr (.inl (fun _ => 0)))), ((x 35), .inl (cy 0, 96, .inl (fun _ => 0))), ((x 36), .inl (cy 0, 96, .inl (fun _ => 0))), ((x 38), .inl (cy 0, 96, .inl (fun _ => 0))), (g, .inr (1, [.int 0, .int 0, .int 0, .int 0, .long 0, .int 0, .int 0, .ref lo, .ref hi])), (lo, .inl (cy 0, 96, .inl (fun _ => 0))), (hi, .inl (cy 0, 96, .inl (fun _ => 0)))] H := hP
  have hD : va_D A [((x 0), .inr (10, [.int 0, .int (-1), .ref (x 1), .ref (x 9), .int 0, .ref (x 10), .ref (x 13), .ref (x 16), .ref (x 29), .int 0, .int 0, .ref (x 30), .int 0, .ref (x 31), .ref (x 42), .int 1, .int 1, .null, .ref (x 43)])), ((x 13), .inr (4, [.ref (x 14), .ref (x 15), .int 0, .ref (x 16)])), ((x 16), .inr (5, [.int 0, .ref (x 17), .ref (x 18), .ref (x 19), .ref (x 20), .ref (x 21), .int 0, .int 10, .int 20, .int 0, .int 0, .ref (x 22), .ref (x 23), .int 0, .ref (x 24), .ref (x 25), .ref (x 26), .ref (x 27), .ref (x 28)])), ((x 42), .inl (cy 7, 16, .inr (.inr (.inr (.inr (va_up (fun _ => none) (0) (some g))))))), ((x 31), .inr (6, [.ref (x 32), .ref (x 9), .ref (x 29), .int 0, .int 0, .int 10, .ref (x 36), .ref (x 37), .ref (x 38), .ref (x 39), .ref (x 40), .ref (x 41), .int 0])), ((x 32), .inr (9, [.ref (x 33), .ref (x 34), .ref (x 35), .int 0])), ((x 33), .inl (cy 0, 384, .inl (fun _ => 0))), ((x 34), .inl (cy 2, 384, .inr (.inl (fun _ => 0)))), ((x 35), .inl (cy 0, 96, .inl (fun _ => 0))), ((x 36), .inl (cy 0, 96, .inl (fun _ => 0))), ((x 38), .inl (cy 0, 96, .inl (fun _ => 0))), (g, .inr (1, [.int 0, .int 0, .int 0, .int 0, .long 0, .int 0, .int 0, .ref lo, .ref hi])), (lo, .inl (cy 0, 96, .inl (fun _ => 0))), (hi, .inl (cy 0, 96, .inl (fun _ => 0)))] := hD
  refine lv_aload_n S.1 S.2.1 dX11_judge_16 rfl (lv_at hl 0 rfl) ?_
  refine lv_null S.1 S.2.1 dX11_judge_17 ?_
  refine r_put S hK hP hD hS 0 10 rfl rfl inX11 17 (by decide) tyX11 tyX11_ok nmX11 kw_485 (v := .null) rfl rfl rfl (Nat.le_of_ble_eq_true rfl) dX11_judge_18 (fun H locs hP hD hS => ?_)
  have hP : va_P D vwCl [((x 0), .inr (10, [.int 0, .int (-1), .ref (x 1), .ref (x 9), .int 0, .ref (x 10), .ref (x 13), .ref (x 16), .ref (x 29), .int 0, .int 0, .ref (x 30), .int 0, .ref (x 31), .ref (x 42), .int 1, .int 1, .null, .ref (x 43)])), ((x 13), .inr (4, [.ref (x 14), .ref (x 15), .int 0, .ref (x 16)])), ((x 16), .inr (5, [.int 0, .ref (x 17), .ref (x 18), .ref (x 19), .ref (x 20), .ref (x 21), .int 0, .int 10, .int 20, .int 0, .int 0, .ref (x 22), .ref (x 23), .int 0, .ref (x 24), .ref (x 25), .ref (x 26), .ref (x 27), .ref (x 28)])), ((x 42), .inl (cy 7, 16, .inr (.inr (.inr (.inr (va_up (fun _ => none) (0) (some g))))))), ((x 31), .inr (6, [.ref (x 32), .ref (x 9), .ref (x 29), .int 0, .int 0, .int 10, .ref (x 36), .ref (x 37), .ref (x 38), .ref (x 39), .ref (x 40), .ref (x 41), .int 0])), ((x 32), .inr (9, [.ref (x 33), .ref (x 34), .ref (x 35), .int 0])), ((x 33), .inl (cy 0, 384, .inl (fun _ => 0))), ((x 34), .inl (cy 2, 384, .inr (.inl (fun _ => 0)))), ((x 35), .inl (cy 0, 96, .inl (fun _ => 0))), ((x 36), .inl (cy 0, 96, .inl (fun _ => 0))), ((x 38), .inl (cy 0, 96, .inl (fun _ => 0))), (g, .inr (1, [.int 0, .int 0, .int 0, .int 0, .long 0, .int 0, .int 0, .ref lo, .ref hi])), (lo, .inl (cy 0, 96, .inl (fun _ => 0))), (hi, .inl (cy 0, 96, .inl (fun _ => 0)))] H := hP
  have hD : va_D A [((x 0), .inr (10, [.int 0, .int (-1), .ref (x 1), .ref (x 9), .int 0, .ref (x 10), .ref (x 13), .ref (x 16), .ref (x 29), .int 0, .int 0, .ref (x 30), .int 0, .ref (x 31), .ref (x 42), .int 1, .int 1, .null, .ref (x 43)])), ((x 13), .inr (4, [.ref (x 14), .ref (x 15), .int 0, .ref (x 16)])), ((x 16), .inr (5, [.int 0, .ref (x 17), .ref (x 18), .ref (x 19), .ref (x 20), .ref (x 21), .int 0, .int 10, .int 20, .int 0, .int 0, .ref (x 22), .ref (x 23), .int 0, .ref (x 24), .ref (x 25), .ref (x 26), .ref (x 27), .ref (x 28)])), ((x 42), .inl (cy 7, 16, .inr (.inr (.inr (.inr (va_up (fun _ => none) (0) (some g))))))), ((x 31), .inr (6, [.ref (x 32), .ref (x 9), .ref (x 29), .int 0, .int 0, .int 10, .ref (x 36), .ref (x 37), .ref (x 38), .ref (x 39), .ref (x 40), .ref (x 41), .int 0])), ((x 32), .inr (9, [.ref (x 33), .ref (x 34), .ref (x 35), .int 0])), ((x 33), .inl (cy 0, 384, .inl (fun _ => 0))), ((x 34), .inl (cy 2, 384, .inr (.inl (fun _ => 0)))), ((x 35), .inl (cy 0, 96, .inl (fun _ => 0))), ((x 36), .inl (cy 0, 96, .inl (fun _ => 0))), ((x 38), .inl (cy 0, 96, .inl (fun _ => 0))), (g, .inr (1, [.int 0, .int 0, .int 0, .int 0, .long 0, .int 0, .int 0, .ref lo, .ref hi])), (lo, .inl (cy 0, 96, .inl (fun _ => 0))), (hi, .inl (cy 0, 96, .inl (fun _ => 0)))] := hD
  refine lv_iconst (v := 0) S.1 S.2.1 dX11_judge_21 (by decide) ?_
  refine lv_istore_n (lv' := [(1, .int 0), (0, .ref (x 0))]) S.1 S.2.1 dX11_judge_22 rfl hl (by decide) rfl (fun ls hl => ?_)
  refine lv_iload_n S.1 S.2.1 dX11_judge_23 rfl (lv_at hl 0 rfl) ?_
  refine lv_iconst (v := 1) S.1 S.2.1 dX11_judge_24 (by decide) ?_
  refine lv_aload_n S.1 S.2.1 dX11_judge_25 rfl (lv_at hl 1 rfl) ?_
  refine r_get S hK hP 0 10 rfl rfl inX11 9 (by decide) kw_477 (v := .int 0) rfl dX11_judge_26 ?_
  refine r_ishl S dX11_judge_29 (v := 1) (by decide) ?_
  refine r_icmp_ge S 0 1 rfl rfl dX11_judge_30 (tgt := 94) (by decide) (fun c => absurd c (by decide)) (fun _ => ?_)
  refine lv_aload_n S.1 S.2.1 dX11_judge_33 rfl (lv_at hl 1 rfl) ?_
  refine r_get S hK hP 0 10 rfl rfl inX11 14 (by decide) kw_482 (v := .ref (x 42)) rfl dX11_judge_34 ?_
  refine lv_iload_n S.1 S.2.1 dX11_judge_37 rfl (lv_at hl 0 rfl) ?_
  refine r_aald S hK hP 3 7 rfl rfl (0) rfl (by decide) (by decide) (v := .ref g) rfl dX11_judge_38 ?_
  refine lv_astore_n (lv' := [(2, .ref g), (1, .int 0), (0, .ref (x 0))]) S.1 S.2.1 dX11_judge_39 rfl hl (by decide) rfl (fun ls hl => ?_)
  refine lv_aload_n S.1 S.2.1 dX11_judge_40 rfl (lv_at hl 0 rfl) ?_
  refine r_get S hK hP 11 1 rfl rfl inX1 1 (by decide) kw_1017 (v := .int 0) rfl dX11_judge_41 ?_
  refine r_if_ne S 0 rfl dX11_judge_44 (tgt := 55) (by decide) (fun c => absurd c (by decide)) (fun _ => ?_)
  refine lv_aload_n S.1 S.2.1 dX11_judge_47 rfl (lv_at hl 2 rfl) ?_
  refine r_get S hK hP 0 10 rfl rfl inX11 13 (by decide) kw_481 (v := .ref (x 31)) rfl dX11_judge_48 ?_
  refine lv_aload_n S.1 S.2.1 dX11_judge_51 rfl (lv_at hl 0 rfl) ?_
  refine call_v (wr := [((x 0), .inr (10, [.int 0, .int (-1), .ref (x 1), .ref (x 9), .int 0, .ref (x 10), .ref (x 13), .ref (x 16), .ref (x 29), .int 0, .int 0, .ref (x 30), .int 0, .ref (x 31), .ref (x 42), .int 1, .int 1, .null, .ref (x 43)])), ((x 13), .inr (4, [.ref (x 14), .ref (x 15), .int 0, .ref (x 16)])), ((x 16), .inr (5, [.int 0, .ref (x 17), .ref (x 18), .ref (x 19), .ref (x 20), .ref (x 21), .int 0, .int 10, .int 20, .int 0, .int 0, .ref (x 22), .ref (x 23), .int 0, .ref (x 24), .ref (x 25), .ref (x 26), .ref (x 27), .ref (x 28)])), ((x 42), .inl (cy 7, 16, .inr (.inr (.inr (.inr (va_up (fun _ => none) (0) (some g))))))), (lo, .inl (cy 0, 96, .inl (fun _ => 0))), (hi, .inl (cy 0, 96, .inl (fun _ => 0)))]) (runV_C (wc := [((x 31), .inr (6, [.ref (x 32), .ref (x 9), .ref (x 29), .int 0, .int 0, .int 10, .ref (x 36), .ref (x 37), .ref (x 38), .ref (x 39), .ref (x 40), .ref (x 41), .int 0])), ((x 32), .inr (9, [.ref (x 33), .ref (x 34), .ref (x 35), .int 0])), ((x 33), .inl (cy 0, 384, .inl (fun _ => 0))), ((x 34), .inl (cy 2, 384, .inr (.inl (fun _ => 0)))), ((x 35), .inl (cy 0, 96, .inl (fun _ => 0))), ((x 36), .inl (cy 0, 96, .inl (fun _ => 0))), ((x 38), .inl (cy 0, 96, .inl (fun _ => 0))), (g, .inr (1, [.int 0, .int 0, .int 0, .int 0, .long 0, .int 0, .int 0, .ref lo, .ref hi]))]) (As := [.ref g]) (rest := []) S (kX6_solve l D cy x g lo hi) hK hP hD [4, 5, 6, 7, 8, 9, 10, 11] (by decide) rfl 0 6 rfl rfl kw_1058 kw_1059 kw_1060 kw_150 kw_1061 okX6_solve rfl (by decide) hl.1 rfl (Nat.le_of_ble_eq_true rfl) dX11_judge_52 (by decide)) hP hD hS hA [4, 5, 6, 7, 8, 9, 10, 11] [0, 1, 2, 3, 12, 13] rfl rfl (by decide) (by decide) (fun u52 H locs w52 hP hD hS => ?_)
  have hP : va_P D vwCl [((x 0), .inr (10, [.int 0, .int (-1), .ref (x 1), .ref (x 9), .int 0, .ref (x 10), .ref (x 13), .ref (x 16), .ref (x 29), .int 0, .int 0, .ref (x 30), .int 0, .ref (x 31), .ref (x 42), .int 1, .int 1, .null, .ref (x 43)])), ((x 13), .inr (4, [.ref (x 14), .ref (x 15), .int 0, .ref (x 16)])), ((x 16), .inr (5, [.int 0, .ref (x 17), .ref (x 18), .ref (x 19), .ref (x 20), .ref (x 21), .int 0, .int 10, .int 20, .int 0, .int 0, .ref (x 22), .ref (x 23), .int 0, .ref (x 24), .ref (x 25), .ref (x 26), .ref (x 27), .ref (x 28)])), ((x 42), .inl (cy 7, 16, .inr (.inr (.inr (.inr (va_up (fun _ => none) (0) (some g))))))), (lo, .inl (cy 0, 96, .inl (fun _ => 0))), (hi, .inl (cy 0, 96, .inl (fun _ => 0))), ((x 31), .inr (6, [.ref (x 32), .ref (x 9), .ref (x 29), .int 0, .int 0, .int 10, .ref (x 36), .ref (x 37), .ref (x 38), .ref (x 39), .ref (x 40), .ref (x 41), .int 1])), ((x 32), .inr (9, [.ref (x 33), .ref (x 34), .ref (x 35), .int 0])), ((x 33), .inl (cy 0, 384, .inl (fun _ => 10))), ((x 34), .inl (cy 2, 384, .inr (.inl (fun _ => 0)))), ((x 35), .inl (cy 0, 96, .inl (fun _ => (-1)))), ((x 36), .inl (cy 0, 96, .inl (fun _ => 0))), ((x 38), .inl (cy 0, 96, .inl (fun _ => (-268435456)))), (g, .inr (1, [.int 0, .int 1, .int 1, .int 0, .long 0, .int 0, .int 0, .ref lo, .ref hi]))] H := hP
  have hD : va_D A [((x 0), .inr (10, [.int 0, .int (-1), .ref (x 1), .ref (x 9), .int 0, .ref (x 10), .ref (x 13), .ref (x 16), .ref (x 29), .int 0, .int 0, .ref (x 30), .int 0, .ref (x 31), .ref (x 42), .int 1, .int 1, .null, .ref (x 43)])), ((x 13), .inr (4, [.ref (x 14), .ref (x 15), .int 0, .ref (x 16)])), ((x 16), .inr (5, [.int 0, .ref (x 17), .ref (x 18), .ref (x 19), .ref (x 20), .ref (x 21), .int 0, .int 10, .int 20, .int 0, .int 0, .ref (x 22), .ref (x 23), .int 0, .ref (x 24), .ref (x 25), .ref (x 26), .ref (x 27), .ref (x 28)])), ((x 42), .inl (cy 7, 16, .inr (.inr (.inr (.inr (va_up (fun _ => none) (0) (some g))))))), (lo, .inl (cy 0, 96, .inl (fun _ => 0))), (hi, .inl (cy 0, 96, .inl (fun _ => 0))), ((x 31), .inr (6, [.ref (x 32), .ref (x 9), .ref (x 29), .int 0, .int 0, .int 10, .ref (x 36), .ref (x 37), .ref (x 38), .ref (x 39), .ref (x 40), .ref (x 41), .int 1])), ((x 32), .inr (9, [.ref (x 33), .ref (x 34), .ref (x 35), .int 0])), ((x 33), .inl (cy 0, 384, .inl (fun _ => 10))), ((x 34), .inl (cy 2, 384, .inr (.inl (fun _ => 0)))), ((x 35), .inl (cy 0, 96, .inl (fun _ => (-1)))), ((x 36), .inl (cy 0, 96, .inl (fun _ => 0))), ((x 38), .inl (cy 0, 96, .inl (fun _ => (-268435456)))), (g, .inr (1, [.int 0, .int 1, .int 1, .int 0, .long 0, .int 0, .int 0, .ref lo, .ref hi]))] := hD
  refine lv_aload_n S.1 S.2.1 dX11_judge_55 rfl (lv_at hl 0 rfl) ?_
  refine r_get S hK hP 13 1 rfl rfl inX1 2 (by decide) kw_1019 (v := .int 1) rfl dX11_judge_56 ?_
  refine r_if_eq S 1 rfl dX11_judge_59 (tgt := 88) (by decide) (fun c => absurd c (by decide)) (fun _ => ?_)
  refine lv_aload_n S.1 S.2.1 dX11_judge_62 rfl (lv_at hl 2 rfl) ?_
  refine r_get S hK hP 0 10 rfl rfl inX11 17 (by decide) kw_485 (v := .null) rfl dX11_judge_63 ?_
  refine lv_ifnullN (tgt := 83) S.1 S.2.1 dX11_judge_66 (by decide) ?_
  refine lv_aload_n S.1 S.2.1 dX11_judge_83 rfl (lv_at hl 2 rfl) ?_
  refine lv_aload_n S.1 S.2.1 dX11_judge_84 rfl (lv_at hl 0 rfl) ?_
  refine r_put S hK hP hD hS 0 10 rfl rfl inX11 17 (by decide) tyX11 tyX11_ok nmX11 kw_485 (v := .ref g) rfl rfl rfl (Nat.le_of_ble_eq_true rfl) dX11_judge_85 (fun H locs hP hD hS => ?_)
  have hP : va_P D vwCl [((x 0), .inr (10, [.int 0, .int (-1), .ref (x 1), .ref (x 9), .int 0, .ref (x 10), .ref (x 13), .ref (x 16), .ref (x 29), .int 0, .int 0, .ref (x 30), .int 0, .ref (x 31), .ref (x 42), .int 1, .int 1, .ref g, .ref (x 43)])), ((x 13), .inr (4, [.ref (x 14), .ref (x 15), .int 0, .ref (x 16)])), ((x 16), .inr (5, [.int 0, .ref (x 17), .ref (x 18), .ref (x 19), .ref (x 20), .ref (x 21), .int 0, .int 10, .int 20, .int 0, .int 0, .ref (x 22), .ref (x 23), .int 0, .ref (x 24), .ref (x 25), .ref (x 26), .ref (x 27), .ref (x 28)])), ((x 42), .inl (cy 7, 16, .inr (.inr (.inr (.inr (va_up (fun _ => none) (0) (some g))))))), (lo, .inl (cy 0, 96, .inl (fun _ => 0))), (hi, .inl (cy 0, 96, .inl (fun _ => 0))), ((x 31), .inr (6, [.ref (x 32), .ref (x 9), .ref (x 29), .int 0, .int 0, .int 10, .ref (x 36), .ref (x 37), .ref (x 38), .ref (x 39), .ref (x 40), .ref (x 41), .int 1])), ((x 32), .inr (9, [.ref (x 33), .ref (x 34), .ref (x 35), .int 0])), ((x 33), .inl (cy 0, 384, .inl (fun _ => 10))), ((x 34), .inl (cy 2, 384, .inr (.inl (fun _ => 0)))), ((x 35), .inl (cy 0, 96, .inl (fun _ => (-1)))), ((x 36), .inl (cy 0, 96, .inl (fun _ => 0))), ((x 38), .inl (cy 0, 96, .inl (fun _ => (-268435456)))), (g, .inr (1, [.int 0, .int 1, .int 1, .int 0, .long 0, .int 0, .int 0, .ref lo, .ref hi]))] H := hP
  have hD : va_D A [((x 0), .inr (10, [.int 0, .int (-1), .ref (x 1), .ref (x 9), .int 0, .ref (x 10), .ref (x 13), .ref (x 16), .ref (x 29), .int 0, .int 0, .ref (x 30), .int 0, .ref (x 31), .ref (x 42), .int 1, .int 1, .ref g, .ref (x 43)])), ((x 13), .inr (4, [.ref (x 14), .ref (x 15), .int 0, .ref (x 16)])), ((x 16), .inr (5, [.int 0, .ref (x 17), .ref (x 18), .ref (x 19), .ref (x 20), .ref (x 21), .int 0, .int 10, .int 20, .int 0, .int 0, .ref (x 22), .ref (x 23), .int 0, .ref (x 24), .ref (x 25), .ref (x 26), .ref (x 27), .ref (x 28)])), ((x 42), .inl (cy 7, 16, .inr (.inr (.inr (.inr (va_up (fun _ => none) (0) (some g))))))), (lo, .inl (cy 0, 96, .inl (fun _ => 0))), (hi, .inl (cy 0, 96, .inl (fun _ => 0))), ((x 31), .inr (6, [.ref (x 32), .ref (x 9), .ref (x 29), .int 0, .int 0, .int 10, .ref (x 36), .ref (x 37), .ref (x 38), .ref (x 39), .ref (x 40), .ref (x 41), .int 1])), ((x 32), .inr (9, [.ref (x 33), .ref (x 34), .ref (x 35), .int 0])), ((x 33), .inl (cy 0, 384, .inl (fun _ => 10))), ((x 34), .inl (cy 2, 384, .inr (.inl (fun _ => 0)))), ((x 35), .inl (cy 0, 96, .inl (fun _ => (-1)))), ((x 36), .inl (cy 0, 96, .inl (fun _ => 0))), ((x 38), .inl (cy 0, 96, .inl (fun _ => (-268435456)))), (g, .inr (1, [.int 0, .int 1, .int 1, .int 0, .long 0, .int 0, .int 0, .ref lo, .ref hi]))] := hD
  refine lv_iinc (v := 1) (lv' := [(1, .int 1), (2, .ref g), (0, .ref (x 0))]) S.1 S.2.1 dX11_judge_88 hl (k := 1) rfl (by decide) (by decide) rfl (fun ls hl => ?_)
  refine lv_goto (tgt := 23) S.1 S.2.1 dX11_judge_91 (by decide) ?_
  refine lv_iload_n S.1 S.2.1 dX11_judge_23 rfl (lv_at hl 0 rfl) ?_
  refine lv_iconst (v := 1) S.1 S.2.1 dX11_judge_24 (by decide) ?_
  refine lv_aload_n S.1 S.2.1 dX11_judge_25 rfl (lv_at hl 2 rfl) ?_
  refine r_get S hK hP 0 10 rfl rfl inX11 9 (by decide) kw_477 (v := .int 0) rfl dX11_judge_26 ?_
  refine r_ishl S dX11_judge_29 (v := 1) (by decide) ?_
  refine r_icmp_ge S 1 1 rfl rfl dX11_judge_30 (tgt := 94) (by decide) (fun _ => ?_) (fun c => absurd c (by decide))
  refine lv_aload_n S.1 S.2.1 dX11_judge_94 rfl (lv_at hl 2 rfl) ?_
  refine r_get S hK hP 0 10 rfl rfl inX11 17 (by decide) kw_485 (v := .ref g) rfl dX11_judge_95 ?_
  refine lv_ifnull S.1 S.2.1 dX11_judge_98 ?_
  refine lv_iconst (v := 1) S.1 S.2.1 dX11_judge_101 (by decide) ?_
  refine lv_goto (tgt := 106) S.1 S.2.1 dX11_judge_102 (by decide) ?_
  exact ci_ret (u := ()) S hr hlk (by decide) hK (hP.sub [0, 1, 2, 3, 6, 7, 8, 9, 10, 11, 12, 13, 4, 5] rfl) (hD.sub [0, 1, 2, 3, 6, 7, 8, 9, 10, 11, 12, 13, 4, 5] (by decide) rfl) hS (rfl) (by decide) (by decide) dX11_judge_106
set_option maxHeartbeats 4000000 in
set_option maxRecDepth 100000 in
theorem kX11_isKept (l : Launch) (D : va_G) (cy : Nat → ClassId) (x : Nat → Nat) (g : Nat) (lo : Nat) (hi : Nat) : RI l D cy yX11_isKept cX11_isKept 2 (some .boolean) 0 0 [.ref (x 0), .int 0] [((x 0), .inr (10, [.int 0, .int (-1), .ref (x 1), .ref (x 9), .int 0, .ref (x 10), .ref (x 13), .ref (x 16), .ref (x 29), .int 0, .int 0, .ref (x 30), .int 0, .ref (x 31), .ref (x 42), .int 1, .int 1, .ref g, .ref (x 43)])), ((x 42), .inl (cy 7, 16, .inr (.inr (.inr (.inr (va_up (fun _ => none) (0) (some g))))))), (g, .inr (1, [.int 0, .int 1, .int 1, .int 0, .long 0, .int 0, .int 0, .ref lo, .ref hi]))] (fun v : Int32 => v = 1) := by
  refine metr_go (by decide) (Nat.le_of_ble_eq_true rfl) (fun p e s m below meth c ls S hr hlk hP hK hl => ?_)
  have hl : lv_has ls 2 [(0, .ref (x 0)), (1, .int 0)] := hl
  refine lv_aload_n S.1 S.2.1 dX11_isKept_0 rfl (lv_at hl 0 rfl) ?_
  refine r_get S hK hP 0 10 rfl rfl inX11 17 (by decide) kw_485 (v := .ref g) rfl dX11_isKept_1 ?_
  refine lv_ifnull S.1 S.2.1 dX11_isKept_4 ?_
  refine lv_aload_n S.1 S.2.1 dX11_isKept_7 rfl (lv_at hl 0 rfl) ?_
  refine r_get S hK hP 0 10 rfl rfl inX11 14 (by decide) kw_482 (v := .ref (x 42)) rfl dX11_isKept_8 ?_
  refine lv_iload_n S.1 S.2.1 dX11_isKept_11 rfl (lv_at hl 1 rfl) ?_
  refine r_aald S hK hP 1 7 rfl rfl (0) rfl (by decide) (by decide) (v := .ref g) rfl dX11_isKept_12 ?_
  refine r_get S hK hP 2 1 rfl rfl inX1 2 (by decide) kw_1019 (v := .int 1) rfl dX11_isKept_13 ?_
  refine r_if_eq S 1 rfl dX11_isKept_16 (tgt := 47) (by decide) (fun c => absurd c (by decide)) (fun _ => ?_)
  refine lv_aload_n S.1 S.2.1 dX11_isKept_19 rfl (lv_at hl 0 rfl) ?_
  refine r_get S hK hP 0 10 rfl rfl inX11 14 (by decide) kw_482 (v := .ref (x 42)) rfl dX11_isKept_20 ?_
  refine lv_iload_n S.1 S.2.1 dX11_isKept_23 rfl (lv_at hl 1 rfl) ?_
  refine r_aald S hK hP 1 7 rfl rfl (0) rfl (by decide) (by decide) (v := .ref g) rfl dX11_isKept_24 ?_
  refine r_get S hK hP 2 1 rfl rfl inX1 3 (by decide) kw_1021 (v := .int 0) rfl dX11_isKept_25 ?_
  refine lv_aload_n S.1 S.2.1 dX11_isKept_28 rfl (lv_at hl 0 rfl) ?_
  refine r_get S hK hP 0 10 rfl rfl inX11 17 (by decide) kw_485 (v := .ref g) rfl dX11_isKept_29 ?_
  refine r_get S hK hP 2 1 rfl rfl inX1 3 (by decide) kw_1021 (v := .int 0) rfl dX11_isKept_32 ?_
  refine lv_aload_n S.1 S.2.1 dX11_isKept_35 rfl (lv_at hl 0 rfl) ?_
  refine r_get S hK hP 0 10 rfl rfl inX11 10 (by decide) kw_478 (v := .int 0) rfl dX11_isKept_36 ?_
  refine r_iadd S dX11_isKept_39 (v := 0) (by decide) ?_
  refine r_icmp_gt S 0 0 rfl rfl dX11_isKept_40 (tgt := 47) (by decide) (fun c => absurd c (by decide)) (fun _ => ?_)
  refine lv_iconst (v := 1) S.1 S.2.1 dX11_isKept_43 (by decide) ?_
  refine lv_goto (tgt := 48) S.1 S.2.1 dX11_isKept_44 (by decide) ?_
  exact ri_ret S hr hlk (by decide) (rfl) dX11_isKept_48
set_option maxHeartbeats 4000000 in
set_option maxRecDepth 100000 in
theorem kX11_countKept (l : Launch) (D : va_G) (cy : Nat → ClassId) (x : Nat → Nat) (g : Nat) (lo : Nat) (hi : Nat) : RI l D cy yX11_countKept cX11_countKept 3 (some .int) 1 21 [.ref (x 0)] [((x 0), .inr (10, [.int 0, .int (-1), .ref (x 1), .ref (x 9), .int 0, .ref (x 10), .ref (x 13), .ref (x 16), .ref (x 29), .int 0, .int 0, .ref (x 30), .int 0, .ref (x 31), .ref (x 42), .int 1, .int 1, .ref g, .ref (x 43)])), ((x 42), .inl (cy 7, 16, .inr (.inr (.inr (.inr (va_up (fun _ => none) (0) (some g))))))), (g, .inr (1, [.int 0, .int 1, .int 1, .int 0, .long 0, .int 0, .int 0, .ref lo, .ref hi]))] (fun v : Int32 => v = 1) := by
  refine metr_go (by decide) (Nat.le_of_ble_eq_true rfl) (fun p e s m below meth c ls S hr hlk hP hK hl => ?_)
  have hl : lv_has ls 3 [(0, .ref (x 0))] := hl
  refine lv_iconst (v := 0) S.1 S.2.1 dX11_countKept_0 (by decide) ?_
  refine lv_istore_n (lv' := [(1, .int 0), (0, .ref (x 0))]) S.1 S.2.1 dX11_countKept_1 rfl hl (by decide) rfl (fun ls hl => ?_)
  refine lv_iconst (v := 0) S.1 S.2.1 dX11_countKept_2 (by decide) ?_
  refine lv_istore_n (lv' := [(2, .int 0), (1, .int 0), (0, .ref (x 0))]) S.1 S.2.1 dX11_countKept_3 rfl hl (by decide) rfl (fun ls hl => ?_)
  refine lv_iload_n S.1 S.2.1 dX11_countKept_4 rfl (lv_at hl 0 rfl) ?_
  refine lv_iconst (v := 1) S.1 S.2.1 dX11_countKept_5 (by decide) ?_
  refine lv_aload_n S.1 S.2.1 dX11_countKept_6 rfl (lv_at hl 2 rfl) ?_
  refine r_get S hK hP 0 10 rfl rfl inX11 9 (by decide) kw_477 (v := .int 0) rfl dX11_countKept_7 ?_
  refine r_ishl S dX11_countKept_10 (v := 1) (by decide) ?_
  refine r_icmp_ge S 0 1 rfl rfl dX11_countKept_11 (tgt := 36) (by decide) (fun c => absurd c (by decide)) (fun _ => ?_)
  refine lv_iload_n S.1 S.2.1 dX11_countKept_14 rfl (lv_at hl 1 rfl) ?_
  refine lv_aload_n S.1 S.2.1 dX11_countKept_15 rfl (lv_at hl 2 rfl) ?_
  refine lv_iload_n S.1 S.2.1 dX11_countKept_16 rfl (lv_at hl 0 rfl) ?_
  refine call_ri (runV_R (wc := [((x 0), .inr (10, [.int 0, .int (-1), .ref (x 1), .ref (x 9), .int 0, .ref (x 10), .ref (x 13), .ref (x 16), .ref (x 29), .int 0, .int 0, .ref (x 30), .int 0, .ref (x 31), .ref (x 42), .int 1, .int 1, .ref g, .ref (x 43)])), ((x 42), .inl (cy 7, 16, .inr (.inr (.inr (.inr (va_up (fun _ => none) (0) (some g))))))), (g, .inr (1, [.int 0, .int 1, .int 1, .int 0, .long 0, .int 0, .int 0, .ref lo, .ref hi]))]) (As := [.int 0]) (rest := [.int 0]) S (kX11_isKept l D cy x g lo hi) hK hP [0, 1, 2] rfl 0 10 rfl rfl kw_1149 kw_1151 kw_38 kw_144 kw_1152 okX11_isKept rfl (by decide) hl.1 rfl (Nat.le_of_ble_eq_true rfl) dX11_countKept_17 (by decide)) (fun v17 w17 => ?_)
  subst w17
  refine r_if_eq S 1 rfl dX11_countKept_20 (tgt := 27) (by decide) (fun c => absurd c (by decide)) (fun _ => ?_)
  refine lv_iconst (v := 1) S.1 S.2.1 dX11_countKept_23 (by decide) ?_
  refine lv_goto (tgt := 28) S.1 S.2.1 dX11_countKept_24 (by decide) ?_
  refine r_iadd S dX11_countKept_28 (v := 1) (by decide) ?_
  refine lv_istore_n (lv' := [(1, .int 1), (2, .int 0), (0, .ref (x 0))]) S.1 S.2.1 dX11_countKept_29 rfl hl (by decide) rfl (fun ls hl => ?_)
  refine lv_iinc (v := 1) (lv' := [(2, .int 1), (1, .int 1), (0, .ref (x 0))]) S.1 S.2.1 dX11_countKept_30 hl (k := 1) rfl (by decide) (by decide) rfl (fun ls hl => ?_)
  refine lv_goto (tgt := 4) S.1 S.2.1 dX11_countKept_33 (by decide) ?_
  refine lv_iload_n S.1 S.2.1 dX11_countKept_4 rfl (lv_at hl 0 rfl) ?_
  refine lv_iconst (v := 1) S.1 S.2.1 dX11_countKept_5 (by decide) ?_
  refine lv_aload_n S.1 S.2.1 dX11_countKept_6 rfl (lv_at hl 2 rfl) ?_
  refine r_get S hK hP 0 10 rfl rfl inX11 9 (by decide) kw_477 (v := .int 0) rfl dX11_countKept_7 ?_
  refine r_ishl S dX11_countKept_10 (v := 1) (by decide) ?_
  refine r_icmp_ge S 1 1 rfl rfl dX11_countKept_11 (tgt := 36) (by decide) (fun _ => ?_) (fun c => absurd c (by decide))
  refine lv_iload_n S.1 S.2.1 dX11_countKept_36 rfl (lv_at hl 1 rfl) ?_
  exact ri_ret S hr hlk rfl (rfl) dX11_countKept_37
set_option maxHeartbeats 4000000 in
set_option maxRecDepth 100000 in
theorem kX11_prepare_a (l : Launch) (D : va_G) (cy : Nat → ClassId) (x : Nat → Nat) : CI l D cy yX11_prepare cX11_prepare 2 (some .boolean) 7 177 3 201 [.ref (x 0)] [((x 0), .inr (10, [.int 0, .int (-1), .ref (x 1), .ref (x 9), .int 0, .ref (x 10), .ref (x 13), .ref (x 16), .ref (x 29), .int 0, .int 0, .ref (x 30), .int 0, .ref (x 31), .ref (x 42), .int 0, .int 0, .null, .ref (x 43)])), ((x 13), .inr (4, [.ref (x 14), .ref (x 15), .int 0, .ref (x 16)])), ((x 16), .inr (5, [.int 0, .ref (x 17), .ref (x 18), .ref (x 19), .ref (x 20), .ref (x 21), .int 0, .int 10, .int 20, .int 0, .int 0, .ref (x 22), .ref (x 23), .int 0, .ref (x 24), .ref (x 25), .ref (x 26), .ref (x 27), .ref (x 28)])), ((x 42), .inl (cy 7, 16, .inr (.inr (.inr (.inr (fun _ => none)))))), ((x 31), .inr (6, [.ref (x 32), .ref (x 9), .ref (x 29), .int 0, .int 0, .int 0, .ref (x 36), .ref (x 37), .ref (x 38), .ref (x 39), .ref (x 40), .ref (x 41), .int 0])), ((x 32), .inr (9, [.ref (x 33), .ref (x 34), .ref (x 35), .int 0])), ((x 33), .inl (cy 0, 384, .inl (fun _ => 0))), ((x 34), .inl (cy 2, 384, .inr (.inl (fun _ => 0)))), ((x 35), .inl (cy 0, 96, .inl (fun _ => 0))), ((x 36), .inl (cy 0, 96, .inl (fun _ => 0))), ((x 38), .inl (cy 0, 96, .inl (fun _ => 0)))] (fun (v : Int32) (u : (Nat) × (Nat) × (Nat)) => v = 1) (fun (u : (Nat) × (Nat) × (Nat)) => [((x 0), .inr (10, [.int 0, .int (-1), .ref (x 1), .ref (x 9), .int 0, .ref (x 10), .ref (x 13), .ref (x 16), .ref (x 29), .int 0, .int 0, .ref (x 30), .int 0, .ref (x 31), .ref (x 42), .int 1, .int 1, .ref (u.1), .ref (x 43)])), ((x 13), .inr (4, [.ref (x 14), .ref (x 15), .int 0, .ref (x 16)])), ((x 16), .inr (5, [.int 0, .ref (x 17), .ref (x 18), .ref (x 19), .ref (x 20), .ref (x 21), .int 0, .int 10, .int 20, .int 0, .int 0, .ref (x 22), .ref (x 23), .int 0, .ref (x 24), .ref (x 25), .ref (x 26), .ref (x 27), .ref (x 28)])), ((x 42), .inl (cy 7, 16, .inr (.inr (.inr (.inr (va_up (fun _ => none) (0) (some (u.1)))))))), ((x 31), .inr (6, [.ref (x 32), .ref (x 9), .ref (x 29), .int 0, .int 0, .int 10, .ref (x 36), .ref (x 37), .ref (x 38), .ref (x 39), .ref (x 40), .ref (x 41), .int 1])), ((x 32), .inr (9, [.ref (x 33), .ref (x 34), .ref (x 35), .int 0])), ((x 33), .inl (cy 0, 384, .inl (fun _ => 10))), ((x 34), .inl (cy 2, 384, .inr (.inl (fun _ => 0)))), ((x 35), .inl (cy 0, 96, .inl (fun _ => (-1)))), ((x 36), .inl (cy 0, 96, .inl (fun _ => 0))), ((x 38), .inl (cy 0, 96, .inl (fun _ => (-268435456)))), ((u.1), .inr (1, [.int 0, .int 1, .int 1, .int 0, .long 0, .int 0, .int 0, .ref (u.2.1), .ref (u.2.2)])), ((u.2.1), .inl (cy 0, 96, .inl (fun _ => 0))), ((u.2.2), .inl (cy 0, 96, .inl (fun _ => 0)))]) := by
  refine ci_go (by decide) (Nat.le_of_ble_eq_true rfl) (fun p e s m below meth c ls A hA S hr hlk hnm hP hK hD hl => ?_)
  have hS : va_S A s.heap s.heap [] := va_S.rf
  have hl : lv_has ls 2 [(0, .ref (x 0))] := hl
  refine lv_aload_n S.1 S.2.1 dX11_prepare_0 rfl (lv_at hl 0 rfl) ?_
  refine call_i (wr := []) (runV_C (wc := [((x 0), .inr (10, [.int 0, .int (-1), .ref (x 1), .ref (x 9), .int 0, .ref (x 10), .ref (x 13), .ref (x 16), .ref (x 29), .int 0, .int 0, .ref (x 30), .int 0, .ref (x 31), .ref (x 42), .int 0, .int 0, .null, .ref (x 43)])), ((x 13), .inr (4, [.ref (x 14), .ref (x 15), .int 0, .ref (x 16)])), ((x 16), .inr (5, [.int 0, .ref (x 17), .ref (x 18), .ref (x 19), .ref (x 20), .ref (x 21), .int 0, .int 10, .int 20, .int 0, .int 0, .ref (x 22), .ref (x 23), .int 0, .ref (x 24), .ref (x 25), .ref (x 26), .ref (x 27), .ref (x 28)])), ((x 42), .inl (cy 7, 16, .inr (.inr (.inr (.inr (fun _ => none)))))), ((x 31), .inr (6, [.ref (x 32), .ref (x 9), .ref (x 29), .int 0, .int 0, .int 0, .ref (x 36), .ref (x 37), .ref (x 38), .ref (x 39), .ref (x 40), .ref (x 41), .int 0])), ((x 32), .inr (9, [.ref (x 33), .ref (x 34), .ref (x 35), .int 0])), ((x 33), .inl (cy 0, 384, .inl (fun _ => 0))), ((x 34), .inl (cy 2, 384, .inr (.inl (fun _ => 0)))), ((x 35), .inl (cy 0, 96, .inl (fun _ => 0))), ((x 36), .inl (cy 0, 96, .inl (fun _ => 0))), ((x 38), .inl (cy 0, 96, .inl (fun _ => 0)))]) (As := []) (rest := []) S (kX11_judge_a l D cy x) hK hP hD [0, 1, 2, 3, 4, 5, 6, 7, 8, 9, 10] (by decide) rfl 0 10 rfl rfl kw_1141 kw_1143 kw_36 kw_144 kw_1144 okX11_judge rfl (by decide) hl.1 rfl (Nat.le_of_ble_eq_true rfl) dX11_prepare_1 (by decide)) hP hD hS hA [0, 1, 2, 3, 4, 5, 6, 7, 8, 9, 10] [] rfl rfl (by decide) (by decide) (fun v1 u1 H locs w1 hP hD hS => ?_)
  obtain ⟨g_1, lo_1, hi_1⟩ := u1
  have hP : va_P D vwCl [((x 0), .inr (10, [.int 0, .int (-1), .ref (x 1), .ref (x 9), .int 0, .ref (x 10), .ref (x 13), .ref (x 16), .ref (x 29), .int 0, .int 0, .ref (x 30), .int 0, .ref (x 31), .ref (x 42), .int 1, .int 1, .ref g_1, .ref (x 43)])), ((x 13), .inr (4, [.ref (x 14), .ref (x 15), .int 0, .ref (x 16)])), ((x 16), .inr (5, [.int 0, .ref (x 17), .ref (x 18), .ref (x 19), .ref (x 20), .ref (x 21), .int 0, .int 10, .int 20, .int 0, .int 0, .ref (x 22), .ref (x 23), .int 0, .ref (x 24), .ref (x 25), .ref (x 26), .ref (x 27), .ref (x 28)])), ((x 42), .inl (cy 7, 16, .inr (.inr (.inr (.inr (va_up (fun _ => none) (0) (some g_1))))))), ((x 31), .inr (6, [.ref (x 32), .ref (x 9), .ref (x 29), .int 0, .int 0, .int 10, .ref (x 36), .ref (x 37), .ref (x 38), .ref (x 39), .ref (x 40), .ref (x 41), .int 1])), ((x 32), .inr (9, [.ref (x 33), .ref (x 34), .ref (x 35), .int 0])), ((x 33), .inl (cy 0, 384, .inl (fun _ => 10))), ((x 34), .inl (cy 2, 384, .inr (.inl (fun _ => 0)))), ((x 35), .inl (cy 0, 96, .inl (fun _ => (-1)))), ((x 36), .inl (cy 0, 96, .inl (fun _ => 0))), ((x 38), .inl (cy 0, 96, .inl (fun _ => (-268435456)))), (g_1, .inr (1, [.int 0, .int 1, .int 1, .int 0, .long 0, .int 0, .int 0, .ref lo_1, .ref hi_1])), (lo_1, .inl (cy 0, 96, .inl (fun _ => 0))), (hi_1, .inl (cy 0, 96, .inl (fun _ => 0)))] H := hP
  have hD : va_D A [((x 0), .inr (10, [.int 0, .int (-1), .ref (x 1), .ref (x 9), .int 0, .ref (x 10), .ref (x 13), .ref (x 16), .ref (x 29), .int 0, .int 0, .ref (x 30), .int 0, .ref (x 31), .ref (x 42), .int 1, .int 1, .ref g_1, .ref (x 43)])), ((x 13), .inr (4, [.ref (x 14), .ref (x 15), .int 0, .ref (x 16)])), ((x 16), .inr (5, [.int 0, .ref (x 17), .ref (x 18), .ref (x 19), .ref (x 20), .ref (x 21), .int 0, .int 10, .int 20, .int 0, .int 0, .ref (x 22), .ref (x 23), .int 0, .ref (x 24), .ref (x 25), .ref (x 26), .ref (x 27), .ref (x 28)])), ((x 42), .inl (cy 7, 16, .inr (.inr (.inr (.inr (va_up (fun _ => none) (0) (some g_1))))))), ((x 31), .inr (6, [.ref (x 32), .ref (x 9), .ref (x 29), .int 0, .int 0, .int 10, .ref (x 36), .ref (x 37), .ref (x 38), .ref (x 39), .ref (x 40), .ref (x 41), .int 1])), ((x 32), .inr (9, [.ref (x 33), .ref (x 34), .ref (x 35), .int 0])), ((x 33), .inl (cy 0, 384, .inl (fun _ => 10))), ((x 34), .inl (cy 2, 384, .inr (.inl (fun _ => 0)))), ((x 35), .inl (cy 0, 96, .inl (fun _ => (-1)))), ((x 36), .inl (cy 0, 96, .inl (fun _ => 0))), ((x 38), .inl (cy 0, 96, .inl (fun _ => (-268435456)))), (g_1, .inr (1, [.int 0, .int 1, .int 1, .int 0, .long 0, .int 0, .int 0, .ref lo_1, .ref hi_1])), (lo_1, .inl (cy 0, 96, .inl (fun _ => 0))), (hi_1, .inl (cy 0, 96, .inl (fun _ => 0)))] := hD
  subst w1
  refine r_if_ne S 1 rfl dX11_prepare_4 (tgt := 9) (by decide) (fun _ => ?_) (fun c => absurd c (by decide))
  refine lv_iconst (v := 0) S.1 S.2.1 dX11_prepare_9 (by decide) ?_
  refine lv_istore_n (lv' := [(1, .int 0), (0, .ref (x 0))]) S.1 S.2.1 dX11_prepare_10 rfl hl (by decide) rfl (fun ls hl => ?_)
  refine lv_iload_n S.1 S.2.1 dX11_prepare_11 rfl (lv_at hl 0 rfl) ?_
  refine lv_iconst (v := 1) S.1 S.2.1 dX11_prepare_12 (by decide) ?_
  refine lv_aload_n S.1 S.2.1 dX11_prepare_13 rfl (lv_at hl 1 rfl) ?_
  refine r_get S hK hP 0 10 rfl rfl inX11 9 (by decide) kw_477 (v := .int 0) rfl dX11_prepare_14 ?_
  refine r_ishl S dX11_prepare_17 (v := 1) (by decide) ?_
  refine r_icmp_ge S 0 1 rfl rfl dX11_prepare_18 (tgt := 72) (by decide) (fun c => absurd c (by decide)) (fun _ => ?_)
  refine lv_aload_n S.1 S.2.1 dX11_prepare_21 rfl (lv_at hl 1 rfl) ?_
  refine lv_iload_n S.1 S.2.1 dX11_prepare_22 rfl (lv_at hl 0 rfl) ?_
  refine call_ri (runV_R (wc := [((x 0), .inr (10, [.int 0, .int (-1), .ref (x 1), .ref (x 9), .int 0, .ref (x 10), .ref (x 13), .ref (x 16), .ref (x 29), .int 0, .int 0, .ref (x 30), .int 0, .ref (x 31), .ref (x 42), .int 1, .int 1, .ref g_1, .ref (x 43)])), ((x 42), .inl (cy 7, 16, .inr (.inr (.inr (.inr (va_up (fun _ => none) (0) (some g_1))))))), (g_1, .inr (1, [.int 0, .int 1, .int 1, .int 0, .long 0, .int 0, .int 0, .ref lo_1, .ref hi_1]))]) (As := [.int 0]) (rest := []) S (kX11_isKept l D cy x g_1 lo_1 hi_1) hK hP [0, 3, 11] rfl 0 10 rfl rfl kw_1149 kw_1151 kw_38 kw_144 kw_1152 okX11_isKept rfl (by decide) hl.1 rfl (Nat.le_of_ble_eq_true rfl) dX11_prepare_23 (by decide)) (fun v23 w23 => ?_)
  subst w23
  refine r_if_eq S 1 rfl dX11_prepare_26 (tgt := 66) (by decide) (fun c => absurd c (by decide)) (fun _ => ?_)
  refine lv_aload_n S.1 S.2.1 dX11_prepare_29 rfl (lv_at hl 1 rfl) ?_
  refine r_get S hK hP 0 10 rfl rfl inX11 14 (by decide) kw_482 (v := .ref (x 42)) rfl dX11_prepare_30 ?_
  refine lv_iload_n S.1 S.2.1 dX11_prepare_33 rfl (lv_at hl 0 rfl) ?_
  refine r_aald S hK hP 3 7 rfl rfl (0) rfl (by decide) (by decide) (v := .ref g_1) rfl dX11_prepare_34 ?_
  refine r_get S hK hP 11 1 rfl rfl inX1 5 (by decide) kw_1026 (v := .int 0) rfl dX11_prepare_35 ?_
  refine r_if_eq S 0 rfl dX11_prepare_38 (tgt := 66) (by decide) (fun _ => ?_) (fun c => absurd c (by decide))
  refine lv_iinc (v := 1) (lv' := [(1, .int 1), (0, .ref (x 0))]) S.1 S.2.1 dX11_prepare_66 hl (k := 0) rfl (by decide) (by decide) rfl (fun ls hl => ?_)
  refine lv_goto (tgt := 11) S.1 S.2.1 dX11_prepare_69 (by decide) ?_
  refine lv_iload_n S.1 S.2.1 dX11_prepare_11 rfl (lv_at hl 0 rfl) ?_
  refine lv_iconst (v := 1) S.1 S.2.1 dX11_prepare_12 (by decide) ?_
  refine lv_aload_n S.1 S.2.1 dX11_prepare_13 rfl (lv_at hl 1 rfl) ?_
  refine r_get S hK hP 0 10 rfl rfl inX11 9 (by decide) kw_477 (v := .int 0) rfl dX11_prepare_14 ?_
  refine r_ishl S dX11_prepare_17 (v := 1) (by decide) ?_
  refine r_icmp_ge S 1 1 rfl rfl dX11_prepare_18 (tgt := 72) (by decide) (fun _ => ?_) (fun c => absurd c (by decide))
  refine lv_iconst (v := 1) S.1 S.2.1 dX11_prepare_72 (by decide) ?_
  exact ci_ret (u := (g_1, lo_1, hi_1)) S hr hlk (by decide) hK (hP.sub [0, 1, 2, 3, 4, 5, 6, 7, 8, 9, 10, 11, 12, 13] rfl) (hD.sub [0, 1, 2, 3, 4, 5, 6, 7, 8, 9, 10, 11, 12, 13] (by decide) rfl) hS (rfl) (by decide) (by decide) dX11_prepare_73
set_option maxHeartbeats 4000000 in
set_option maxRecDepth 100000 in
theorem kX11_prepare_b (l : Launch) (D : va_G) (cy : Nat → ClassId) (x : Nat → Nat) (g : Nat) (lo : Nat) (hi : Nat) : CI l D cy yX11_prepare cX11_prepare 2 (some .boolean) 7 177 0 0 [.ref (x 0)] [((x 0), .inr (10, [.int 0, .int (-1), .ref (x 1), .ref (x 9), .int 0, .ref (x 10), .ref (x 13), .ref (x 16), .ref (x 29), .int 0, .int 0, .ref (x 30), .int 0, .ref (x 31), .ref (x 42), .int 1, .int 0, .null, .ref (x 43)])), ((x 13), .inr (4, [.ref (x 14), .ref (x 15), .int 0, .ref (x 16)])), ((x 16), .inr (5, [.int 0, .ref (x 17), .ref (x 18), .ref (x 19), .ref (x 20), .ref (x 21), .int 0, .int 10, .int 20, .int 0, .int 0, .ref (x 22), .ref (x 23), .int 0, .ref (x 24), .ref (x 25), .ref (x 26), .ref (x 27), .ref (x 28)])), ((x 42), .inl (cy 7, 16, .inr (.inr (.inr (.inr (va_up (fun _ => none) (0) (some g))))))), ((x 31), .inr (6, [.ref (x 32), .ref (x 9), .ref (x 29), .int 0, .int 0, .int 10, .ref (x 36), .ref (x 37), .ref (x 38), .ref (x 39), .ref (x 40), .ref (x 41), .int 0])), ((x 32), .inr (9, [.ref (x 33), .ref (x 34), .ref (x 35), .int 0])), ((x 33), .inl (cy 0, 384, .inl (fun _ => 0))), ((x 34), .inl (cy 2, 384, .inr (.inl (fun _ => 0)))), ((x 35), .inl (cy 0, 96, .inl (fun _ => 0))), ((x 36), .inl (cy 0, 96, .inl (fun _ => 0))), ((x 38), .inl (cy 0, 96, .inl (fun _ => 0))), (g, .inr (1, [.int 0, .int 0, .int 0, .int 0, .long 0, .int 0, .int 0, .ref lo, .ref hi])), (lo, .inl (cy 0, 96, .inl (fun _ => 0))), (hi, .inl (cy 0, 96, .inl (fun _ => 0)))] (fun (v : Int32) (u : Unit) => v = 1) (fun (u : Unit) => [((x 0), .inr (10, [.int 0, .int (-1), .ref (x 1), .ref (x 9), .int 0, .ref (x 10), .ref (x 13), .ref (x 16), .ref (x 29), .int 0, .int 0, .ref (x 30), .int 0, .ref (x 31), .ref (x 42), .int 1, .int 1, .ref g, .ref (x 43)])), ((x 13), .inr (4, [.ref (x 14), .ref (x 15), .int 0, .ref (x 16)])), ((x 16), .inr (5, [.int 0, .ref (x 17), .ref (x 18), .ref (x 19), .ref (x 20), .ref (x 21), .int 0, .int 10, .int 20, .int 0, .int 0, .ref (x 22), .ref (x 23), .int 0, .ref (x 24), .ref (x 25), .ref (x 26), .ref (x 27), .ref (x 28)])), ((x 42), .inl (cy 7, 16, .inr (.inr (.inr (.inr (va_up (fun _ => none) (0) (some g))))))), ((x 31), .inr (6, [.ref (x 32), .ref (x 9), .ref (x 29), .int 0, .int 0, .int 10, .ref (x 36), .ref (x 37), .ref (x 38), .ref (x 39), .ref (x 40), .ref (x 41), .int 1])), ((x 32), .inr (9, [.ref (x 33), .ref (x 34), .ref (x 35), .int 0])), ((x 33), .inl (cy 0, 384, .inl (fun _ => 10))), ((x 34), .inl (cy 2, 384, .inr (.inl (fun _ => 0)))), ((x 35), .inl (cy 0, 96, .inl (fun _ => (-1)))), ((x 36), .inl (cy 0, 96, .inl (fun _ => 0))), ((x 38), .inl (cy 0, 96, .inl (fun _ => (-268435456)))), (g, .inr (1, [.int 0, .int 1, .int 1, .int 0, .long 0, .int 0, .int 0, .ref lo, .ref hi])), (lo, .inl (cy 0, 96, .inl (fun _ => 0))), (hi, .inl (cy 0, 96, .inl (fun _ => 0)))]) := by
  refine ci_go (by decide) (Nat.le_of_ble_eq_true rfl) (fun p e s m below meth c ls A hA S hr hlk hnm hP hK hD hl => ?_)
  have hS : va_S A s.heap s.heap [] := va_S.rf
  have hl : lv_has ls 2 [(0, .ref (x 0))] := hl
  refine lv_aload_n S.1 S.2.1 dX11_prepare_0 rfl (lv_at hl 0 rfl) ?_
  refine call_i (wr := []) (runV_C (wc := [((x 0), .inr (10, [.int 0, .int (-1), .ref (x 1), .ref (x 9), .int 0, .ref (x 10), .ref (x 13), .ref (x 16), .ref (x 29), .int 0, .int 0, .ref (x 30), .int 0, .ref (x 31), .ref (x 42), .int 1, .int 0, .null, .ref (x 43)])), ((x 13), .inr (4, [.ref (x 14), .ref (x 15), .int 0, .ref (x 16)])), ((x 16), .inr (5, [.int 0, .ref (x 17), .ref (x 18), .ref (x 19), .ref (x 20), .ref (x 21), .int 0, .int 10, .int 20, .int 0, .int 0, .ref (x 22), .ref (x 23), .int 0, .ref (x 24), .ref (x 25), .ref (x 26), .ref (x 27), .ref (x 28)])), ((x 42), .inl (cy 7, 16, .inr (.inr (.inr (.inr (va_up (fun _ => none) (0) (some g))))))), ((x 31), .inr (6, [.ref (x 32), .ref (x 9), .ref (x 29), .int 0, .int 0, .int 10, .ref (x 36), .ref (x 37), .ref (x 38), .ref (x 39), .ref (x 40), .ref (x 41), .int 0])), ((x 32), .inr (9, [.ref (x 33), .ref (x 34), .ref (x 35), .int 0])), ((x 33), .inl (cy 0, 384, .inl (fun _ => 0))), ((x 34), .inl (cy 2, 384, .inr (.inl (fun _ => 0)))), ((x 35), .inl (cy 0, 96, .inl (fun _ => 0))), ((x 36), .inl (cy 0, 96, .inl (fun _ => 0))), ((x 38), .inl (cy 0, 96, .inl (fun _ => 0))), (g, .inr (1, [.int 0, .int 0, .int 0, .int 0, .long 0, .int 0, .int 0, .ref lo, .ref hi])), (lo, .inl (cy 0, 96, .inl (fun _ => 0))), (hi, .inl (cy 0, 96, .inl (fun _ => 0)))]) (As := []) (rest := []) S (kX11_judge_b l D cy x g lo hi) hK hP hD [0, 1, 2, 3, 4, 5, 6, 7, 8, 9, 10, 11, 12, 13] (by decide) rfl 0 10 rfl rfl kw_1141 kw_1143 kw_36 kw_144 kw_1144 okX11_judge rfl (by decide) hl.1 rfl (Nat.le_of_ble_eq_true rfl) dX11_prepare_1 (by decide)) hP hD hS hA [0, 1, 2, 3, 4, 5, 6, 7, 8, 9, 10, 11, 12, 13] [] rfl rfl (by decide) (by decide) (fun v1 u1 H locs w1 hP hD hS => ?_)
  have hP : va_P D vwCl [((x 0), .inr (10, [.int 0, .int (-1), .ref (x 1), .ref (x 9), .int 0, .ref (x 10), .ref (x 13), .ref (x 16), .ref (x 29), .int 0, .int 0, .ref (x 30), .int 0, .ref (x 31), .ref (x 42), .int 1, .int 1, .ref g, .ref (x 43)])), ((x 13), .inr (4, [.ref (x 14), .ref (x 15), .int 0, .ref (x 16)])), ((x 16), .inr (5, [.int 0, .ref (x 17), .ref (x 18), .ref (x 19), .ref (x 20), .ref (x 21), .int 0, .int 10, .int 20, .int 0, .int 0, .ref (x 22), .ref (x 23), .int 0, .ref (x 24), .ref (x 25), .ref (x 26), .ref (x 27), .ref (x 28)])), ((x 42), .inl (cy 7, 16, .inr (.inr (.inr (.inr (va_up (fun _ => none) (0) (some g))))))), ((x 31), .inr (6, [.ref (x 32), .ref (x 9), .ref (x 29), .int 0, .int 0, .int 10, .ref (x 36), .ref (x 37), .ref (x 38), .ref (x 39), .ref (x 40), .ref (x 41), .int 1])), ((x 32), .inr (9, [.ref (x 33), .ref (x 34), .ref (x 35), .int 0])), ((x 33), .inl (cy 0, 384, .inl (fun _ => 10))), ((x 34), .inl (cy 2, 384, .inr (.inl (fun _ => 0)))), ((x 35), .inl (cy 0, 96, .inl (fun _ => (-1)))), ((x 36), .inl (cy 0, 96, .inl (fun _ => 0))), ((x 38), .inl (cy 0, 96, .inl (fun _ => (-268435456)))), (g, .inr (1, [.int 0, .int 1, .int 1, .int 0, .long 0, .int 0, .int 0, .ref lo, .ref hi])), (lo, .inl (cy 0, 96, .inl (fun _ => 0))), (hi, .inl (cy 0, 96, .inl (fun _ => 0)))] H := hP
  have hD : va_D A [((x 0), .inr (10, [.int 0, .int (-1), .ref (x 1), .ref (x 9), .int 0, .ref (x 10), .ref (x 13), .ref (x 16), .ref (x 29), .int 0, .int 0, .ref (x 30), .int 0, .ref (x 31), .ref (x 42), .int 1, .int 1, .ref g, .ref (x 43)])), ((x 13), .inr (4, [.ref (x 14), .ref (x 15), .int 0, .ref (x 16)])), ((x 16), .inr (5, [.int 0, .ref (x 17), .ref (x 18), .ref (x 19), .ref (x 20), .ref (x 21), .int 0, .int 10, .int 20, .int 0, .int 0, .ref (x 22), .ref (x 23), .int 0, .ref (x 24), .ref (x 25), .ref (x 26), .ref (x 27), .ref (x 28)])), ((x 42), .inl (cy 7, 16, .inr (.inr (.inr (.inr (va_up (fun _ => none) (0) (some g))))))), ((x 31), .inr (6, [.ref (x 32), .ref (x 9), .ref (x 29), .int 0, .int 0, .int 10, .ref (x 36), .ref (x 37), .ref (x 38), .ref (x 39), .ref (x 40), .ref (x 41), .int 1])), ((x 32), .inr (9, [.ref (x 33), .ref (x 34), .ref (x 35), .int 0])), ((x 33), .inl (cy 0, 384, .inl (fun _ => 10))), ((x 34), .inl (cy 2, 384, .inr (.inl (fun _ => 0)))), ((x 35), .inl (cy 0, 96, .inl (fun _ => (-1)))), ((x 36), .inl (cy 0, 96, .inl (fun _ => 0))), ((x 38), .inl (cy 0, 96, .inl (fun _ => (-268435456)))), (g, .inr (1, [.int 0, .int 1, .int 1, .int 0, .long 0, .int 0, .int 0, .ref lo, .ref hi])), (lo, .inl (cy 0, 96, .inl (fun _ => 0))), (hi, .inl (cy 0, 96, .inl (fun _ => 0)))] := hD
  subst w1
  refine r_if_ne S 1 rfl dX11_prepare_4 (tgt := 9) (by decide) (fun _ => ?_) (fun c => absurd c (by decide))
  refine lv_iconst (v := 0) S.1 S.2.1 dX11_prepare_9 (by decide) ?_
  refine lv_istore_n (lv' := [(1, .int 0), (0, .ref (x 0))]) S.1 S.2.1 dX11_prepare_10 rfl hl (by decide) rfl (fun ls hl => ?_)
  refine lv_iload_n S.1 S.2.1 dX11_prepare_11 rfl (lv_at hl 0 rfl) ?_
  refine lv_iconst (v := 1) S.1 S.2.1 dX11_prepare_12 (by decide) ?_
  refine lv_aload_n S.1 S.2.1 dX11_prepare_13 rfl (lv_at hl 1 rfl) ?_
  refine r_get S hK hP 0 10 rfl rfl inX11 9 (by decide) kw_477 (v := .int 0) rfl dX11_prepare_14 ?_
  refine r_ishl S dX11_prepare_17 (v := 1) (by decide) ?_
  refine r_icmp_ge S 0 1 rfl rfl dX11_prepare_18 (tgt := 72) (by decide) (fun c => absurd c (by decide)) (fun _ => ?_)
  refine lv_aload_n S.1 S.2.1 dX11_prepare_21 rfl (lv_at hl 1 rfl) ?_
  refine lv_iload_n S.1 S.2.1 dX11_prepare_22 rfl (lv_at hl 0 rfl) ?_
  refine call_ri (runV_R (wc := [((x 0), .inr (10, [.int 0, .int (-1), .ref (x 1), .ref (x 9), .int 0, .ref (x 10), .ref (x 13), .ref (x 16), .ref (x 29), .int 0, .int 0, .ref (x 30), .int 0, .ref (x 31), .ref (x 42), .int 1, .int 1, .ref g, .ref (x 43)])), ((x 42), .inl (cy 7, 16, .inr (.inr (.inr (.inr (va_up (fun _ => none) (0) (some g))))))), (g, .inr (1, [.int 0, .int 1, .int 1, .int 0, .long 0, .int 0, .int 0, .ref lo, .ref hi]))]) (As := [.int 0]) (rest := []) S (kX11_isKept l D cy x g lo hi) hK hP [0, 3, 11] rfl 0 10 rfl rfl kw_1149 kw_1151 kw_38 kw_144 kw_1152 okX11_isKept rfl (by decide) hl.1 rfl (Nat.le_of_ble_eq_true rfl) dX11_prepare_23 (by decide)) (fun v23 w23 => ?_)
  subst w23
  refine r_if_eq S 1 rfl dX11_prepare_26 (tgt := 66) (by decide) (fun c => absurd c (by decide)) (fun _ => ?_)
  refine lv_aload_n S.1 S.2.1 dX11_prepare_29 rfl (lv_at hl 1 rfl) ?_
  refine r_get S hK hP 0 10 rfl rfl inX11 14 (by decide) kw_482 (v := .ref (x 42)) rfl dX11_prepare_30 ?_
  refine lv_iload_n S.1 S.2.1 dX11_prepare_33 rfl (lv_at hl 0 rfl) ?_
  refine r_aald S hK hP 3 7 rfl rfl (0) rfl (by decide) (by decide) (v := .ref g) rfl dX11_prepare_34 ?_
  refine r_get S hK hP 11 1 rfl rfl inX1 5 (by decide) kw_1026 (v := .int 0) rfl dX11_prepare_35 ?_
  refine r_if_eq S 0 rfl dX11_prepare_38 (tgt := 66) (by decide) (fun _ => ?_) (fun c => absurd c (by decide))
  refine lv_iinc (v := 1) (lv' := [(1, .int 1), (0, .ref (x 0))]) S.1 S.2.1 dX11_prepare_66 hl (k := 0) rfl (by decide) (by decide) rfl (fun ls hl => ?_)
  refine lv_goto (tgt := 11) S.1 S.2.1 dX11_prepare_69 (by decide) ?_
  refine lv_iload_n S.1 S.2.1 dX11_prepare_11 rfl (lv_at hl 0 rfl) ?_
  refine lv_iconst (v := 1) S.1 S.2.1 dX11_prepare_12 (by decide) ?_
  refine lv_aload_n S.1 S.2.1 dX11_prepare_13 rfl (lv_at hl 1 rfl) ?_
  refine r_get S hK hP 0 10 rfl rfl inX11 9 (by decide) kw_477 (v := .int 0) rfl dX11_prepare_14 ?_
  refine r_ishl S dX11_prepare_17 (v := 1) (by decide) ?_
  refine r_icmp_ge S 1 1 rfl rfl dX11_prepare_18 (tgt := 72) (by decide) (fun _ => ?_) (fun c => absurd c (by decide))
  refine lv_iconst (v := 1) S.1 S.2.1 dX11_prepare_72 (by decide) ?_
  exact ci_ret (u := ()) S hr hlk (by decide) hK (hP.sub [0, 1, 2, 3, 4, 5, 6, 7, 8, 9, 10, 11, 12, 13] rfl) (hD.sub [0, 1, 2, 3, 4, 5, 6, 7, 8, 9, 10, 11, 12, 13] (by decide) rfl) hS (rfl) (by decide) (by decide) dX11_prepare_73
set_option maxHeartbeats 4000000 in
set_option maxRecDepth 100000 in
theorem kX11_allKeptKnown (l : Launch) (D : va_G) (cy : Nat → ClassId) (x : Nat → Nat) (g : Nat) (lo : Nat) (hi : Nat) : RI l D cy yX11_allKeptKnown cX11_allKeptKnown 2 (some .boolean) 1 21 [.ref (x 0)] [((x 0), .inr (10, [.int 0, .int (-1), .ref (x 1), .ref (x 9), .int 0, .ref (x 10), .ref (x 13), .ref (x 16), .ref (x 29), .int 0, .int 0, .ref (x 30), .int 0, .ref (x 31), .ref (x 42), .int 1, .int 1, .ref g, .ref (x 43)])), ((x 42), .inl (cy 7, 16, .inr (.inr (.inr (.inr (va_up (fun _ => none) (0) (some g))))))), (g, .inr (1, [.int 0, .int 1, .int 1, .int 0, .long 0, .int 0, .int 0, .ref lo, .ref hi]))] (fun v : Int32 => v = 0) := by
  refine metr_go (by decide) (Nat.le_of_ble_eq_true rfl) (fun p e s m below meth c ls S hr hlk hP hK hl => ?_)
  have hl : lv_has ls 2 [(0, .ref (x 0))] := hl
  refine lv_iconst (v := 0) S.1 S.2.1 dX11_allKeptKnown_0 (by decide) ?_
  refine lv_istore_n (lv' := [(1, .int 0), (0, .ref (x 0))]) S.1 S.2.1 dX11_allKeptKnown_1 rfl hl (by decide) rfl (fun ls hl => ?_)
  refine lv_iload_n S.1 S.2.1 dX11_allKeptKnown_2 rfl (lv_at hl 0 rfl) ?_
  refine lv_iconst (v := 1) S.1 S.2.1 dX11_allKeptKnown_3 (by decide) ?_
  refine lv_aload_n S.1 S.2.1 dX11_allKeptKnown_4 rfl (lv_at hl 1 rfl) ?_
  refine r_get S hK hP 0 10 rfl rfl inX11 9 (by decide) kw_477 (v := .int 0) rfl dX11_allKeptKnown_5 ?_
  refine r_ishl S dX11_allKeptKnown_8 (v := 1) (by decide) ?_
  refine r_icmp_ge S 0 1 rfl rfl dX11_allKeptKnown_9 (tgt := 40) (by decide) (fun c => absurd c (by decide)) (fun _ => ?_)
  refine lv_aload_n S.1 S.2.1 dX11_allKeptKnown_12 rfl (lv_at hl 1 rfl) ?_
  refine lv_iload_n S.1 S.2.1 dX11_allKeptKnown_13 rfl (lv_at hl 0 rfl) ?_
  refine call_ri (runV_R (wc := [((x 0), .inr (10, [.int 0, .int (-1), .ref (x 1), .ref (x 9), .int 0, .ref (x 10), .ref (x 13), .ref (x 16), .ref (x 29), .int 0, .int 0, .ref (x 30), .int 0, .ref (x 31), .ref (x 42), .int 1, .int 1, .ref g, .ref (x 43)])), ((x 42), .inl (cy 7, 16, .inr (.inr (.inr (.inr (va_up (fun _ => none) (0) (some g))))))), (g, .inr (1, [.int 0, .int 1, .int 1, .int 0, .long 0, .int 0, .int 0, .ref lo, .ref hi]))]) (As := [.int 0]) (rest := []) S (kX11_isKept l D cy x g lo hi) hK hP [0, 1, 2] rfl 0 10 rfl rfl kw_1149 kw_1151 kw_38 kw_144 kw_1152 okX11_isKept rfl (by decide) hl.1 rfl (Nat.le_of_ble_eq_true rfl) dX11_allKeptKnown_14 (by decide)) (fun v14 w14 => ?_)
  subst w14
  refine r_if_eq S 1 rfl dX11_allKeptKnown_17 (tgt := 34) (by decide) (fun c => absurd c (by decide)) (fun _ => ?_)
  refine lv_aload_n S.1 S.2.1 dX11_allKeptKnown_20 rfl (lv_at hl 1 rfl) ?_
  refine r_get S hK hP 0 10 rfl rfl inX11 14 (by decide) kw_482 (v := .ref (x 42)) rfl dX11_allKeptKnown_21 ?_
  refine lv_iload_n S.1 S.2.1 dX11_allKeptKnown_24 rfl (lv_at hl 0 rfl) ?_
  refine r_aald S hK hP 1 7 rfl rfl (0) rfl (by decide) (by decide) (v := .ref g) rfl dX11_allKeptKnown_25 ?_
  refine r_get S hK hP 2 1 rfl rfl inX1 5 (by decide) kw_1026 (v := .int 0) rfl dX11_allKeptKnown_26 ?_
  refine r_if_ne S 0 rfl dX11_allKeptKnown_29 (tgt := 34) (by decide) (fun c => absurd c (by decide)) (fun _ => ?_)
  refine lv_iconst (v := 0) S.1 S.2.1 dX11_allKeptKnown_32 (by decide) ?_
  exact ri_ret S hr hlk (by decide) (rfl) dX11_allKeptKnown_33
set_option maxHeartbeats 4000000 in
set_option maxRecDepth 100000 in
theorem kX11_knownBest (l : Launch) (D : va_G) (cy : Nat → ClassId) (x : Nat → Nat) : CQ l D cy yX11_knownBest cX11_knownBest 1 (some (.object "LandSurvey$Ground")) 7 177 3 201 [.ref (x 0)] [((x 0), .inr (10, [.int 0, .int (-1), .ref (x 1), .ref (x 9), .int 0, .ref (x 10), .ref (x 13), .ref (x 16), .ref (x 29), .int 0, .int 0, .ref (x 30), .int 0, .ref (x 31), .ref (x 42), .int 0, .int 0, .null, .ref (x 43)])), ((x 13), .inr (4, [.ref (x 14), .ref (x 15), .int 0, .ref (x 16)])), ((x 16), .inr (5, [.int 0, .ref (x 17), .ref (x 18), .ref (x 19), .ref (x 20), .ref (x 21), .int 0, .int 10, .int 20, .int 0, .int 0, .ref (x 22), .ref (x 23), .int 0, .ref (x 24), .ref (x 25), .ref (x 26), .ref (x 27), .ref (x 28)])), ((x 42), .inl (cy 7, 16, .inr (.inr (.inr (.inr (fun _ => none)))))), ((x 31), .inr (6, [.ref (x 32), .ref (x 9), .ref (x 29), .int 0, .int 0, .int 0, .ref (x 36), .ref (x 37), .ref (x 38), .ref (x 39), .ref (x 40), .ref (x 41), .int 0])), ((x 32), .inr (9, [.ref (x 33), .ref (x 34), .ref (x 35), .int 0])), ((x 33), .inl (cy 0, 384, .inl (fun _ => 0))), ((x 34), .inl (cy 2, 384, .inr (.inl (fun _ => 0)))), ((x 35), .inl (cy 0, 96, .inl (fun _ => 0))), ((x 36), .inl (cy 0, 96, .inl (fun _ => 0))), ((x 38), .inl (cy 0, 96, .inl (fun _ => 0)))] (fun (v : Option Nat) (u : Unit) => v = none) (fun (u : Unit) => []) := by
  refine cq_go (by decide) (Nat.le_of_ble_eq_true rfl) (fun p e s m below meth c ls A hA S hr hlk hnm hP hK hD hl => ?_)
  have hS : va_S A s.heap s.heap [] := va_S.rf
  have hl : lv_has ls 1 [(0, .ref (x 0))] := hl
  refine lv_aload_n S.1 S.2.1 dX11_knownBest_0 rfl (lv_at hl 0 rfl) ?_
  refine call_i (wr := []) (runV_C (wc := [((x 0), .inr (10, [.int 0, .int (-1), .ref (x 1), .ref (x 9), .int 0, .ref (x 10), .ref (x 13), .ref (x 16), .ref (x 29), .int 0, .int 0, .ref (x 30), .int 0, .ref (x 31), .ref (x 42), .int 0, .int 0, .null, .ref (x 43)])), ((x 13), .inr (4, [.ref (x 14), .ref (x 15), .int 0, .ref (x 16)])), ((x 16), .inr (5, [.int 0, .ref (x 17), .ref (x 18), .ref (x 19), .ref (x 20), .ref (x 21), .int 0, .int 10, .int 20, .int 0, .int 0, .ref (x 22), .ref (x 23), .int 0, .ref (x 24), .ref (x 25), .ref (x 26), .ref (x 27), .ref (x 28)])), ((x 42), .inl (cy 7, 16, .inr (.inr (.inr (.inr (fun _ => none)))))), ((x 31), .inr (6, [.ref (x 32), .ref (x 9), .ref (x 29), .int 0, .int 0, .int 0, .ref (x 36), .ref (x 37), .ref (x 38), .ref (x 39), .ref (x 40), .ref (x 41), .int 0])), ((x 32), .inr (9, [.ref (x 33), .ref (x 34), .ref (x 35), .int 0])), ((x 33), .inl (cy 0, 384, .inl (fun _ => 0))), ((x 34), .inl (cy 2, 384, .inr (.inl (fun _ => 0)))), ((x 35), .inl (cy 0, 96, .inl (fun _ => 0))), ((x 36), .inl (cy 0, 96, .inl (fun _ => 0))), ((x 38), .inl (cy 0, 96, .inl (fun _ => 0)))]) (As := []) (rest := []) S (kX11_judge_a l D cy x) hK hP hD [0, 1, 2, 3, 4, 5, 6, 7, 8, 9, 10] (by decide) rfl 0 10 rfl rfl kw_1141 kw_1143 kw_36 kw_144 kw_1144 okX11_judge rfl (by decide) hl.1 rfl (Nat.le_of_ble_eq_true rfl) dX11_knownBest_1 (by decide)) hP hD hS hA [0, 1, 2, 3, 4, 5, 6, 7, 8, 9, 10] [] rfl rfl (by decide) (by decide) (fun v1 u1 H locs w1 hP hD hS => ?_)
  obtain ⟨g_1, lo_1, hi_1⟩ := u1
  have hP : va_P D vwCl [((x 0), .inr (10, [.int 0, .int (-1), .ref (x 1), .ref (x 9), .int 0, .ref (x 10), .ref (x 13), .ref (x 16), .ref (x 29), .int 0, .int 0, .ref (x 30), .int 0, .ref (x 31), .ref (x 42), .int 1, .int 1, .ref g_1, .ref (x 43)])), ((x 13), .inr (4, [.ref (x 14), .ref (x 15), .int 0, .ref (x 16)])), ((x 16), .inr (5, [.int 0, .ref (x 17), .ref (x 18), .ref (x 19), .ref (x 20), .ref (x 21), .int 0, .int 10, .int 20, .int 0, .int 0, .ref (x 22), .ref (x 23), .int 0, .ref (x 24), .ref (x 25), .ref (x 26), .ref (x 27), .ref (x 28)])), ((x 42), .inl (cy 7, 16, .inr (.inr (.inr (.inr (va_up (fun _ => none) (0) (some g_1))))))), ((x 31), .inr (6, [.ref (x 32), .ref (x 9), .ref (x 29), .int 0, .int 0, .int 10, .ref (x 36), .ref (x 37), .ref (x 38), .ref (x 39), .ref (x 40), .ref (x 41), .int 1])), ((x 32), .inr (9, [.ref (x 33), .ref (x 34), .ref (x 35), .int 0])), ((x 33), .inl (cy 0, 384, .inl (fun _ => 10))), ((x 34), .inl (cy 2, 384, .inr (.inl (fun _ => 0)))), ((x 35), .inl (cy 0, 96, .inl (fun _ => (-1)))), ((x 36), .inl (cy 0, 96, .inl (fun _ => 0))), ((x 38), .inl (cy 0, 96, .inl (fun _ => (-268435456)))), (g_1, .inr (1, [.int 0, .int 1, .int 1, .int 0, .long 0, .int 0, .int 0, .ref lo_1, .ref hi_1])), (lo_1, .inl (cy 0, 96, .inl (fun _ => 0))), (hi_1, .inl (cy 0, 96, .inl (fun _ => 0)))] H := hP
  have hD : va_D A [((x 0), .inr (10, [.int 0, .int (-1), .ref (x 1), .ref (x 9), .int 0, .ref (x 10), .ref (x 13), .ref (x 16), .ref (x 29), .int 0, .int 0, .ref (x 30), .int 0, .ref (x 31), .ref (x 42), .int 1, .int 1, .ref g_1, .ref (x 43)])), ((x 13), .inr (4, [.ref (x 14), .ref (x 15), .int 0, .ref (x 16)])), ((x 16), .inr (5, [.int 0, .ref (x 17), .ref (x 18), .ref (x 19), .ref (x 20), .ref (x 21), .int 0, .int 10, .int 20, .int 0, .int 0, .ref (x 22), .ref (x 23), .int 0, .ref (x 24), .ref (x 25), .ref (x 26), .ref (x 27), .ref (x 28)])), ((x 42), .inl (cy 7, 16, .inr (.inr (.inr (.inr (va_up (fun _ => none) (0) (some g_1))))))), ((x 31), .inr (6, [.ref (x 32), .ref (x 9), .ref (x 29), .int 0, .int 0, .int 10, .ref (x 36), .ref (x 37), .ref (x 38), .ref (x 39), .ref (x 40), .ref (x 41), .int 1])), ((x 32), .inr (9, [.ref (x 33), .ref (x 34), .ref (x 35), .int 0])), ((x 33), .inl (cy 0, 384, .inl (fun _ => 10))), ((x 34), .inl (cy 2, 384, .inr (.inl (fun _ => 0)))), ((x 35), .inl (cy 0, 96, .inl (fun _ => (-1)))), ((x 36), .inl (cy 0, 96, .inl (fun _ => 0))), ((x 38), .inl (cy 0, 96, .inl (fun _ => (-268435456)))), (g_1, .inr (1, [.int 0, .int 1, .int 1, .int 0, .long 0, .int 0, .int 0, .ref lo_1, .ref hi_1])), (lo_1, .inl (cy 0, 96, .inl (fun _ => 0))), (hi_1, .inl (cy 0, 96, .inl (fun _ => 0)))] := hD
  subst w1
  refine r_if_eq S 1 rfl dX11_knownBest_4 (tgt := 17) (by decide) (fun c => absurd c (by decide)) (fun _ => ?_)
  refine lv_aload_n S.1 S.2.1 dX11_knownBest_7 rfl (lv_at hl 0 rfl) ?_
  refine r_get S hK hP 0 10 rfl rfl inX11 17 (by decide) kw_485 (v := .ref g_1) rfl dX11_knownBest_8 ?_
  refine r_get S hK hP 11 1 rfl rfl inX1 5 (by decide) kw_1026 (v := .int 0) rfl dX11_knownBest_11 ?_
  refine r_if_ne S 0 rfl dX11_knownBest_14 (tgt := 19) (by decide) (fun c => absurd c (by decide)) (fun _ => ?_)
  refine lv_null S.1 S.2.1 dX11_knownBest_17 ?_
  exact cq_ret (u := ()) (v := none) rfl S hr hlk (Or.inl ⟨_, rfl⟩) hK (hP.sub [] rfl) (hD.sub [] (by decide) rfl) hS (rfl) (by decide) (by decide) dX11_knownBest_18
set_option maxHeartbeats 4000000 in
set_option maxRecDepth 100000 in
theorem kX11_mayLie (l : Launch) (D : va_G) (cy : Nat → ClassId) (x : Nat → Nat) (g : Nat) (lo : Nat) (hi : Nat) (p0 : Int32) (p1 : Int32) (z0 : Int) (h0 : p0.toInt = z0) (z1 : Int) (h1 : p1.toInt = z1) : RI l D cy yX11_mayLie cX11_mayLie 10 (some .int) 0 0 [.ref (x 0), .ref g, .int p0, .int p1] [((x 0), .inr (10, [.int 0, .int (-1), .ref (x 1), .ref (x 9), .int 0, .ref (x 10), .ref (x 13), .ref (x 16), .ref (x 29), .int 0, .int 0, .ref (x 30), .int 0, .ref (x 31), .ref (x 42), .int 1, .int 1, .ref g, .ref (x 43)])), ((x 16), .inr (5, [.int 0, .ref (x 17), .ref (x 18), .ref (x 19), .ref (x 20), .ref (x 21), .int 0, .int 10, .int 20, .int 0, .int 0, .ref (x 22), .ref (x 23), .int 0, .ref (x 24), .ref (x 25), .ref (x 26), .ref (x 27), .ref (x 28)])), (g, .inr (1, [.int 0, .int 1, .int 1, .int 0, .long 0, .int 0, .int 0, .ref lo, .ref hi]))] (fun v : Int32 => v = 3072) := by
  refine metr_go (by decide) (Nat.le_of_ble_eq_true rfl) (fun p e s m below meth c ls S hr hlk hP hK hl => ?_)
  have hl : lv_has ls 10 [(0, .ref (x 0)), (1, .ref g), (2, .int p0), (3, .int p1)] := hl
  refine lv_aload_n S.1 S.2.1 dX11_mayLie_0 rfl (lv_at hl 1 rfl) ?_
  refine r_get S hK hP 2 1 rfl rfl inX1 5 (by decide) kw_1026 (v := .int 0) rfl dX11_mayLie_1 ?_
  refine r_if_ne S 0 rfl dX11_mayLie_4 (tgt := 27) (by decide) (fun c => absurd c (by decide)) (fun _ => ?_)
  refine lv_iconst (v := 1) S.1 S.2.1 dX11_mayLie_7 (by decide) ?_
  refine lv_aload_n S.1 S.2.1 dX11_mayLie_8 rfl (lv_at hl 0 rfl) ?_
  refine r_get S hK hP 0 10 rfl rfl inX11 7 (by decide) kw_475 (v := .ref (x 16)) rfl dX11_mayLie_9 ?_
  refine r_get S hK hP 1 5 rfl rfl inX5 0 (by decide) kw_296 (v := .int 0) rfl dX11_mayLie_12 ?_
  refine r_ishl S dX11_mayLie_15 (v := 1) (by decide) ?_
  refine lv_iconst (v := 1) S.1 S.2.1 dX11_mayLie_16 (by decide) ?_
  refine r_isub S dX11_mayLie_17 (v := 0) (by decide) ?_
  refine lv_sipush (v := 1024) S.1 S.2.1 dX11_mayLie_18 (by decide) ?_
  refine r_ior S dX11_mayLie_21 (v := 1024) (by decide) ?_
  refine lv_sipush (v := 2048) S.1 S.2.1 dX11_mayLie_22 (by decide) ?_
  refine r_ior S dX11_mayLie_25 (v := 3072) (by decide) ?_
  exact ri_ret S hr hlk rfl (rfl) dX11_mayLie_26
set_option maxHeartbeats 4000000 in
set_option maxRecDepth 100000 in
theorem kX11_mayLieByAll (l : Launch) (D : va_G) (cy : Nat → ClassId) (x : Nat → Nat) (g : Nat) (lo : Nat) (hi : Nat) (p0 : Int32) (p1 : Int32) (z0 : Int) (h0 : p0.toInt = z0) (z1 : Int) (h1 : p1.toInt = z1) : RI l D cy yX11_mayLieByAll cX11_mayLieByAll 5 (some .int) 1 29 [.ref (x 0), .int p0, .int p1] [((x 0), .inr (10, [.int 0, .int (-1), .ref (x 1), .ref (x 9), .int 0, .ref (x 10), .ref (x 13), .ref (x 16), .ref (x 29), .int 0, .int 0, .ref (x 30), .int 0, .ref (x 31), .ref (x 42), .int 1, .int 1, .ref g, .ref (x 43)])), ((x 16), .inr (5, [.int 0, .ref (x 17), .ref (x 18), .ref (x 19), .ref (x 20), .ref (x 21), .int 0, .int 10, .int 20, .int 0, .int 0, .ref (x 22), .ref (x 23), .int 0, .ref (x 24), .ref (x 25), .ref (x 26), .ref (x 27), .ref (x 28)])), ((x 42), .inl (cy 7, 16, .inr (.inr (.inr (.inr (va_up (fun _ => none) (0) (some g))))))), (g, .inr (1, [.int 0, .int 1, .int 1, .int 0, .long 0, .int 0, .int 0, .ref lo, .ref hi]))] (fun v : Int32 => v = 3072) := by
  refine metr_go (by decide) (Nat.le_of_ble_eq_true rfl) (fun p e s m below meth c ls S hr hlk hP hK hl => ?_)
  have hl : lv_has ls 5 [(0, .ref (x 0)), (1, .int p0), (2, .int p1)] := hl
  refine lv_iconst (v := 0) S.1 S.2.1 dX11_mayLieByAll_0 (by decide) ?_
  refine lv_istore_n (lv' := [(3, .int 0), (0, .ref (x 0)), (1, .int p0), (2, .int p1)]) S.1 S.2.1 dX11_mayLieByAll_1 rfl hl (by decide) rfl (fun ls hl => ?_)
  refine lv_iconst (v := 0) S.1 S.2.1 dX11_mayLieByAll_2 (by decide) ?_
  refine lv_istore (lv' := [(4, .int 0), (3, .int 0), (0, .ref (x 0)), (1, .int p0), (2, .int p1)]) S.1 S.2.1 dX11_mayLieByAll_3 hl (by decide) rfl (fun ls hl => ?_)
  refine lv_iload S.1 S.2.1 dX11_mayLieByAll_5 (lv_at hl 0 rfl) ?_
  refine lv_iconst (v := 1) S.1 S.2.1 dX11_mayLieByAll_7 (by decide) ?_
  refine lv_aload_n S.1 S.2.1 dX11_mayLieByAll_8 rfl (lv_at hl 2 rfl) ?_
  refine r_get S hK hP 0 10 rfl rfl inX11 9 (by decide) kw_477 (v := .int 0) rfl dX11_mayLieByAll_9 ?_
  refine r_ishl S dX11_mayLieByAll_12 (v := 1) (by decide) ?_
  refine r_icmp_ge S 0 1 rfl rfl dX11_mayLieByAll_13 (tgt := 47) (by decide) (fun c => absurd c (by decide)) (fun _ => ?_)
  refine lv_aload_n S.1 S.2.1 dX11_mayLieByAll_16 rfl (lv_at hl 2 rfl) ?_
  refine lv_iload S.1 S.2.1 dX11_mayLieByAll_17 (lv_at hl 0 rfl) ?_
  refine call_ri (runV_R (wc := [((x 0), .inr (10, [.int 0, .int (-1), .ref (x 1), .ref (x 9), .int 0, .ref (x 10), .ref (x 13), .ref (x 16), .ref (x 29), .int 0, .int 0, .ref (x 30), .int 0, .ref (x 31), .ref (x 42), .int 1, .int 1, .ref g, .ref (x 43)])), ((x 42), .inl (cy 7, 16, .inr (.inr (.inr (.inr (va_up (fun _ => none) (0) (some g))))))), (g, .inr (1, [.int 0, .int 1, .int 1, .int 0, .long 0, .int 0, .int 0, .ref lo, .ref hi]))]) (As := [.int 0]) (rest := []) S (kX11_isKept l D cy x g lo hi) hK hP [0, 2, 3] rfl 0 10 rfl rfl kw_1149 kw_1151 kw_38 kw_144 kw_1152 okX11_isKept rfl (by decide) hl.1 rfl (Nat.le_of_ble_eq_true rfl) dX11_mayLieByAll_19 (by decide)) (fun v19 w19 => ?_)
  subst w19
  refine r_if_eq S 1 rfl dX11_mayLieByAll_22 (tgt := 41) (by decide) (fun c => absurd c (by decide)) (fun _ => ?_)
  refine lv_iload_n S.1 S.2.1 dX11_mayLieByAll_25 rfl (lv_at hl 1 rfl) ?_
  refine lv_aload_n S.1 S.2.1 dX11_mayLieByAll_26 rfl (lv_at hl 2 rfl) ?_
  refine lv_aload_n S.1 S.2.1 dX11_mayLieByAll_27 rfl (lv_at hl 2 rfl) ?_
  refine r_get S hK hP 0 10 rfl rfl inX11 14 (by decide) kw_482 (v := .ref (x 42)) rfl dX11_mayLieByAll_28 ?_
  refine lv_iload S.1 S.2.1 dX11_mayLieByAll_31 (lv_at hl 0 rfl) ?_
  refine r_aald S hK hP 2 7 rfl rfl (0) rfl (by decide) (by decide) (v := .ref g) rfl dX11_mayLieByAll_33 ?_
  refine lv_iload_n S.1 S.2.1 dX11_mayLieByAll_34 rfl (lv_at hl 3 rfl) ?_
  refine lv_iload_n S.1 S.2.1 dX11_mayLieByAll_35 rfl (lv_at hl 4 rfl) ?_
  refine call_ri (runV_R (wc := [((x 0), .inr (10, [.int 0, .int (-1), .ref (x 1), .ref (x 9), .int 0, .ref (x 10), .ref (x 13), .ref (x 16), .ref (x 29), .int 0, .int 0, .ref (x 30), .int 0, .ref (x 31), .ref (x 42), .int 1, .int 1, .ref g, .ref (x 43)])), ((x 16), .inr (5, [.int 0, .ref (x 17), .ref (x 18), .ref (x 19), .ref (x 20), .ref (x 21), .int 0, .int 10, .int 20, .int 0, .int 0, .ref (x 22), .ref (x 23), .int 0, .ref (x 24), .ref (x 25), .ref (x 26), .ref (x 27), .ref (x 28)])), (g, .inr (1, [.int 0, .int 1, .int 1, .int 0, .long 0, .int 0, .int 0, .ref lo, .ref hi]))]) (As := [.ref g, .int p0, .int p1]) (rest := [.int 0]) S (kX11_mayLie l D cy x g lo hi p0 p1 z0 h0 z1 h1) hK hP [0, 1, 3] rfl 0 10 rfl rfl kw_1184 kw_1186 kw_41 kw_144 kw_1187 okX11_mayLie rfl (by decide) hl.1 rfl (Nat.le_of_ble_eq_true rfl) dX11_mayLieByAll_36 (by decide)) (fun v36 w36 => ?_)
  subst w36
  refine r_ior S dX11_mayLieByAll_39 (v := 3072) (by decide) ?_
  refine lv_istore_n (lv' := [(3, .int 3072), (4, .int 0), (0, .ref (x 0)), (1, .int p0), (2, .int p1)]) S.1 S.2.1 dX11_mayLieByAll_40 rfl hl (by decide) rfl (fun ls hl => ?_)
  refine lv_iinc (v := 1) (lv' := [(4, .int 1), (3, .int 3072), (0, .ref (x 0)), (1, .int p0), (2, .int p1)]) S.1 S.2.1 dX11_mayLieByAll_41 hl (k := 1) rfl (by decide) (by decide) rfl (fun ls hl => ?_)
  refine lv_goto (tgt := 5) S.1 S.2.1 dX11_mayLieByAll_44 (by decide) ?_
  refine lv_iload S.1 S.2.1 dX11_mayLieByAll_5 (lv_at hl 0 rfl) ?_
  refine lv_iconst (v := 1) S.1 S.2.1 dX11_mayLieByAll_7 (by decide) ?_
  refine lv_aload_n S.1 S.2.1 dX11_mayLieByAll_8 rfl (lv_at hl 2 rfl) ?_
  refine r_get S hK hP 0 10 rfl rfl inX11 9 (by decide) kw_477 (v := .int 0) rfl dX11_mayLieByAll_9 ?_
  refine r_ishl S dX11_mayLieByAll_12 (v := 1) (by decide) ?_
  refine r_icmp_ge S 1 1 rfl rfl dX11_mayLieByAll_13 (tgt := 47) (by decide) (fun _ => ?_) (fun c => absurd c (by decide))
  refine lv_iload_n S.1 S.2.1 dX11_mayLieByAll_47 rfl (lv_at hl 1 rfl) ?_
  exact ri_ret S hr hlk rfl (rfl) dX11_mayLieByAll_48
set_option maxHeartbeats 4000000 in
set_option maxRecDepth 100000 in
theorem kJ6_bitCount_0f7a4 (l : Launch) (D : va_G) (cy : Nat → ClassId) : RI l D cy yJ6_bitCount_0f7a4 cJ6_bitCount_0f7a4 1 (some .int) 0 0 [.int 3072] [] (fun v : Int32 => v = 2) := by
  refine metf_go (by decide) (Nat.le_of_ble_eq_true rfl) (fun p e s m below meth c ls S hr hlk hP hK hl => ?_)
  have hl : lv_has ls 1 [(0, .int 3072)] := hl
  refine lv_iload_n S.1 S.2.1 dJ6_bitCount_0f7a4_0 rfl (lv_at hl 0 rfl) ?_
  refine lv_iload_n S.1 S.2.1 dJ6_bitCount_0f7a4_1 rfl (lv_at hl 0 rfl) ?_
  refine lv_iconst (v := 1) S.1 S.2.1 dJ6_bitCount_0f7a4_2 (by decide) ?_
  refine r_iushr S dJ6_bitCount_0f7a4_3 (v := 1536) (by decide) ?_
  refine lv_ldcw (v := 1431655765) S.1 S.2.1 S.2.2.2.1 (S.2.2.2.2 _ kw_1199) dJ6_bitCount_0f7a4_4 ?_
  refine r_iand S dJ6_bitCount_0f7a4_7 (v := 1024) (by decide) ?_
  refine r_isub S dJ6_bitCount_0f7a4_8 (v := 2048) (by decide) ?_
  refine lv_istore_n (lv' := [(0, .int 2048)]) S.1 S.2.1 dJ6_bitCount_0f7a4_9 rfl hl (by decide) rfl (fun ls hl => ?_)
  refine lv_iload_n S.1 S.2.1 dJ6_bitCount_0f7a4_10 rfl (lv_at hl 0 rfl) ?_
  refine lv_ldcw (v := 858993459) S.1 S.2.1 S.2.2.2.1 (S.2.2.2.2 _ kw_1200) dJ6_bitCount_0f7a4_11 ?_
  refine r_iand S dJ6_bitCount_0f7a4_14 (v := 0) (by decide) ?_
  refine lv_iload_n S.1 S.2.1 dJ6_bitCount_0f7a4_15 rfl (lv_at hl 0 rfl) ?_
  refine lv_iconst (v := 2) S.1 S.2.1 dJ6_bitCount_0f7a4_16 (by decide) ?_
  refine r_iushr S dJ6_bitCount_0f7a4_17 (v := 512) (by decide) ?_
  refine lv_ldcw (v := 858993459) S.1 S.2.1 S.2.2.2.1 (S.2.2.2.2 _ kw_1200) dJ6_bitCount_0f7a4_18 ?_
  refine r_iand S dJ6_bitCount_0f7a4_21 (v := 512) (by decide) ?_
  refine r_iadd S dJ6_bitCount_0f7a4_22 (v := 512) (by decide) ?_
  refine lv_istore_n (lv' := [(0, .int 512)]) S.1 S.2.1 dJ6_bitCount_0f7a4_23 rfl hl (by decide) rfl (fun ls hl => ?_)
  refine lv_iload_n S.1 S.2.1 dJ6_bitCount_0f7a4_24 rfl (lv_at hl 0 rfl) ?_
  refine lv_iload_n S.1 S.2.1 dJ6_bitCount_0f7a4_25 rfl (lv_at hl 0 rfl) ?_
  refine lv_iconst (v := 4) S.1 S.2.1 dJ6_bitCount_0f7a4_26 (by decide) ?_
  refine r_iushr S dJ6_bitCount_0f7a4_27 (v := 32) (by decide) ?_
  refine r_iadd S dJ6_bitCount_0f7a4_28 (v := 544) (by decide) ?_
  refine lv_ldcw (v := 252645135) S.1 S.2.1 S.2.2.2.1 (S.2.2.2.2 _ kw_1201) dJ6_bitCount_0f7a4_29 ?_
  refine r_iand S dJ6_bitCount_0f7a4_32 (v := 512) (by decide) ?_
  refine lv_istore_n (lv' := [(0, .int 512)]) S.1 S.2.1 dJ6_bitCount_0f7a4_33 rfl hl (by decide) rfl (fun ls hl => ?_)
  refine lv_iload_n S.1 S.2.1 dJ6_bitCount_0f7a4_34 rfl (lv_at hl 0 rfl) ?_
  refine lv_iload_n S.1 S.2.1 dJ6_bitCount_0f7a4_35 rfl (lv_at hl 0 rfl) ?_
  refine lv_bipush (v := 8) S.1 S.2.1 dJ6_bitCount_0f7a4_36 (by decide) ?_
  refine r_iushr S dJ6_bitCount_0f7a4_38 (v := 2) (by decide) ?_
  refine r_iadd S dJ6_bitCount_0f7a4_39 (v := 514) (by decide) ?_
  refine lv_istore_n (lv' := [(0, .int 514)]) S.1 S.2.1 dJ6_bitCount_0f7a4_40 rfl hl (by decide) rfl (fun ls hl => ?_)
  refine lv_iload_n S.1 S.2.1 dJ6_bitCount_0f7a4_41 rfl (lv_at hl 0 rfl) ?_
  refine lv_iload_n S.1 S.2.1 dJ6_bitCount_0f7a4_42 rfl (lv_at hl 0 rfl) ?_
  refine lv_bipush (v := 16) S.1 S.2.1 dJ6_bitCount_0f7a4_43 (by decide) ?_
  refine r_iushr S dJ6_bitCount_0f7a4_45 (v := 0) (by decide) ?_
  refine r_iadd S dJ6_bitCount_0f7a4_46 (v := 514) (by decide) ?_
  refine lv_istore_n (lv' := [(0, .int 514)]) S.1 S.2.1 dJ6_bitCount_0f7a4_47 rfl hl (by decide) rfl (fun ls hl => ?_)
  refine lv_iload_n S.1 S.2.1 dJ6_bitCount_0f7a4_48 rfl (lv_at hl 0 rfl) ?_
  refine lv_bipush (v := 63) S.1 S.2.1 dJ6_bitCount_0f7a4_49 (by decide) ?_
  refine r_iand S dJ6_bitCount_0f7a4_51 (v := 2) (by decide) ?_
  exact ri_ret S hr hlk rfl (rfl) dJ6_bitCount_0f7a4_52
set_option maxHeartbeats 4000000 in
set_option maxRecDepth 100000 in
theorem kJ13_bitCount_95d88 (l : Launch) (D : va_G) (cy : Nat → ClassId) : RI l D cy yJ13_bitCount_95d88 cJ13_bitCount_95d88 2 (some .int) 0 0 [.long 0] [] (fun v : Int32 => v = 0) := by
  refine metf_go (by decide) (Nat.le_of_ble_eq_true rfl) (fun p e s m below meth c ls S hr hlk hP hK hl => ?_)
  have hl : lv_has ls 2 [(0, .long 0)] := hl
  refine lv_lload_n S.1 S.2.1 dJ13_bitCount_95d88_0 rfl (lv_at hl 0 rfl) ?_
  refine lv_lload_n S.1 S.2.1 dJ13_bitCount_95d88_1 rfl (lv_at hl 0 rfl) ?_
  refine lv_iconst (v := 1) S.1 S.2.1 dJ13_bitCount_95d88_2 (by decide) ?_
  refine r_lushr S dJ13_bitCount_95d88_3 (v := 0) (by decide) ?_
  refine lv_ldc2 (v := 6148914691236517205) S.1 S.2.1 S.2.2.2.1 (S.2.2.2.2 _ kw_1156) dJ13_bitCount_95d88_4 ?_
  refine r_land S dJ13_bitCount_95d88_7 (v := 0) (by decide) ?_
  refine r_lsub S dJ13_bitCount_95d88_8 (v := 0) (by decide) ?_
  refine lv_lstore_n (lv' := [(0, .long 0)]) S.1 S.2.1 dJ13_bitCount_95d88_9 rfl hl (by decide) rfl (fun ls hl => ?_)
  refine lv_lload_n S.1 S.2.1 dJ13_bitCount_95d88_10 rfl (lv_at hl 0 rfl) ?_
  refine lv_ldc2 (v := 3689348814741910323) S.1 S.2.1 S.2.2.2.1 (S.2.2.2.2 _ kw_1157) dJ13_bitCount_95d88_11 ?_
  refine r_land S dJ13_bitCount_95d88_14 (v := 0) (by decide) ?_
  refine lv_lload_n S.1 S.2.1 dJ13_bitCount_95d88_15 rfl (lv_at hl 0 rfl) ?_
  refine lv_iconst (v := 2) S.1 S.2.1 dJ13_bitCount_95d88_16 (by decide) ?_
  refine r_lushr S dJ13_bitCount_95d88_17 (v := 0) (by decide) ?_
  refine lv_ldc2 (v := 3689348814741910323) S.1 S.2.1 S.2.2.2.1 (S.2.2.2.2 _ kw_1157) dJ13_bitCount_95d88_18 ?_
  refine r_land S dJ13_bitCount_95d88_21 (v := 0) (by decide) ?_
  refine r_ladd S dJ13_bitCount_95d88_22 (v := 0) (by decide) ?_
  refine lv_lstore_n (lv' := [(0, .long 0)]) S.1 S.2.1 dJ13_bitCount_95d88_23 rfl hl (by decide) rfl (fun ls hl => ?_)
  refine lv_lload_n S.1 S.2.1 dJ13_bitCount_95d88_24 rfl (lv_at hl 0 rfl) ?_
  refine lv_lload_n S.1 S.2.1 dJ13_bitCount_95d88_25 rfl (lv_at hl 0 rfl) ?_
  refine lv_iconst (v := 4) S.1 S.2.1 dJ13_bitCount_95d88_26 (by decide) ?_
  refine r_lushr S dJ13_bitCount_95d88_27 (v := 0) (by decide) ?_
  refine r_ladd S dJ13_bitCount_95d88_28 (v := 0) (by decide) ?_
  refine lv_ldc2 (v := 1085102592571150095) S.1 S.2.1 S.2.2.2.1 (S.2.2.2.2 _ kw_1158) dJ13_bitCount_95d88_29 ?_
  refine r_land S dJ13_bitCount_95d88_32 (v := 0) (by decide) ?_
  refine lv_lstore_n (lv' := [(0, .long 0)]) S.1 S.2.1 dJ13_bitCount_95d88_33 rfl hl (by decide) rfl (fun ls hl => ?_)
  refine lv_lload_n S.1 S.2.1 dJ13_bitCount_95d88_34 rfl (lv_at hl 0 rfl) ?_
  refine lv_lload_n S.1 S.2.1 dJ13_bitCount_95d88_35 rfl (lv_at hl 0 rfl) ?_
  refine lv_bipush (v := 8) S.1 S.2.1 dJ13_bitCount_95d88_36 (by decide) ?_
  refine r_lushr S dJ13_bitCount_95d88_38 (v := 0) (by decide) ?_
  refine r_ladd S dJ13_bitCount_95d88_39 (v := 0) (by decide) ?_
  refine lv_lstore_n (lv' := [(0, .long 0)]) S.1 S.2.1 dJ13_bitCount_95d88_40 rfl hl (by decide) rfl (fun ls hl => ?_)
  refine lv_lload_n S.1 S.2.1 dJ13_bitCount_95d88_41 rfl (lv_at hl 0 rfl) ?_
  refine lv_lload_n S.1 S.2.1 dJ13_bitCount_95d88_42 rfl (lv_at hl 0 rfl) ?_
  refine lv_bipush (v := 16) S.1 S.2.1 dJ13_bitCount_95d88_43 (by decide) ?_
  refine r_lushr S dJ13_bitCount_95d88_45 (v := 0) (by decide) ?_
  refine r_ladd S dJ13_bitCount_95d88_46 (v := 0) (by decide) ?_
  refine lv_lstore_n (lv' := [(0, .long 0)]) S.1 S.2.1 dJ13_bitCount_95d88_47 rfl hl (by decide) rfl (fun ls hl => ?_)
  refine lv_lload_n S.1 S.2.1 dJ13_bitCount_95d88_48 rfl (lv_at hl 0 rfl) ?_
  refine lv_lload_n S.1 S.2.1 dJ13_bitCount_95d88_49 rfl (lv_at hl 0 rfl) ?_
  refine lv_bipush (v := 32) S.1 S.2.1 dJ13_bitCount_95d88_50 (by decide) ?_
  refine r_lushr S dJ13_bitCount_95d88_52 (v := 0) (by decide) ?_
  refine r_ladd S dJ13_bitCount_95d88_53 (v := 0) (by decide) ?_
  refine lv_lstore_n (lv' := [(0, .long 0)]) S.1 S.2.1 dJ13_bitCount_95d88_54 rfl hl (by decide) rfl (fun ls hl => ?_)
  refine lv_lload_n S.1 S.2.1 dJ13_bitCount_95d88_55 rfl (lv_at hl 0 rfl) ?_
  refine lv_l2i (v := 0) S.1 S.2.1 dJ13_bitCount_95d88_56 (by decide) ?_
  refine lv_bipush (v := 127) S.1 S.2.1 dJ13_bitCount_95d88_57 (by decide) ?_
  refine r_iand S dJ13_bitCount_95d88_59 (v := 0) (by decide) ?_
  exact ri_ret S hr hlk rfl (rfl) dJ13_bitCount_95d88_60
set_option maxHeartbeats 4000000 in
set_option maxRecDepth 100000 in
theorem kX11_countSaying (l : Launch) (D : va_G) (cy : Nat → ClassId) (x : Nat → Nat) (p0 : Int32) (z0 : Int) (h0 : p0.toInt = z0) : RI l D cy yX11_countSaying cX11_countSaying 4 (some .int) 0 0 [.ref (x 0), .int p0] [((x 0), .inr (10, [.int 0, .int (-1), .ref (x 1), .ref (x 9), .int 0, .ref (x 10), .ref (x 13), .ref (x 16), .ref (x 29), .int 0, .int 0, .ref (x 30), .int 0, .ref (x 31), .ref (x 42), .int 1, .int 0, .null, .ref (x 43)]))] (fun v : Int32 => v = 0) := by
  refine metr_go (by decide) (Nat.le_of_ble_eq_true rfl) (fun p e s m below meth c ls S hr hlk hP hK hl => ?_)
  have hl : lv_has ls 4 [(0, .ref (x 0)), (1, .int p0)] := hl
  refine lv_iconst (v := 0) S.1 S.2.1 dX11_countSaying_0 (by decide) ?_
  refine lv_istore_n (lv' := [(2, .int 0), (0, .ref (x 0)), (1, .int p0)]) S.1 S.2.1 dX11_countSaying_1 rfl hl (by decide) rfl (fun ls hl => ?_)
  refine lv_iconst (v := 0) S.1 S.2.1 dX11_countSaying_2 (by decide) ?_
  refine lv_istore_n (lv' := [(3, .int 0), (2, .int 0), (0, .ref (x 0)), (1, .int p0)]) S.1 S.2.1 dX11_countSaying_3 rfl hl (by decide) rfl (fun ls hl => ?_)
  refine lv_iload_n S.1 S.2.1 dX11_countSaying_4 rfl (lv_at hl 0 rfl) ?_
  refine lv_aload_n S.1 S.2.1 dX11_countSaying_5 rfl (lv_at hl 2 rfl) ?_
  refine r_get S hK hP 0 10 rfl rfl inX11 4 (by decide) kw_472 (v := .int 0) rfl dX11_countSaying_6 ?_
  refine r_icmp_ge S 0 0 rfl rfl dX11_countSaying_9 (tgt := 50) (by decide) (fun _ => ?_) (fun c => absurd c (by decide))
  refine lv_iload_n S.1 S.2.1 dX11_countSaying_50 rfl (lv_at hl 1 rfl) ?_
  exact ri_ret S hr hlk rfl (rfl) dX11_countSaying_51
set_option maxHeartbeats 4000000 in
set_option maxRecDepth 100000 in
theorem kX11_countCertain (l : Launch) (D : va_G) (cy : Nat → ClassId) (x : Nat → Nat) (g : Nat) (lo : Nat) (hi : Nat) : RI l D cy yX11_countCertain cX11_countCertain 3 (some .int) 2 53 [.ref (x 0)] [((x 0), .inr (10, [.int 0, .int (-1), .ref (x 1), .ref (x 9), .int 0, .ref (x 10), .ref (x 13), .ref (x 16), .ref (x 29), .int 0, .int 0, .ref (x 30), .int 0, .ref (x 31), .ref (x 42), .int 1, .int 1, .ref g, .ref (x 43)])), ((x 16), .inr (5, [.int 0, .ref (x 17), .ref (x 18), .ref (x 19), .ref (x 20), .ref (x 21), .int 0, .int 10, .int 20, .int 0, .int 0, .ref (x 22), .ref (x 23), .int 0, .ref (x 24), .ref (x 25), .ref (x 26), .ref (x 27), .ref (x 28)])), ((x 42), .inl (cy 7, 16, .inr (.inr (.inr (.inr (va_up (fun _ => none) (0) (some g))))))), (g, .inr (1, [.int 0, .int 1, .int 1, .int 0, .long 0, .int 0, .int 0, .ref lo, .ref hi]))] (fun v : Int32 => v = 0) := by
  refine metr_go (by decide) (Nat.le_of_ble_eq_true rfl) (fun p e s m below meth c ls S hr hlk hP hK hl => ?_)
  have hl : lv_has ls 3 [(0, .ref (x 0))] := hl
  refine lv_iconst (v := 0) S.1 S.2.1 dX11_countCertain_0 (by decide) ?_
  refine lv_istore_n (lv' := [(1, .int 0), (0, .ref (x 0))]) S.1 S.2.1 dX11_countCertain_1 rfl hl (by decide) rfl (fun ls hl => ?_)
  refine lv_iconst (v := 0) S.1 S.2.1 dX11_countCertain_2 (by decide) ?_
  refine lv_istore_n (lv' := [(2, .int 0), (1, .int 0), (0, .ref (x 0))]) S.1 S.2.1 dX11_countCertain_3 rfl hl (by decide) rfl (fun ls hl => ?_)
  refine loopR (σ := Unit) 4 96 (fun k xs9 => [(2, .int (nI (k))), (1, .int 0), (0, .ref (x 0))]) (fun k xs9 => True) (fun xs9 hJ ls hl => ?_) (fun k xs9 hk hJ ls hl ih => ?_) () trivial (lv_sub hl [0, 1, 2] rfl)
  · have hl : lv_has ls 3 [(2, .int 96), (1, .int 0), (0, .ref (x 0))] := hl
    refine lv_iload_n S.1 S.2.1 dX11_countCertain_4 rfl (lv_at hl 0 rfl) ?_
    refine lv_bipush (v := 96) S.1 S.2.1 dX11_countCertain_5 (by decide) ?_
    refine r_icmp_ge S 96 96 rfl rfl dX11_countCertain_7 (tgt := 37) (by decide) (fun _ => ?_) (fun c => absurd c (by decide))
    refine lv_iload_n S.1 S.2.1 dX11_countCertain_37 rfl (lv_at hl 1 rfl) ?_
    exact ri_ret S hr hlk rfl (rfl) dX11_countCertain_38
  · have hl : lv_has ls 3 [(2, .int (nI (k))), (1, .int 0), (0, .ref (x 0))] := hl
    refine lv_iload_n S.1 S.2.1 dX11_countCertain_4 rfl (lv_at hl 0 rfl) ?_
    refine lv_bipush (v := 96) S.1 S.2.1 dX11_countCertain_5 (by decide) ?_
    refine r_icmp_ge S ((k : Nat) : Int) 96 (nI_toInt (by omega)) rfl dX11_countCertain_7 (tgt := 37) (by decide) (fun c => absurd c (by omega)) (fun _ => ?_)
    refine lv_iload_n S.1 S.2.1 dX11_countCertain_10 rfl (lv_at hl 1 rfl) ?_
    refine lv_aload_n S.1 S.2.1 dX11_countCertain_11 rfl (lv_at hl 2 rfl) ?_
    refine lv_iload_n S.1 S.2.1 dX11_countCertain_12 rfl (lv_at hl 0 rfl) ?_
    refine lv_iconst (v := 0) S.1 S.2.1 dX11_countCertain_13 (by decide) ?_
    refine call_ri (runV_R (wc := [((x 0), .inr (10, [.int 0, .int (-1), .ref (x 1), .ref (x 9), .int 0, .ref (x 10), .ref (x 13), .ref (x 16), .ref (x 29), .int 0, .int 0, .ref (x 30), .int 0, .ref (x 31), .ref (x 42), .int 1, .int 1, .ref g, .ref (x 43)])), ((x 16), .inr (5, [.int 0, .ref (x 17), .ref (x 18), .ref (x 19), .ref (x 20), .ref (x 21), .int 0, .int 10, .int 20, .int 0, .int 0, .ref (x 22), .ref (x 23), .int 0, .ref (x 24), .ref (x 25), .ref (x 26), .ref (x 27), .ref (x 28)])), ((x 42), .inl (cy 7, 16, .inr (.inr (.inr (.inr (va_up (fun _ => none) (0) (some g))))))), (g, .inr (1, [.int 0, .int 1, .int 1, .int 0, .long 0, .int 0, .int 0, .ref lo, .ref hi]))]) (As := [.int (nI (k)), .int 0]) (rest := [.int 0]) S (kX11_mayLieByAll l D cy x g lo hi (nI (k)) 0 ((k : Nat) : Int) (nI_toInt (by omega)) 0 rfl) hK hP [0, 1, 2, 3] rfl 0 10 rfl rfl kw_1180 kw_1182 kw_40 kw_144 kw_1183 okX11_mayLieByAll rfl (by decide) hl.1 rfl (Nat.le_of_ble_eq_true rfl) dX11_countCertain_14 (by decide)) (fun v14 w14 => ?_)
    subst w14
    refine call_ri (runS_R (wc := []) (As := [.int 3072]) (rest := [.int 0]) S (kJ6_bitCount_0f7a4 l D cy) hK hP [] rfl kw_1196 kw_1197 kw_170 kw_1198 okJ6_bitCount_0f7a4 rfl (by decide) hl.1 rfl (Nat.le_of_ble_eq_true rfl) dX11_countCertain_17 (by decide)) (fun v17 w17 => ?_)
    subst w17
    refine lv_iconst (v := 1) S.1 S.2.1 dX11_countCertain_20 (by decide) ?_
    refine r_icmp_ne S 2 1 rfl rfl dX11_countCertain_21 (tgt := 28) (by decide) (fun _ => ?_) (fun c => absurd c (by decide))
    refine lv_iconst (v := 0) S.1 S.2.1 dX11_countCertain_28 (by decide) ?_
    refine r_iadd S dX11_countCertain_29 (v := 0) (by decide) ?_
    refine lv_istore_n (lv' := [(1, .int 0), (2, .int (nI (k))), (0, .ref (x 0))]) S.1 S.2.1 dX11_countCertain_30 rfl hl (by decide) rfl (fun ls hl => ?_)
    refine lv_iinc (v := (nI ((k) + 1))) (lv' := [(2, .int (nI ((k) + 1))), (1, .int 0), (0, .ref (x 0))]) S.1 S.2.1 dX11_countCertain_31 hl (k := 1) rfl (nI_1 (k)) (by decide) rfl (fun ls hl => ?_)
    refine lv_goto (tgt := 4) S.1 S.2.1 dX11_countCertain_34 (by decide) ?_
    exact ih () _ trivial (lv_sub hl [0, 1, 2] rfl)
set_option maxHeartbeats 4000000 in
set_option maxRecDepth 100000 in
theorem kX11_gatherLineFacts (l : Launch) (D : va_G) (cy : Nat → ClassId) (x : Nat → Nat) (g : Nat) (lo : Nat) (hi : Nat) (p0 : Int32) (p1 : Int32) (z0 : Int) (h0 : p0.toInt = z0) (z1 : Int) (h1 : p1.toInt = z1) : CV l D cy yX11_gatherLineFacts cX11_gatherLineFacts 11 none 1 29 0 0 [.ref (x 0), .int p0, .int p1] [((x 0), .inr (10, [.int 0, .int (-1), .ref (x 1), .ref (x 9), .int 0, .ref (x 10), .ref (x 13), .ref (x 16), .ref (x 29), .int 0, .int 0, .ref (x 30), .int 0, .ref (x 31), .ref (x 42), .int 1, .int 1, .ref g, .ref (x 43)])), ((x 16), .inr (5, [.int 0, .ref (x 17), .ref (x 18), .ref (x 19), .ref (x 20), .ref (x 21), .int 0, .int 10, .int 20, .int 0, .int 0, .ref (x 22), .ref (x 23), .int 0, .ref (x 24), .ref (x 25), .ref (x 26), .ref (x 27), .ref (x 28)])), ((x 42), .inl (cy 7, 16, .inr (.inr (.inr (.inr (va_up (fun _ => none) (0) (some g))))))), (g, .inr (1, [.int 0, .int 1, .int 1, .int 0, .long 0, .int 0, .int 0, .ref lo, .ref hi])), ((x 43), .inl (cy 0, 12, .inl (fun _ => 0)))] (fun (u : Unit) => True) (fun (u : Unit) => [((x 0), .inr (10, [.int 0, .int (-1), .ref (x 1), .ref (x 9), .int 0, .ref (x 10), .ref (x 13), .ref (x 16), .ref (x 29), .int 0, .int 0, .ref (x 30), .int 0, .ref (x 31), .ref (x 42), .int 1, .int 1, .ref g, .ref (x 43)])), ((x 16), .inr (5, [.int 0, .ref (x 17), .ref (x 18), .ref (x 19), .ref (x 20), .ref (x 21), .int 0, .int 10, .int 20, .int 0, .int 0, .ref (x 22), .ref (x 23), .int 0, .ref (x 24), .ref (x 25), .ref (x 26), .ref (x 27), .ref (x 28)])), ((x 42), .inl (cy 7, 16, .inr (.inr (.inr (.inr (va_up (fun _ => none) (0) (some g))))))), (g, .inr (1, [.int 0, .int 1, .int 1, .int 0, .long 0, .int 0, .int 0, .ref lo, .ref hi])), ((x 43), .inl (cy 0, 12, .inl (upd (upd (upd (upd (fun _ => 0) (8) 0) (9) 0) (10) 0) (11) 1)))]) := by
  refine cv_go (by decide) (Nat.le_of_ble_eq_true rfl) (fun p e s m below meth c ls A hA S hr hlk hnm hP hK hD hl => ?_)
  have hS : va_S A s.heap s.heap [] := va_S.rf
  have hl : lv_has ls 11 [(0, .ref (x 0)), (1, .int p0), (2, .int p1)] := hl
  refine lv_iconst (v := 0) S.1 S.2.1 dX11_gatherLineFacts_0 (by decide) ?_
  refine lv_istore_n (lv' := [(3, .int 0), (0, .ref (x 0)), (1, .int p0), (2, .int p1)]) S.1 S.2.1 dX11_gatherLineFacts_1 rfl hl (by decide) rfl (fun ls hl => ?_)
  refine lv_iconst (v := 0) S.1 S.2.1 dX11_gatherLineFacts_2 (by decide) ?_
  refine lv_istore (lv' := [(4, .int 0), (3, .int 0), (0, .ref (x 0)), (1, .int p0), (2, .int p1)]) S.1 S.2.1 dX11_gatherLineFacts_3 hl (by decide) rfl (fun ls hl => ?_)
  refine lv_iconst (v := 0) S.1 S.2.1 dX11_gatherLineFacts_5 (by decide) ?_
  refine lv_istore (lv' := [(5, .int 0), (4, .int 0), (3, .int 0), (0, .ref (x 0)), (1, .int p0), (2, .int p1)]) S.1 S.2.1 dX11_gatherLineFacts_6 hl (by decide) rfl (fun ls hl => ?_)
  refine lv_iconst (v := 0) S.1 S.2.1 dX11_gatherLineFacts_8 (by decide) ?_
  refine lv_istore (lv' := [(6, .int 0), (5, .int 0), (4, .int 0), (3, .int 0), (0, .ref (x 0)), (1, .int p0), (2, .int p1)]) S.1 S.2.1 dX11_gatherLineFacts_9 hl (by decide) rfl (fun ls hl => ?_)
  refine lv_iconst (v := 0) S.1 S.2.1 dX11_gatherLineFacts_11 (by decide) ?_
  refine lv_istore (lv' := [(7, .int 0), (6, .int 0), (5, .int 0), (4, .int 0), (3, .int 0), (0, .ref (x 0)), (1, .int p0), (2, .int p1)]) S.1 S.2.1 dX11_gatherLineFacts_12 hl (by decide) rfl (fun ls hl => ?_)
  refine lv_iload S.1 S.2.1 dX11_gatherLineFacts_14 (lv_at hl 0 rfl) ?_
  refine lv_iconst (v := 1) S.1 S.2.1 dX11_gatherLineFacts_16 (by decide) ?_
  refine lv_aload_n S.1 S.2.1 dX11_gatherLineFacts_17 rfl (lv_at hl 5 rfl) ?_
  refine r_get S hK hP 0 10 rfl rfl inX11 9 (by decide) kw_477 (v := .int 0) rfl dX11_gatherLineFacts_18 ?_
  refine r_ishl S dX11_gatherLineFacts_21 (v := 1) (by decide) ?_
  refine r_icmp_ge S 0 1 rfl rfl dX11_gatherLineFacts_22 (tgt := 160) (by decide) (fun c => absurd c (by decide)) (fun _ => ?_)
  refine lv_aload_n S.1 S.2.1 dX11_gatherLineFacts_25 rfl (lv_at hl 5 rfl) ?_
  refine lv_iload S.1 S.2.1 dX11_gatherLineFacts_26 (lv_at hl 0 rfl) ?_
  refine call_ri (runV_R (wc := [((x 0), .inr (10, [.int 0, .int (-1), .ref (x 1), .ref (x 9), .int 0, .ref (x 10), .ref (x 13), .ref (x 16), .ref (x 29), .int 0, .int 0, .ref (x 30), .int 0, .ref (x 31), .ref (x 42), .int 1, .int 1, .ref g, .ref (x 43)])), ((x 42), .inl (cy 7, 16, .inr (.inr (.inr (.inr (va_up (fun _ => none) (0) (some g))))))), (g, .inr (1, [.int 0, .int 1, .int 1, .int 0, .long 0, .int 0, .int 0, .ref lo, .ref hi]))]) (As := [.int 0]) (rest := []) S (kX11_isKept l D cy x g lo hi) hK hP [0, 2, 3] rfl 0 10 rfl rfl kw_1149 kw_1151 kw_38 kw_144 kw_1152 okX11_isKept rfl (by decide) hl.1 rfl (Nat.le_of_ble_eq_true rfl) dX11_gatherLineFacts_28 (by decide)) (fun v28 w28 => ?_)
  subst w28
  refine r_if_eq S 1 rfl dX11_gatherLineFacts_31 (tgt := 154) (by decide) (fun c => absurd c (by decide)) (fun _ => ?_)
  refine lv_aload_n S.1 S.2.1 dX11_gatherLineFacts_34 rfl (lv_at hl 5 rfl) ?_
  refine lv_aload_n S.1 S.2.1 dX11_gatherLineFacts_35 rfl (lv_at hl 5 rfl) ?_
  refine r_get S hK hP 0 10 rfl rfl inX11 14 (by decide) kw_482 (v := .ref (x 42)) rfl dX11_gatherLineFacts_36 ?_
  refine lv_iload S.1 S.2.1 dX11_gatherLineFacts_39 (lv_at hl 0 rfl) ?_
  refine r_aald S hK hP 2 7 rfl rfl (0) rfl (by decide) (by decide) (v := .ref g) rfl dX11_gatherLineFacts_41 ?_
  refine lv_iload_n S.1 S.2.1 dX11_gatherLineFacts_42 rfl (lv_at hl 6 rfl) ?_
  refine lv_iconst (v := 0) S.1 S.2.1 dX11_gatherLineFacts_43 (by decide) ?_
  refine call_ri (runV_R (wc := [((x 0), .inr (10, [.int 0, .int (-1), .ref (x 1), .ref (x 9), .int 0, .ref (x 10), .ref (x 13), .ref (x 16), .ref (x 29), .int 0, .int 0, .ref (x 30), .int 0, .ref (x 31), .ref (x 42), .int 1, .int 1, .ref g, .ref (x 43)])), ((x 16), .inr (5, [.int 0, .ref (x 17), .ref (x 18), .ref (x 19), .ref (x 20), .ref (x 21), .int 0, .int 10, .int 20, .int 0, .int 0, .ref (x 22), .ref (x 23), .int 0, .ref (x 24), .ref (x 25), .ref (x 26), .ref (x 27), .ref (x 28)])), (g, .inr (1, [.int 0, .int 1, .int 1, .int 0, .long 0, .int 0, .int 0, .ref lo, .ref hi]))]) (As := [.ref g, .int p0, .int 0]) (rest := []) S (kX11_mayLie l D cy x g lo hi p0 0 z0 h0 0 rfl) hK hP [0, 1, 3] rfl 0 10 rfl rfl kw_1184 kw_1186 kw_41 kw_144 kw_1187 okX11_mayLie rfl (by decide) hl.1 rfl (Nat.le_of_ble_eq_true rfl) dX11_gatherLineFacts_44 (by decide)) (fun v44 w44 => ?_)
  subst w44
  refine lv_istore (lv' := [(8, .int 3072), (7, .int 0), (6, .int 0), (5, .int 0), (4, .int 0), (3, .int 0), (0, .ref (x 0)), (1, .int p0), (2, .int p1)]) S.1 S.2.1 dX11_gatherLineFacts_47 hl (by decide) rfl (fun ls hl => ?_)
  refine lv_aload_n S.1 S.2.1 dX11_gatherLineFacts_49 rfl (lv_at hl 6 rfl) ?_
  refine lv_aload_n S.1 S.2.1 dX11_gatherLineFacts_50 rfl (lv_at hl 6 rfl) ?_
  refine r_get S hK hP 0 10 rfl rfl inX11 14 (by decide) kw_482 (v := .ref (x 42)) rfl dX11_gatherLineFacts_51 ?_
  refine lv_iload S.1 S.2.1 dX11_gatherLineFacts_54 (lv_at hl 1 rfl) ?_
  refine r_aald S hK hP 2 7 rfl rfl (0) rfl (by decide) (by decide) (v := .ref g) rfl dX11_gatherLineFacts_56 ?_
  refine lv_iload_n S.1 S.2.1 dX11_gatherLineFacts_57 rfl (lv_at hl 8 rfl) ?_
  refine lv_iconst (v := 0) S.1 S.2.1 dX11_gatherLineFacts_58 (by decide) ?_
  refine call_ri (runV_R (wc := [((x 0), .inr (10, [.int 0, .int (-1), .ref (x 1), .ref (x 9), .int 0, .ref (x 10), .ref (x 13), .ref (x 16), .ref (x 29), .int 0, .int 0, .ref (x 30), .int 0, .ref (x 31), .ref (x 42), .int 1, .int 1, .ref g, .ref (x 43)])), ((x 16), .inr (5, [.int 0, .ref (x 17), .ref (x 18), .ref (x 19), .ref (x 20), .ref (x 21), .int 0, .int 10, .int 20, .int 0, .int 0, .ref (x 22), .ref (x 23), .int 0, .ref (x 24), .ref (x 25), .ref (x 26), .ref (x 27), .ref (x 28)])), (g, .inr (1, [.int 0, .int 1, .int 1, .int 0, .long 0, .int 0, .int 0, .ref lo, .ref hi]))]) (As := [.ref g, .int p1, .int 0]) (rest := []) S (kX11_mayLie l D cy x g lo hi p1 0 z1 h1 0 rfl) hK hP [0, 1, 3] rfl 0 10 rfl rfl kw_1184 kw_1186 kw_41 kw_144 kw_1187 okX11_mayLie rfl (by decide) hl.1 rfl (Nat.le_of_ble_eq_true rfl) dX11_gatherLineFacts_59 (by decide)) (fun v59 w59 => ?_)
  subst w59
  refine lv_istore (lv' := [(9, .int 3072), (8, .int 3072), (7, .int 0), (6, .int 0), (5, .int 0), (4, .int 0), (3, .int 0), (0, .ref (x 0)), (1, .int p0), (2, .int p1)]) S.1 S.2.1 dX11_gatherLineFacts_62 hl (by decide) rfl (fun ls hl => ?_)
  refine lv_iload S.1 S.2.1 dX11_gatherLineFacts_64 (lv_at hl 1 rfl) ?_
  refine call_ri (runS_R (wc := []) (As := [.int 3072]) (rest := []) S (kJ6_bitCount_0f7a4 l D cy) hK hP [] rfl kw_1196 kw_1197 kw_170 kw_1198 okJ6_bitCount_0f7a4 rfl (by decide) hl.1 rfl (Nat.le_of_ble_eq_true rfl) dX11_gatherLineFacts_66 (by decide)) (fun v66 w66 => ?_)
  subst w66
  refine lv_iconst (v := 1) S.1 S.2.1 dX11_gatherLineFacts_69 (by decide) ?_
  refine r_icmp_ne S 2 1 rfl rfl dX11_gatherLineFacts_70 (tgt := 86) (by decide) (fun _ => ?_) (fun c => absurd c (by decide))
  refine lv_iconst (v := 0) S.1 S.2.1 dX11_gatherLineFacts_86 (by decide) ?_
  refine lv_istore (lv' := [(10, .int 0), (9, .int 3072), (8, .int 3072), (7, .int 0), (6, .int 0), (5, .int 0), (4, .int 0), (3, .int 0), (0, .ref (x 0)), (1, .int p0), (2, .int p1)]) S.1 S.2.1 dX11_gatherLineFacts_87 hl (by decide) rfl (fun ls hl => ?_)
  refine lv_iinc (v := 1) (lv' := [(3, .int 1), (10, .int 0), (9, .int 3072), (8, .int 3072), (7, .int 0), (6, .int 0), (5, .int 0), (4, .int 0), (0, .ref (x 0)), (1, .int p0), (2, .int p1)]) S.1 S.2.1 dX11_gatherLineFacts_89 hl (k := 7) rfl (by decide) (by decide) rfl (fun ls hl => ?_)
  refine lv_iload S.1 S.2.1 dX11_gatherLineFacts_92 (lv_at hl 7 rfl) ?_
  refine lv_iload S.1 S.2.1 dX11_gatherLineFacts_94 (lv_at hl 1 rfl) ?_
  refine r_if_eq S 0 rfl dX11_gatherLineFacts_96 (tgt := 110) (by decide) (fun _ => ?_) (fun c => absurd c (by decide))
  refine lv_iconst (v := 0) S.1 S.2.1 dX11_gatherLineFacts_110 (by decide) ?_
  refine r_iadd S dX11_gatherLineFacts_111 (v := 0) (by decide) ?_
  refine lv_istore (lv' := [(4, .int 0), (3, .int 1), (10, .int 0), (9, .int 3072), (8, .int 3072), (7, .int 0), (6, .int 0), (5, .int 0), (0, .ref (x 0)), (1, .int p0), (2, .int p1)]) S.1 S.2.1 dX11_gatherLineFacts_112 hl (by decide) rfl (fun ls hl => ?_)
  refine lv_iload S.1 S.2.1 dX11_gatherLineFacts_114 (lv_at hl 7 rfl) ?_
  refine lv_iload S.1 S.2.1 dX11_gatherLineFacts_116 (lv_at hl 4 rfl) ?_
  refine lv_iload S.1 S.2.1 dX11_gatherLineFacts_118 (lv_at hl 3 rfl) ?_
  refine r_iand S dX11_gatherLineFacts_120 (v := 3072) (by decide) ?_
  refine r_if_ne S 3072 rfl dX11_gatherLineFacts_121 (tgt := 128) (by decide) (fun _ => ?_) (fun c => absurd c (by decide))
  refine lv_iconst (v := 0) S.1 S.2.1 dX11_gatherLineFacts_128 (by decide) ?_
  refine r_iadd S dX11_gatherLineFacts_129 (v := 0) (by decide) ?_
  refine lv_istore (lv' := [(5, .int 0), (4, .int 0), (3, .int 1), (10, .int 0), (9, .int 3072), (8, .int 3072), (7, .int 0), (6, .int 0), (0, .ref (x 0)), (1, .int p0), (2, .int p1)]) S.1 S.2.1 dX11_gatherLineFacts_130 hl (by decide) rfl (fun ls hl => ?_)
  refine lv_iload S.1 S.2.1 dX11_gatherLineFacts_132 (lv_at hl 7 rfl) ?_
  refine lv_iload S.1 S.2.1 dX11_gatherLineFacts_134 (lv_at hl 3 rfl) ?_
  refine r_if_eq S 0 rfl dX11_gatherLineFacts_136 (tgt := 150) (by decide) (fun _ => ?_) (fun c => absurd c (by decide))
  refine lv_iconst (v := 0) S.1 S.2.1 dX11_gatherLineFacts_150 (by decide) ?_
  refine r_iadd S dX11_gatherLineFacts_151 (v := 0) (by decide) ?_
  refine lv_istore (lv' := [(6, .int 0), (5, .int 0), (4, .int 0), (3, .int 1), (10, .int 0), (9, .int 3072), (8, .int 3072), (7, .int 0), (0, .ref (x 0)), (1, .int p0), (2, .int p1)]) S.1 S.2.1 dX11_gatherLineFacts_152 hl (by decide) rfl (fun ls hl => ?_)
  refine lv_iinc (v := 1) (lv' := [(7, .int 1), (6, .int 0), (5, .int 0), (4, .int 0), (3, .int 1), (10, .int 0), (9, .int 3072), (8, .int 3072), (0, .ref (x 0)), (1, .int p0), (2, .int p1)]) S.1 S.2.1 dX11_gatherLineFacts_154 hl (k := 7) rfl (by decide) (by decide) rfl (fun ls hl => ?_)
  refine lv_goto (tgt := 14) S.1 S.2.1 dX11_gatherLineFacts_157 (by decide) ?_
  refine lv_iload S.1 S.2.1 dX11_gatherLineFacts_14 (lv_at hl 0 rfl) ?_
  refine lv_iconst (v := 1) S.1 S.2.1 dX11_gatherLineFacts_16 (by decide) ?_
  refine lv_aload_n S.1 S.2.1 dX11_gatherLineFacts_17 rfl (lv_at hl 8 rfl) ?_
  refine r_get S hK hP 0 10 rfl rfl inX11 9 (by decide) kw_477 (v := .int 0) rfl dX11_gatherLineFacts_18 ?_
  refine r_ishl S dX11_gatherLineFacts_21 (v := 1) (by decide) ?_
  refine r_icmp_ge S 1 1 rfl rfl dX11_gatherLineFacts_22 (tgt := 160) (by decide) (fun _ => ?_) (fun c => absurd c (by decide))
  refine lv_aload_n S.1 S.2.1 dX11_gatherLineFacts_160 rfl (lv_at hl 8 rfl) ?_
  refine r_get S hK hP 0 10 rfl rfl inX11 18 (by decide) kw_486 (v := .ref (x 43)) rfl dX11_gatherLineFacts_161 ?_
  refine lv_iconst (v := 0) S.1 S.2.1 dX11_gatherLineFacts_164 (by decide) ?_
  refine call_v (wr := [((x 0), .inr (10, [.int 0, .int (-1), .ref (x 1), .ref (x 9), .int 0, .ref (x 10), .ref (x 13), .ref (x 16), .ref (x 29), .int 0, .int 0, .ref (x 30), .int 0, .ref (x 31), .ref (x 42), .int 1, .int 1, .ref g, .ref (x 43)])), ((x 16), .inr (5, [.int 0, .ref (x 17), .ref (x 18), .ref (x 19), .ref (x 20), .ref (x 21), .int 0, .int 10, .int 20, .int 0, .int 0, .ref (x 22), .ref (x 23), .int 0, .ref (x 24), .ref (x 25), .ref (x 26), .ref (x 27), .ref (x 28)])), ((x 42), .inl (cy 7, 16, .inr (.inr (.inr (.inr (va_up (fun _ => none) (0) (some g))))))), (g, .inr (1, [.int 0, .int 1, .int 1, .int 0, .long 0, .int 0, .int 0, .ref lo, .ref hi]))]) (runS_C (wc := [((x 43), .inl (cy 0, 12, .inl (fun _ => 0)))]) (As := [.ref (x 43), .int 0]) (rest := []) S (kJ7_fill_53178 l D cy (x 43) 12 (fun _ => 0) 0 (by omega)) hK hP hD [4] (by decide) rfl kw_976 kw_187 kw_146 kw_188 okJ7_fill_53178 rfl (by decide) hl.1 rfl (Nat.le_of_ble_eq_true rfl) dX11_gatherLineFacts_165 (by decide)) hP hD hS hA [4] [0, 1, 2, 3] rfl rfl (by decide) (by decide) (fun u165 H locs w165 hP hD hS => ?_)
  have hP : va_P D vwCl [((x 0), .inr (10, [.int 0, .int (-1), .ref (x 1), .ref (x 9), .int 0, .ref (x 10), .ref (x 13), .ref (x 16), .ref (x 29), .int 0, .int 0, .ref (x 30), .int 0, .ref (x 31), .ref (x 42), .int 1, .int 1, .ref g, .ref (x 43)])), ((x 16), .inr (5, [.int 0, .ref (x 17), .ref (x 18), .ref (x 19), .ref (x 20), .ref (x 21), .int 0, .int 10, .int 20, .int 0, .int 0, .ref (x 22), .ref (x 23), .int 0, .ref (x 24), .ref (x 25), .ref (x 26), .ref (x 27), .ref (x 28)])), ((x 42), .inl (cy 7, 16, .inr (.inr (.inr (.inr (va_up (fun _ => none) (0) (some g))))))), (g, .inr (1, [.int 0, .int 1, .int 1, .int 0, .long 0, .int 0, .int 0, .ref lo, .ref hi])), ((x 43), .inl (cy 0, 12, .inl (fun _ => 0)))] H := hP
  have hD : va_D A [((x 0), .inr (10, [.int 0, .int (-1), .ref (x 1), .ref (x 9), .int 0, .ref (x 10), .ref (x 13), .ref (x 16), .ref (x 29), .int 0, .int 0, .ref (x 30), .int 0, .ref (x 31), .ref (x 42), .int 1, .int 1, .ref g, .ref (x 43)])), ((x 16), .inr (5, [.int 0, .ref (x 17), .ref (x 18), .ref (x 19), .ref (x 20), .ref (x 21), .int 0, .int 10, .int 20, .int 0, .int 0, .ref (x 22), .ref (x 23), .int 0, .ref (x 24), .ref (x 25), .ref (x 26), .ref (x 27), .ref (x 28)])), ((x 42), .inl (cy 7, 16, .inr (.inr (.inr (.inr (va_up (fun _ => none) (0) (some g))))))), (g, .inr (1, [.int 0, .int 1, .int 1, .int 0, .long 0, .int 0, .int 0, .ref lo, .ref hi])), ((x 43), .inl (cy 0, 12, .inl (fun _ => 0)))] := hD
  refine lv_iload_n S.1 S.2.1 dX11_gatherLineFacts_168 rfl (lv_at hl 4 rfl) ?_
  refine r_if_le S 1 rfl dX11_gatherLineFacts_169 (tgt := 225) (by decide) (fun c => absurd c (by decide)) (fun _ => ?_)
  refine lv_aload_n S.1 S.2.1 dX11_gatherLineFacts_172 rfl (lv_at hl 8 rfl) ?_
  refine r_get S hK hP 0 10 rfl rfl inX11 18 (by decide) kw_486 (v := .ref (x 43)) rfl dX11_gatherLineFacts_173 ?_
  refine lv_bipush (v := 8) S.1 S.2.1 dX11_gatherLineFacts_176 (by decide) ?_
  refine lv_sipush (v := 1000) S.1 S.2.1 dX11_gatherLineFacts_178 (by decide) ?_
  refine lv_iload S.1 S.2.1 dX11_gatherLineFacts_181 (lv_at hl 3 rfl) ?_
  refine r_imul S dX11_gatherLineFacts_183 (v := 0) (by decide) ?_
  refine lv_iload_n S.1 S.2.1 dX11_gatherLineFacts_184 rfl (lv_at hl 4 rfl) ?_
  refine r_idiv S dX11_gatherLineFacts_185 (by decide) (v := 0) (by decide) ?_
  refine r_iast S hK hP hD hS 4 0 rfl rfl (8) rfl (by decide) (by decide) dX11_gatherLineFacts_186 (fun H locs hP hD hS => ?_)
  have hP : va_P D vwCl [((x 0), .inr (10, [.int 0, .int (-1), .ref (x 1), .ref (x 9), .int 0, .ref (x 10), .ref (x 13), .ref (x 16), .ref (x 29), .int 0, .int 0, .ref (x 30), .int 0, .ref (x 31), .ref (x 42), .int 1, .int 1, .ref g, .ref (x 43)])), ((x 16), .inr (5, [.int 0, .ref (x 17), .ref (x 18), .ref (x 19), .ref (x 20), .ref (x 21), .int 0, .int 10, .int 20, .int 0, .int 0, .ref (x 22), .ref (x 23), .int 0, .ref (x 24), .ref (x 25), .ref (x 26), .ref (x 27), .ref (x 28)])), ((x 42), .inl (cy 7, 16, .inr (.inr (.inr (.inr (va_up (fun _ => none) (0) (some g))))))), (g, .inr (1, [.int 0, .int 1, .int 1, .int 0, .long 0, .int 0, .int 0, .ref lo, .ref hi])), ((x 43), .inl (cy 0, 12, .inl (upd (fun _ => 0) (8) 0)))] H := hP
  have hD : va_D A [((x 0), .inr (10, [.int 0, .int (-1), .ref (x 1), .ref (x 9), .int 0, .ref (x 10), .ref (x 13), .ref (x 16), .ref (x 29), .int 0, .int 0, .ref (x 30), .int 0, .ref (x 31), .ref (x 42), .int 1, .int 1, .ref g, .ref (x 43)])), ((x 16), .inr (5, [.int 0, .ref (x 17), .ref (x 18), .ref (x 19), .ref (x 20), .ref (x 21), .int 0, .int 10, .int 20, .int 0, .int 0, .ref (x 22), .ref (x 23), .int 0, .ref (x 24), .ref (x 25), .ref (x 26), .ref (x 27), .ref (x 28)])), ((x 42), .inl (cy 7, 16, .inr (.inr (.inr (.inr (va_up (fun _ => none) (0) (some g))))))), (g, .inr (1, [.int 0, .int 1, .int 1, .int 0, .long 0, .int 0, .int 0, .ref lo, .ref hi])), ((x 43), .inl (cy 0, 12, .inl (upd (fun _ => 0) (8) 0)))] := hD
  refine lv_aload_n S.1 S.2.1 dX11_gatherLineFacts_187 rfl (lv_at hl 8 rfl) ?_
  refine r_get S hK hP 0 10 rfl rfl inX11 18 (by decide) kw_486 (v := .ref (x 43)) rfl dX11_gatherLineFacts_188 ?_
  refine lv_bipush (v := 9) S.1 S.2.1 dX11_gatherLineFacts_191 (by decide) ?_
  refine lv_sipush (v := 1000) S.1 S.2.1 dX11_gatherLineFacts_193 (by decide) ?_
  refine lv_iload S.1 S.2.1 dX11_gatherLineFacts_196 (lv_at hl 2 rfl) ?_
  refine r_imul S dX11_gatherLineFacts_198 (v := 0) (by decide) ?_
  refine lv_iload_n S.1 S.2.1 dX11_gatherLineFacts_199 rfl (lv_at hl 4 rfl) ?_
  refine r_idiv S dX11_gatherLineFacts_200 (by decide) (v := 0) (by decide) ?_
  refine r_iast S hK hP hD hS 4 0 rfl rfl (9) rfl (by decide) (by decide) dX11_gatherLineFacts_201 (fun H locs hP hD hS => ?_)
  have hP : va_P D vwCl [((x 0), .inr (10, [.int 0, .int (-1), .ref (x 1), .ref (x 9), .int 0, .ref (x 10), .ref (x 13), .ref (x 16), .ref (x 29), .int 0, .int 0, .ref (x 30), .int 0, .ref (x 31), .ref (x 42), .int 1, .int 1, .ref g, .ref (x 43)])), ((x 16), .inr (5, [.int 0, .ref (x 17), .ref (x 18), .ref (x 19), .ref (x 20), .ref (x 21), .int 0, .int 10, .int 20, .int 0, .int 0, .ref (x 22), .ref (x 23), .int 0, .ref (x 24), .ref (x 25), .ref (x 26), .ref (x 27), .ref (x 28)])), ((x 42), .inl (cy 7, 16, .inr (.inr (.inr (.inr (va_up (fun _ => none) (0) (some g))))))), (g, .inr (1, [.int 0, .int 1, .int 1, .int 0, .long 0, .int 0, .int 0, .ref lo, .ref hi])), ((x 43), .inl (cy 0, 12, .inl (upd (upd (fun _ => 0) (8) 0) (9) 0)))] H := hP
  have hD : va_D A [((x 0), .inr (10, [.int 0, .int (-1), .ref (x 1), .ref (x 9), .int 0, .ref (x 10), .ref (x 13), .ref (x 16), .ref (x 29), .int 0, .int 0, .ref (x 30), .int 0, .ref (x 31), .ref (x 42), .int 1, .int 1, .ref g, .ref (x 43)])), ((x 16), .inr (5, [.int 0, .ref (x 17), .ref (x 18), .ref (x 19), .ref (x 20), .ref (x 21), .int 0, .int 10, .int 20, .int 0, .int 0, .ref (x 22), .ref (x 23), .int 0, .ref (x 24), .ref (x 25), .ref (x 26), .ref (x 27), .ref (x 28)])), ((x 42), .inl (cy 7, 16, .inr (.inr (.inr (.inr (va_up (fun _ => none) (0) (some g))))))), (g, .inr (1, [.int 0, .int 1, .int 1, .int 0, .long 0, .int 0, .int 0, .ref lo, .ref hi])), ((x 43), .inl (cy 0, 12, .inl (upd (upd (fun _ => 0) (8) 0) (9) 0)))] := hD
  refine lv_aload_n S.1 S.2.1 dX11_gatherLineFacts_202 rfl (lv_at hl 8 rfl) ?_
  refine r_get S hK hP 0 10 rfl rfl inX11 18 (by decide) kw_486 (v := .ref (x 43)) rfl dX11_gatherLineFacts_203 ?_
  refine lv_bipush (v := 10) S.1 S.2.1 dX11_gatherLineFacts_206 (by decide) ?_
  refine lv_sipush (v := 1000) S.1 S.2.1 dX11_gatherLineFacts_208 (by decide) ?_
  refine lv_iload S.1 S.2.1 dX11_gatherLineFacts_211 (lv_at hl 1 rfl) ?_
  refine r_imul S dX11_gatherLineFacts_213 (v := 0) (by decide) ?_
  refine lv_iload_n S.1 S.2.1 dX11_gatherLineFacts_214 rfl (lv_at hl 4 rfl) ?_
  refine r_idiv S dX11_gatherLineFacts_215 (by decide) (v := 0) (by decide) ?_
  refine r_iast S hK hP hD hS 4 0 rfl rfl (10) rfl (by decide) (by decide) dX11_gatherLineFacts_216 (fun H locs hP hD hS => ?_)
  have hP : va_P D vwCl [((x 0), .inr (10, [.int 0, .int (-1), .ref (x 1), .ref (x 9), .int 0, .ref (x 10), .ref (x 13), .ref (x 16), .ref (x 29), .int 0, .int 0, .ref (x 30), .int 0, .ref (x 31), .ref (x 42), .int 1, .int 1, .ref g, .ref (x 43)])), ((x 16), .inr (5, [.int 0, .ref (x 17), .ref (x 18), .ref (x 19), .ref (x 20), .ref (x 21), .int 0, .int 10, .int 20, .int 0, .int 0, .ref (x 22), .ref (x 23), .int 0, .ref (x 24), .ref (x 25), .ref (x 26), .ref (x 27), .ref (x 28)])), ((x 42), .inl (cy 7, 16, .inr (.inr (.inr (.inr (va_up (fun _ => none) (0) (some g))))))), (g, .inr (1, [.int 0, .int 1, .int 1, .int 0, .long 0, .int 0, .int 0, .ref lo, .ref hi])), ((x 43), .inl (cy 0, 12, .inl (upd (upd (upd (fun _ => 0) (8) 0) (9) 0) (10) 0)))] H := hP
  have hD : va_D A [((x 0), .inr (10, [.int 0, .int (-1), .ref (x 1), .ref (x 9), .int 0, .ref (x 10), .ref (x 13), .ref (x 16), .ref (x 29), .int 0, .int 0, .ref (x 30), .int 0, .ref (x 31), .ref (x 42), .int 1, .int 1, .ref g, .ref (x 43)])), ((x 16), .inr (5, [.int 0, .ref (x 17), .ref (x 18), .ref (x 19), .ref (x 20), .ref (x 21), .int 0, .int 10, .int 20, .int 0, .int 0, .ref (x 22), .ref (x 23), .int 0, .ref (x 24), .ref (x 25), .ref (x 26), .ref (x 27), .ref (x 28)])), ((x 42), .inl (cy 7, 16, .inr (.inr (.inr (.inr (va_up (fun _ => none) (0) (some g))))))), (g, .inr (1, [.int 0, .int 1, .int 1, .int 0, .long 0, .int 0, .int 0, .ref lo, .ref hi])), ((x 43), .inl (cy 0, 12, .inl (upd (upd (upd (fun _ => 0) (8) 0) (9) 0) (10) 0)))] := hD
  refine lv_aload_n S.1 S.2.1 dX11_gatherLineFacts_217 rfl (lv_at hl 8 rfl) ?_
  refine r_get S hK hP 0 10 rfl rfl inX11 18 (by decide) kw_486 (v := .ref (x 43)) rfl dX11_gatherLineFacts_218 ?_
  refine lv_bipush (v := 11) S.1 S.2.1 dX11_gatherLineFacts_221 (by decide) ?_
  refine lv_iload_n S.1 S.2.1 dX11_gatherLineFacts_223 rfl (lv_at hl 4 rfl) ?_
  refine r_iast S hK hP hD hS 4 0 rfl rfl (11) rfl (by decide) (by decide) dX11_gatherLineFacts_224 (fun H locs hP hD hS => ?_)
  have hP : va_P D vwCl [((x 0), .inr (10, [.int 0, .int (-1), .ref (x 1), .ref (x 9), .int 0, .ref (x 10), .ref (x 13), .ref (x 16), .ref (x 29), .int 0, .int 0, .ref (x 30), .int 0, .ref (x 31), .ref (x 42), .int 1, .int 1, .ref g, .ref (x 43)])), ((x 16), .inr (5, [.int 0, .ref (x 17), .ref (x 18), .ref (x 19), .ref (x 20), .ref (x 21), .int 0, .int 10, .int 20, .int 0, .int 0, .ref (x 22), .ref (x 23), .int 0, .ref (x 24), .ref (x 25), .ref (x 26), .ref (x 27), .ref (x 28)])), ((x 42), .inl (cy 7, 16, .inr (.inr (.inr (.inr (va_up (fun _ => none) (0) (some g))))))), (g, .inr (1, [.int 0, .int 1, .int 1, .int 0, .long 0, .int 0, .int 0, .ref lo, .ref hi])), ((x 43), .inl (cy 0, 12, .inl (upd (upd (upd (upd (fun _ => 0) (8) 0) (9) 0) (10) 0) (11) 1)))] H := hP
  have hD : va_D A [((x 0), .inr (10, [.int 0, .int (-1), .ref (x 1), .ref (x 9), .int 0, .ref (x 10), .ref (x 13), .ref (x 16), .ref (x 29), .int 0, .int 0, .ref (x 30), .int 0, .ref (x 31), .ref (x 42), .int 1, .int 1, .ref g, .ref (x 43)])), ((x 16), .inr (5, [.int 0, .ref (x 17), .ref (x 18), .ref (x 19), .ref (x 20), .ref (x 21), .int 0, .int 10, .int 20, .int 0, .int 0, .ref (x 22), .ref (x 23), .int 0, .ref (x 24), .ref (x 25), .ref (x 26), .ref (x 27), .ref (x 28)])), ((x 42), .inl (cy 7, 16, .inr (.inr (.inr (.inr (va_up (fun _ => none) (0) (some g))))))), (g, .inr (1, [.int 0, .int 1, .int 1, .int 0, .long 0, .int 0, .int 0, .ref lo, .ref hi])), ((x 43), .inl (cy 0, 12, .inl (upd (upd (upd (upd (fun _ => 0) (8) 0) (9) 0) (10) 0) (11) 1)))] := hD
  exact cv_ret (u := ()) S hr hlk hK (hP.sub [0, 1, 2, 3, 4] rfl) (hD.sub [0, 1, 2, 3, 4] (by decide) rfl) hS (trivial) (by decide) (by decide) dX11_gatherLineFacts_225
set_option maxHeartbeats 4000000 in
set_option maxRecDepth 100000 in
theorem kX5_firstThatTells (l : Launch) (D : va_G) (cy : Nat → ClassId) (x : Nat → Nat) : RI l D cy yX5_firstThatTells cX5_firstThatTells 4 (some .int) 0 0 [.ref (x 16), .int 2, .ref (x 43)] [((x 16), .inr (5, [.int 0, .ref (x 17), .ref (x 18), .ref (x 19), .ref (x 20), .ref (x 21), .int 0, .int 10, .int 20, .int 0, .int 0, .ref (x 22), .ref (x 23), .int 0, .ref (x 24), .ref (x 25), .ref (x 26), .ref (x 27), .ref (x 28)]))] (fun v : Int32 => v = (-1)) := by
  refine metr_go (by decide) (Nat.le_of_ble_eq_true rfl) (fun p e s m below meth c ls S hr hlk hP hK hl => ?_)
  have hl : lv_has ls 4 [(0, .ref (x 16)), (1, .int 2), (2, .ref (x 43))] := hl
  refine lv_iconst (v := 0) S.1 S.2.1 dX5_firstThatTells_0 (by decide) ?_
  refine lv_istore_n (lv' := [(3, .int 0), (0, .ref (x 16)), (1, .int 2), (2, .ref (x 43))]) S.1 S.2.1 dX5_firstThatTells_1 rfl hl (by decide) rfl (fun ls hl => ?_)
  refine lv_iload_n S.1 S.2.1 dX5_firstThatTells_2 rfl (lv_at hl 0 rfl) ?_
  refine lv_aload_n S.1 S.2.1 dX5_firstThatTells_3 rfl (lv_at hl 1 rfl) ?_
  refine r_get S hK hP 0 5 rfl rfl inX5 13 (by decide) kw_325 (v := .int 0) rfl dX5_firstThatTells_4 ?_
  refine r_icmp_ge S 0 0 rfl rfl dX5_firstThatTells_7 (tgt := 37) (by decide) (fun _ => ?_) (fun c => absurd c (by decide))
  refine lv_iconst (v := (-1)) S.1 S.2.1 dX5_firstThatTells_37 (by decide) ?_
  exact ri_ret S hr hlk rfl (rfl) dX5_firstThatTells_38
set_option maxHeartbeats 4000000 in
set_option maxRecDepth 100000 in
theorem kX11_neighbour (l : Launch) (D : va_G) (cy : Nat → ClassId) (n : Nat) (p1 : Int32) (z1 : Int) (h1 : p1.toInt = z1) (hn : n < 96) : RI l D cy yX11_neighbour cX11_neighbour 2 (some .int) 0 0 [.int (nI (n)), .int p1] [] (fun v : Int32 => (v = (-1) ∧ (¬ ((z1 = 0 ∧ 0 < n % 12) ∨ (z1 = 1 ∧ n % 12 < 11) ∨ (z1 = 2 ∧ 12 ≤ n) ∨ (z1 = 3 ∧ n < 84)))) ∨ (∃ nj : Nat, v = (nI (nj)) ∧ nj < 96 ∧ (((z1 = 0 ∧ 0 < n % 12) ∨ (z1 = 1 ∧ n % 12 < 11) ∨ (z1 = 2 ∧ 12 ≤ n) ∨ (z1 = 3 ∧ n < 84))))) := by
  refine metr_go (by decide) (Nat.le_of_ble_eq_true rfl) (fun p e s m below meth c ls S hr hlk hP hK hl => ?_)
  have hl : lv_has ls 2 [(0, .int (nI (n))), (1, .int p1)] := hl
  refine lv_iload_n S.1 S.2.1 dX11_neighbour_0 rfl (lv_at hl 1 rfl) ?_
  by_cases e_1_1 : z1 = 0
  · have hz : (p1).toInt = 0 := (h1).trans e_1_1
    refine lv_tableIn (tgt := 32) S.1 S.2.1 dX11_neighbour_1 (by rw [hz]; decide) (by rw [hz]; decide) (off := 31) (by rw [hz]; decide) (by decide) ?_
    refine lv_iload_n S.1 S.2.1 dX11_neighbour_32 rfl (lv_at hl 0 rfl) ?_
    refine lv_bipush (v := 12) S.1 S.2.1 dX11_neighbour_33 (by decide) ?_
    refine r_irem S dX11_neighbour_35 (by decide) (v := (nI ((n) % 12))) (pk_rem (a := (n)) (d := 12) (by omega) (by omega) (by omega)) ?_
    refine r_if_le S (((n) % 12 : Nat) : Int) (nI_toInt (by omega)) dX11_neighbour_36 (tgt := 45) (by decide) (fun e_36_2 => ?_) (fun e_36_2 => ?_)
    · refine lv_iconst (v := (-1)) S.1 S.2.1 dX11_neighbour_45 (by decide) ?_
      exact ri_ret S hr hlk rfl (Or.inl ⟨rfl, (by omega)⟩) dX11_neighbour_46
    · refine lv_iload_n S.1 S.2.1 dX11_neighbour_39 rfl (lv_at hl 0 rfl) ?_
      refine lv_iconst (v := 1) S.1 S.2.1 dX11_neighbour_40 (by decide) ?_
      refine r_isub S dX11_neighbour_41 (v := (nI ((n) - 1))) (pk_sub (a := (n)) (b := 1) (by omega)) ?_
      refine lv_goto (tgt := 46) S.1 S.2.1 dX11_neighbour_42 (by decide) ?_
      exact ri_ret S hr hlk rfl (Or.inr (⟨((n) - 1), rfl, (by omega), (by omega)⟩)) dX11_neighbour_46
  · by_cases e_1_2 : z1 = 1
    · have hz : (p1).toInt = 1 := (h1).trans e_1_2
      refine lv_tableIn (tgt := 47) S.1 S.2.1 dX11_neighbour_1 (by rw [hz]; decide) (by rw [hz]; decide) (off := 46) (by rw [hz]; decide) (by decide) ?_
      refine lv_iload_n S.1 S.2.1 dX11_neighbour_47 rfl (lv_at hl 0 rfl) ?_
      refine lv_bipush (v := 12) S.1 S.2.1 dX11_neighbour_48 (by decide) ?_
      refine r_irem S dX11_neighbour_50 (by decide) (v := (nI ((n) % 12))) (pk_rem (a := (n)) (d := 12) (by omega) (by omega) (by omega)) ?_
      refine lv_bipush (v := 11) S.1 S.2.1 dX11_neighbour_51 (by decide) ?_
      refine r_icmp_ge S (((n) % 12 : Nat) : Int) 11 (nI_toInt (by omega)) rfl dX11_neighbour_53 (tgt := 62) (by decide) (fun e_53_3 => ?_) (fun e_53_3 => ?_)
      · refine lv_iconst (v := (-1)) S.1 S.2.1 dX11_neighbour_62 (by decide) ?_
        exact ri_ret S hr hlk rfl (Or.inl ⟨rfl, (by omega)⟩) dX11_neighbour_63
      · refine lv_iload_n S.1 S.2.1 dX11_neighbour_56 rfl (lv_at hl 0 rfl) ?_
        refine lv_iconst (v := 1) S.1 S.2.1 dX11_neighbour_57 (by decide) ?_
        refine r_iadd S dX11_neighbour_58 (v := (nI ((n) + 1))) (nI_add ((n)) (1)) ?_
        refine lv_goto (tgt := 63) S.1 S.2.1 dX11_neighbour_59 (by decide) ?_
        exact ri_ret S hr hlk rfl (Or.inr (⟨((n) + 1), rfl, (by omega), (by omega)⟩)) dX11_neighbour_63
    · by_cases e_1_3 : z1 = 2
      · have hz : (p1).toInt = 2 := (h1).trans e_1_3
        refine lv_tableIn (tgt := 64) S.1 S.2.1 dX11_neighbour_1 (by rw [hz]; decide) (by rw [hz]; decide) (off := 63) (by rw [hz]; decide) (by decide) ?_
        refine lv_iload_n S.1 S.2.1 dX11_neighbour_64 rfl (lv_at hl 0 rfl) ?_
        refine lv_bipush (v := 12) S.1 S.2.1 dX11_neighbour_65 (by decide) ?_
        refine r_icmp_lt S ((n : Nat) : Int) 12 (nI_toInt (by omega)) rfl dX11_neighbour_67 (tgt := 77) (by decide) (fun e_67_4 => ?_) (fun e_67_4 => ?_)
        · refine lv_iconst (v := (-1)) S.1 S.2.1 dX11_neighbour_77 (by decide) ?_
          exact ri_ret S hr hlk rfl (Or.inl ⟨rfl, (by omega)⟩) dX11_neighbour_78
        · refine lv_iload_n S.1 S.2.1 dX11_neighbour_70 rfl (lv_at hl 0 rfl) ?_
          refine lv_bipush (v := 12) S.1 S.2.1 dX11_neighbour_71 (by decide) ?_
          refine r_isub S dX11_neighbour_73 (v := (nI ((n) - 12))) (pk_sub (a := (n)) (b := 12) (by omega)) ?_
          refine lv_goto (tgt := 78) S.1 S.2.1 dX11_neighbour_74 (by decide) ?_
          exact ri_ret S hr hlk rfl (Or.inr (⟨((n) - 12), rfl, (by omega), (by omega)⟩)) dX11_neighbour_78
      · by_cases e_1_4 : z1 = 3
        · have hz : (p1).toInt = 3 := (h1).trans e_1_4
          refine lv_tableIn (tgt := 79) S.1 S.2.1 dX11_neighbour_1 (by rw [hz]; decide) (by rw [hz]; decide) (off := 78) (by rw [hz]; decide) (by decide) ?_
          refine lv_iload_n S.1 S.2.1 dX11_neighbour_79 rfl (lv_at hl 0 rfl) ?_
          refine lv_bipush (v := 84) S.1 S.2.1 dX11_neighbour_80 (by decide) ?_
          refine r_icmp_ge S ((n : Nat) : Int) 84 (nI_toInt (by omega)) rfl dX11_neighbour_82 (tgt := 92) (by decide) (fun e_82_5 => ?_) (fun e_82_5 => ?_)
          · refine lv_iconst (v := (-1)) S.1 S.2.1 dX11_neighbour_92 (by decide) ?_
            exact ri_ret S hr hlk rfl (Or.inl ⟨rfl, (by omega)⟩) dX11_neighbour_93
          · refine lv_iload_n S.1 S.2.1 dX11_neighbour_85 rfl (lv_at hl 0 rfl) ?_
            refine lv_bipush (v := 12) S.1 S.2.1 dX11_neighbour_86 (by decide) ?_
            refine r_iadd S dX11_neighbour_88 (v := (nI ((n) + 12))) (nI_add ((n)) (12)) ?_
            refine lv_goto (tgt := 93) S.1 S.2.1 dX11_neighbour_89 (by decide) ?_
            exact ri_ret S hr hlk rfl (Or.inr (⟨((n) + 12), rfl, (by omega), (by omega)⟩)) dX11_neighbour_93
        · have hz : (p1).toInt = z1 := h1
          refine lv_tableOut (tgt := 94) S.1 S.2.1 dX11_neighbour_1 (by rw [hz]; omega) (by decide) ?_
          refine lv_iconst (v := (-1)) S.1 S.2.1 dX11_neighbour_94 (by decide) ?_
          exact ri_ret S hr hlk rfl (Or.inl ⟨rfl, (by omega)⟩) dX11_neighbour_95
set_option maxHeartbeats 4000000 in
set_option maxRecDepth 100000 in
theorem kX11_isRock (l : Launch) (D : va_G) (cy : Nat → ClassId) (x : Nat → Nat) (g : Nat) (lo : Nat) (hi : Nat) (p0 : Int32) (z0 : Int) (h0 : p0.toInt = z0) : RI l D cy yX11_isRock cX11_isRock 2 (some .boolean) 0 0 [.ref (x 0), .int p0] [((x 0), .inr (10, [.int 0, .int (-1), .ref (x 1), .ref (x 9), .int 0, .ref (x 10), .ref (x 13), .ref (x 16), .ref (x 29), .int 0, .int 0, .ref (x 30), .int 0, .ref (x 31), .ref (x 42), .int 1, .int 1, .ref g, .ref (x 43)])), ((x 16), .inr (5, [.int 0, .ref (x 17), .ref (x 18), .ref (x 19), .ref (x 20), .ref (x 21), .int 0, .int 10, .int 20, .int 0, .int 0, .ref (x 22), .ref (x 23), .int 0, .ref (x 24), .ref (x 25), .ref (x 26), .ref (x 27), .ref (x 28)]))] (fun v : Int32 => v = 0) := by
  refine metr_go (by decide) (Nat.le_of_ble_eq_true rfl) (fun p e s m below meth c ls S hr hlk hP hK hl => ?_)
  have hl : lv_has ls 2 [(0, .ref (x 0)), (1, .int p0)] := hl
  refine lv_iload_n S.1 S.2.1 dX11_isRock_0 rfl (lv_at hl 1 rfl) ?_
  refine r_if_lt S z0 h0 dX11_isRock_1 (tgt := 19) (by decide) (fun e_1_1 => ?_) (fun e_1_1 => ?_)
  · refine lv_iconst (v := 0) S.1 S.2.1 dX11_isRock_19 (by decide) ?_
    exact ri_ret S hr hlk (by decide) (rfl) dX11_isRock_20
  · refine lv_iload_n S.1 S.2.1 dX11_isRock_4 rfl (lv_at hl 1 rfl) ?_
    refine lv_aload_n S.1 S.2.1 dX11_isRock_5 rfl (lv_at hl 0 rfl) ?_
    refine r_get S hK hP 0 10 rfl rfl inX11 7 (by decide) kw_475 (v := .ref (x 16)) rfl dX11_isRock_6 ?_
    refine r_get S hK hP 1 5 rfl rfl inX5 0 (by decide) kw_296 (v := .int 0) rfl dX11_isRock_9 ?_
    refine r_icmp_ge S z0 0 h0 rfl dX11_isRock_12 (tgt := 19) (by decide) (fun _ => ?_) (fun c => absurd c (by omega))
    refine lv_iconst (v := 0) S.1 S.2.1 dX11_isRock_19 (by decide) ?_
    exact ri_ret S hr hlk (by decide) (rfl) dX11_isRock_20
