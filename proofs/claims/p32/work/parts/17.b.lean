abbrev cJ6_bitCount_0f7a4 : ByteArray := prog_19_method_49_code
def yJ6_bitCount_0f7a4 : MethodName := ⟨"java/lang/Integer", "bitCount", "(I)I"⟩
theorem okJ6_bitCount_0f7a4 : yok yJ6_bitCount_0f7a4 1 := by decide +kernel
theorem dJ6_bitCount_0f7a4_0 : decode cJ6_bitCount_0f7a4 0 = .ok (.iload_n 0, 1) := by decide +kernel
theorem dJ6_bitCount_0f7a4_1 : decode cJ6_bitCount_0f7a4 1 = .ok (.iload_n 0, 1) := by decide +kernel
theorem dJ6_bitCount_0f7a4_2 : decode cJ6_bitCount_0f7a4 2 = .ok (.iconst 1, 1) := by decide +kernel
theorem dJ6_bitCount_0f7a4_3 : decode cJ6_bitCount_0f7a4 3 = .ok (.iushr, 1) := by decide +kernel
theorem dJ6_bitCount_0f7a4_4 : decode cJ6_bitCount_0f7a4 4 = .ok (.ldc_w 265, 3) := by decide +kernel
theorem kw_1199 : Cond.constant "java/lang/Integer" 265 (1431655765) ∈ uu := uu_in (i := 1199) (by decide +kernel) (by decide +kernel)
theorem dJ6_bitCount_0f7a4_7 : decode cJ6_bitCount_0f7a4 7 = .ok (.iand, 1) := by decide +kernel
theorem dJ6_bitCount_0f7a4_8 : decode cJ6_bitCount_0f7a4 8 = .ok (.isub, 1) := by decide +kernel
theorem dJ6_bitCount_0f7a4_9 : decode cJ6_bitCount_0f7a4 9 = .ok (.istore_n 0, 1) := by decide +kernel
theorem dJ6_bitCount_0f7a4_10 : decode cJ6_bitCount_0f7a4 10 = .ok (.iload_n 0, 1) := by decide +kernel
theorem dJ6_bitCount_0f7a4_11 : decode cJ6_bitCount_0f7a4 11 = .ok (.ldc_w 266, 3) := by decide +kernel
theorem kw_1200 : Cond.constant "java/lang/Integer" 266 (858993459) ∈ uu := uu_in (i := 1200) (by decide +kernel) (by decide +kernel)
theorem dJ6_bitCount_0f7a4_14 : decode cJ6_bitCount_0f7a4 14 = .ok (.iand, 1) := by decide +kernel
theorem dJ6_bitCount_0f7a4_15 : decode cJ6_bitCount_0f7a4 15 = .ok (.iload_n 0, 1) := by decide +kernel
theorem dJ6_bitCount_0f7a4_16 : decode cJ6_bitCount_0f7a4 16 = .ok (.iconst 2, 1) := by decide +kernel
theorem dJ6_bitCount_0f7a4_17 : decode cJ6_bitCount_0f7a4 17 = .ok (.iushr, 1) := by decide +kernel
theorem dJ6_bitCount_0f7a4_18 : decode cJ6_bitCount_0f7a4 18 = .ok (.ldc_w 266, 3) := by decide +kernel
theorem dJ6_bitCount_0f7a4_21 : decode cJ6_bitCount_0f7a4 21 = .ok (.iand, 1) := by decide +kernel
theorem dJ6_bitCount_0f7a4_22 : decode cJ6_bitCount_0f7a4 22 = .ok (.iadd, 1) := by decide +kernel
theorem dJ6_bitCount_0f7a4_23 : decode cJ6_bitCount_0f7a4 23 = .ok (.istore_n 0, 1) := by decide +kernel
theorem dJ6_bitCount_0f7a4_24 : decode cJ6_bitCount_0f7a4 24 = .ok (.iload_n 0, 1) := by decide +kernel
theorem dJ6_bitCount_0f7a4_25 : decode cJ6_bitCount_0f7a4 25 = .ok (.iload_n 0, 1) := by decide +kernel
theorem dJ6_bitCount_0f7a4_26 : decode cJ6_bitCount_0f7a4 26 = .ok (.iconst 4, 1) := by decide +kernel
theorem dJ6_bitCount_0f7a4_27 : decode cJ6_bitCount_0f7a4 27 = .ok (.iushr, 1) := by decide +kernel
theorem dJ6_bitCount_0f7a4_28 : decode cJ6_bitCount_0f7a4 28 = .ok (.iadd, 1) := by decide +kernel
theorem dJ6_bitCount_0f7a4_29 : decode cJ6_bitCount_0f7a4 29 = .ok (.ldc_w 267, 3) := by decide +kernel
theorem kw_1201 : Cond.constant "java/lang/Integer" 267 (252645135) ∈ uu := uu_in (i := 1201) (by decide +kernel) (by decide +kernel)
theorem dJ6_bitCount_0f7a4_32 : decode cJ6_bitCount_0f7a4 32 = .ok (.iand, 1) := by decide +kernel
theorem dJ6_bitCount_0f7a4_33 : decode cJ6_bitCount_0f7a4 33 = .ok (.istore_n 0, 1) := by decide +kernel
theorem dJ6_bitCount_0f7a4_34 : decode cJ6_bitCount_0f7a4 34 = .ok (.iload_n 0, 1) := by decide +kernel
theorem dJ6_bitCount_0f7a4_35 : decode cJ6_bitCount_0f7a4 35 = .ok (.iload_n 0, 1) := by decide +kernel
theorem dJ6_bitCount_0f7a4_36 : decode cJ6_bitCount_0f7a4 36 = .ok (.bipush 8, 2) := by decide +kernel
theorem dJ6_bitCount_0f7a4_38 : decode cJ6_bitCount_0f7a4 38 = .ok (.iushr, 1) := by decide +kernel
theorem dJ6_bitCount_0f7a4_39 : decode cJ6_bitCount_0f7a4 39 = .ok (.iadd, 1) := by decide +kernel
theorem dJ6_bitCount_0f7a4_40 : decode cJ6_bitCount_0f7a4 40 = .ok (.istore_n 0, 1) := by decide +kernel
theorem dJ6_bitCount_0f7a4_41 : decode cJ6_bitCount_0f7a4 41 = .ok (.iload_n 0, 1) := by decide +kernel
theorem dJ6_bitCount_0f7a4_42 : decode cJ6_bitCount_0f7a4 42 = .ok (.iload_n 0, 1) := by decide +kernel
theorem dJ6_bitCount_0f7a4_43 : decode cJ6_bitCount_0f7a4 43 = .ok (.bipush 16, 2) := by decide +kernel
theorem dJ6_bitCount_0f7a4_45 : decode cJ6_bitCount_0f7a4 45 = .ok (.iushr, 1) := by decide +kernel
theorem dJ6_bitCount_0f7a4_46 : decode cJ6_bitCount_0f7a4 46 = .ok (.iadd, 1) := by decide +kernel
theorem dJ6_bitCount_0f7a4_47 : decode cJ6_bitCount_0f7a4 47 = .ok (.istore_n 0, 1) := by decide +kernel
theorem dJ6_bitCount_0f7a4_48 : decode cJ6_bitCount_0f7a4 48 = .ok (.iload_n 0, 1) := by decide +kernel
theorem dJ6_bitCount_0f7a4_49 : decode cJ6_bitCount_0f7a4 49 = .ok (.bipush 63, 2) := by decide +kernel
theorem dJ6_bitCount_0f7a4_51 : decode cJ6_bitCount_0f7a4 51 = .ok (.iand, 1) := by decide +kernel
theorem dJ6_bitCount_0f7a4_52 : decode cJ6_bitCount_0f7a4 52 = .ok (.ireturn, 1) := by decide +kernel
abbrev cJ13_bitCount_95d88 : ByteArray := prog_20_method_50_code
def yJ13_bitCount_95d88 : MethodName := ⟨"java/lang/Long", "bitCount", "(J)I"⟩
theorem okJ13_bitCount_95d88 : yok yJ13_bitCount_95d88 1 := by decide +kernel
theorem dJ13_bitCount_95d88_0 : decode cJ13_bitCount_95d88 0 = .ok (.lload_n 0, 1) := by decide +kernel
theorem dJ13_bitCount_95d88_1 : decode cJ13_bitCount_95d88 1 = .ok (.lload_n 0, 1) := by decide +kernel
theorem dJ13_bitCount_95d88_2 : decode cJ13_bitCount_95d88 2 = .ok (.iconst 1, 1) := by decide +kernel
theorem dJ13_bitCount_95d88_3 : decode cJ13_bitCount_95d88 3 = .ok (.lushr, 1) := by decide +kernel
theorem dJ13_bitCount_95d88_4 : decode cJ13_bitCount_95d88 4 = .ok (.ldc2_w 314, 3) := by decide +kernel
theorem kw_1156 : Cond.constantLong "java/lang/Long" 314 (6148914691236517205) ∈ uu := uu_in (i := 1156) (by decide +kernel) (by decide +kernel)
theorem dJ13_bitCount_95d88_7 : decode cJ13_bitCount_95d88 7 = .ok (.land, 1) := by decide +kernel
theorem dJ13_bitCount_95d88_8 : decode cJ13_bitCount_95d88 8 = .ok (.lsub, 1) := by decide +kernel
theorem dJ13_bitCount_95d88_9 : decode cJ13_bitCount_95d88 9 = .ok (.lstore_n 0, 1) := by decide +kernel
theorem dJ13_bitCount_95d88_10 : decode cJ13_bitCount_95d88 10 = .ok (.lload_n 0, 1) := by decide +kernel
theorem dJ13_bitCount_95d88_11 : decode cJ13_bitCount_95d88 11 = .ok (.ldc2_w 316, 3) := by decide +kernel
theorem kw_1157 : Cond.constantLong "java/lang/Long" 316 (3689348814741910323) ∈ uu := uu_in (i := 1157) (by decide +kernel) (by decide +kernel)
theorem dJ13_bitCount_95d88_14 : decode cJ13_bitCount_95d88 14 = .ok (.land, 1) := by decide +kernel
theorem dJ13_bitCount_95d88_15 : decode cJ13_bitCount_95d88 15 = .ok (.lload_n 0, 1) := by decide +kernel
theorem dJ13_bitCount_95d88_16 : decode cJ13_bitCount_95d88 16 = .ok (.iconst 2, 1) := by decide +kernel
theorem dJ13_bitCount_95d88_17 : decode cJ13_bitCount_95d88 17 = .ok (.lushr, 1) := by decide +kernel
theorem dJ13_bitCount_95d88_18 : decode cJ13_bitCount_95d88 18 = .ok (.ldc2_w 316, 3) := by decide +kernel
theorem dJ13_bitCount_95d88_21 : decode cJ13_bitCount_95d88 21 = .ok (.land, 1) := by decide +kernel
theorem dJ13_bitCount_95d88_22 : decode cJ13_bitCount_95d88 22 = .ok (.ladd, 1) := by decide +kernel
theorem dJ13_bitCount_95d88_23 : decode cJ13_bitCount_95d88 23 = .ok (.lstore_n 0, 1) := by decide +kernel
theorem dJ13_bitCount_95d88_24 : decode cJ13_bitCount_95d88 24 = .ok (.lload_n 0, 1) := by decide +kernel
theorem dJ13_bitCount_95d88_25 : decode cJ13_bitCount_95d88 25 = .ok (.lload_n 0, 1) := by decide +kernel
theorem dJ13_bitCount_95d88_26 : decode cJ13_bitCount_95d88 26 = .ok (.iconst 4, 1) := by decide +kernel
theorem dJ13_bitCount_95d88_27 : decode cJ13_bitCount_95d88 27 = .ok (.lushr, 1) := by decide +kernel
theorem dJ13_bitCount_95d88_28 : decode cJ13_bitCount_95d88 28 = .ok (.ladd, 1) := by decide +kernel
theorem dJ13_bitCount_95d88_29 : decode cJ13_bitCount_95d88 29 = .ok (.ldc2_w 318, 3) := by decide +kernel
theorem kw_1158 : Cond.constantLong "java/lang/Long" 318 (1085102592571150095) ∈ uu := uu_in (i := 1158) (by decide +kernel) (by decide +kernel)
theorem dJ13_bitCount_95d88_32 : decode cJ13_bitCount_95d88 32 = .ok (.land, 1) := by decide +kernel
theorem dJ13_bitCount_95d88_33 : decode cJ13_bitCount_95d88 33 = .ok (.lstore_n 0, 1) := by decide +kernel
theorem dJ13_bitCount_95d88_34 : decode cJ13_bitCount_95d88 34 = .ok (.lload_n 0, 1) := by decide +kernel
theorem dJ13_bitCount_95d88_35 : decode cJ13_bitCount_95d88 35 = .ok (.lload_n 0, 1) := by decide +kernel
theorem dJ13_bitCount_95d88_36 : decode cJ13_bitCount_95d88 36 = .ok (.bipush 8, 2) := by decide +kernel
theorem dJ13_bitCount_95d88_38 : decode cJ13_bitCount_95d88 38 = .ok (.lushr, 1) := by decide +kernel
theorem dJ13_bitCount_95d88_39 : decode cJ13_bitCount_95d88 39 = .ok (.ladd, 1) := by decide +kernel
theorem dJ13_bitCount_95d88_40 : decode cJ13_bitCount_95d88 40 = .ok (.lstore_n 0, 1) := by decide +kernel
theorem dJ13_bitCount_95d88_41 : decode cJ13_bitCount_95d88 41 = .ok (.lload_n 0, 1) := by decide +kernel
theorem dJ13_bitCount_95d88_42 : decode cJ13_bitCount_95d88 42 = .ok (.lload_n 0, 1) := by decide +kernel
theorem dJ13_bitCount_95d88_43 : decode cJ13_bitCount_95d88 43 = .ok (.bipush 16, 2) := by decide +kernel
theorem dJ13_bitCount_95d88_45 : decode cJ13_bitCount_95d88 45 = .ok (.lushr, 1) := by decide +kernel
theorem dJ13_bitCount_95d88_46 : decode cJ13_bitCount_95d88 46 = .ok (.ladd, 1) := by decide +kernel
theorem dJ13_bitCount_95d88_47 : decode cJ13_bitCount_95d88 47 = .ok (.lstore_n 0, 1) := by decide +kernel
theorem dJ13_bitCount_95d88_48 : decode cJ13_bitCount_95d88 48 = .ok (.lload_n 0, 1) := by decide +kernel
theorem dJ13_bitCount_95d88_49 : decode cJ13_bitCount_95d88 49 = .ok (.lload_n 0, 1) := by decide +kernel
theorem dJ13_bitCount_95d88_50 : decode cJ13_bitCount_95d88 50 = .ok (.bipush 32, 2) := by decide +kernel
theorem dJ13_bitCount_95d88_52 : decode cJ13_bitCount_95d88 52 = .ok (.lushr, 1) := by decide +kernel
theorem dJ13_bitCount_95d88_53 : decode cJ13_bitCount_95d88 53 = .ok (.ladd, 1) := by decide +kernel
theorem dJ13_bitCount_95d88_54 : decode cJ13_bitCount_95d88 54 = .ok (.lstore_n 0, 1) := by decide +kernel
theorem dJ13_bitCount_95d88_55 : decode cJ13_bitCount_95d88 55 = .ok (.lload_n 0, 1) := by decide +kernel
theorem dJ13_bitCount_95d88_56 : decode cJ13_bitCount_95d88 56 = .ok (.l2i, 1) := by decide +kernel
theorem dJ13_bitCount_95d88_57 : decode cJ13_bitCount_95d88 57 = .ok (.bipush 127, 2) := by decide +kernel
theorem dJ13_bitCount_95d88_59 : decode cJ13_bitCount_95d88 59 = .ok (.iand, 1) := by decide +kernel
theorem dJ13_bitCount_95d88_60 : decode cJ13_bitCount_95d88 60 = .ok (.ireturn, 1) := by decide +kernel
abbrev cJ7_fill_53178 : ByteArray := prog_28_method_103_code
def yJ7_fill_53178 : MethodName := ⟨"java/util/Arrays", "fill", "([II)V"⟩
theorem okJ7_fill_53178 : yok yJ7_fill_53178 2 := by decide +kernel
theorem dJ7_fill_53178_0 : decode cJ7_fill_53178 0 = .ok (.iconst 0, 1) := by decide +kernel
theorem dJ7_fill_53178_1 : decode cJ7_fill_53178 1 = .ok (.istore_n 2, 1) := by decide +kernel
theorem dJ7_fill_53178_2 : decode cJ7_fill_53178 2 = .ok (.aload_n 0, 1) := by decide +kernel
theorem dJ7_fill_53178_3 : decode cJ7_fill_53178 3 = .ok (.arraylength, 1) := by decide +kernel
theorem dJ7_fill_53178_4 : decode cJ7_fill_53178 4 = .ok (.istore_n 3, 1) := by decide +kernel
theorem dJ7_fill_53178_5 : decode cJ7_fill_53178 5 = .ok (.iload_n 2, 1) := by decide +kernel
theorem dJ7_fill_53178_6 : decode cJ7_fill_53178 6 = .ok (.iload_n 3, 1) := by decide +kernel
theorem dJ7_fill_53178_7 : decode cJ7_fill_53178 7 = .ok (.if_icmp .ge 13, 3) := by decide +kernel
theorem dJ7_fill_53178_20 : decode cJ7_fill_53178 20 = .ok (.return_, 1) := by decide +kernel
theorem dJ7_fill_53178_10 : decode cJ7_fill_53178 10 = .ok (.aload_n 0, 1) := by decide +kernel
theorem dJ7_fill_53178_11 : decode cJ7_fill_53178 11 = .ok (.iload_n 2, 1) := by decide +kernel
theorem dJ7_fill_53178_12 : decode cJ7_fill_53178 12 = .ok (.iload_n 1, 1) := by decide +kernel
theorem dJ7_fill_53178_13 : decode cJ7_fill_53178 13 = .ok (.iastore, 1) := by decide +kernel
theorem dJ7_fill_53178_14 : decode cJ7_fill_53178 14 = .ok (.iinc 2 1, 3) := by decide +kernel
theorem dJ7_fill_53178_17 : decode cJ7_fill_53178 17 = .ok (.goto (-12), 3) := by decide +kernel
abbrev cJ7_fill_d0a16 : ByteArray := prog_28_method_101_code
def yJ7_fill_d0a16 : MethodName := ⟨"java/util/Arrays", "fill", "([JJ)V"⟩
theorem okJ7_fill_d0a16 : yok yJ7_fill_d0a16 2 := by decide +kernel
theorem dJ7_fill_d0a16_0 : decode cJ7_fill_d0a16 0 = .ok (.iconst 0, 1) := by decide +kernel
theorem dJ7_fill_d0a16_1 : decode cJ7_fill_d0a16 1 = .ok (.istore_n 3, 1) := by decide +kernel
theorem dJ7_fill_d0a16_2 : decode cJ7_fill_d0a16 2 = .ok (.aload_n 0, 1) := by decide +kernel
theorem dJ7_fill_d0a16_3 : decode cJ7_fill_d0a16 3 = .ok (.arraylength, 1) := by decide +kernel
theorem dJ7_fill_d0a16_4 : decode cJ7_fill_d0a16 4 = .ok (.istore 4, 2) := by decide +kernel
theorem dJ7_fill_d0a16_6 : decode cJ7_fill_d0a16 6 = .ok (.iload_n 3, 1) := by decide +kernel
theorem dJ7_fill_d0a16_7 : decode cJ7_fill_d0a16 7 = .ok (.iload 4, 2) := by decide +kernel
theorem dJ7_fill_d0a16_9 : decode cJ7_fill_d0a16 9 = .ok (.if_icmp .ge 13, 3) := by decide +kernel
theorem dJ7_fill_d0a16_22 : decode cJ7_fill_d0a16 22 = .ok (.return_, 1) := by decide +kernel
theorem dJ7_fill_d0a16_12 : decode cJ7_fill_d0a16 12 = .ok (.aload_n 0, 1) := by decide +kernel
theorem dJ7_fill_d0a16_13 : decode cJ7_fill_d0a16 13 = .ok (.iload_n 3, 1) := by decide +kernel
theorem dJ7_fill_d0a16_14 : decode cJ7_fill_d0a16 14 = .ok (.lload_n 1, 1) := by decide +kernel
theorem dJ7_fill_d0a16_15 : decode cJ7_fill_d0a16 15 = .ok (.lastore, 1) := by decide +kernel
theorem dJ7_fill_d0a16_16 : decode cJ7_fill_d0a16 16 = .ok (.iinc 3 1, 3) := by decide +kernel
theorem dJ7_fill_d0a16_19 : decode cJ7_fill_d0a16 19 = .ok (.goto (-13), 3) := by decide +kernel
abbrev cX9_level : ByteArray := prog_11_method_2_code
def yX9_level : MethodName := ⟨RX9, "level", "(I)V"⟩
theorem okX9_level : yok yX9_level 1 := by decide +kernel
theorem dX9_level_0 : decode cX9_level 0 = .ok (.aload_n 0, 1) := by decide +kernel
theorem dX9_level_1 : decode cX9_level 1 = .ok (.getfield 9, 3) := by decide +kernel
theorem kw_408 : Cond.fieldLink "LandSurvey$Slopes" 9 "LandSurvey$Slopes" "rise" "[I" ∈ uu := uu_in (i := 408) (by decide +kernel) (by decide +kernel)
theorem fk_LandSurvey_Slopes_9 : fkR "LandSurvey$Slopes" 9 9 0 RX9 TX9 4 := ⟨rfl, rfl, inX9, by decide, kw_408, by decide⟩
theorem dX9_level_4 : decode cX9_level 4 = .ok (.iload_n 1, 1) := by decide +kernel
theorem dX9_level_5 : decode cX9_level 5 = .ok (.invokestatic 22, 3) := by decide +kernel
theorem kw_188 : Cond.code yJ7_fill_53178 prog_28_method_103_code 4 none ∈ uu := uu_in (i := 188) (by decide +kernel) (by decide +kernel)
theorem kw_146 : Cond.initialized "java/util/Arrays" ∈ uu := uu_in (i := 146) (by decide +kernel) (by decide +kernel)
theorem kw_1078 : Cond.methodLink "LandSurvey$Slopes" 22 yJ7_fill_53178 ∈ uu := uu_in (i := 1078) (by decide +kernel) (by decide +kernel)
theorem kw_187 : Cond.static yJ7_fill_53178 ∈ uu := uu_in (i := 187) (by decide +kernel) (by decide +kernel)
theorem lk_LandSurvey_Slopes_22 : lkS "LandSurvey$Slopes" 22 yJ7_fill_53178 cJ7_fill_53178 4 none 2 := ⟨kw_1078, kw_187, kw_146, kw_188, okJ7_fill_53178⟩
theorem dX9_level_8 : decode cX9_level 8 = .ok (.aload_n 0, 1) := by decide +kernel
theorem dX9_level_9 : decode cX9_level 9 = .ok (.getfield 15, 3) := by decide +kernel
theorem kw_409 : Cond.fieldLink "LandSurvey$Slopes" 15 "LandSurvey$Slopes" "blamed" "[J" ∈ uu := uu_in (i := 409) (by decide +kernel) (by decide +kernel)
theorem fk_LandSurvey_Slopes_15 : fkR "LandSurvey$Slopes" 15 9 1 RX9 TX9 4 := ⟨rfl, rfl, inX9, by decide, kw_409, by decide⟩
theorem dX9_level_12 : decode cX9_level 12 = .ok (.lconst 0, 1) := by decide +kernel
theorem dX9_level_13 : decode cX9_level 13 = .ok (.invokestatic 28, 3) := by decide +kernel
theorem kw_1081 : Cond.code yJ7_fill_d0a16 prog_28_method_101_code 5 none ∈ uu := uu_in (i := 1081) (by decide +kernel) (by decide +kernel)
theorem kw_1079 : Cond.methodLink "LandSurvey$Slopes" 28 yJ7_fill_d0a16 ∈ uu := uu_in (i := 1079) (by decide +kernel) (by decide +kernel)
theorem kw_1080 : Cond.static yJ7_fill_d0a16 ∈ uu := uu_in (i := 1080) (by decide +kernel) (by decide +kernel)
theorem lk_LandSurvey_Slopes_28 : lkS "LandSurvey$Slopes" 28 yJ7_fill_d0a16 cJ7_fill_d0a16 5 none 2 := ⟨kw_1079, kw_1080, kw_146, kw_1081, okJ7_fill_d0a16⟩
theorem dX9_level_16 : decode cX9_level 16 = .ok (.aload_n 0, 1) := by decide +kernel
theorem dX9_level_17 : decode cX9_level 17 = .ok (.getfield 19, 3) := by decide +kernel
theorem kw_411 : Cond.fieldLink "LandSurvey$Slopes" 19 "LandSurvey$Slopes" "came" "[I" ∈ uu := uu_in (i := 411) (by decide +kernel) (by decide +kernel)
theorem fk_LandSurvey_Slopes_19 : fkR "LandSurvey$Slopes" 19 9 2 RX9 TX9 4 := ⟨rfl, rfl, inX9, by decide, kw_411, by decide⟩
theorem dX9_level_20 : decode cX9_level 20 = .ok (.iconst (-1), 1) := by decide +kernel
theorem dX9_level_21 : decode cX9_level 21 = .ok (.invokestatic 22, 3) := by decide +kernel
theorem dX9_level_24 : decode cX9_level 24 = .ok (.return_, 1) := by decide +kernel
abbrev cX9_narrow : ByteArray := prog_11_method_3_code
def yX9_narrow : MethodName := ⟨RX9, "narrow", "(IIJ)V"⟩
theorem okX9_narrow : yok yX9_narrow 3 := by decide +kernel
theorem dX9_narrow_0 : decode cX9_narrow 0 = .ok (.aload_n 0, 1) := by decide +kernel
theorem dX9_narrow_1 : decode cX9_narrow 1 = .ok (.getfield 15, 3) := by decide +kernel
theorem dX9_narrow_4 : decode cX9_narrow 4 = .ok (.iload_n 1, 1) := by decide +kernel
theorem dX9_narrow_5 : decode cX9_narrow 5 = .ok (.laload, 1) := by decide +kernel
theorem dX9_narrow_6 : decode cX9_narrow 6 = .ok (.lconst 0, 1) := by decide +kernel
theorem dX9_narrow_7 : decode cX9_narrow 7 = .ok (.lcmp, 1) := by decide +kernel
theorem dX9_narrow_8 : decode cX9_narrow 8 = .ok (.ifCond .eq 13, 3) := by decide +kernel
theorem dX9_narrow_21 : decode cX9_narrow 21 = .ok (.aload_n 0, 1) := by decide +kernel
theorem dX9_narrow_22 : decode cX9_narrow 22 = .ok (.getfield 9, 3) := by decide +kernel
theorem dX9_narrow_25 : decode cX9_narrow 25 = .ok (.iload_n 1, 1) := by decide +kernel
theorem dX9_narrow_26 : decode cX9_narrow 26 = .ok (.iload_n 2, 1) := by decide +kernel
theorem dX9_narrow_27 : decode cX9_narrow 27 = .ok (.iastore, 1) := by decide +kernel
theorem dX9_narrow_28 : decode cX9_narrow 28 = .ok (.aload_n 0, 1) := by decide +kernel
theorem dX9_narrow_29 : decode cX9_narrow 29 = .ok (.getfield 15, 3) := by decide +kernel
theorem dX9_narrow_32 : decode cX9_narrow 32 = .ok (.iload_n 1, 1) := by decide +kernel
theorem dX9_narrow_33 : decode cX9_narrow 33 = .ok (.lload_n 3, 1) := by decide +kernel
theorem dX9_narrow_34 : decode cX9_narrow 34 = .ok (.lastore, 1) := by decide +kernel
theorem dX9_narrow_35 : decode cX9_narrow 35 = .ok (.return_, 1) := by decide +kernel
theorem dX9_narrow_11 : decode cX9_narrow 11 = .ok (.iload_n 2, 1) := by decide +kernel
theorem dX9_narrow_12 : decode cX9_narrow 12 = .ok (.aload_n 0, 1) := by decide +kernel
theorem dX9_narrow_13 : decode cX9_narrow 13 = .ok (.getfield 9, 3) := by decide +kernel
theorem dX9_narrow_16 : decode cX9_narrow 16 = .ok (.iload_n 1, 1) := by decide +kernel
theorem dX9_narrow_17 : decode cX9_narrow 17 = .ok (.iaload, 1) := by decide +kernel
theorem dX9_narrow_18 : decode cX9_narrow 18 = .ok (.if_icmp .ge 17, 3) := by decide +kernel
abbrev cX9_tear : ByteArray := prog_11_method_4_code
def yX9_tear : MethodName := ⟨RX9, "tear", "(LLandSurvey$Break;)V"⟩
theorem okX9_tear : yok yX9_tear 1 := by decide +kernel
theorem dX9_tear_0 : decode cX9_tear 0 = .ok (.aload_n 1, 1) := by decide +kernel
theorem dX9_tear_1 : decode cX9_tear 1 = .ok (.getfield 31, 3) := by decide +kernel
theorem kw_922 : Cond.fieldLink "LandSurvey$Slopes" 31 "LandSurvey$Break" "down" "Z" ∈ uu := uu_in (i := 922) (by decide +kernel) (by decide +kernel)
theorem fk_LandSurvey_Slopes_31 : fkI "LandSurvey$Slopes" 31 0 1 RX0 TX0 6 := ⟨rfl, rfl, inX0, by decide, kw_922, by decide⟩
theorem dX9_tear_4 : decode cX9_tear 4 = .ok (.ifCond .eq 8, 3) := by decide +kernel
theorem dX9_tear_12 : decode cX9_tear 12 = .ok (.iconst 1, 1) := by decide +kernel
theorem dX9_tear_13 : decode cX9_tear 13 = .ok (.istore_n 2, 1) := by decide +kernel
theorem dX9_tear_14 : decode cX9_tear 14 = .ok (.aload_n 1, 1) := by decide +kernel
theorem dX9_tear_15 : decode cX9_tear 15 = .ok (.getfield 31, 3) := by decide +kernel
theorem dX9_tear_18 : decode cX9_tear 18 = .ok (.ifCond .eq 7, 3) := by decide +kernel
theorem dX9_tear_25 : decode cX9_tear 25 = .ok (.bipush 12, 2) := by decide +kernel
theorem dX9_tear_27 : decode cX9_tear 27 = .ok (.istore_n 3, 1) := by decide +kernel
theorem dX9_tear_28 : decode cX9_tear 28 = .ok (.aload_n 1, 1) := by decide +kernel
theorem dX9_tear_29 : decode cX9_tear 29 = .ok (.getfield 31, 3) := by decide +kernel
theorem dX9_tear_32 : decode cX9_tear 32 = .ok (.ifCond .eq 7, 3) := by decide +kernel
theorem dX9_tear_39 : decode cX9_tear 39 = .ok (.iconst 3, 1) := by decide +kernel
theorem dX9_tear_40 : decode cX9_tear 40 = .ok (.istore 4, 2) := by decide +kernel
theorem dX9_tear_42 : decode cX9_tear 42 = .ok (.aload_n 1, 1) := by decide +kernel
theorem dX9_tear_43 : decode cX9_tear 43 = .ok (.getfield 31, 3) := by decide +kernel
theorem dX9_tear_46 : decode cX9_tear 46 = .ok (.ifCond .eq 7, 3) := by decide +kernel
theorem dX9_tear_53 : decode cX9_tear 53 = .ok (.iconst 2, 1) := by decide +kernel
theorem dX9_tear_54 : decode cX9_tear 54 = .ok (.istore 5, 2) := by decide +kernel
theorem dX9_tear_56 : decode cX9_tear 56 = .ok (.iconst 0, 1) := by decide +kernel
theorem dX9_tear_57 : decode cX9_tear 57 = .ok (.istore 6, 2) := by decide +kernel
theorem kw_924 : Cond.fieldLink "LandSurvey$Slopes" 37 "LandSurvey$Break" "sides" "I" ∈ uu := uu_in (i := 924) (by decide +kernel) (by decide +kernel)
theorem fk_LandSurvey_Slopes_37 : fkI "LandSurvey$Slopes" 37 0 2 RX0 TX0 6 := ⟨rfl, rfl, inX0, by decide, kw_924, by decide⟩
theorem dX9_tear_59 : decode cX9_tear 59 = .ok (.iload 6, 2) := by decide +kernel
theorem dX9_tear_61 : decode cX9_tear 61 = .ok (.aload_n 1, 1) := by decide +kernel
theorem dX9_tear_62 : decode cX9_tear 62 = .ok (.getfield 37, 3) := by decide +kernel
theorem dX9_tear_65 : decode cX9_tear 65 = .ok (.if_icmp .ge 79, 3) := by decide +kernel
theorem dX9_tear_144 : decode cX9_tear 144 = .ok (.return_, 1) := by decide +kernel
theorem dX9_tear_68 : decode cX9_tear 68 = .ok (.aload_n 1, 1) := by decide +kernel
theorem dX9_tear_69 : decode cX9_tear 69 = .ok (.getfield 41, 3) := by decide +kernel
theorem kw_920 : Cond.fieldLink "LandSurvey$Slopes" 41 "LandSurvey$Break" "cell" "I" ∈ uu := uu_in (i := 920) (by decide +kernel) (by decide +kernel)
theorem fk_LandSurvey_Slopes_41 : fkI "LandSurvey$Slopes" 41 0 0 RX0 TX0 6 := ⟨rfl, rfl, inX0, by decide, kw_920, by decide⟩
theorem dX9_tear_72 : decode cX9_tear 72 = .ok (.iload 6, 2) := by decide +kernel
theorem dX9_tear_74 : decode cX9_tear 74 = .ok (.iload_n 2, 1) := by decide +kernel
theorem dX9_tear_75 : decode cX9_tear 75 = .ok (.imul, 1) := by decide +kernel
theorem dX9_tear_76 : decode cX9_tear 76 = .ok (.iadd, 1) := by decide +kernel
theorem dX9_tear_77 : decode cX9_tear 77 = .ok (.istore 7, 2) := by decide +kernel
theorem dX9_tear_79 : decode cX9_tear 79 = .ok (.iconst 4, 1) := by decide +kernel
theorem dX9_tear_80 : decode cX9_tear 80 = .ok (.iload 7, 2) := by decide +kernel
theorem dX9_tear_82 : decode cX9_tear 82 = .ok (.imul, 1) := by decide +kernel
theorem dX9_tear_83 : decode cX9_tear 83 = .ok (.iload 4, 2) := by decide +kernel
theorem dX9_tear_85 : decode cX9_tear 85 = .ok (.iadd, 1) := by decide +kernel
theorem dX9_tear_86 : decode cX9_tear 86 = .ok (.istore 8, 2) := by decide +kernel
theorem dX9_tear_88 : decode cX9_tear 88 = .ok (.iconst 4, 1) := by decide +kernel
theorem dX9_tear_89 : decode cX9_tear 89 = .ok (.iload 7, 2) := by decide +kernel
theorem dX9_tear_91 : decode cX9_tear 91 = .ok (.iload_n 3, 1) := by decide +kernel
theorem dX9_tear_92 : decode cX9_tear 92 = .ok (.iadd, 1) := by decide +kernel
theorem dX9_tear_93 : decode cX9_tear 93 = .ok (.imul, 1) := by decide +kernel
theorem dX9_tear_94 : decode cX9_tear 94 = .ok (.iload 5, 2) := by decide +kernel
theorem dX9_tear_96 : decode cX9_tear 96 = .ok (.iadd, 1) := by decide +kernel
theorem dX9_tear_97 : decode cX9_tear 97 = .ok (.istore 9, 2) := by decide +kernel
theorem dX9_tear_99 : decode cX9_tear 99 = .ok (.aload_n 0, 1) := by decide +kernel
theorem dX9_tear_100 : decode cX9_tear 100 = .ok (.getfield 9, 3) := by decide +kernel
theorem dX9_tear_103 : decode cX9_tear 103 = .ok (.iload 8, 2) := by decide +kernel
theorem dX9_tear_105 : decode cX9_tear 105 = .ok (.aload_n 1, 1) := by decide +kernel
theorem dX9_tear_106 : decode cX9_tear 106 = .ok (.getfield 44, 3) := by decide +kernel
theorem kw_928 : Cond.fieldLink "LandSurvey$Slopes" 44 "LandSurvey$Break" "to" "I" ∈ uu := uu_in (i := 928) (by decide +kernel) (by decide +kernel)
theorem fk_LandSurvey_Slopes_44 : fkI "LandSurvey$Slopes" 44 0 4 RX0 TX0 6 := ⟨rfl, rfl, inX0, by decide, kw_928, by decide⟩
theorem dX9_tear_109 : decode cX9_tear 109 = .ok (.iastore, 1) := by decide +kernel
theorem dX9_tear_110 : decode cX9_tear 110 = .ok (.aload_n 0, 1) := by decide +kernel
theorem dX9_tear_111 : decode cX9_tear 111 = .ok (.getfield 15, 3) := by decide +kernel
theorem dX9_tear_114 : decode cX9_tear 114 = .ok (.iload 8, 2) := by decide +kernel
theorem dX9_tear_116 : decode cX9_tear 116 = .ok (.lconst 0, 1) := by decide +kernel
theorem dX9_tear_117 : decode cX9_tear 117 = .ok (.lastore, 1) := by decide +kernel
theorem dX9_tear_118 : decode cX9_tear 118 = .ok (.aload_n 0, 1) := by decide +kernel
theorem dX9_tear_119 : decode cX9_tear 119 = .ok (.getfield 9, 3) := by decide +kernel
theorem dX9_tear_122 : decode cX9_tear 122 = .ok (.iload 9, 2) := by decide +kernel
theorem dX9_tear_124 : decode cX9_tear 124 = .ok (.aload_n 1, 1) := by decide +kernel
theorem dX9_tear_125 : decode cX9_tear 125 = .ok (.getfield 47, 3) := by decide +kernel
theorem kw_926 : Cond.fieldLink "LandSurvey$Slopes" 47 "LandSurvey$Break" "from" "I" ∈ uu := uu_in (i := 926) (by decide +kernel) (by decide +kernel)
theorem fk_LandSurvey_Slopes_47 : fkI "LandSurvey$Slopes" 47 0 3 RX0 TX0 6 := ⟨rfl, rfl, inX0, by decide, kw_926, by decide⟩
theorem dX9_tear_128 : decode cX9_tear 128 = .ok (.ineg, 1) := by decide +kernel
theorem dX9_tear_129 : decode cX9_tear 129 = .ok (.iastore, 1) := by decide +kernel
theorem dX9_tear_130 : decode cX9_tear 130 = .ok (.aload_n 0, 1) := by decide +kernel
theorem dX9_tear_131 : decode cX9_tear 131 = .ok (.getfield 15, 3) := by decide +kernel
theorem dX9_tear_134 : decode cX9_tear 134 = .ok (.iload 9, 2) := by decide +kernel
theorem dX9_tear_136 : decode cX9_tear 136 = .ok (.lconst 0, 1) := by decide +kernel
theorem dX9_tear_137 : decode cX9_tear 137 = .ok (.lastore, 1) := by decide +kernel
theorem dX9_tear_138 : decode cX9_tear 138 = .ok (.iinc 6 1, 3) := by decide +kernel
theorem dX9_tear_141 : decode cX9_tear 141 = .ok (.goto (-82), 3) := by decide +kernel
theorem dX9_tear_7 : decode cX9_tear 7 = .ok (.bipush 12, 2) := by decide +kernel
theorem dX9_tear_9 : decode cX9_tear 9 = .ok (.goto 4, 3) := by decide +kernel
theorem dX9_tear_21 : decode cX9_tear 21 = .ok (.iconst 1, 1) := by decide +kernel
theorem dX9_tear_22 : decode cX9_tear 22 = .ok (.goto 5, 3) := by decide +kernel
theorem dX9_tear_35 : decode cX9_tear 35 = .ok (.iconst 1, 1) := by decide +kernel
theorem dX9_tear_36 : decode cX9_tear 36 = .ok (.goto 4, 3) := by decide +kernel
theorem dX9_tear_49 : decode cX9_tear 49 = .ok (.iconst 0, 1) := by decide +kernel
theorem dX9_tear_50 : decode cX9_tear 50 = .ok (.goto 4, 3) := by decide +kernel
abbrev cX9_carry : ByteArray := prog_11_method_6_code
def yX9_carry : MethodName := ⟨RX9, "carry", "([IIII)V"⟩
theorem okX9_carry : yok yX9_carry 4 := by decide +kernel
theorem kw_413 : Cond.fieldLink "LandSurvey$Slopes" 55 "LandSurvey$Slopes" "moved" "Z" ∈ uu := uu_in (i := 413) (by decide +kernel) (by decide +kernel)
theorem fk_LandSurvey_Slopes_55 : fkI "LandSurvey$Slopes" 55 9 3 RX9 TX9 4 := ⟨rfl, rfl, inX9, by decide, kw_413, by decide⟩
theorem dX9_carry_0 : decode cX9_carry 0 = .ok (.aload_n 1, 1) := by decide +kernel
theorem dX9_carry_1 : decode cX9_carry 1 = .ok (.iload_n 2, 1) := by decide +kernel
theorem dX9_carry_2 : decode cX9_carry 2 = .ok (.iaload, 1) := by decide +kernel
theorem dX9_carry_3 : decode cX9_carry 3 = .ok (.aload_n 0, 1) := by decide +kernel
theorem dX9_carry_4 : decode cX9_carry 4 = .ok (.getfield 9, 3) := by decide +kernel
theorem dX9_carry_7 : decode cX9_carry 7 = .ok (.iload 4, 2) := by decide +kernel
theorem dX9_carry_9 : decode cX9_carry 9 = .ok (.iaload, 1) := by decide +kernel
theorem dX9_carry_10 : decode cX9_carry 10 = .ok (.iadd, 1) := by decide +kernel
theorem dX9_carry_11 : decode cX9_carry 11 = .ok (.istore 5, 2) := by decide +kernel
theorem dX9_carry_13 : decode cX9_carry 13 = .ok (.iload 5, 2) := by decide +kernel
theorem dX9_carry_15 : decode cX9_carry 15 = .ok (.aload_n 1, 1) := by decide +kernel
theorem dX9_carry_16 : decode cX9_carry 16 = .ok (.iload_n 3, 1) := by decide +kernel
theorem dX9_carry_17 : decode cX9_carry 17 = .ok (.iaload, 1) := by decide +kernel
theorem dX9_carry_18 : decode cX9_carry 18 = .ok (.if_icmp .ge 29, 3) := by decide +kernel
theorem dX9_carry_47 : decode cX9_carry 47 = .ok (.return_, 1) := by decide +kernel
theorem dX9_carry_21 : decode cX9_carry 21 = .ok (.aload_n 1, 1) := by decide +kernel
theorem dX9_carry_22 : decode cX9_carry 22 = .ok (.iload_n 2, 1) := by decide +kernel
theorem dX9_carry_23 : decode cX9_carry 23 = .ok (.iaload, 1) := by decide +kernel
theorem dX9_carry_24 : decode cX9_carry 24 = .ok (.ldc 54, 2) := by decide +kernel
theorem kw_1117 : Cond.constant "LandSurvey$Slopes" 54 (268435456) ∈ uu := uu_in (i := 1117) (by decide +kernel) (by decide +kernel)
theorem dX9_carry_26 : decode cX9_carry 26 = .ok (.if_icmp .ge 21, 3) := by decide +kernel
theorem dX9_carry_29 : decode cX9_carry 29 = .ok (.aload_n 1, 1) := by decide +kernel
theorem dX9_carry_30 : decode cX9_carry 30 = .ok (.iload_n 3, 1) := by decide +kernel
theorem dX9_carry_31 : decode cX9_carry 31 = .ok (.iload 5, 2) := by decide +kernel
theorem dX9_carry_33 : decode cX9_carry 33 = .ok (.iastore, 1) := by decide +kernel
theorem dX9_carry_34 : decode cX9_carry 34 = .ok (.aload_n 0, 1) := by decide +kernel
theorem dX9_carry_35 : decode cX9_carry 35 = .ok (.getfield 19, 3) := by decide +kernel
theorem dX9_carry_38 : decode cX9_carry 38 = .ok (.iload_n 3, 1) := by decide +kernel
theorem dX9_carry_39 : decode cX9_carry 39 = .ok (.iload 4, 2) := by decide +kernel
theorem dX9_carry_41 : decode cX9_carry 41 = .ok (.iastore, 1) := by decide +kernel
theorem dX9_carry_42 : decode cX9_carry 42 = .ok (.aload_n 0, 1) := by decide +kernel
theorem dX9_carry_43 : decode cX9_carry 43 = .ok (.iconst 1, 1) := by decide +kernel
theorem dX9_carry_44 : decode cX9_carry 44 = .ok (.putfield 55, 3) := by decide +kernel
theorem pk_LandSurvey_Slopes_3 : pk RX9 TX9 4 3 tyX9 false := ⟨tyX9_ok, nmX9, rfl⟩
abbrev cX9_sweep : ByteArray := prog_11_method_5_code
def yX9_sweep : MethodName := ⟨RX9, "sweep", "([IZ)V"⟩
theorem okX9_sweep : yok yX9_sweep 2 := by decide +kernel
theorem dX9_sweep_0 : decode cX9_sweep 0 = .ok (.iconst 1, 1) := by decide +kernel
theorem dX9_sweep_1 : decode cX9_sweep 1 = .ok (.istore_n 3, 1) := by decide +kernel
theorem dX9_sweep_2 : decode cX9_sweep 2 = .ok (.iload_n 3, 1) := by decide +kernel
theorem dX9_sweep_3 : decode cX9_sweep 3 = .ok (.bipush 96, 2) := by decide +kernel
theorem dX9_sweep_5 : decode cX9_sweep 5 = .ok (.if_icmp .ge 85, 3) := by decide +kernel
theorem dX9_sweep_90 : decode cX9_sweep 90 = .ok (.bipush 94, 2) := by decide +kernel
theorem dX9_sweep_92 : decode cX9_sweep 92 = .ok (.istore_n 3, 1) := by decide +kernel
theorem dX9_sweep_93 : decode cX9_sweep 93 = .ok (.iload_n 3, 1) := by decide +kernel
theorem dX9_sweep_94 : decode cX9_sweep 94 = .ok (.ifCond .lt 87, 3) := by decide +kernel
theorem dX9_sweep_181 : decode cX9_sweep 181 = .ok (.return_, 1) := by decide +kernel
theorem dX9_sweep_97 : decode cX9_sweep 97 = .ok (.iload_n 3, 1) := by decide +kernel
theorem dX9_sweep_98 : decode cX9_sweep 98 = .ok (.bipush 12, 2) := by decide +kernel
theorem dX9_sweep_100 : decode cX9_sweep 100 = .ok (.irem, 1) := by decide +kernel
theorem dX9_sweep_101 : decode cX9_sweep 101 = .ok (.bipush 11, 2) := by decide +kernel
theorem dX9_sweep_103 : decode cX9_sweep 103 = .ok (.if_icmp .eq 34, 3) := by decide +kernel
theorem dX9_sweep_137 : decode cX9_sweep 137 = .ok (.iload_n 3, 1) := by decide +kernel
theorem dX9_sweep_138 : decode cX9_sweep 138 = .ok (.bipush 84, 2) := by decide +kernel
theorem dX9_sweep_140 : decode cX9_sweep 140 = .ok (.if_icmp .ge 35, 3) := by decide +kernel
theorem dX9_sweep_175 : decode cX9_sweep 175 = .ok (.iinc 3 (-1), 3) := by decide +kernel
theorem dX9_sweep_178 : decode cX9_sweep 178 = .ok (.goto (-85), 3) := by decide +kernel
theorem dX9_sweep_143 : decode cX9_sweep 143 = .ok (.iload_n 3, 1) := by decide +kernel
theorem dX9_sweep_144 : decode cX9_sweep 144 = .ok (.bipush 12, 2) := by decide +kernel
theorem dX9_sweep_146 : decode cX9_sweep 146 = .ok (.iadd, 1) := by decide +kernel
theorem dX9_sweep_147 : decode cX9_sweep 147 = .ok (.istore 4, 2) := by decide +kernel
theorem dX9_sweep_149 : decode cX9_sweep 149 = .ok (.aload_n 0, 1) := by decide +kernel
theorem dX9_sweep_150 : decode cX9_sweep 150 = .ok (.aload_n 1, 1) := by decide +kernel
theorem dX9_sweep_151 : decode cX9_sweep 151 = .ok (.iload 4, 2) := by decide +kernel
theorem dX9_sweep_153 : decode cX9_sweep 153 = .ok (.iload_n 3, 1) := by decide +kernel
theorem dX9_sweep_154 : decode cX9_sweep 154 = .ok (.iload_n 2, 1) := by decide +kernel
theorem dX9_sweep_155 : decode cX9_sweep 155 = .ok (.ifCond .eq 11, 3) := by decide +kernel
theorem dX9_sweep_166 : decode cX9_sweep 166 = .ok (.iconst 4, 1) := by decide +kernel
theorem dX9_sweep_167 : decode cX9_sweep 167 = .ok (.iload 4, 2) := by decide +kernel
theorem dX9_sweep_169 : decode cX9_sweep 169 = .ok (.imul, 1) := by decide +kernel
theorem dX9_sweep_170 : decode cX9_sweep 170 = .ok (.iconst 2, 1) := by decide +kernel
theorem dX9_sweep_171 : decode cX9_sweep 171 = .ok (.iadd, 1) := by decide +kernel
theorem dX9_sweep_172 : decode cX9_sweep 172 = .ok (.invokevirtual 50, 3) := by decide +kernel
theorem kw_1116 : Cond.code yX9_carry prog_11_method_6_code 6 none ∈ uu := uu_in (i := 1116) (by decide +kernel) (by decide +kernel)
theorem kw_151 : Cond.initialized "LandSurvey$Slopes" ∈ uu := uu_in (i := 151) (by decide +kernel) (by decide +kernel)
theorem kw_1113 : Cond.methodLink "LandSurvey$Slopes" 50 yX9_carry ∈ uu := uu_in (i := 1113) (by decide +kernel) (by decide +kernel)
theorem kw_1115 : Cond.instanceMethod yX9_carry ∈ uu := uu_in (i := 1115) (by decide +kernel) (by decide +kernel)
theorem kw_33 : Cond.selects "LandSurvey$Slopes" yX9_carry yX9_carry ∈ uu := uu_in (i := 33) (by decide +kernel) (by decide +kernel)
theorem lk_LandSurvey_Slopes_50 : lkV "LandSurvey$Slopes" 50 yX9_carry cX9_carry 6 none 4 := ⟨kw_1113, kw_1115, kw_33, kw_151, kw_1116, okX9_carry⟩
theorem dX9_sweep_158 : decode cX9_sweep 158 = .ok (.iconst 4, 1) := by decide +kernel
theorem dX9_sweep_159 : decode cX9_sweep 159 = .ok (.iload_n 3, 1) := by decide +kernel
theorem dX9_sweep_160 : decode cX9_sweep 160 = .ok (.imul, 1) := by decide +kernel
theorem dX9_sweep_161 : decode cX9_sweep 161 = .ok (.iconst 3, 1) := by decide +kernel
theorem dX9_sweep_162 : decode cX9_sweep 162 = .ok (.iadd, 1) := by decide +kernel
theorem dX9_sweep_163 : decode cX9_sweep 163 = .ok (.goto 9, 3) := by decide +kernel
theorem dX9_sweep_106 : decode cX9_sweep 106 = .ok (.iload_n 3, 1) := by decide +kernel
theorem dX9_sweep_107 : decode cX9_sweep 107 = .ok (.iconst 1, 1) := by decide +kernel
theorem dX9_sweep_108 : decode cX9_sweep 108 = .ok (.iadd, 1) := by decide +kernel
theorem dX9_sweep_109 : decode cX9_sweep 109 = .ok (.istore 4, 2) := by decide +kernel
theorem dX9_sweep_111 : decode cX9_sweep 111 = .ok (.aload_n 0, 1) := by decide +kernel
theorem dX9_sweep_112 : decode cX9_sweep 112 = .ok (.aload_n 1, 1) := by decide +kernel
theorem dX9_sweep_113 : decode cX9_sweep 113 = .ok (.iload 4, 2) := by decide +kernel
theorem dX9_sweep_115 : decode cX9_sweep 115 = .ok (.iload_n 3, 1) := by decide +kernel
theorem dX9_sweep_116 : decode cX9_sweep 116 = .ok (.iload_n 2, 1) := by decide +kernel
theorem dX9_sweep_117 : decode cX9_sweep 117 = .ok (.ifCond .eq 11, 3) := by decide +kernel
theorem dX9_sweep_128 : decode cX9_sweep 128 = .ok (.iconst 4, 1) := by decide +kernel
theorem dX9_sweep_129 : decode cX9_sweep 129 = .ok (.iload 4, 2) := by decide +kernel
theorem dX9_sweep_131 : decode cX9_sweep 131 = .ok (.imul, 1) := by decide +kernel
theorem dX9_sweep_132 : decode cX9_sweep 132 = .ok (.iconst 0, 1) := by decide +kernel
theorem dX9_sweep_133 : decode cX9_sweep 133 = .ok (.iadd, 1) := by decide +kernel
theorem dX9_sweep_134 : decode cX9_sweep 134 = .ok (.invokevirtual 50, 3) := by decide +kernel
theorem dX9_sweep_120 : decode cX9_sweep 120 = .ok (.iconst 4, 1) := by decide +kernel
theorem dX9_sweep_121 : decode cX9_sweep 121 = .ok (.iload_n 3, 1) := by decide +kernel
theorem dX9_sweep_122 : decode cX9_sweep 122 = .ok (.imul, 1) := by decide +kernel
theorem dX9_sweep_123 : decode cX9_sweep 123 = .ok (.iconst 1, 1) := by decide +kernel
theorem dX9_sweep_124 : decode cX9_sweep 124 = .ok (.iadd, 1) := by decide +kernel
theorem dX9_sweep_125 : decode cX9_sweep 125 = .ok (.goto 9, 3) := by decide +kernel
theorem dX9_sweep_8 : decode cX9_sweep 8 = .ok (.iload_n 3, 1) := by decide +kernel
theorem dX9_sweep_9 : decode cX9_sweep 9 = .ok (.bipush 12, 2) := by decide +kernel
theorem dX9_sweep_11 : decode cX9_sweep 11 = .ok (.irem, 1) := by decide +kernel
theorem dX9_sweep_12 : decode cX9_sweep 12 = .ok (.ifCond .eq 34, 3) := by decide +kernel
theorem dX9_sweep_46 : decode cX9_sweep 46 = .ok (.iload_n 3, 1) := by decide +kernel
theorem dX9_sweep_47 : decode cX9_sweep 47 = .ok (.bipush 12, 2) := by decide +kernel
theorem dX9_sweep_49 : decode cX9_sweep 49 = .ok (.if_icmp .lt 35, 3) := by decide +kernel
theorem dX9_sweep_84 : decode cX9_sweep 84 = .ok (.iinc 3 1, 3) := by decide +kernel
theorem dX9_sweep_87 : decode cX9_sweep 87 = .ok (.goto (-85), 3) := by decide +kernel
theorem dX9_sweep_52 : decode cX9_sweep 52 = .ok (.iload_n 3, 1) := by decide +kernel
theorem dX9_sweep_53 : decode cX9_sweep 53 = .ok (.bipush 12, 2) := by decide +kernel
theorem dX9_sweep_55 : decode cX9_sweep 55 = .ok (.isub, 1) := by decide +kernel
theorem dX9_sweep_56 : decode cX9_sweep 56 = .ok (.istore 4, 2) := by decide +kernel
theorem dX9_sweep_58 : decode cX9_sweep 58 = .ok (.aload_n 0, 1) := by decide +kernel
theorem dX9_sweep_59 : decode cX9_sweep 59 = .ok (.aload_n 1, 1) := by decide +kernel
theorem dX9_sweep_60 : decode cX9_sweep 60 = .ok (.iload 4, 2) := by decide +kernel
theorem dX9_sweep_62 : decode cX9_sweep 62 = .ok (.iload_n 3, 1) := by decide +kernel
theorem dX9_sweep_63 : decode cX9_sweep 63 = .ok (.iload_n 2, 1) := by decide +kernel
theorem dX9_sweep_64 : decode cX9_sweep 64 = .ok (.ifCond .eq 11, 3) := by decide +kernel
theorem dX9_sweep_75 : decode cX9_sweep 75 = .ok (.iconst 4, 1) := by decide +kernel
theorem dX9_sweep_76 : decode cX9_sweep 76 = .ok (.iload 4, 2) := by decide +kernel
theorem dX9_sweep_78 : decode cX9_sweep 78 = .ok (.imul, 1) := by decide +kernel
theorem dX9_sweep_79 : decode cX9_sweep 79 = .ok (.iconst 3, 1) := by decide +kernel
theorem dX9_sweep_80 : decode cX9_sweep 80 = .ok (.iadd, 1) := by decide +kernel
theorem dX9_sweep_81 : decode cX9_sweep 81 = .ok (.invokevirtual 50, 3) := by decide +kernel
theorem dX9_sweep_67 : decode cX9_sweep 67 = .ok (.iconst 4, 1) := by decide +kernel
theorem dX9_sweep_68 : decode cX9_sweep 68 = .ok (.iload_n 3, 1) := by decide +kernel
theorem dX9_sweep_69 : decode cX9_sweep 69 = .ok (.imul, 1) := by decide +kernel
theorem dX9_sweep_70 : decode cX9_sweep 70 = .ok (.iconst 2, 1) := by decide +kernel
theorem dX9_sweep_71 : decode cX9_sweep 71 = .ok (.iadd, 1) := by decide +kernel
theorem dX9_sweep_72 : decode cX9_sweep 72 = .ok (.goto 9, 3) := by decide +kernel
theorem dX9_sweep_15 : decode cX9_sweep 15 = .ok (.iload_n 3, 1) := by decide +kernel
theorem dX9_sweep_16 : decode cX9_sweep 16 = .ok (.iconst 1, 1) := by decide +kernel
theorem dX9_sweep_17 : decode cX9_sweep 17 = .ok (.isub, 1) := by decide +kernel
theorem dX9_sweep_18 : decode cX9_sweep 18 = .ok (.istore 4, 2) := by decide +kernel
theorem dX9_sweep_20 : decode cX9_sweep 20 = .ok (.aload_n 0, 1) := by decide +kernel
theorem dX9_sweep_21 : decode cX9_sweep 21 = .ok (.aload_n 1, 1) := by decide +kernel
theorem dX9_sweep_22 : decode cX9_sweep 22 = .ok (.iload 4, 2) := by decide +kernel
theorem dX9_sweep_24 : decode cX9_sweep 24 = .ok (.iload_n 3, 1) := by decide +kernel
theorem dX9_sweep_25 : decode cX9_sweep 25 = .ok (.iload_n 2, 1) := by decide +kernel
theorem dX9_sweep_26 : decode cX9_sweep 26 = .ok (.ifCond .eq 11, 3) := by decide +kernel
theorem dX9_sweep_37 : decode cX9_sweep 37 = .ok (.iconst 4, 1) := by decide +kernel
theorem dX9_sweep_38 : decode cX9_sweep 38 = .ok (.iload 4, 2) := by decide +kernel
theorem dX9_sweep_40 : decode cX9_sweep 40 = .ok (.imul, 1) := by decide +kernel
theorem dX9_sweep_41 : decode cX9_sweep 41 = .ok (.iconst 1, 1) := by decide +kernel
theorem dX9_sweep_42 : decode cX9_sweep 42 = .ok (.iadd, 1) := by decide +kernel
theorem dX9_sweep_43 : decode cX9_sweep 43 = .ok (.invokevirtual 50, 3) := by decide +kernel
theorem dX9_sweep_29 : decode cX9_sweep 29 = .ok (.iconst 4, 1) := by decide +kernel
theorem dX9_sweep_30 : decode cX9_sweep 30 = .ok (.iload_n 3, 1) := by decide +kernel
theorem dX9_sweep_31 : decode cX9_sweep 31 = .ok (.imul, 1) := by decide +kernel
theorem dX9_sweep_32 : decode cX9_sweep 32 = .ok (.iconst 0, 1) := by decide +kernel
theorem dX9_sweep_33 : decode cX9_sweep 33 = .ok (.iadd, 1) := by decide +kernel
theorem dX9_sweep_34 : decode cX9_sweep 34 = .ok (.goto 9, 3) := by decide +kernel
abbrev cX9_spread : ByteArray := prog_11_method_7_code
def yX9_spread : MethodName := ⟨RX9, "spread", "([IZ)V"⟩
theorem okX9_spread : yok yX9_spread 2 := by decide +kernel
theorem dX9_spread_0 : decode cX9_spread 0 = .ok (.aload_n 0, 1) := by decide +kernel
theorem dX9_spread_1 : decode cX9_spread 1 = .ok (.iconst 1, 1) := by decide +kernel
theorem dX9_spread_2 : decode cX9_spread 2 = .ok (.putfield 55, 3) := by decide +kernel
theorem dX9_spread_5 : decode cX9_spread 5 = .ok (.iconst 0, 1) := by decide +kernel
theorem dX9_spread_6 : decode cX9_spread 6 = .ok (.istore_n 3, 1) := by decide +kernel
theorem dX9_spread_7 : decode cX9_spread 7 = .ok (.iload_n 3, 1) := by decide +kernel
theorem dX9_spread_8 : decode cX9_spread 8 = .ok (.bipush 96, 2) := by decide +kernel
theorem dX9_spread_10 : decode cX9_spread 10 = .ok (.if_icmp .gt 27, 3) := by decide +kernel
theorem dX9_spread_37 : decode cX9_spread 37 = .ok (.return_, 1) := by decide +kernel
theorem dX9_spread_13 : decode cX9_spread 13 = .ok (.aload_n 0, 1) := by decide +kernel
theorem dX9_spread_14 : decode cX9_spread 14 = .ok (.getfield 55, 3) := by decide +kernel
theorem dX9_spread_17 : decode cX9_spread 17 = .ok (.ifCond .eq 20, 3) := by decide +kernel
theorem dX9_spread_20 : decode cX9_spread 20 = .ok (.aload_n 0, 1) := by decide +kernel
theorem dX9_spread_21 : decode cX9_spread 21 = .ok (.iconst 0, 1) := by decide +kernel
theorem dX9_spread_22 : decode cX9_spread 22 = .ok (.putfield 55, 3) := by decide +kernel
theorem dX9_spread_25 : decode cX9_spread 25 = .ok (.aload_n 0, 1) := by decide +kernel
theorem dX9_spread_26 : decode cX9_spread 26 = .ok (.aload_n 1, 1) := by decide +kernel
theorem dX9_spread_27 : decode cX9_spread 27 = .ok (.iload_n 2, 1) := by decide +kernel
theorem dX9_spread_28 : decode cX9_spread 28 = .ok (.invokevirtual 58, 3) := by decide +kernel
theorem kw_1112 : Cond.code yX9_sweep prog_11_method_5_code 5 none ∈ uu := uu_in (i := 1112) (by decide +kernel) (by decide +kernel)
theorem kw_1179 : Cond.methodLink "LandSurvey$Slopes" 58 yX9_sweep ∈ uu := uu_in (i := 1179) (by decide +kernel) (by decide +kernel)
theorem kw_1110 : Cond.instanceMethod yX9_sweep ∈ uu := uu_in (i := 1110) (by decide +kernel) (by decide +kernel)
theorem kw_1111 : Cond.selects "LandSurvey$Slopes" yX9_sweep yX9_sweep ∈ uu := uu_in (i := 1111) (by decide +kernel) (by decide +kernel)
theorem lk_LandSurvey_Slopes_58 : lkV "LandSurvey$Slopes" 58 yX9_sweep cX9_sweep 5 none 2 := ⟨kw_1179, kw_1110, kw_1111, kw_151, kw_1112, okX9_sweep⟩
theorem dX9_spread_31 : decode cX9_spread 31 = .ok (.iinc 3 1, 3) := by decide +kernel
theorem dX9_spread_34 : decode cX9_spread 34 = .ok (.goto (-27), 3) := by decide +kernel
def wr_k_J6_bitCount_0f7a4 : List Nat := []
set_option maxRecDepth 100000 in
set_option maxHeartbeats 4000000 in
theorem k_J6_bitCount_0f7a4 (l : Launch) (D : va_G) (cy : Nat → ClassId) (w : Nat → Nat) (z0 : Nat)  {h : Hp} {a0 : Int}  (O : Okh h) (fa0 : (-2147483648) ≤ a0 ∧ a0 ≤ 2147483647) : MI l D cy w z0 yJ6_bitCount_0f7a4 cJ6_bitCount_0f7a4 1 (some .int) 0 0 0 0 [.inl a0] h (fun v h1 => Okh h1 ∧ Fx wr_k_J6_bitCount_0f7a4 h h1 ∧ (0 ≤ v ∧ v ≤ 63)) := by
  refine hm_go (by decide +kernel) (Nat.le_of_ble_eq_true rfl) (fun p e s m below meth c C hr hn => ?_)
  refine g_iload_n C rfl 0 rfl dJ6_bitCount_0f7a4_0 ?_
  refine g_iload_n C rfl 0 rfl dJ6_bitCount_0f7a4_1 ?_
  refine g_iconst C dJ6_bitCount_0f7a4_2 ?_
  refine g_iushr C dJ6_bitCount_0f7a4_3 ?_
  have f1 : (-2147483648 : Int) ≤ (bUshr a0 1) ∧ (bUshr a0 1) ≤ (2147483647 : Int) := inR_of _
  refine g_ldcw (z := 1431655765) C kw_1199 (by decide) dJ6_bitCount_0f7a4_4 ?_
  refine g_iand C dJ6_bitCount_0f7a4_7 ?_
  have f2 : (-2147483648 : Int) ≤ (bAnd (bUshr a0 1) 1431655765) ∧ (bAnd (bUshr a0 1) 1431655765) ≤ (2147483647 : Int) := inR_of _
  have f3 : (-2147483648 : Int) ≤ (w32 (a0 - (bAnd (bUshr a0 1) 1431655765))) ∧ (w32 (a0 - (bAnd (bUshr a0 1) 1431655765))) ≤ (2147483647 : Int) := w32_inR _
  refine g_isubW C dJ6_bitCount_0f7a4_8 ?_
  refine g_istore_n C [(0, .inl (w32 (a0 - (bAnd (bUshr a0 1) 1431655765))))] rfl (by decide) rfl dJ6_bitCount_0f7a4_9 ?_
  refine g_iload_n C rfl 0 rfl dJ6_bitCount_0f7a4_10 ?_
  refine g_ldcw (z := 858993459) C kw_1200 (by decide) dJ6_bitCount_0f7a4_11 ?_
  refine g_iand C dJ6_bitCount_0f7a4_14 ?_
  have f4 : (-2147483648 : Int) ≤ (bAnd (w32 (a0 - (bAnd (bUshr a0 1) 1431655765))) 858993459) ∧ (bAnd (w32 (a0 - (bAnd (bUshr a0 1) 1431655765))) 858993459) ≤ (2147483647 : Int) := inR_of _
  refine g_iload_n C rfl 0 rfl dJ6_bitCount_0f7a4_15 ?_
  refine g_iconst C dJ6_bitCount_0f7a4_16 ?_
  refine g_iushr C dJ6_bitCount_0f7a4_17 ?_
  have f5 : (-2147483648 : Int) ≤ (bUshr (w32 (a0 - (bAnd (bUshr a0 1) 1431655765))) 2) ∧ (bUshr (w32 (a0 - (bAnd (bUshr a0 1) 1431655765))) 2) ≤ (2147483647 : Int) := inR_of _
  refine g_ldcw (z := 858993459) C kw_1200 (by decide) dJ6_bitCount_0f7a4_18 ?_
  refine g_iand C dJ6_bitCount_0f7a4_21 ?_
  have f6 : (-2147483648 : Int) ≤ (bAnd (bUshr (w32 (a0 - (bAnd (bUshr a0 1) 1431655765))) 2) 858993459) ∧ (bAnd (bUshr (w32 (a0 - (bAnd (bUshr a0 1) 1431655765))) 2) 858993459) ≤ (2147483647 : Int) := inR_of _
  have f7 : (-2147483648 : Int) ≤ (w32 ((bAnd (w32 (a0 - (bAnd (bUshr a0 1) 1431655765))) 858993459) + (bAnd (bUshr (w32 (a0 - (bAnd (bUshr a0 1) 1431655765))) 2) 858993459))) ∧ (w32 ((bAnd (w32 (a0 - (bAnd (bUshr a0 1) 1431655765))) 858993459) + (bAnd (bUshr (w32 (a0 - (bAnd (bUshr a0 1) 1431655765))) 2) 858993459))) ≤ (2147483647 : Int) := w32_inR _
  refine g_iaddW C dJ6_bitCount_0f7a4_22 ?_
  refine g_istore_n C [(0, .inl (w32 ((bAnd (w32 (a0 - (bAnd (bUshr a0 1) 1431655765))) 858993459) + (bAnd (bUshr (w32 (a0 - (bAnd (bUshr a0 1) 1431655765))) 2) 858993459))))] rfl (by decide) rfl dJ6_bitCount_0f7a4_23 ?_
  refine g_iload_n C rfl 0 rfl dJ6_bitCount_0f7a4_24 ?_
  refine g_iload_n C rfl 0 rfl dJ6_bitCount_0f7a4_25 ?_
  refine g_iconst C dJ6_bitCount_0f7a4_26 ?_
  refine g_iushr C dJ6_bitCount_0f7a4_27 ?_
  have f8 : (-2147483648 : Int) ≤ (bUshr (w32 ((bAnd (w32 (a0 - (bAnd (bUshr a0 1) 1431655765))) 858993459) + (bAnd (bUshr (w32 (a0 - (bAnd (bUshr a0 1) 1431655765))) 2) 858993459))) 4) ∧ (bUshr (w32 ((bAnd (w32 (a0 - (bAnd (bUshr a0 1) 1431655765))) 858993459) + (bAnd (bUshr (w32 (a0 - (bAnd (bUshr a0 1) 1431655765))) 2) 858993459))) 4) ≤ (2147483647 : Int) := inR_of _
  have f9 : (-2147483648 : Int) ≤ (w32 ((w32 ((bAnd (w32 (a0 - (bAnd (bUshr a0 1) 1431655765))) 858993459) + (bAnd (bUshr (w32 (a0 - (bAnd (bUshr a0 1) 1431655765))) 2) 858993459))) + (bUshr (w32 ((bAnd (w32 (a0 - (bAnd (bUshr a0 1) 1431655765))) 858993459) + (bAnd (bUshr (w32 (a0 - (bAnd (bUshr a0 1) 1431655765))) 2) 858993459))) 4))) ∧ (w32 ((w32 ((bAnd (w32 (a0 - (bAnd (bUshr a0 1) 1431655765))) 858993459) + (bAnd (bUshr (w32 (a0 - (bAnd (bUshr a0 1) 1431655765))) 2) 858993459))) + (bUshr (w32 ((bAnd (w32 (a0 - (bAnd (bUshr a0 1) 1431655765))) 858993459) + (bAnd (bUshr (w32 (a0 - (bAnd (bUshr a0 1) 1431655765))) 2) 858993459))) 4))) ≤ (2147483647 : Int) := w32_inR _
  refine g_iaddW C dJ6_bitCount_0f7a4_28 ?_
  refine g_ldcw (z := 252645135) C kw_1201 (by decide) dJ6_bitCount_0f7a4_29 ?_
  refine g_iand C dJ6_bitCount_0f7a4_32 ?_
  have f10 : (-2147483648 : Int) ≤ (bAnd (w32 ((w32 ((bAnd (w32 (a0 - (bAnd (bUshr a0 1) 1431655765))) 858993459) + (bAnd (bUshr (w32 (a0 - (bAnd (bUshr a0 1) 1431655765))) 2) 858993459))) + (bUshr (w32 ((bAnd (w32 (a0 - (bAnd (bUshr a0 1) 1431655765))) 858993459) + (bAnd (bUshr (w32 (a0 - (bAnd (bUshr a0 1) 1431655765))) 2) 858993459))) 4))) 252645135) ∧ (bAnd (w32 ((w32 ((bAnd (w32 (a0 - (bAnd (bUshr a0 1) 1431655765))) 858993459) + (bAnd (bUshr (w32 (a0 - (bAnd (bUshr a0 1) 1431655765))) 2) 858993459))) + (bUshr (w32 ((bAnd (w32 (a0 - (bAnd (bUshr a0 1) 1431655765))) 858993459) + (bAnd (bUshr (w32 (a0 - (bAnd (bUshr a0 1) 1431655765))) 2) 858993459))) 4))) 252645135) ≤ (2147483647 : Int) := inR_of _
  refine g_istore_n C [(0, .inl (bAnd (w32 ((w32 ((bAnd (w32 (a0 - (bAnd (bUshr a0 1) 1431655765))) 858993459) + (bAnd (bUshr (w32 (a0 - (bAnd (bUshr a0 1) 1431655765))) 2) 858993459))) + (bUshr (w32 ((bAnd (w32 (a0 - (bAnd (bUshr a0 1) 1431655765))) 858993459) + (bAnd (bUshr (w32 (a0 - (bAnd (bUshr a0 1) 1431655765))) 2) 858993459))) 4))) 252645135))] rfl (by decide) rfl dJ6_bitCount_0f7a4_33 ?_
  refine g_iload_n C rfl 0 rfl dJ6_bitCount_0f7a4_34 ?_
  refine g_iload_n C rfl 0 rfl dJ6_bitCount_0f7a4_35 ?_
  refine g_bipush C (by decide) dJ6_bitCount_0f7a4_36 ?_
  refine g_iushr C dJ6_bitCount_0f7a4_38 ?_
  have f11 : (-2147483648 : Int) ≤ (bUshr (bAnd (w32 ((w32 ((bAnd (w32 (a0 - (bAnd (bUshr a0 1) 1431655765))) 858993459) + (bAnd (bUshr (w32 (a0 - (bAnd (bUshr a0 1) 1431655765))) 2) 858993459))) + (bUshr (w32 ((bAnd (w32 (a0 - (bAnd (bUshr a0 1) 1431655765))) 858993459) + (bAnd (bUshr (w32 (a0 - (bAnd (bUshr a0 1) 1431655765))) 2) 858993459))) 4))) 252645135) 8) ∧ (bUshr (bAnd (w32 ((w32 ((bAnd (w32 (a0 - (bAnd (bUshr a0 1) 1431655765))) 858993459) + (bAnd (bUshr (w32 (a0 - (bAnd (bUshr a0 1) 1431655765))) 2) 858993459))) + (bUshr (w32 ((bAnd (w32 (a0 - (bAnd (bUshr a0 1) 1431655765))) 858993459) + (bAnd (bUshr (w32 (a0 - (bAnd (bUshr a0 1) 1431655765))) 2) 858993459))) 4))) 252645135) 8) ≤ (2147483647 : Int) := inR_of _
  have f12 : (-2147483648 : Int) ≤ (w32 ((bAnd (w32 ((w32 ((bAnd (w32 (a0 - (bAnd (bUshr a0 1) 1431655765))) 858993459) + (bAnd (bUshr (w32 (a0 - (bAnd (bUshr a0 1) 1431655765))) 2) 858993459))) + (bUshr (w32 ((bAnd (w32 (a0 - (bAnd (bUshr a0 1) 1431655765))) 858993459) + (bAnd (bUshr (w32 (a0 - (bAnd (bUshr a0 1) 1431655765))) 2) 858993459))) 4))) 252645135) + (bUshr (bAnd (w32 ((w32 ((bAnd (w32 (a0 - (bAnd (bUshr a0 1) 1431655765))) 858993459) + (bAnd (bUshr (w32 (a0 - (bAnd (bUshr a0 1) 1431655765))) 2) 858993459))) + (bUshr (w32 ((bAnd (w32 (a0 - (bAnd (bUshr a0 1) 1431655765))) 858993459) + (bAnd (bUshr (w32 (a0 - (bAnd (bUshr a0 1) 1431655765))) 2) 858993459))) 4))) 252645135) 8))) ∧ (w32 ((bAnd (w32 ((w32 ((bAnd (w32 (a0 - (bAnd (bUshr a0 1) 1431655765))) 858993459) + (bAnd (bUshr (w32 (a0 - (bAnd (bUshr a0 1) 1431655765))) 2) 858993459))) + (bUshr (w32 ((bAnd (w32 (a0 - (bAnd (bUshr a0 1) 1431655765))) 858993459) + (bAnd (bUshr (w32 (a0 - (bAnd (bUshr a0 1) 1431655765))) 2) 858993459))) 4))) 252645135) + (bUshr (bAnd (w32 ((w32 ((bAnd (w32 (a0 - (bAnd (bUshr a0 1) 1431655765))) 858993459) + (bAnd (bUshr (w32 (a0 - (bAnd (bUshr a0 1) 1431655765))) 2) 858993459))) + (bUshr (w32 ((bAnd (w32 (a0 - (bAnd (bUshr a0 1) 1431655765))) 858993459) + (bAnd (bUshr (w32 (a0 - (bAnd (bUshr a0 1) 1431655765))) 2) 858993459))) 4))) 252645135) 8))) ≤ (2147483647 : Int) := w32_inR _
  refine g_iaddW C dJ6_bitCount_0f7a4_39 ?_
  refine g_istore_n C [(0, .inl (w32 ((bAnd (w32 ((w32 ((bAnd (w32 (a0 - (bAnd (bUshr a0 1) 1431655765))) 858993459) + (bAnd (bUshr (w32 (a0 - (bAnd (bUshr a0 1) 1431655765))) 2) 858993459))) + (bUshr (w32 ((bAnd (w32 (a0 - (bAnd (bUshr a0 1) 1431655765))) 858993459) + (bAnd (bUshr (w32 (a0 - (bAnd (bUshr a0 1) 1431655765))) 2) 858993459))) 4))) 252645135) + (bUshr (bAnd (w32 ((w32 ((bAnd (w32 (a0 - (bAnd (bUshr a0 1) 1431655765))) 858993459) + (bAnd (bUshr (w32 (a0 - (bAnd (bUshr a0 1) 1431655765))) 2) 858993459))) + (bUshr (w32 ((bAnd (w32 (a0 - (bAnd (bUshr a0 1) 1431655765))) 858993459) + (bAnd (bUshr (w32 (a0 - (bAnd (bUshr a0 1) 1431655765))) 2) 858993459))) 4))) 252645135) 8))))] rfl (by decide) rfl dJ6_bitCount_0f7a4_40 ?_
  refine g_iload_n C rfl 0 rfl dJ6_bitCount_0f7a4_41 ?_
  refine g_iload_n C rfl 0 rfl dJ6_bitCount_0f7a4_42 ?_
  refine g_bipush C (by decide) dJ6_bitCount_0f7a4_43 ?_
  refine g_iushr C dJ6_bitCount_0f7a4_45 ?_
  have f13 : (-2147483648 : Int) ≤ (bUshr (w32 ((bAnd (w32 ((w32 ((bAnd (w32 (a0 - (bAnd (bUshr a0 1) 1431655765))) 858993459) + (bAnd (bUshr (w32 (a0 - (bAnd (bUshr a0 1) 1431655765))) 2) 858993459))) + (bUshr (w32 ((bAnd (w32 (a0 - (bAnd (bUshr a0 1) 1431655765))) 858993459) + (bAnd (bUshr (w32 (a0 - (bAnd (bUshr a0 1) 1431655765))) 2) 858993459))) 4))) 252645135) + (bUshr (bAnd (w32 ((w32 ((bAnd (w32 (a0 - (bAnd (bUshr a0 1) 1431655765))) 858993459) + (bAnd (bUshr (w32 (a0 - (bAnd (bUshr a0 1) 1431655765))) 2) 858993459))) + (bUshr (w32 ((bAnd (w32 (a0 - (bAnd (bUshr a0 1) 1431655765))) 858993459) + (bAnd (bUshr (w32 (a0 - (bAnd (bUshr a0 1) 1431655765))) 2) 858993459))) 4))) 252645135) 8))) 16) ∧ (bUshr (w32 ((bAnd (w32 ((w32 ((bAnd (w32 (a0 - (bAnd (bUshr a0 1) 1431655765))) 858993459) + (bAnd (bUshr (w32 (a0 - (bAnd (bUshr a0 1) 1431655765))) 2) 858993459))) + (bUshr (w32 ((bAnd (w32 (a0 - (bAnd (bUshr a0 1) 1431655765))) 858993459) + (bAnd (bUshr (w32 (a0 - (bAnd (bUshr a0 1) 1431655765))) 2) 858993459))) 4))) 252645135) + (bUshr (bAnd (w32 ((w32 ((bAnd (w32 (a0 - (bAnd (bUshr a0 1) 1431655765))) 858993459) + (bAnd (bUshr (w32 (a0 - (bAnd (bUshr a0 1) 1431655765))) 2) 858993459))) + (bUshr (w32 ((bAnd (w32 (a0 - (bAnd (bUshr a0 1) 1431655765))) 858993459) + (bAnd (bUshr (w32 (a0 - (bAnd (bUshr a0 1) 1431655765))) 2) 858993459))) 4))) 252645135) 8))) 16) ≤ (2147483647 : Int) := inR_of _
  have f14 : (-2147483648 : Int) ≤ (w32 ((w32 ((bAnd (w32 ((w32 ((bAnd (w32 (a0 - (bAnd (bUshr a0 1) 1431655765))) 858993459) + (bAnd (bUshr (w32 (a0 - (bAnd (bUshr a0 1) 1431655765))) 2) 858993459))) + (bUshr (w32 ((bAnd (w32 (a0 - (bAnd (bUshr a0 1) 1431655765))) 858993459) + (bAnd (bUshr (w32 (a0 - (bAnd (bUshr a0 1) 1431655765))) 2) 858993459))) 4))) 252645135) + (bUshr (bAnd (w32 ((w32 ((bAnd (w32 (a0 - (bAnd (bUshr a0 1) 1431655765))) 858993459) + (bAnd (bUshr (w32 (a0 - (bAnd (bUshr a0 1) 1431655765))) 2) 858993459))) + (bUshr (w32 ((bAnd (w32 (a0 - (bAnd (bUshr a0 1) 1431655765))) 858993459) + (bAnd (bUshr (w32 (a0 - (bAnd (bUshr a0 1) 1431655765))) 2) 858993459))) 4))) 252645135) 8))) + (bUshr (w32 ((bAnd (w32 ((w32 ((bAnd (w32 (a0 - (bAnd (bUshr a0 1) 1431655765))) 858993459) + (bAnd (bUshr (w32 (a0 - (bAnd (bUshr a0 1) 1431655765))) 2) 858993459))) + (bUshr (w32 ((bAnd (w32 (a0 - (bAnd (bUshr a0 1) 1431655765))) 858993459) + (bAnd (bUshr (w32 (a0 - (bAnd (bUshr a0 1) 1431655765))) 2) 858993459))) 4))) 252645135) + (bUshr (bAnd (w32 ((w32 ((bAnd (w32 (a0 - (bAnd (bUshr a0 1) 1431655765))) 858993459) + (bAnd (bUshr (w32 (a0 - (bAnd (bUshr a0 1) 1431655765))) 2) 858993459))) + (bUshr (w32 ((bAnd (w32 (a0 - (bAnd (bUshr a0 1) 1431655765))) 858993459) + (bAnd (bUshr (w32 (a0 - (bAnd (bUshr a0 1) 1431655765))) 2) 858993459))) 4))) 252645135) 8))) 16))) ∧ (w32 ((w32 ((bAnd (w32 ((w32 ((bAnd (w32 (a0 - (bAnd (bUshr a0 1) 1431655765))) 858993459) + (bAnd (bUshr (w32 (a0 - (bAnd (bUshr a0 1) 1431655765))) 2) 858993459))) + (bUshr (w32 ((bAnd (w32 (a0 - (bAnd (bUshr a0 1) 1431655765))) 858993459) + (bAnd (bUshr (w32 (a0 - (bAnd (bUshr a0 1) 1431655765))) 2) 858993459))) 4))) 252645135) + (bUshr (bAnd (w32 ((w32 ((bAnd (w32 (a0 - (bAnd (bUshr a0 1) 1431655765))) 858993459) + (bAnd (bUshr (w32 (a0 - (bAnd (bUshr a0 1) 1431655765))) 2) 858993459))) + (bUshr (w32 ((bAnd (w32 (a0 - (bAnd (bUshr a0 1) 1431655765))) 858993459) + (bAnd (bUshr (w32 (a0 - (bAnd (bUshr a0 1) 1431655765))) 2) 858993459))) 4))) 252645135) 8))) + (bUshr (w32 ((bAnd (w32 ((w32 ((bAnd (w32 (a0 - (bAnd (bUshr a0 1) 1431655765))) 858993459) + (bAnd (bUshr (w32 (a0 - (bAnd (bUshr a0 1) 1431655765))) 2) 858993459))) + (bUshr (w32 ((bAnd (w32 (a0 - (bAnd (bUshr a0 1) 1431655765))) 858993459) + (bAnd (bUshr (w32 (a0 - (bAnd (bUshr a0 1) 1431655765))) 2) 858993459))) 4))) 252645135) + (bUshr (bAnd (w32 ((w32 ((bAnd (w32 (a0 - (bAnd (bUshr a0 1) 1431655765))) 858993459) + (bAnd (bUshr (w32 (a0 - (bAnd (bUshr a0 1) 1431655765))) 2) 858993459))) + (bUshr (w32 ((bAnd (w32 (a0 - (bAnd (bUshr a0 1) 1431655765))) 858993459) + (bAnd (bUshr (w32 (a0 - (bAnd (bUshr a0 1) 1431655765))) 2) 858993459))) 4))) 252645135) 8))) 16))) ≤ (2147483647 : Int) := w32_inR _
  refine g_iaddW C dJ6_bitCount_0f7a4_46 ?_
  refine g_istore_n C [(0, .inl (w32 ((w32 ((bAnd (w32 ((w32 ((bAnd (w32 (a0 - (bAnd (bUshr a0 1) 1431655765))) 858993459) + (bAnd (bUshr (w32 (a0 - (bAnd (bUshr a0 1) 1431655765))) 2) 858993459))) + (bUshr (w32 ((bAnd (w32 (a0 - (bAnd (bUshr a0 1) 1431655765))) 858993459) + (bAnd (bUshr (w32 (a0 - (bAnd (bUshr a0 1) 1431655765))) 2) 858993459))) 4))) 252645135) + (bUshr (bAnd (w32 ((w32 ((bAnd (w32 (a0 - (bAnd (bUshr a0 1) 1431655765))) 858993459) + (bAnd (bUshr (w32 (a0 - (bAnd (bUshr a0 1) 1431655765))) 2) 858993459))) + (bUshr (w32 ((bAnd (w32 (a0 - (bAnd (bUshr a0 1) 1431655765))) 858993459) + (bAnd (bUshr (w32 (a0 - (bAnd (bUshr a0 1) 1431655765))) 2) 858993459))) 4))) 252645135) 8))) + (bUshr (w32 ((bAnd (w32 ((w32 ((bAnd (w32 (a0 - (bAnd (bUshr a0 1) 1431655765))) 858993459) + (bAnd (bUshr (w32 (a0 - (bAnd (bUshr a0 1) 1431655765))) 2) 858993459))) + (bUshr (w32 ((bAnd (w32 (a0 - (bAnd (bUshr a0 1) 1431655765))) 858993459) + (bAnd (bUshr (w32 (a0 - (bAnd (bUshr a0 1) 1431655765))) 2) 858993459))) 4))) 252645135) + (bUshr (bAnd (w32 ((w32 ((bAnd (w32 (a0 - (bAnd (bUshr a0 1) 1431655765))) 858993459) + (bAnd (bUshr (w32 (a0 - (bAnd (bUshr a0 1) 1431655765))) 2) 858993459))) + (bUshr (w32 ((bAnd (w32 (a0 - (bAnd (bUshr a0 1) 1431655765))) 858993459) + (bAnd (bUshr (w32 (a0 - (bAnd (bUshr a0 1) 1431655765))) 2) 858993459))) 4))) 252645135) 8))) 16))))] rfl (by decide) rfl dJ6_bitCount_0f7a4_47 ?_
  refine g_iload_n C rfl 0 rfl dJ6_bitCount_0f7a4_48 ?_
  refine g_bipush C (by decide) dJ6_bitCount_0f7a4_49 ?_
  refine g_iand C dJ6_bitCount_0f7a4_51 ?_
  have f15 : (0 : Int) ≤ (bAnd (w32 ((w32 ((bAnd (w32 ((w32 ((bAnd (w32 (a0 - (bAnd (bUshr a0 1) 1431655765))) 858993459) + (bAnd (bUshr (w32 (a0 - (bAnd (bUshr a0 1) 1431655765))) 2) 858993459))) + (bUshr (w32 ((bAnd (w32 (a0 - (bAnd (bUshr a0 1) 1431655765))) 858993459) + (bAnd (bUshr (w32 (a0 - (bAnd (bUshr a0 1) 1431655765))) 2) 858993459))) 4))) 252645135) + (bUshr (bAnd (w32 ((w32 ((bAnd (w32 (a0 - (bAnd (bUshr a0 1) 1431655765))) 858993459) + (bAnd (bUshr (w32 (a0 - (bAnd (bUshr a0 1) 1431655765))) 2) 858993459))) + (bUshr (w32 ((bAnd (w32 (a0 - (bAnd (bUshr a0 1) 1431655765))) 858993459) + (bAnd (bUshr (w32 (a0 - (bAnd (bUshr a0 1) 1431655765))) 2) 858993459))) 4))) 252645135) 8))) + (bUshr (w32 ((bAnd (w32 ((w32 ((bAnd (w32 (a0 - (bAnd (bUshr a0 1) 1431655765))) 858993459) + (bAnd (bUshr (w32 (a0 - (bAnd (bUshr a0 1) 1431655765))) 2) 858993459))) + (bUshr (w32 ((bAnd (w32 (a0 - (bAnd (bUshr a0 1) 1431655765))) 858993459) + (bAnd (bUshr (w32 (a0 - (bAnd (bUshr a0 1) 1431655765))) 2) 858993459))) 4))) 252645135) + (bUshr (bAnd (w32 ((w32 ((bAnd (w32 (a0 - (bAnd (bUshr a0 1) 1431655765))) 858993459) + (bAnd (bUshr (w32 (a0 - (bAnd (bUshr a0 1) 1431655765))) 2) 858993459))) + (bUshr (w32 ((bAnd (w32 (a0 - (bAnd (bUshr a0 1) 1431655765))) 858993459) + (bAnd (bUshr (w32 (a0 - (bAnd (bUshr a0 1) 1431655765))) 2) 858993459))) 4))) 252645135) 8))) 16))) 63) ∧ (bAnd (w32 ((w32 ((bAnd (w32 ((w32 ((bAnd (w32 (a0 - (bAnd (bUshr a0 1) 1431655765))) 858993459) + (bAnd (bUshr (w32 (a0 - (bAnd (bUshr a0 1) 1431655765))) 2) 858993459))) + (bUshr (w32 ((bAnd (w32 (a0 - (bAnd (bUshr a0 1) 1431655765))) 858993459) + (bAnd (bUshr (w32 (a0 - (bAnd (bUshr a0 1) 1431655765))) 2) 858993459))) 4))) 252645135) + (bUshr (bAnd (w32 ((w32 ((bAnd (w32 (a0 - (bAnd (bUshr a0 1) 1431655765))) 858993459) + (bAnd (bUshr (w32 (a0 - (bAnd (bUshr a0 1) 1431655765))) 2) 858993459))) + (bUshr (w32 ((bAnd (w32 (a0 - (bAnd (bUshr a0 1) 1431655765))) 858993459) + (bAnd (bUshr (w32 (a0 - (bAnd (bUshr a0 1) 1431655765))) 2) 858993459))) 4))) 252645135) 8))) + (bUshr (w32 ((bAnd (w32 ((w32 ((bAnd (w32 (a0 - (bAnd (bUshr a0 1) 1431655765))) 858993459) + (bAnd (bUshr (w32 (a0 - (bAnd (bUshr a0 1) 1431655765))) 2) 858993459))) + (bUshr (w32 ((bAnd (w32 (a0 - (bAnd (bUshr a0 1) 1431655765))) 858993459) + (bAnd (bUshr (w32 (a0 - (bAnd (bUshr a0 1) 1431655765))) 2) 858993459))) 4))) 252645135) + (bUshr (bAnd (w32 ((w32 ((bAnd (w32 (a0 - (bAnd (bUshr a0 1) 1431655765))) 858993459) + (bAnd (bUshr (w32 (a0 - (bAnd (bUshr a0 1) 1431655765))) 2) 858993459))) + (bUshr (w32 ((bAnd (w32 (a0 - (bAnd (bUshr a0 1) 1431655765))) 858993459) + (bAnd (bUshr (w32 (a0 - (bAnd (bUshr a0 1) 1431655765))) 2) 858993459))) 4))) 252645135) 8))) 16))) 63) ≤ (63 : Int) := bAnd_63 _
  exact g_iret C hr rfl (iw f15 (by decide) (by decide)) ⟨O, Fx.rf, f15⟩ (by decide) (by decide) dJ6_bitCount_0f7a4_52
def wr_k_J13_bitCount_95d88 : List Nat := []
set_option maxRecDepth 100000 in
set_option maxHeartbeats 4000000 in
theorem k_J13_bitCount_95d88 (l : Launch) (D : va_G) (cy : Nat → ClassId) (w : Nat → Nat) (z0 : Nat)  {h : Hp} {a0 : Int}  (O : Okh h) (fa0 : (-9223372036854775808) ≤ a0 ∧ a0 ≤ 9223372036854775807) : MI l D cy w z0 yJ13_bitCount_95d88 cJ13_bitCount_95d88 2 (some .int) 0 0 0 0 [.inr (.inl a0)] h (fun v h1 => Okh h1 ∧ Fx wr_k_J13_bitCount_95d88 h h1 ∧ (0 ≤ v ∧ v ≤ 127)) := by
  refine hm_go (by decide +kernel) (Nat.le_of_ble_eq_true rfl) (fun p e s m below meth c C hr hn => ?_)
  refine g_lload_n C rfl 0 rfl dJ13_bitCount_95d88_0 ?_
  refine g_lload_n C rfl 0 rfl dJ13_bitCount_95d88_1 ?_
  refine g_iconst C dJ13_bitCount_95d88_2 ?_
  refine g_lushr C dJ13_bitCount_95d88_3 ?_
  have f1 : (-9223372036854775808 : Int) ≤ (lUshr a0 1) ∧ (lUshr a0 1) ≤ (9223372036854775807 : Int) := inL_of _
  refine g_ldc2 (z := 6148914691236517205) C kw_1156 (by decide) dJ13_bitCount_95d88_4 ?_
  refine g_land C dJ13_bitCount_95d88_7 ?_
  have f2 : (-9223372036854775808 : Int) ≤ (lAnd (lUshr a0 1) 6148914691236517205) ∧ (lAnd (lUshr a0 1) 6148914691236517205) ≤ (9223372036854775807 : Int) := inL_of _
  refine g_lsub C dJ13_bitCount_95d88_8 ?_
  have f3 : (-9223372036854775808 : Int) ≤ (lS a0 (lAnd (lUshr a0 1) 6148914691236517205)) ∧ (lS a0 (lAnd (lUshr a0 1) 6148914691236517205)) ≤ (9223372036854775807 : Int) := inL_of _
  refine g_lstore_n C [(0, .inr (.inl (lS a0 (lAnd (lUshr a0 1) 6148914691236517205))))] rfl (by decide) rfl dJ13_bitCount_95d88_9 ?_
  refine g_lload_n C rfl 0 rfl dJ13_bitCount_95d88_10 ?_
  refine g_ldc2 (z := 3689348814741910323) C kw_1157 (by decide) dJ13_bitCount_95d88_11 ?_
  refine g_land C dJ13_bitCount_95d88_14 ?_
  have f4 : (-9223372036854775808 : Int) ≤ (lAnd (lS a0 (lAnd (lUshr a0 1) 6148914691236517205)) 3689348814741910323) ∧ (lAnd (lS a0 (lAnd (lUshr a0 1) 6148914691236517205)) 3689348814741910323) ≤ (9223372036854775807 : Int) := inL_of _
  refine g_lload_n C rfl 0 rfl dJ13_bitCount_95d88_15 ?_
  refine g_iconst C dJ13_bitCount_95d88_16 ?_
  refine g_lushr C dJ13_bitCount_95d88_17 ?_
  have f5 : (-9223372036854775808 : Int) ≤ (lUshr (lS a0 (lAnd (lUshr a0 1) 6148914691236517205)) 2) ∧ (lUshr (lS a0 (lAnd (lUshr a0 1) 6148914691236517205)) 2) ≤ (9223372036854775807 : Int) := inL_of _
  refine g_ldc2 (z := 3689348814741910323) C kw_1157 (by decide) dJ13_bitCount_95d88_18 ?_
  refine g_land C dJ13_bitCount_95d88_21 ?_
  have f6 : (-9223372036854775808 : Int) ≤ (lAnd (lUshr (lS a0 (lAnd (lUshr a0 1) 6148914691236517205)) 2) 3689348814741910323) ∧ (lAnd (lUshr (lS a0 (lAnd (lUshr a0 1) 6148914691236517205)) 2) 3689348814741910323) ≤ (9223372036854775807 : Int) := inL_of _
  refine g_ladd C dJ13_bitCount_95d88_22 ?_
  have f7 : (-9223372036854775808 : Int) ≤ (lA (lAnd (lS a0 (lAnd (lUshr a0 1) 6148914691236517205)) 3689348814741910323) (lAnd (lUshr (lS a0 (lAnd (lUshr a0 1) 6148914691236517205)) 2) 3689348814741910323)) ∧ (lA (lAnd (lS a0 (lAnd (lUshr a0 1) 6148914691236517205)) 3689348814741910323) (lAnd (lUshr (lS a0 (lAnd (lUshr a0 1) 6148914691236517205)) 2) 3689348814741910323)) ≤ (9223372036854775807 : Int) := inL_of _
  refine g_lstore_n C [(0, .inr (.inl (lA (lAnd (lS a0 (lAnd (lUshr a0 1) 6148914691236517205)) 3689348814741910323) (lAnd (lUshr (lS a0 (lAnd (lUshr a0 1) 6148914691236517205)) 2) 3689348814741910323))))] rfl (by decide) rfl dJ13_bitCount_95d88_23 ?_
  refine g_lload_n C rfl 0 rfl dJ13_bitCount_95d88_24 ?_
  refine g_lload_n C rfl 0 rfl dJ13_bitCount_95d88_25 ?_
  refine g_iconst C dJ13_bitCount_95d88_26 ?_
  refine g_lushr C dJ13_bitCount_95d88_27 ?_
  have f8 : (-9223372036854775808 : Int) ≤ (lUshr (lA (lAnd (lS a0 (lAnd (lUshr a0 1) 6148914691236517205)) 3689348814741910323) (lAnd (lUshr (lS a0 (lAnd (lUshr a0 1) 6148914691236517205)) 2) 3689348814741910323)) 4) ∧ (lUshr (lA (lAnd (lS a0 (lAnd (lUshr a0 1) 6148914691236517205)) 3689348814741910323) (lAnd (lUshr (lS a0 (lAnd (lUshr a0 1) 6148914691236517205)) 2) 3689348814741910323)) 4) ≤ (9223372036854775807 : Int) := inL_of _
  refine g_ladd C dJ13_bitCount_95d88_28 ?_
  have f9 : (-9223372036854775808 : Int) ≤ (lA (lA (lAnd (lS a0 (lAnd (lUshr a0 1) 6148914691236517205)) 3689348814741910323) (lAnd (lUshr (lS a0 (lAnd (lUshr a0 1) 6148914691236517205)) 2) 3689348814741910323)) (lUshr (lA (lAnd (lS a0 (lAnd (lUshr a0 1) 6148914691236517205)) 3689348814741910323) (lAnd (lUshr (lS a0 (lAnd (lUshr a0 1) 6148914691236517205)) 2) 3689348814741910323)) 4)) ∧ (lA (lA (lAnd (lS a0 (lAnd (lUshr a0 1) 6148914691236517205)) 3689348814741910323) (lAnd (lUshr (lS a0 (lAnd (lUshr a0 1) 6148914691236517205)) 2) 3689348814741910323)) (lUshr (lA (lAnd (lS a0 (lAnd (lUshr a0 1) 6148914691236517205)) 3689348814741910323) (lAnd (lUshr (lS a0 (lAnd (lUshr a0 1) 6148914691236517205)) 2) 3689348814741910323)) 4)) ≤ (9223372036854775807 : Int) := inL_of _
  refine g_ldc2 (z := 1085102592571150095) C kw_1158 (by decide) dJ13_bitCount_95d88_29 ?_
  refine g_land C dJ13_bitCount_95d88_32 ?_
  have f10 : (-9223372036854775808 : Int) ≤ (lAnd (lA (lA (lAnd (lS a0 (lAnd (lUshr a0 1) 6148914691236517205)) 3689348814741910323) (lAnd (lUshr (lS a0 (lAnd (lUshr a0 1) 6148914691236517205)) 2) 3689348814741910323)) (lUshr (lA (lAnd (lS a0 (lAnd (lUshr a0 1) 6148914691236517205)) 3689348814741910323) (lAnd (lUshr (lS a0 (lAnd (lUshr a0 1) 6148914691236517205)) 2) 3689348814741910323)) 4)) 1085102592571150095) ∧ (lAnd (lA (lA (lAnd (lS a0 (lAnd (lUshr a0 1) 6148914691236517205)) 3689348814741910323) (lAnd (lUshr (lS a0 (lAnd (lUshr a0 1) 6148914691236517205)) 2) 3689348814741910323)) (lUshr (lA (lAnd (lS a0 (lAnd (lUshr a0 1) 6148914691236517205)) 3689348814741910323) (lAnd (lUshr (lS a0 (lAnd (lUshr a0 1) 6148914691236517205)) 2) 3689348814741910323)) 4)) 1085102592571150095) ≤ (9223372036854775807 : Int) := inL_of _
  refine g_lstore_n C [(0, .inr (.inl (lAnd (lA (lA (lAnd (lS a0 (lAnd (lUshr a0 1) 6148914691236517205)) 3689348814741910323) (lAnd (lUshr (lS a0 (lAnd (lUshr a0 1) 6148914691236517205)) 2) 3689348814741910323)) (lUshr (lA (lAnd (lS a0 (lAnd (lUshr a0 1) 6148914691236517205)) 3689348814741910323) (lAnd (lUshr (lS a0 (lAnd (lUshr a0 1) 6148914691236517205)) 2) 3689348814741910323)) 4)) 1085102592571150095)))] rfl (by decide) rfl dJ13_bitCount_95d88_33 ?_
  refine g_lload_n C rfl 0 rfl dJ13_bitCount_95d88_34 ?_
  refine g_lload_n C rfl 0 rfl dJ13_bitCount_95d88_35 ?_
  refine g_bipush C (by decide) dJ13_bitCount_95d88_36 ?_
  refine g_lushr C dJ13_bitCount_95d88_38 ?_
  have f11 : (-9223372036854775808 : Int) ≤ (lUshr (lAnd (lA (lA (lAnd (lS a0 (lAnd (lUshr a0 1) 6148914691236517205)) 3689348814741910323) (lAnd (lUshr (lS a0 (lAnd (lUshr a0 1) 6148914691236517205)) 2) 3689348814741910323)) (lUshr (lA (lAnd (lS a0 (lAnd (lUshr a0 1) 6148914691236517205)) 3689348814741910323) (lAnd (lUshr (lS a0 (lAnd (lUshr a0 1) 6148914691236517205)) 2) 3689348814741910323)) 4)) 1085102592571150095) 8) ∧ (lUshr (lAnd (lA (lA (lAnd (lS a0 (lAnd (lUshr a0 1) 6148914691236517205)) 3689348814741910323) (lAnd (lUshr (lS a0 (lAnd (lUshr a0 1) 6148914691236517205)) 2) 3689348814741910323)) (lUshr (lA (lAnd (lS a0 (lAnd (lUshr a0 1) 6148914691236517205)) 3689348814741910323) (lAnd (lUshr (lS a0 (lAnd (lUshr a0 1) 6148914691236517205)) 2) 3689348814741910323)) 4)) 1085102592571150095) 8) ≤ (9223372036854775807 : Int) := inL_of _
  refine g_ladd C dJ13_bitCount_95d88_39 ?_
  have f12 : (-9223372036854775808 : Int) ≤ (lA (lAnd (lA (lA (lAnd (lS a0 (lAnd (lUshr a0 1) 6148914691236517205)) 3689348814741910323) (lAnd (lUshr (lS a0 (lAnd (lUshr a0 1) 6148914691236517205)) 2) 3689348814741910323)) (lUshr (lA (lAnd (lS a0 (lAnd (lUshr a0 1) 6148914691236517205)) 3689348814741910323) (lAnd (lUshr (lS a0 (lAnd (lUshr a0 1) 6148914691236517205)) 2) 3689348814741910323)) 4)) 1085102592571150095) (lUshr (lAnd (lA (lA (lAnd (lS a0 (lAnd (lUshr a0 1) 6148914691236517205)) 3689348814741910323) (lAnd (lUshr (lS a0 (lAnd (lUshr a0 1) 6148914691236517205)) 2) 3689348814741910323)) (lUshr (lA (lAnd (lS a0 (lAnd (lUshr a0 1) 6148914691236517205)) 3689348814741910323) (lAnd (lUshr (lS a0 (lAnd (lUshr a0 1) 6148914691236517205)) 2) 3689348814741910323)) 4)) 1085102592571150095) 8)) ∧ (lA (lAnd (lA (lA (lAnd (lS a0 (lAnd (lUshr a0 1) 6148914691236517205)) 3689348814741910323) (lAnd (lUshr (lS a0 (lAnd (lUshr a0 1) 6148914691236517205)) 2) 3689348814741910323)) (lUshr (lA (lAnd (lS a0 (lAnd (lUshr a0 1) 6148914691236517205)) 3689348814741910323) (lAnd (lUshr (lS a0 (lAnd (lUshr a0 1) 6148914691236517205)) 2) 3689348814741910323)) 4)) 1085102592571150095) (lUshr (lAnd (lA (lA (lAnd (lS a0 (lAnd (lUshr a0 1) 6148914691236517205)) 3689348814741910323) (lAnd (lUshr (lS a0 (lAnd (lUshr a0 1) 6148914691236517205)) 2) 3689348814741910323)) (lUshr (lA (lAnd (lS a0 (lAnd (lUshr a0 1) 6148914691236517205)) 3689348814741910323) (lAnd (lUshr (lS a0 (lAnd (lUshr a0 1) 6148914691236517205)) 2) 3689348814741910323)) 4)) 1085102592571150095) 8)) ≤ (9223372036854775807 : Int) := inL_of _
  refine g_lstore_n C [(0, .inr (.inl (lA (lAnd (lA (lA (lAnd (lS a0 (lAnd (lUshr a0 1) 6148914691236517205)) 3689348814741910323) (lAnd (lUshr (lS a0 (lAnd (lUshr a0 1) 6148914691236517205)) 2) 3689348814741910323)) (lUshr (lA (lAnd (lS a0 (lAnd (lUshr a0 1) 6148914691236517205)) 3689348814741910323) (lAnd (lUshr (lS a0 (lAnd (lUshr a0 1) 6148914691236517205)) 2) 3689348814741910323)) 4)) 1085102592571150095) (lUshr (lAnd (lA (lA (lAnd (lS a0 (lAnd (lUshr a0 1) 6148914691236517205)) 3689348814741910323) (lAnd (lUshr (lS a0 (lAnd (lUshr a0 1) 6148914691236517205)) 2) 3689348814741910323)) (lUshr (lA (lAnd (lS a0 (lAnd (lUshr a0 1) 6148914691236517205)) 3689348814741910323) (lAnd (lUshr (lS a0 (lAnd (lUshr a0 1) 6148914691236517205)) 2) 3689348814741910323)) 4)) 1085102592571150095) 8))))] rfl (by decide) rfl dJ13_bitCount_95d88_40 ?_
  refine g_lload_n C rfl 0 rfl dJ13_bitCount_95d88_41 ?_
  refine g_lload_n C rfl 0 rfl dJ13_bitCount_95d88_42 ?_
  refine g_bipush C (by decide) dJ13_bitCount_95d88_43 ?_
  refine g_lushr C dJ13_bitCount_95d88_45 ?_
  have f13 : (-9223372036854775808 : Int) ≤ (lUshr (lA (lAnd (lA (lA (lAnd (lS a0 (lAnd (lUshr a0 1) 6148914691236517205)) 3689348814741910323) (lAnd (lUshr (lS a0 (lAnd (lUshr a0 1) 6148914691236517205)) 2) 3689348814741910323)) (lUshr (lA (lAnd (lS a0 (lAnd (lUshr a0 1) 6148914691236517205)) 3689348814741910323) (lAnd (lUshr (lS a0 (lAnd (lUshr a0 1) 6148914691236517205)) 2) 3689348814741910323)) 4)) 1085102592571150095) (lUshr (lAnd (lA (lA (lAnd (lS a0 (lAnd (lUshr a0 1) 6148914691236517205)) 3689348814741910323) (lAnd (lUshr (lS a0 (lAnd (lUshr a0 1) 6148914691236517205)) 2) 3689348814741910323)) (lUshr (lA (lAnd (lS a0 (lAnd (lUshr a0 1) 6148914691236517205)) 3689348814741910323) (lAnd (lUshr (lS a0 (lAnd (lUshr a0 1) 6148914691236517205)) 2) 3689348814741910323)) 4)) 1085102592571150095) 8)) 16) ∧ (lUshr (lA (lAnd (lA (lA (lAnd (lS a0 (lAnd (lUshr a0 1) 6148914691236517205)) 3689348814741910323) (lAnd (lUshr (lS a0 (lAnd (lUshr a0 1) 6148914691236517205)) 2) 3689348814741910323)) (lUshr (lA (lAnd (lS a0 (lAnd (lUshr a0 1) 6148914691236517205)) 3689348814741910323) (lAnd (lUshr (lS a0 (lAnd (lUshr a0 1) 6148914691236517205)) 2) 3689348814741910323)) 4)) 1085102592571150095) (lUshr (lAnd (lA (lA (lAnd (lS a0 (lAnd (lUshr a0 1) 6148914691236517205)) 3689348814741910323) (lAnd (lUshr (lS a0 (lAnd (lUshr a0 1) 6148914691236517205)) 2) 3689348814741910323)) (lUshr (lA (lAnd (lS a0 (lAnd (lUshr a0 1) 6148914691236517205)) 3689348814741910323) (lAnd (lUshr (lS a0 (lAnd (lUshr a0 1) 6148914691236517205)) 2) 3689348814741910323)) 4)) 1085102592571150095) 8)) 16) ≤ (9223372036854775807 : Int) := inL_of _
  refine g_ladd C dJ13_bitCount_95d88_46 ?_
  have f14 : (-9223372036854775808 : Int) ≤ (lA (lA (lAnd (lA (lA (lAnd (lS a0 (lAnd (lUshr a0 1) 6148914691236517205)) 3689348814741910323) (lAnd (lUshr (lS a0 (lAnd (lUshr a0 1) 6148914691236517205)) 2) 3689348814741910323)) (lUshr (lA (lAnd (lS a0 (lAnd (lUshr a0 1) 6148914691236517205)) 3689348814741910323) (lAnd (lUshr (lS a0 (lAnd (lUshr a0 1) 6148914691236517205)) 2) 3689348814741910323)) 4)) 1085102592571150095) (lUshr (lAnd (lA (lA (lAnd (lS a0 (lAnd (lUshr a0 1) 6148914691236517205)) 3689348814741910323) (lAnd (lUshr (lS a0 (lAnd (lUshr a0 1) 6148914691236517205)) 2) 3689348814741910323)) (lUshr (lA (lAnd (lS a0 (lAnd (lUshr a0 1) 6148914691236517205)) 3689348814741910323) (lAnd (lUshr (lS a0 (lAnd (lUshr a0 1) 6148914691236517205)) 2) 3689348814741910323)) 4)) 1085102592571150095) 8)) (lUshr (lA (lAnd (lA (lA (lAnd (lS a0 (lAnd (lUshr a0 1) 6148914691236517205)) 3689348814741910323) (lAnd (lUshr (lS a0 (lAnd (lUshr a0 1) 6148914691236517205)) 2) 3689348814741910323)) (lUshr (lA (lAnd (lS a0 (lAnd (lUshr a0 1) 6148914691236517205)) 3689348814741910323) (lAnd (lUshr (lS a0 (lAnd (lUshr a0 1) 6148914691236517205)) 2) 3689348814741910323)) 4)) 1085102592571150095) (lUshr (lAnd (lA (lA (lAnd (lS a0 (lAnd (lUshr a0 1) 6148914691236517205)) 3689348814741910323) (lAnd (lUshr (lS a0 (lAnd (lUshr a0 1) 6148914691236517205)) 2) 3689348814741910323)) (lUshr (lA (lAnd (lS a0 (lAnd (lUshr a0 1) 6148914691236517205)) 3689348814741910323) (lAnd (lUshr (lS a0 (lAnd (lUshr a0 1) 6148914691236517205)) 2) 3689348814741910323)) 4)) 1085102592571150095) 8)) 16)) ∧ (lA (lA (lAnd (lA (lA (lAnd (lS a0 (lAnd (lUshr a0 1) 6148914691236517205)) 3689348814741910323) (lAnd (lUshr (lS a0 (lAnd (lUshr a0 1) 6148914691236517205)) 2) 3689348814741910323)) (lUshr (lA (lAnd (lS a0 (lAnd (lUshr a0 1) 6148914691236517205)) 3689348814741910323) (lAnd (lUshr (lS a0 (lAnd (lUshr a0 1) 6148914691236517205)) 2) 3689348814741910323)) 4)) 1085102592571150095) (lUshr (lAnd (lA (lA (lAnd (lS a0 (lAnd (lUshr a0 1) 6148914691236517205)) 3689348814741910323) (lAnd (lUshr (lS a0 (lAnd (lUshr a0 1) 6148914691236517205)) 2) 3689348814741910323)) (lUshr (lA (lAnd (lS a0 (lAnd (lUshr a0 1) 6148914691236517205)) 3689348814741910323) (lAnd (lUshr (lS a0 (lAnd (lUshr a0 1) 6148914691236517205)) 2) 3689348814741910323)) 4)) 1085102592571150095) 8)) (lUshr (lA (lAnd (lA (lA (lAnd (lS a0 (lAnd (lUshr a0 1) 6148914691236517205)) 3689348814741910323) (lAnd (lUshr (lS a0 (lAnd (lUshr a0 1) 6148914691236517205)) 2) 3689348814741910323)) (lUshr (lA (lAnd (lS a0 (lAnd (lUshr a0 1) 6148914691236517205)) 3689348814741910323) (lAnd (lUshr (lS a0 (lAnd (lUshr a0 1) 6148914691236517205)) 2) 3689348814741910323)) 4)) 1085102592571150095) (lUshr (lAnd (lA (lA (lAnd (lS a0 (lAnd (lUshr a0 1) 6148914691236517205)) 3689348814741910323) (lAnd (lUshr (lS a0 (lAnd (lUshr a0 1) 6148914691236517205)) 2) 3689348814741910323)) (lUshr (lA (lAnd (lS a0 (lAnd (lUshr a0 1) 6148914691236517205)) 3689348814741910323) (lAnd (lUshr (lS a0 (lAnd (lUshr a0 1) 6148914691236517205)) 2) 3689348814741910323)) 4)) 1085102592571150095) 8)) 16)) ≤ (9223372036854775807 : Int) := inL_of _
  refine g_lstore_n C [(0, .inr (.inl (lA (lA (lAnd (lA (lA (lAnd (lS a0 (lAnd (lUshr a0 1) 6148914691236517205)) 3689348814741910323) (lAnd (lUshr (lS a0 (lAnd (lUshr a0 1) 6148914691236517205)) 2) 3689348814741910323)) (lUshr (lA (lAnd (lS a0 (lAnd (lUshr a0 1) 6148914691236517205)) 3689348814741910323) (lAnd (lUshr (lS a0 (lAnd (lUshr a0 1) 6148914691236517205)) 2) 3689348814741910323)) 4)) 1085102592571150095) (lUshr (lAnd (lA (lA (lAnd (lS a0 (lAnd (lUshr a0 1) 6148914691236517205)) 3689348814741910323) (lAnd (lUshr (lS a0 (lAnd (lUshr a0 1) 6148914691236517205)) 2) 3689348814741910323)) (lUshr (lA (lAnd (lS a0 (lAnd (lUshr a0 1) 6148914691236517205)) 3689348814741910323) (lAnd (lUshr (lS a0 (lAnd (lUshr a0 1) 6148914691236517205)) 2) 3689348814741910323)) 4)) 1085102592571150095) 8)) (lUshr (lA (lAnd (lA (lA (lAnd (lS a0 (lAnd (lUshr a0 1) 6148914691236517205)) 3689348814741910323) (lAnd (lUshr (lS a0 (lAnd (lUshr a0 1) 6148914691236517205)) 2) 3689348814741910323)) (lUshr (lA (lAnd (lS a0 (lAnd (lUshr a0 1) 6148914691236517205)) 3689348814741910323) (lAnd (lUshr (lS a0 (lAnd (lUshr a0 1) 6148914691236517205)) 2) 3689348814741910323)) 4)) 1085102592571150095) (lUshr (lAnd (lA (lA (lAnd (lS a0 (lAnd (lUshr a0 1) 6148914691236517205)) 3689348814741910323) (lAnd (lUshr (lS a0 (lAnd (lUshr a0 1) 6148914691236517205)) 2) 3689348814741910323)) (lUshr (lA (lAnd (lS a0 (lAnd (lUshr a0 1) 6148914691236517205)) 3689348814741910323) (lAnd (lUshr (lS a0 (lAnd (lUshr a0 1) 6148914691236517205)) 2) 3689348814741910323)) 4)) 1085102592571150095) 8)) 16))))] rfl (by decide) rfl dJ13_bitCount_95d88_47 ?_
  refine g_lload_n C rfl 0 rfl dJ13_bitCount_95d88_48 ?_
  refine g_lload_n C rfl 0 rfl dJ13_bitCount_95d88_49 ?_
  refine g_bipush C (by decide) dJ13_bitCount_95d88_50 ?_
  refine g_lushr C dJ13_bitCount_95d88_52 ?_
  have f15 : (-9223372036854775808 : Int) ≤ (lUshr (lA (lA (lAnd (lA (lA (lAnd (lS a0 (lAnd (lUshr a0 1) 6148914691236517205)) 3689348814741910323) (lAnd (lUshr (lS a0 (lAnd (lUshr a0 1) 6148914691236517205)) 2) 3689348814741910323)) (lUshr (lA (lAnd (lS a0 (lAnd (lUshr a0 1) 6148914691236517205)) 3689348814741910323) (lAnd (lUshr (lS a0 (lAnd (lUshr a0 1) 6148914691236517205)) 2) 3689348814741910323)) 4)) 1085102592571150095) (lUshr (lAnd (lA (lA (lAnd (lS a0 (lAnd (lUshr a0 1) 6148914691236517205)) 3689348814741910323) (lAnd (lUshr (lS a0 (lAnd (lUshr a0 1) 6148914691236517205)) 2) 3689348814741910323)) (lUshr (lA (lAnd (lS a0 (lAnd (lUshr a0 1) 6148914691236517205)) 3689348814741910323) (lAnd (lUshr (lS a0 (lAnd (lUshr a0 1) 6148914691236517205)) 2) 3689348814741910323)) 4)) 1085102592571150095) 8)) (lUshr (lA (lAnd (lA (lA (lAnd (lS a0 (lAnd (lUshr a0 1) 6148914691236517205)) 3689348814741910323) (lAnd (lUshr (lS a0 (lAnd (lUshr a0 1) 6148914691236517205)) 2) 3689348814741910323)) (lUshr (lA (lAnd (lS a0 (lAnd (lUshr a0 1) 6148914691236517205)) 3689348814741910323) (lAnd (lUshr (lS a0 (lAnd (lUshr a0 1) 6148914691236517205)) 2) 3689348814741910323)) 4)) 1085102592571150095) (lUshr (lAnd (lA (lA (lAnd (lS a0 (lAnd (lUshr a0 1) 6148914691236517205)) 3689348814741910323) (lAnd (lUshr (lS a0 (lAnd (lUshr a0 1) 6148914691236517205)) 2) 3689348814741910323)) (lUshr (lA (lAnd (lS a0 (lAnd (lUshr a0 1) 6148914691236517205)) 3689348814741910323) (lAnd (lUshr (lS a0 (lAnd (lUshr a0 1) 6148914691236517205)) 2) 3689348814741910323)) 4)) 1085102592571150095) 8)) 16)) 32) ∧ (lUshr (lA (lA (lAnd (lA (lA (lAnd (lS a0 (lAnd (lUshr a0 1) 6148914691236517205)) 3689348814741910323) (lAnd (lUshr (lS a0 (lAnd (lUshr a0 1) 6148914691236517205)) 2) 3689348814741910323)) (lUshr (lA (lAnd (lS a0 (lAnd (lUshr a0 1) 6148914691236517205)) 3689348814741910323) (lAnd (lUshr (lS a0 (lAnd (lUshr a0 1) 6148914691236517205)) 2) 3689348814741910323)) 4)) 1085102592571150095) (lUshr (lAnd (lA (lA (lAnd (lS a0 (lAnd (lUshr a0 1) 6148914691236517205)) 3689348814741910323) (lAnd (lUshr (lS a0 (lAnd (lUshr a0 1) 6148914691236517205)) 2) 3689348814741910323)) (lUshr (lA (lAnd (lS a0 (lAnd (lUshr a0 1) 6148914691236517205)) 3689348814741910323) (lAnd (lUshr (lS a0 (lAnd (lUshr a0 1) 6148914691236517205)) 2) 3689348814741910323)) 4)) 1085102592571150095) 8)) (lUshr (lA (lAnd (lA (lA (lAnd (lS a0 (lAnd (lUshr a0 1) 6148914691236517205)) 3689348814741910323) (lAnd (lUshr (lS a0 (lAnd (lUshr a0 1) 6148914691236517205)) 2) 3689348814741910323)) (lUshr (lA (lAnd (lS a0 (lAnd (lUshr a0 1) 6148914691236517205)) 3689348814741910323) (lAnd (lUshr (lS a0 (lAnd (lUshr a0 1) 6148914691236517205)) 2) 3689348814741910323)) 4)) 1085102592571150095) (lUshr (lAnd (lA (lA (lAnd (lS a0 (lAnd (lUshr a0 1) 6148914691236517205)) 3689348814741910323) (lAnd (lUshr (lS a0 (lAnd (lUshr a0 1) 6148914691236517205)) 2) 3689348814741910323)) (lUshr (lA (lAnd (lS a0 (lAnd (lUshr a0 1) 6148914691236517205)) 3689348814741910323) (lAnd (lUshr (lS a0 (lAnd (lUshr a0 1) 6148914691236517205)) 2) 3689348814741910323)) 4)) 1085102592571150095) 8)) 16)) 32) ≤ (9223372036854775807 : Int) := inL_of _
  refine g_ladd C dJ13_bitCount_95d88_53 ?_
  have f16 : (-9223372036854775808 : Int) ≤ (lA (lA (lA (lAnd (lA (lA (lAnd (lS a0 (lAnd (lUshr a0 1) 6148914691236517205)) 3689348814741910323) (lAnd (lUshr (lS a0 (lAnd (lUshr a0 1) 6148914691236517205)) 2) 3689348814741910323)) (lUshr (lA (lAnd (lS a0 (lAnd (lUshr a0 1) 6148914691236517205)) 3689348814741910323) (lAnd (lUshr (lS a0 (lAnd (lUshr a0 1) 6148914691236517205)) 2) 3689348814741910323)) 4)) 1085102592571150095) (lUshr (lAnd (lA (lA (lAnd (lS a0 (lAnd (lUshr a0 1) 6148914691236517205)) 3689348814741910323) (lAnd (lUshr (lS a0 (lAnd (lUshr a0 1) 6148914691236517205)) 2) 3689348814741910323)) (lUshr (lA (lAnd (lS a0 (lAnd (lUshr a0 1) 6148914691236517205)) 3689348814741910323) (lAnd (lUshr (lS a0 (lAnd (lUshr a0 1) 6148914691236517205)) 2) 3689348814741910323)) 4)) 1085102592571150095) 8)) (lUshr (lA (lAnd (lA (lA (lAnd (lS a0 (lAnd (lUshr a0 1) 6148914691236517205)) 3689348814741910323) (lAnd (lUshr (lS a0 (lAnd (lUshr a0 1) 6148914691236517205)) 2) 3689348814741910323)) (lUshr (lA (lAnd (lS a0 (lAnd (lUshr a0 1) 6148914691236517205)) 3689348814741910323) (lAnd (lUshr (lS a0 (lAnd (lUshr a0 1) 6148914691236517205)) 2) 3689348814741910323)) 4)) 1085102592571150095) (lUshr (lAnd (lA (lA (lAnd (lS a0 (lAnd (lUshr a0 1) 6148914691236517205)) 3689348814741910323) (lAnd (lUshr (lS a0 (lAnd (lUshr a0 1) 6148914691236517205)) 2) 3689348814741910323)) (lUshr (lA (lAnd (lS a0 (lAnd (lUshr a0 1) 6148914691236517205)) 3689348814741910323) (lAnd (lUshr (lS a0 (lAnd (lUshr a0 1) 6148914691236517205)) 2) 3689348814741910323)) 4)) 1085102592571150095) 8)) 16)) (lUshr (lA (lA (lAnd (lA (lA (lAnd (lS a0 (lAnd (lUshr a0 1) 6148914691236517205)) 3689348814741910323) (lAnd (lUshr (lS a0 (lAnd (lUshr a0 1) 6148914691236517205)) 2) 3689348814741910323)) (lUshr (lA (lAnd (lS a0 (lAnd (lUshr a0 1) 6148914691236517205)) 3689348814741910323) (lAnd (lUshr (lS a0 (lAnd (lUshr a0 1) 6148914691236517205)) 2) 3689348814741910323)) 4)) 1085102592571150095) (lUshr (lAnd (lA (lA (lAnd (lS a0 (lAnd (lUshr a0 1) 6148914691236517205)) 3689348814741910323) (lAnd (lUshr (lS a0 (lAnd (lUshr a0 1) 6148914691236517205)) 2) 3689348814741910323)) (lUshr (lA (lAnd (lS a0 (lAnd (lUshr a0 1) 6148914691236517205)) 3689348814741910323) (lAnd (lUshr (lS a0 (lAnd (lUshr a0 1) 6148914691236517205)) 2) 3689348814741910323)) 4)) 1085102592571150095) 8)) (lUshr (lA (lAnd (lA (lA (lAnd (lS a0 (lAnd (lUshr a0 1) 6148914691236517205)) 3689348814741910323) (lAnd (lUshr (lS a0 (lAnd (lUshr a0 1) 6148914691236517205)) 2) 3689348814741910323)) (lUshr (lA (lAnd (lS a0 (lAnd (lUshr a0 1) 6148914691236517205)) 3689348814741910323) (lAnd (lUshr (lS a0 (lAnd (lUshr a0 1) 6148914691236517205)) 2) 3689348814741910323)) 4)) 1085102592571150095) (lUshr (lAnd (lA (lA (lAnd (lS a0 (lAnd (lUshr a0 1) 6148914691236517205)) 3689348814741910323) (lAnd (lUshr (lS a0 (lAnd (lUshr a0 1) 6148914691236517205)) 2) 3689348814741910323)) (lUshr (lA (lAnd (lS a0 (lAnd (lUshr a0 1) 6148914691236517205)) 3689348814741910323) (lAnd (lUshr (lS a0 (lAnd (lUshr a0 1) 6148914691236517205)) 2) 3689348814741910323)) 4)) 1085102592571150095) 8)) 16)) 32)) ∧ (lA (lA (lA (lAnd (lA (lA (lAnd (lS a0 (lAnd (lUshr a0 1) 6148914691236517205)) 3689348814741910323) (lAnd (lUshr (lS a0 (lAnd (lUshr a0 1) 6148914691236517205)) 2) 3689348814741910323)) (lUshr (lA (lAnd (lS a0 (lAnd (lUshr a0 1) 6148914691236517205)) 3689348814741910323) (lAnd (lUshr (lS a0 (lAnd (lUshr a0 1) 6148914691236517205)) 2) 3689348814741910323)) 4)) 1085102592571150095) (lUshr (lAnd (lA (lA (lAnd (lS a0 (lAnd (lUshr a0 1) 6148914691236517205)) 3689348814741910323) (lAnd (lUshr (lS a0 (lAnd (lUshr a0 1) 6148914691236517205)) 2) 3689348814741910323)) (lUshr (lA (lAnd (lS a0 (lAnd (lUshr a0 1) 6148914691236517205)) 3689348814741910323) (lAnd (lUshr (lS a0 (lAnd (lUshr a0 1) 6148914691236517205)) 2) 3689348814741910323)) 4)) 1085102592571150095) 8)) (lUshr (lA (lAnd (lA (lA (lAnd (lS a0 (lAnd (lUshr a0 1) 6148914691236517205)) 3689348814741910323) (lAnd (lUshr (lS a0 (lAnd (lUshr a0 1) 6148914691236517205)) 2) 3689348814741910323)) (lUshr (lA (lAnd (lS a0 (lAnd (lUshr a0 1) 6148914691236517205)) 3689348814741910323) (lAnd (lUshr (lS a0 (lAnd (lUshr a0 1) 6148914691236517205)) 2) 3689348814741910323)) 4)) 1085102592571150095) (lUshr (lAnd (lA (lA (lAnd (lS a0 (lAnd (lUshr a0 1) 6148914691236517205)) 3689348814741910323) (lAnd (lUshr (lS a0 (lAnd (lUshr a0 1) 6148914691236517205)) 2) 3689348814741910323)) (lUshr (lA (lAnd (lS a0 (lAnd (lUshr a0 1) 6148914691236517205)) 3689348814741910323) (lAnd (lUshr (lS a0 (lAnd (lUshr a0 1) 6148914691236517205)) 2) 3689348814741910323)) 4)) 1085102592571150095) 8)) 16)) (lUshr (lA (lA (lAnd (lA (lA (lAnd (lS a0 (lAnd (lUshr a0 1) 6148914691236517205)) 3689348814741910323) (lAnd (lUshr (lS a0 (lAnd (lUshr a0 1) 6148914691236517205)) 2) 3689348814741910323)) (lUshr (lA (lAnd (lS a0 (lAnd (lUshr a0 1) 6148914691236517205)) 3689348814741910323) (lAnd (lUshr (lS a0 (lAnd (lUshr a0 1) 6148914691236517205)) 2) 3689348814741910323)) 4)) 1085102592571150095) (lUshr (lAnd (lA (lA (lAnd (lS a0 (lAnd (lUshr a0 1) 6148914691236517205)) 3689348814741910323) (lAnd (lUshr (lS a0 (lAnd (lUshr a0 1) 6148914691236517205)) 2) 3689348814741910323)) (lUshr (lA (lAnd (lS a0 (lAnd (lUshr a0 1) 6148914691236517205)) 3689348814741910323) (lAnd (lUshr (lS a0 (lAnd (lUshr a0 1) 6148914691236517205)) 2) 3689348814741910323)) 4)) 1085102592571150095) 8)) (lUshr (lA (lAnd (lA (lA (lAnd (lS a0 (lAnd (lUshr a0 1) 6148914691236517205)) 3689348814741910323) (lAnd (lUshr (lS a0 (lAnd (lUshr a0 1) 6148914691236517205)) 2) 3689348814741910323)) (lUshr (lA (lAnd (lS a0 (lAnd (lUshr a0 1) 6148914691236517205)) 3689348814741910323) (lAnd (lUshr (lS a0 (lAnd (lUshr a0 1) 6148914691236517205)) 2) 3689348814741910323)) 4)) 1085102592571150095) (lUshr (lAnd (lA (lA (lAnd (lS a0 (lAnd (lUshr a0 1) 6148914691236517205)) 3689348814741910323) (lAnd (lUshr (lS a0 (lAnd (lUshr a0 1) 6148914691236517205)) 2) 3689348814741910323)) (lUshr (lA (lAnd (lS a0 (lAnd (lUshr a0 1) 6148914691236517205)) 3689348814741910323) (lAnd (lUshr (lS a0 (lAnd (lUshr a0 1) 6148914691236517205)) 2) 3689348814741910323)) 4)) 1085102592571150095) 8)) 16)) 32)) ≤ (9223372036854775807 : Int) := inL_of _
  refine g_lstore_n C [(0, .inr (.inl (lA (lA (lA (lAnd (lA (lA (lAnd (lS a0 (lAnd (lUshr a0 1) 6148914691236517205)) 3689348814741910323) (lAnd (lUshr (lS a0 (lAnd (lUshr a0 1) 6148914691236517205)) 2) 3689348814741910323)) (lUshr (lA (lAnd (lS a0 (lAnd (lUshr a0 1) 6148914691236517205)) 3689348814741910323) (lAnd (lUshr (lS a0 (lAnd (lUshr a0 1) 6148914691236517205)) 2) 3689348814741910323)) 4)) 1085102592571150095) (lUshr (lAnd (lA (lA (lAnd (lS a0 (lAnd (lUshr a0 1) 6148914691236517205)) 3689348814741910323) (lAnd (lUshr (lS a0 (lAnd (lUshr a0 1) 6148914691236517205)) 2) 3689348814741910323)) (lUshr (lA (lAnd (lS a0 (lAnd (lUshr a0 1) 6148914691236517205)) 3689348814741910323) (lAnd (lUshr (lS a0 (lAnd (lUshr a0 1) 6148914691236517205)) 2) 3689348814741910323)) 4)) 1085102592571150095) 8)) (lUshr (lA (lAnd (lA (lA (lAnd (lS a0 (lAnd (lUshr a0 1) 6148914691236517205)) 3689348814741910323) (lAnd (lUshr (lS a0 (lAnd (lUshr a0 1) 6148914691236517205)) 2) 3689348814741910323)) (lUshr (lA (lAnd (lS a0 (lAnd (lUshr a0 1) 6148914691236517205)) 3689348814741910323) (lAnd (lUshr (lS a0 (lAnd (lUshr a0 1) 6148914691236517205)) 2) 3689348814741910323)) 4)) 1085102592571150095) (lUshr (lAnd (lA (lA (lAnd (lS a0 (lAnd (lUshr a0 1) 6148914691236517205)) 3689348814741910323) (lAnd (lUshr (lS a0 (lAnd (lUshr a0 1) 6148914691236517205)) 2) 3689348814741910323)) (lUshr (lA (lAnd (lS a0 (lAnd (lUshr a0 1) 6148914691236517205)) 3689348814741910323) (lAnd (lUshr (lS a0 (lAnd (lUshr a0 1) 6148914691236517205)) 2) 3689348814741910323)) 4)) 1085102592571150095) 8)) 16)) (lUshr (lA (lA (lAnd (lA (lA (lAnd (lS a0 (lAnd (lUshr a0 1) 6148914691236517205)) 3689348814741910323) (lAnd (lUshr (lS a0 (lAnd (lUshr a0 1) 6148914691236517205)) 2) 3689348814741910323)) (lUshr (lA (lAnd (lS a0 (lAnd (lUshr a0 1) 6148914691236517205)) 3689348814741910323) (lAnd (lUshr (lS a0 (lAnd (lUshr a0 1) 6148914691236517205)) 2) 3689348814741910323)) 4)) 1085102592571150095) (lUshr (lAnd (lA (lA (lAnd (lS a0 (lAnd (lUshr a0 1) 6148914691236517205)) 3689348814741910323) (lAnd (lUshr (lS a0 (lAnd (lUshr a0 1) 6148914691236517205)) 2) 3689348814741910323)) (lUshr (lA (lAnd (lS a0 (lAnd (lUshr a0 1) 6148914691236517205)) 3689348814741910323) (lAnd (lUshr (lS a0 (lAnd (lUshr a0 1) 6148914691236517205)) 2) 3689348814741910323)) 4)) 1085102592571150095) 8)) (lUshr (lA (lAnd (lA (lA (lAnd (lS a0 (lAnd (lUshr a0 1) 6148914691236517205)) 3689348814741910323) (lAnd (lUshr (lS a0 (lAnd (lUshr a0 1) 6148914691236517205)) 2) 3689348814741910323)) (lUshr (lA (lAnd (lS a0 (lAnd (lUshr a0 1) 6148914691236517205)) 3689348814741910323) (lAnd (lUshr (lS a0 (lAnd (lUshr a0 1) 6148914691236517205)) 2) 3689348814741910323)) 4)) 1085102592571150095) (lUshr (lAnd (lA (lA (lAnd (lS a0 (lAnd (lUshr a0 1) 6148914691236517205)) 3689348814741910323) (lAnd (lUshr (lS a0 (lAnd (lUshr a0 1) 6148914691236517205)) 2) 3689348814741910323)) (lUshr (lA (lAnd (lS a0 (lAnd (lUshr a0 1) 6148914691236517205)) 3689348814741910323) (lAnd (lUshr (lS a0 (lAnd (lUshr a0 1) 6148914691236517205)) 2) 3689348814741910323)) 4)) 1085102592571150095) 8)) 16)) 32))))] rfl (by decide) rfl dJ13_bitCount_95d88_54 ?_
  refine g_lload_n C rfl 0 rfl dJ13_bitCount_95d88_55 ?_
  refine g_l2i C dJ13_bitCount_95d88_56 ?_
  have f17 : (-2147483648 : Int) ≤ (l2w (lA (lA (lA (lAnd (lA (lA (lAnd (lS a0 (lAnd (lUshr a0 1) 6148914691236517205)) 3689348814741910323) (lAnd (lUshr (lS a0 (lAnd (lUshr a0 1) 6148914691236517205)) 2) 3689348814741910323)) (lUshr (lA (lAnd (lS a0 (lAnd (lUshr a0 1) 6148914691236517205)) 3689348814741910323) (lAnd (lUshr (lS a0 (lAnd (lUshr a0 1) 6148914691236517205)) 2) 3689348814741910323)) 4)) 1085102592571150095) (lUshr (lAnd (lA (lA (lAnd (lS a0 (lAnd (lUshr a0 1) 6148914691236517205)) 3689348814741910323) (lAnd (lUshr (lS a0 (lAnd (lUshr a0 1) 6148914691236517205)) 2) 3689348814741910323)) (lUshr (lA (lAnd (lS a0 (lAnd (lUshr a0 1) 6148914691236517205)) 3689348814741910323) (lAnd (lUshr (lS a0 (lAnd (lUshr a0 1) 6148914691236517205)) 2) 3689348814741910323)) 4)) 1085102592571150095) 8)) (lUshr (lA (lAnd (lA (lA (lAnd (lS a0 (lAnd (lUshr a0 1) 6148914691236517205)) 3689348814741910323) (lAnd (lUshr (lS a0 (lAnd (lUshr a0 1) 6148914691236517205)) 2) 3689348814741910323)) (lUshr (lA (lAnd (lS a0 (lAnd (lUshr a0 1) 6148914691236517205)) 3689348814741910323) (lAnd (lUshr (lS a0 (lAnd (lUshr a0 1) 6148914691236517205)) 2) 3689348814741910323)) 4)) 1085102592571150095) (lUshr (lAnd (lA (lA (lAnd (lS a0 (lAnd (lUshr a0 1) 6148914691236517205)) 3689348814741910323) (lAnd (lUshr (lS a0 (lAnd (lUshr a0 1) 6148914691236517205)) 2) 3689348814741910323)) (lUshr (lA (lAnd (lS a0 (lAnd (lUshr a0 1) 6148914691236517205)) 3689348814741910323) (lAnd (lUshr (lS a0 (lAnd (lUshr a0 1) 6148914691236517205)) 2) 3689348814741910323)) 4)) 1085102592571150095) 8)) 16)) (lUshr (lA (lA (lAnd (lA (lA (lAnd (lS a0 (lAnd (lUshr a0 1) 6148914691236517205)) 3689348814741910323) (lAnd (lUshr (lS a0 (lAnd (lUshr a0 1) 6148914691236517205)) 2) 3689348814741910323)) (lUshr (lA (lAnd (lS a0 (lAnd (lUshr a0 1) 6148914691236517205)) 3689348814741910323) (lAnd (lUshr (lS a0 (lAnd (lUshr a0 1) 6148914691236517205)) 2) 3689348814741910323)) 4)) 1085102592571150095) (lUshr (lAnd (lA (lA (lAnd (lS a0 (lAnd (lUshr a0 1) 6148914691236517205)) 3689348814741910323) (lAnd (lUshr (lS a0 (lAnd (lUshr a0 1) 6148914691236517205)) 2) 3689348814741910323)) (lUshr (lA (lAnd (lS a0 (lAnd (lUshr a0 1) 6148914691236517205)) 3689348814741910323) (lAnd (lUshr (lS a0 (lAnd (lUshr a0 1) 6148914691236517205)) 2) 3689348814741910323)) 4)) 1085102592571150095) 8)) (lUshr (lA (lAnd (lA (lA (lAnd (lS a0 (lAnd (lUshr a0 1) 6148914691236517205)) 3689348814741910323) (lAnd (lUshr (lS a0 (lAnd (lUshr a0 1) 6148914691236517205)) 2) 3689348814741910323)) (lUshr (lA (lAnd (lS a0 (lAnd (lUshr a0 1) 6148914691236517205)) 3689348814741910323) (lAnd (lUshr (lS a0 (lAnd (lUshr a0 1) 6148914691236517205)) 2) 3689348814741910323)) 4)) 1085102592571150095) (lUshr (lAnd (lA (lA (lAnd (lS a0 (lAnd (lUshr a0 1) 6148914691236517205)) 3689348814741910323) (lAnd (lUshr (lS a0 (lAnd (lUshr a0 1) 6148914691236517205)) 2) 3689348814741910323)) (lUshr (lA (lAnd (lS a0 (lAnd (lUshr a0 1) 6148914691236517205)) 3689348814741910323) (lAnd (lUshr (lS a0 (lAnd (lUshr a0 1) 6148914691236517205)) 2) 3689348814741910323)) 4)) 1085102592571150095) 8)) 16)) 32))) ∧ (l2w (lA (lA (lA (lAnd (lA (lA (lAnd (lS a0 (lAnd (lUshr a0 1) 6148914691236517205)) 3689348814741910323) (lAnd (lUshr (lS a0 (lAnd (lUshr a0 1) 6148914691236517205)) 2) 3689348814741910323)) (lUshr (lA (lAnd (lS a0 (lAnd (lUshr a0 1) 6148914691236517205)) 3689348814741910323) (lAnd (lUshr (lS a0 (lAnd (lUshr a0 1) 6148914691236517205)) 2) 3689348814741910323)) 4)) 1085102592571150095) (lUshr (lAnd (lA (lA (lAnd (lS a0 (lAnd (lUshr a0 1) 6148914691236517205)) 3689348814741910323) (lAnd (lUshr (lS a0 (lAnd (lUshr a0 1) 6148914691236517205)) 2) 3689348814741910323)) (lUshr (lA (lAnd (lS a0 (lAnd (lUshr a0 1) 6148914691236517205)) 3689348814741910323) (lAnd (lUshr (lS a0 (lAnd (lUshr a0 1) 6148914691236517205)) 2) 3689348814741910323)) 4)) 1085102592571150095) 8)) (lUshr (lA (lAnd (lA (lA (lAnd (lS a0 (lAnd (lUshr a0 1) 6148914691236517205)) 3689348814741910323) (lAnd (lUshr (lS a0 (lAnd (lUshr a0 1) 6148914691236517205)) 2) 3689348814741910323)) (lUshr (lA (lAnd (lS a0 (lAnd (lUshr a0 1) 6148914691236517205)) 3689348814741910323) (lAnd (lUshr (lS a0 (lAnd (lUshr a0 1) 6148914691236517205)) 2) 3689348814741910323)) 4)) 1085102592571150095) (lUshr (lAnd (lA (lA (lAnd (lS a0 (lAnd (lUshr a0 1) 6148914691236517205)) 3689348814741910323) (lAnd (lUshr (lS a0 (lAnd (lUshr a0 1) 6148914691236517205)) 2) 3689348814741910323)) (lUshr (lA (lAnd (lS a0 (lAnd (lUshr a0 1) 6148914691236517205)) 3689348814741910323) (lAnd (lUshr (lS a0 (lAnd (lUshr a0 1) 6148914691236517205)) 2) 3689348814741910323)) 4)) 1085102592571150095) 8)) 16)) (lUshr (lA (lA (lAnd (lA (lA (lAnd (lS a0 (lAnd (lUshr a0 1) 6148914691236517205)) 3689348814741910323) (lAnd (lUshr (lS a0 (lAnd (lUshr a0 1) 6148914691236517205)) 2) 3689348814741910323)) (lUshr (lA (lAnd (lS a0 (lAnd (lUshr a0 1) 6148914691236517205)) 3689348814741910323) (lAnd (lUshr (lS a0 (lAnd (lUshr a0 1) 6148914691236517205)) 2) 3689348814741910323)) 4)) 1085102592571150095) (lUshr (lAnd (lA (lA (lAnd (lS a0 (lAnd (lUshr a0 1) 6148914691236517205)) 3689348814741910323) (lAnd (lUshr (lS a0 (lAnd (lUshr a0 1) 6148914691236517205)) 2) 3689348814741910323)) (lUshr (lA (lAnd (lS a0 (lAnd (lUshr a0 1) 6148914691236517205)) 3689348814741910323) (lAnd (lUshr (lS a0 (lAnd (lUshr a0 1) 6148914691236517205)) 2) 3689348814741910323)) 4)) 1085102592571150095) 8)) (lUshr (lA (lAnd (lA (lA (lAnd (lS a0 (lAnd (lUshr a0 1) 6148914691236517205)) 3689348814741910323) (lAnd (lUshr (lS a0 (lAnd (lUshr a0 1) 6148914691236517205)) 2) 3689348814741910323)) (lUshr (lA (lAnd (lS a0 (lAnd (lUshr a0 1) 6148914691236517205)) 3689348814741910323) (lAnd (lUshr (lS a0 (lAnd (lUshr a0 1) 6148914691236517205)) 2) 3689348814741910323)) 4)) 1085102592571150095) (lUshr (lAnd (lA (lA (lAnd (lS a0 (lAnd (lUshr a0 1) 6148914691236517205)) 3689348814741910323) (lAnd (lUshr (lS a0 (lAnd (lUshr a0 1) 6148914691236517205)) 2) 3689348814741910323)) (lUshr (lA (lAnd (lS a0 (lAnd (lUshr a0 1) 6148914691236517205)) 3689348814741910323) (lAnd (lUshr (lS a0 (lAnd (lUshr a0 1) 6148914691236517205)) 2) 3689348814741910323)) 4)) 1085102592571150095) 8)) 16)) 32))) ≤ (2147483647 : Int) := inR_of _
  refine g_bipush C (by decide) dJ13_bitCount_95d88_57 ?_
  refine g_iand C dJ13_bitCount_95d88_59 ?_
  have f18 : (0 : Int) ≤ (bAnd (l2w (lA (lA (lA (lAnd (lA (lA (lAnd (lS a0 (lAnd (lUshr a0 1) 6148914691236517205)) 3689348814741910323) (lAnd (lUshr (lS a0 (lAnd (lUshr a0 1) 6148914691236517205)) 2) 3689348814741910323)) (lUshr (lA (lAnd (lS a0 (lAnd (lUshr a0 1) 6148914691236517205)) 3689348814741910323) (lAnd (lUshr (lS a0 (lAnd (lUshr a0 1) 6148914691236517205)) 2) 3689348814741910323)) 4)) 1085102592571150095) (lUshr (lAnd (lA (lA (lAnd (lS a0 (lAnd (lUshr a0 1) 6148914691236517205)) 3689348814741910323) (lAnd (lUshr (lS a0 (lAnd (lUshr a0 1) 6148914691236517205)) 2) 3689348814741910323)) (lUshr (lA (lAnd (lS a0 (lAnd (lUshr a0 1) 6148914691236517205)) 3689348814741910323) (lAnd (lUshr (lS a0 (lAnd (lUshr a0 1) 6148914691236517205)) 2) 3689348814741910323)) 4)) 1085102592571150095) 8)) (lUshr (lA (lAnd (lA (lA (lAnd (lS a0 (lAnd (lUshr a0 1) 6148914691236517205)) 3689348814741910323) (lAnd (lUshr (lS a0 (lAnd (lUshr a0 1) 6148914691236517205)) 2) 3689348814741910323)) (lUshr (lA (lAnd (lS a0 (lAnd (lUshr a0 1) 6148914691236517205)) 3689348814741910323) (lAnd (lUshr (lS a0 (lAnd (lUshr a0 1) 6148914691236517205)) 2) 3689348814741910323)) 4)) 1085102592571150095) (lUshr (lAnd (lA (lA (lAnd (lS a0 (lAnd (lUshr a0 1) 6148914691236517205)) 3689348814741910323) (lAnd (lUshr (lS a0 (lAnd (lUshr a0 1) 6148914691236517205)) 2) 3689348814741910323)) (lUshr (lA (lAnd (lS a0 (lAnd (lUshr a0 1) 6148914691236517205)) 3689348814741910323) (lAnd (lUshr (lS a0 (lAnd (lUshr a0 1) 6148914691236517205)) 2) 3689348814741910323)) 4)) 1085102592571150095) 8)) 16)) (lUshr (lA (lA (lAnd (lA (lA (lAnd (lS a0 (lAnd (lUshr a0 1) 6148914691236517205)) 3689348814741910323) (lAnd (lUshr (lS a0 (lAnd (lUshr a0 1) 6148914691236517205)) 2) 3689348814741910323)) (lUshr (lA (lAnd (lS a0 (lAnd (lUshr a0 1) 6148914691236517205)) 3689348814741910323) (lAnd (lUshr (lS a0 (lAnd (lUshr a0 1) 6148914691236517205)) 2) 3689348814741910323)) 4)) 1085102592571150095) (lUshr (lAnd (lA (lA (lAnd (lS a0 (lAnd (lUshr a0 1) 6148914691236517205)) 3689348814741910323) (lAnd (lUshr (lS a0 (lAnd (lUshr a0 1) 6148914691236517205)) 2) 3689348814741910323)) (lUshr (lA (lAnd (lS a0 (lAnd (lUshr a0 1) 6148914691236517205)) 3689348814741910323) (lAnd (lUshr (lS a0 (lAnd (lUshr a0 1) 6148914691236517205)) 2) 3689348814741910323)) 4)) 1085102592571150095) 8)) (lUshr (lA (lAnd (lA (lA (lAnd (lS a0 (lAnd (lUshr a0 1) 6148914691236517205)) 3689348814741910323) (lAnd (lUshr (lS a0 (lAnd (lUshr a0 1) 6148914691236517205)) 2) 3689348814741910323)) (lUshr (lA (lAnd (lS a0 (lAnd (lUshr a0 1) 6148914691236517205)) 3689348814741910323) (lAnd (lUshr (lS a0 (lAnd (lUshr a0 1) 6148914691236517205)) 2) 3689348814741910323)) 4)) 1085102592571150095) (lUshr (lAnd (lA (lA (lAnd (lS a0 (lAnd (lUshr a0 1) 6148914691236517205)) 3689348814741910323) (lAnd (lUshr (lS a0 (lAnd (lUshr a0 1) 6148914691236517205)) 2) 3689348814741910323)) (lUshr (lA (lAnd (lS a0 (lAnd (lUshr a0 1) 6148914691236517205)) 3689348814741910323) (lAnd (lUshr (lS a0 (lAnd (lUshr a0 1) 6148914691236517205)) 2) 3689348814741910323)) 4)) 1085102592571150095) 8)) 16)) 32))) 127) ∧ (bAnd (l2w (lA (lA (lA (lAnd (lA (lA (lAnd (lS a0 (lAnd (lUshr a0 1) 6148914691236517205)) 3689348814741910323) (lAnd (lUshr (lS a0 (lAnd (lUshr a0 1) 6148914691236517205)) 2) 3689348814741910323)) (lUshr (lA (lAnd (lS a0 (lAnd (lUshr a0 1) 6148914691236517205)) 3689348814741910323) (lAnd (lUshr (lS a0 (lAnd (lUshr a0 1) 6148914691236517205)) 2) 3689348814741910323)) 4)) 1085102592571150095) (lUshr (lAnd (lA (lA (lAnd (lS a0 (lAnd (lUshr a0 1) 6148914691236517205)) 3689348814741910323) (lAnd (lUshr (lS a0 (lAnd (lUshr a0 1) 6148914691236517205)) 2) 3689348814741910323)) (lUshr (lA (lAnd (lS a0 (lAnd (lUshr a0 1) 6148914691236517205)) 3689348814741910323) (lAnd (lUshr (lS a0 (lAnd (lUshr a0 1) 6148914691236517205)) 2) 3689348814741910323)) 4)) 1085102592571150095) 8)) (lUshr (lA (lAnd (lA (lA (lAnd (lS a0 (lAnd (lUshr a0 1) 6148914691236517205)) 3689348814741910323) (lAnd (lUshr (lS a0 (lAnd (lUshr a0 1) 6148914691236517205)) 2) 3689348814741910323)) (lUshr (lA (lAnd (lS a0 (lAnd (lUshr a0 1) 6148914691236517205)) 3689348814741910323) (lAnd (lUshr (lS a0 (lAnd (lUshr a0 1) 6148914691236517205)) 2) 3689348814741910323)) 4)) 1085102592571150095) (lUshr (lAnd (lA (lA (lAnd (lS a0 (lAnd (lUshr a0 1) 6148914691236517205)) 3689348814741910323) (lAnd (lUshr (lS a0 (lAnd (lUshr a0 1) 6148914691236517205)) 2) 3689348814741910323)) (lUshr (lA (lAnd (lS a0 (lAnd (lUshr a0 1) 6148914691236517205)) 3689348814741910323) (lAnd (lUshr (lS a0 (lAnd (lUshr a0 1) 6148914691236517205)) 2) 3689348814741910323)) 4)) 1085102592571150095) 8)) 16)) (lUshr (lA (lA (lAnd (lA (lA (lAnd (lS a0 (lAnd (lUshr a0 1) 6148914691236517205)) 3689348814741910323) (lAnd (lUshr (lS a0 (lAnd (lUshr a0 1) 6148914691236517205)) 2) 3689348814741910323)) (lUshr (lA (lAnd (lS a0 (lAnd (lUshr a0 1) 6148914691236517205)) 3689348814741910323) (lAnd (lUshr (lS a0 (lAnd (lUshr a0 1) 6148914691236517205)) 2) 3689348814741910323)) 4)) 1085102592571150095) (lUshr (lAnd (lA (lA (lAnd (lS a0 (lAnd (lUshr a0 1) 6148914691236517205)) 3689348814741910323) (lAnd (lUshr (lS a0 (lAnd (lUshr a0 1) 6148914691236517205)) 2) 3689348814741910323)) (lUshr (lA (lAnd (lS a0 (lAnd (lUshr a0 1) 6148914691236517205)) 3689348814741910323) (lAnd (lUshr (lS a0 (lAnd (lUshr a0 1) 6148914691236517205)) 2) 3689348814741910323)) 4)) 1085102592571150095) 8)) (lUshr (lA (lAnd (lA (lA (lAnd (lS a0 (lAnd (lUshr a0 1) 6148914691236517205)) 3689348814741910323) (lAnd (lUshr (lS a0 (lAnd (lUshr a0 1) 6148914691236517205)) 2) 3689348814741910323)) (lUshr (lA (lAnd (lS a0 (lAnd (lUshr a0 1) 6148914691236517205)) 3689348814741910323) (lAnd (lUshr (lS a0 (lAnd (lUshr a0 1) 6148914691236517205)) 2) 3689348814741910323)) 4)) 1085102592571150095) (lUshr (lAnd (lA (lA (lAnd (lS a0 (lAnd (lUshr a0 1) 6148914691236517205)) 3689348814741910323) (lAnd (lUshr (lS a0 (lAnd (lUshr a0 1) 6148914691236517205)) 2) 3689348814741910323)) (lUshr (lA (lAnd (lS a0 (lAnd (lUshr a0 1) 6148914691236517205)) 3689348814741910323) (lAnd (lUshr (lS a0 (lAnd (lUshr a0 1) 6148914691236517205)) 2) 3689348814741910323)) 4)) 1085102592571150095) 8)) 16)) 32))) 127) ≤ (127 : Int) := bAnd_127 _
  exact g_iret C hr rfl (iw f18 (by decide) (by decide)) ⟨O, Fx.rf, f18⟩ (by decide) (by decide) dJ13_bitCount_95d88_60
def wr_k_fill_50100 : List Nat := [10020000]
set_option maxRecDepth 100000 in
set_option maxHeartbeats 4000000 in
theorem k_fill_50100 (l : Launch) (D : va_G) (cy : Nat → ClassId) (w : Nat → Nat) (z0 : Nat)  {h : Hp} {a0 : Nat} {a1 : Int}  (O : Okh h) (ta0 : Tg h a0 = 50100) (la0 : Ln h a0 = 12) (fa1 : (-2147483648) ≤ a1 ∧ a1 ≤ 2147483647) : MV l D cy w z0 yJ7_fill_53178 cJ7_fill_53178 4 none 0 0 0 0 [.inr (.inr a0), .inl a1] h (fun h1 => Okh h1 ∧ Fx wr_k_fill_50100 h h1) := by
  refine hm_go (by decide +kernel) (Nat.le_of_ble_eq_true rfl) (fun p e s m below meth c C hr hn => ?_)
  refine g_iconst C dJ7_fill_53178_0 ?_
  refine g_istore_n C [(2, .inl 0), (0, .inr (.inr a0)), (1, .inl a1)] rfl (by decide) rfl dJ7_fill_53178_1 ?_
  refine g_aload_n C rfl 1 rfl dJ7_fill_53178_2 ?_
  refine g_alen (t := 0) C ta0 rfl rfl la0 dJ7_fill_53178_3 ?_
  refine g_istore_n C [(3, .inl 12), (2, .inl 0), (0, .inr (.inr a0)), (1, .inl a1)] rfl (by decide) rfl dJ7_fill_53178_4 ?_
  refine GW.sub [2, 3, 1, 0] rfl ?_
  -- loop at 5
  have L3 : ∀ (μ : Nat) (x1 : Int) (h2 : Hp), (12 - x1).toNat = μ → Okh h2 → Fx [10020000] h h2 → ((0 : Int) ≤ x1 ∧ x1 ≤ (12 : Int)) → GW p l e (rmm 0 0 0 0) s m (List.map toV [.inr (.inr a0), .inl a1]).toArray below meth c D cy z0 4 (MQ below (QV D cy z0 (fun h1 => Okh h1 ∧ Fx wr_k_fill_50100 h h1)) (List.map toV [.inr (.inr a0), .inl a1]).toArray s 0 0 (Aof z0)) 5 [(0, .inr (.inr a0)), (1, .inl a1), (2, .inl x1), (3, .inl 12)] [] h2 0 0 := by
    intro μ
    induction μ using Nat.strongRecOn with
    | ind μ ih4 =>
      intro x1 h2 hm5 O6 F7 f8
      refine g_iload_n C rfl 2 rfl dJ7_fill_53178_5 ?_
      refine g_iload_n C rfl 3 rfl dJ7_fill_53178_6 ?_
      refine g_icmp_ge C (iw f8 (by decide) (by decide)) (iw (il 12) (by decide) (by decide)) 20 (by decide) dJ7_fill_53178_7 (fun q9 => ?_) (fun q10 => ?_)
      · have f11 : (12 : Int) ≤ x1 ∧ x1 ≤ (12 : Int) := r_ge f8 (il 12) q9 (by decide) (by decide)
        exact g_vret C hr ⟨O6, ((Fx.rf (wr := wr_k_fill_50100)).call F7 rfl)⟩ (by decide) (by decide) dJ7_fill_53178_20
      · have f12 : (0 : Int) ≤ x1 ∧ x1 ≤ (11 : Int) := r_lt f8 (il 12) q10 (by decide) (by decide)
        refine g_aload_n C rfl 0 rfl dJ7_fill_53178_10 ?_
        refine g_iload_n C rfl 2 rfl dJ7_fill_53178_11 ?_
        refine g_iload_n C rfl 1 rfl dJ7_fill_53178_12 ?_
        have e13 : Tg h2 a0 = 50100 := (fxT F7 ta0)
        have e14 : Ln h2 a0 = 12 := ((fxL F7 ta0).trans la0)
        refine g_iast C e13 rfl e14 (ix f12 (by decide) (by decide)) fa1 dJ7_fill_53178_13 (fun h16 hh15 => ?_)
        have O17 := O6.pIa e13 ar_50100 hh15 rI_50100_0 fa1 nofun
        have f18 : (1 : Int) ≤ (x1 + 1) ∧ (x1 + 1) ≤ (12 : Int) := ia_add f12 (il 1) (by decide) (by decide)
        refine g_iinc C [(2, .inl (x1 + 1)), (0, .inr (.inr a0)), (1, .inl a1), (3, .inl 12)] 2 rfl (by decide) rfl dJ7_fill_53178_14 ?_
        refine g_goto C 5 (by decide) dJ7_fill_53178_17 ?_
        refine GW.sub [1, 2, 0, 3] rfl ?_
        exact ih4 _ (by omega) (x1 + 1) h16 rfl O17 (F7.pIa e13 ar_50100 hh15 rfl) (iw f18 (by decide) (by decide))
  exact L3 _ 0 h rfl O Fx.rf (iw (il 0) (by decide) (by decide))
def wr_k_fill_44100 : List Nat := [8820000]
set_option maxRecDepth 100000 in
set_option maxHeartbeats 4000000 in
theorem k_fill_44100 (l : Launch) (D : va_G) (cy : Nat → ClassId) (w : Nat → Nat) (z0 : Nat)  {h : Hp} {a0 : Nat} {a1 : Int}  (O : Okh h) (ta0 : Tg h a0 = 44100) (la0 : Ln h a0 = 96) (fa1 : (-2147483648) ≤ a1 ∧ a1 ≤ 2147483647) : MV l D cy w z0 yJ7_fill_53178 cJ7_fill_53178 4 none 0 0 0 0 [.inr (.inr a0), .inl a1] h (fun h1 => Okh h1 ∧ Fx wr_k_fill_44100 h h1) := by
  refine hm_go (by decide +kernel) (Nat.le_of_ble_eq_true rfl) (fun p e s m below meth c C hr hn => ?_)
  refine g_iconst C dJ7_fill_53178_0 ?_
  refine g_istore_n C [(2, .inl 0), (0, .inr (.inr a0)), (1, .inl a1)] rfl (by decide) rfl dJ7_fill_53178_1 ?_
  refine g_aload_n C rfl 1 rfl dJ7_fill_53178_2 ?_
  refine g_alen (t := 0) C ta0 rfl rfl la0 dJ7_fill_53178_3 ?_
  refine g_istore_n C [(3, .inl 96), (2, .inl 0), (0, .inr (.inr a0)), (1, .inl a1)] rfl (by decide) rfl dJ7_fill_53178_4 ?_
  refine GW.sub [2, 3, 1, 0] rfl ?_
  -- loop at 5
  have L3 : ∀ (μ : Nat) (x1 : Int) (h2 : Hp), (96 - x1).toNat = μ → Okh h2 → Fx [8820000] h h2 → ((0 : Int) ≤ x1 ∧ x1 ≤ (96 : Int)) → GW p l e (rmm 0 0 0 0) s m (List.map toV [.inr (.inr a0), .inl a1]).toArray below meth c D cy z0 4 (MQ below (QV D cy z0 (fun h1 => Okh h1 ∧ Fx wr_k_fill_44100 h h1)) (List.map toV [.inr (.inr a0), .inl a1]).toArray s 0 0 (Aof z0)) 5 [(0, .inr (.inr a0)), (1, .inl a1), (2, .inl x1), (3, .inl 96)] [] h2 0 0 := by
    intro μ
    induction μ using Nat.strongRecOn with
    | ind μ ih4 =>
      intro x1 h2 hm5 O6 F7 f8
      refine g_iload_n C rfl 2 rfl dJ7_fill_53178_5 ?_
      refine g_iload_n C rfl 3 rfl dJ7_fill_53178_6 ?_
      refine g_icmp_ge C (iw f8 (by decide) (by decide)) (iw (il 96) (by decide) (by decide)) 20 (by decide) dJ7_fill_53178_7 (fun q9 => ?_) (fun q10 => ?_)
      · have f11 : (96 : Int) ≤ x1 ∧ x1 ≤ (96 : Int) := r_ge f8 (il 96) q9 (by decide) (by decide)
        exact g_vret C hr ⟨O6, ((Fx.rf (wr := wr_k_fill_44100)).call F7 rfl)⟩ (by decide) (by decide) dJ7_fill_53178_20
      · have f12 : (0 : Int) ≤ x1 ∧ x1 ≤ (95 : Int) := r_lt f8 (il 96) q10 (by decide) (by decide)
        refine g_aload_n C rfl 0 rfl dJ7_fill_53178_10 ?_
        refine g_iload_n C rfl 2 rfl dJ7_fill_53178_11 ?_
        refine g_iload_n C rfl 1 rfl dJ7_fill_53178_12 ?_
        have e13 : Tg h2 a0 = 44100 := (fxT F7 ta0)
        have e14 : Ln h2 a0 = 96 := ((fxL F7 ta0).trans la0)
        refine g_iast C e13 rfl e14 (ix f12 (by decide) (by decide)) fa1 dJ7_fill_53178_13 (fun h16 hh15 => ?_)
        have O17 := O6.pIa e13 ar_44100 hh15 rI_44100_0 fa1 nofun
        have f18 : (1 : Int) ≤ (x1 + 1) ∧ (x1 + 1) ≤ (96 : Int) := ia_add f12 (il 1) (by decide) (by decide)
        refine g_iinc C [(2, .inl (x1 + 1)), (0, .inr (.inr a0)), (1, .inl a1), (3, .inl 96)] 2 rfl (by decide) rfl dJ7_fill_53178_14 ?_
        refine g_goto C 5 (by decide) dJ7_fill_53178_17 ?_
        refine GW.sub [1, 2, 0, 3] rfl ?_
        exact ih4 _ (by omega) (x1 + 1) h16 rfl O17 (F7.pIa e13 ar_44100 hh15 rfl) (iw f18 (by decide) (by decide))
  exact L3 _ 0 h rfl O Fx.rf (iw (il 0) (by decide) (by decide))
def wr_k_fill_45100 : List Nat := [9020000]
set_option maxRecDepth 100000 in
set_option maxHeartbeats 4000000 in
theorem k_fill_45100 (l : Launch) (D : va_G) (cy : Nat → ClassId) (w : Nat → Nat) (z0 : Nat)  {h : Hp} {a0 : Nat} {a1 : Int}  (O : Okh h) (ta0 : Tg h a0 = 45100) (la0 : Ln h a0 = 384) (fa1 : (-2147483648) ≤ a1 ∧ a1 ≤ 2147483647) : MV l D cy w z0 yJ7_fill_53178 cJ7_fill_53178 4 none 0 0 0 0 [.inr (.inr a0), .inl a1] h (fun h1 => Okh h1 ∧ Fx wr_k_fill_45100 h h1) := by
  refine hm_go (by decide +kernel) (Nat.le_of_ble_eq_true rfl) (fun p e s m below meth c C hr hn => ?_)
  refine g_iconst C dJ7_fill_53178_0 ?_
  refine g_istore_n C [(2, .inl 0), (0, .inr (.inr a0)), (1, .inl a1)] rfl (by decide) rfl dJ7_fill_53178_1 ?_
  refine g_aload_n C rfl 1 rfl dJ7_fill_53178_2 ?_
  refine g_alen (t := 0) C ta0 rfl rfl la0 dJ7_fill_53178_3 ?_
  refine g_istore_n C [(3, .inl 384), (2, .inl 0), (0, .inr (.inr a0)), (1, .inl a1)] rfl (by decide) rfl dJ7_fill_53178_4 ?_
  refine GW.sub [2, 3, 1, 0] rfl ?_
  -- loop at 5
  have L3 : ∀ (μ : Nat) (x1 : Int) (h2 : Hp), (384 - x1).toNat = μ → Okh h2 → Fx [9020000] h h2 → ((0 : Int) ≤ x1 ∧ x1 ≤ (384 : Int)) → GW p l e (rmm 0 0 0 0) s m (List.map toV [.inr (.inr a0), .inl a1]).toArray below meth c D cy z0 4 (MQ below (QV D cy z0 (fun h1 => Okh h1 ∧ Fx wr_k_fill_45100 h h1)) (List.map toV [.inr (.inr a0), .inl a1]).toArray s 0 0 (Aof z0)) 5 [(0, .inr (.inr a0)), (1, .inl a1), (2, .inl x1), (3, .inl 384)] [] h2 0 0 := by
    intro μ
    induction μ using Nat.strongRecOn with
    | ind μ ih4 =>
      intro x1 h2 hm5 O6 F7 f8
      refine g_iload_n C rfl 2 rfl dJ7_fill_53178_5 ?_
      refine g_iload_n C rfl 3 rfl dJ7_fill_53178_6 ?_
      refine g_icmp_ge C (iw f8 (by decide) (by decide)) (iw (il 384) (by decide) (by decide)) 20 (by decide) dJ7_fill_53178_7 (fun q9 => ?_) (fun q10 => ?_)
      · have f11 : (384 : Int) ≤ x1 ∧ x1 ≤ (384 : Int) := r_ge f8 (il 384) q9 (by decide) (by decide)
        exact g_vret C hr ⟨O6, ((Fx.rf (wr := wr_k_fill_45100)).call F7 rfl)⟩ (by decide) (by decide) dJ7_fill_53178_20
      · have f12 : (0 : Int) ≤ x1 ∧ x1 ≤ (383 : Int) := r_lt f8 (il 384) q10 (by decide) (by decide)
        refine g_aload_n C rfl 0 rfl dJ7_fill_53178_10 ?_
        refine g_iload_n C rfl 2 rfl dJ7_fill_53178_11 ?_
        refine g_iload_n C rfl 1 rfl dJ7_fill_53178_12 ?_
        have e13 : Tg h2 a0 = 45100 := (fxT F7 ta0)
        have e14 : Ln h2 a0 = 384 := ((fxL F7 ta0).trans la0)
        refine g_iast C e13 rfl e14 (ix f12 (by decide) (by decide)) fa1 dJ7_fill_53178_13 (fun h16 hh15 => ?_)
        have O17 := O6.pIa e13 ar_45100 hh15 rI_45100_0 fa1 nofun
        have f18 : (1 : Int) ≤ (x1 + 1) ∧ (x1 + 1) ≤ (384 : Int) := ia_add f12 (il 1) (by decide) (by decide)
        refine g_iinc C [(2, .inl (x1 + 1)), (0, .inr (.inr a0)), (1, .inl a1), (3, .inl 384)] 2 rfl (by decide) rfl dJ7_fill_53178_14 ?_
        refine g_goto C 5 (by decide) dJ7_fill_53178_17 ?_
        refine GW.sub [1, 2, 0, 3] rfl ?_
        exact ih4 _ (by omega) (x1 + 1) h16 rfl O17 (F7.pIa e13 ar_45100 hh15 rfl) (iw f18 (by decide) (by decide))
  exact L3 _ 0 h rfl O Fx.rf (iw (il 0) (by decide) (by decide))
def wr_k_fill_40100 : List Nat := [8020000]
set_option maxRecDepth 100000 in
set_option maxHeartbeats 4000000 in
theorem k_fill_40100 (l : Launch) (D : va_G) (cy : Nat → ClassId) (w : Nat → Nat) (z0 : Nat)  {h : Hp} {a0 : Nat} {a1 : Int}  (O : Okh h) (ta0 : Tg h a0 = 40100) (la0 : Ln h a0 = 96) (fa1 : (-2147483648) ≤ a1 ∧ a1 ≤ 2147483647) : MV l D cy w z0 yJ7_fill_53178 cJ7_fill_53178 4 none 0 0 0 0 [.inr (.inr a0), .inl a1] h (fun h1 => Okh h1 ∧ Fx wr_k_fill_40100 h h1) := by
  refine hm_go (by decide +kernel) (Nat.le_of_ble_eq_true rfl) (fun p e s m below meth c C hr hn => ?_)
  refine g_iconst C dJ7_fill_53178_0 ?_
  refine g_istore_n C [(2, .inl 0), (0, .inr (.inr a0)), (1, .inl a1)] rfl (by decide) rfl dJ7_fill_53178_1 ?_
  refine g_aload_n C rfl 1 rfl dJ7_fill_53178_2 ?_
  refine g_alen (t := 0) C ta0 rfl rfl la0 dJ7_fill_53178_3 ?_
  refine g_istore_n C [(3, .inl 96), (2, .inl 0), (0, .inr (.inr a0)), (1, .inl a1)] rfl (by decide) rfl dJ7_fill_53178_4 ?_
  refine GW.sub [2, 3, 1, 0] rfl ?_
  -- loop at 5
  have L3 : ∀ (μ : Nat) (x1 : Int) (h2 : Hp), (96 - x1).toNat = μ → Okh h2 → Fx [8020000] h h2 → ((0 : Int) ≤ x1 ∧ x1 ≤ (96 : Int)) → GW p l e (rmm 0 0 0 0) s m (List.map toV [.inr (.inr a0), .inl a1]).toArray below meth c D cy z0 4 (MQ below (QV D cy z0 (fun h1 => Okh h1 ∧ Fx wr_k_fill_40100 h h1)) (List.map toV [.inr (.inr a0), .inl a1]).toArray s 0 0 (Aof z0)) 5 [(0, .inr (.inr a0)), (1, .inl a1), (2, .inl x1), (3, .inl 96)] [] h2 0 0 := by
    intro μ
    induction μ using Nat.strongRecOn with
    | ind μ ih4 =>
      intro x1 h2 hm5 O6 F7 f8
      refine g_iload_n C rfl 2 rfl dJ7_fill_53178_5 ?_
      refine g_iload_n C rfl 3 rfl dJ7_fill_53178_6 ?_
      refine g_icmp_ge C (iw f8 (by decide) (by decide)) (iw (il 96) (by decide) (by decide)) 20 (by decide) dJ7_fill_53178_7 (fun q9 => ?_) (fun q10 => ?_)
      · have f11 : (96 : Int) ≤ x1 ∧ x1 ≤ (96 : Int) := r_ge f8 (il 96) q9 (by decide) (by decide)
        exact g_vret C hr ⟨O6, ((Fx.rf (wr := wr_k_fill_40100)).call F7 rfl)⟩ (by decide) (by decide) dJ7_fill_53178_20
      · have f12 : (0 : Int) ≤ x1 ∧ x1 ≤ (95 : Int) := r_lt f8 (il 96) q10 (by decide) (by decide)
        refine g_aload_n C rfl 0 rfl dJ7_fill_53178_10 ?_
        refine g_iload_n C rfl 2 rfl dJ7_fill_53178_11 ?_
        refine g_iload_n C rfl 1 rfl dJ7_fill_53178_12 ?_
        have e13 : Tg h2 a0 = 40100 := (fxT F7 ta0)
        have e14 : Ln h2 a0 = 96 := ((fxL F7 ta0).trans la0)
        refine g_iast C e13 rfl e14 (ix f12 (by decide) (by decide)) fa1 dJ7_fill_53178_13 (fun h16 hh15 => ?_)
        have O17 := O6.pIa e13 ar_40100 hh15 rI_40100_0 fa1 nofun
        have f18 : (1 : Int) ≤ (x1 + 1) ∧ (x1 + 1) ≤ (96 : Int) := ia_add f12 (il 1) (by decide) (by decide)
        refine g_iinc C [(2, .inl (x1 + 1)), (0, .inr (.inr a0)), (1, .inl a1), (3, .inl 96)] 2 rfl (by decide) rfl dJ7_fill_53178_14 ?_
        refine g_goto C 5 (by decide) dJ7_fill_53178_17 ?_
        refine GW.sub [1, 2, 0, 3] rfl ?_
        exact ih4 _ (by omega) (x1 + 1) h16 rfl O17 (F7.pIa e13 ar_40100 hh15 rfl) (iw f18 (by decide) (by decide))
  exact L3 _ 0 h rfl O Fx.rf (iw (il 0) (by decide) (by decide))
def wr_k_fill_12100 : List Nat := [2420000]
set_option maxRecDepth 100000 in
set_option maxHeartbeats 4000000 in
theorem k_fill_12100 (l : Launch) (D : va_G) (cy : Nat → ClassId) (w : Nat → Nat) (z0 : Nat)  {h : Hp} {a0 : Nat} {a1 : Int}  (O : Okh h) (ta0 : Tg h a0 = 12100) (la0 : Ln h a0 = 96) (fa1 : 0 ≤ a1 ∧ a1 ≤ 999) : MV l D cy w z0 yJ7_fill_53178 cJ7_fill_53178 4 none 0 0 0 0 [.inr (.inr a0), .inl a1] h (fun h1 => Okh h1 ∧ Fx wr_k_fill_12100 h h1) := by
  refine hm_go (by decide +kernel) (Nat.le_of_ble_eq_true rfl) (fun p e s m below meth c C hr hn => ?_)
  refine g_iconst C dJ7_fill_53178_0 ?_
  refine g_istore_n C [(2, .inl 0), (0, .inr (.inr a0)), (1, .inl a1)] rfl (by decide) rfl dJ7_fill_53178_1 ?_
  refine g_aload_n C rfl 1 rfl dJ7_fill_53178_2 ?_
  refine g_alen (t := 0) C ta0 rfl rfl la0 dJ7_fill_53178_3 ?_
  refine g_istore_n C [(3, .inl 96), (2, .inl 0), (0, .inr (.inr a0)), (1, .inl a1)] rfl (by decide) rfl dJ7_fill_53178_4 ?_
  refine GW.sub [2, 3, 1, 0] rfl ?_
  -- loop at 5
  have L3 : ∀ (μ : Nat) (x1 : Int) (h2 : Hp), (96 - x1).toNat = μ → Okh h2 → Fx [2420000] h h2 → ((0 : Int) ≤ x1 ∧ x1 ≤ (96 : Int)) → GW p l e (rmm 0 0 0 0) s m (List.map toV [.inr (.inr a0), .inl a1]).toArray below meth c D cy z0 4 (MQ below (QV D cy z0 (fun h1 => Okh h1 ∧ Fx wr_k_fill_12100 h h1)) (List.map toV [.inr (.inr a0), .inl a1]).toArray s 0 0 (Aof z0)) 5 [(0, .inr (.inr a0)), (1, .inl a1), (2, .inl x1), (3, .inl 96)] [] h2 0 0 := by
    intro μ
    induction μ using Nat.strongRecOn with
    | ind μ ih4 =>
      intro x1 h2 hm5 O6 F7 f8
      refine g_iload_n C rfl 2 rfl dJ7_fill_53178_5 ?_
      refine g_iload_n C rfl 3 rfl dJ7_fill_53178_6 ?_
      refine g_icmp_ge C (iw f8 (by decide) (by decide)) (iw (il 96) (by decide) (by decide)) 20 (by decide) dJ7_fill_53178_7 (fun q9 => ?_) (fun q10 => ?_)
      · have f11 : (96 : Int) ≤ x1 ∧ x1 ≤ (96 : Int) := r_ge f8 (il 96) q9 (by decide) (by decide)
        exact g_vret C hr ⟨O6, ((Fx.rf (wr := wr_k_fill_12100)).call F7 rfl)⟩ (by decide) (by decide) dJ7_fill_53178_20
      · have f12 : (0 : Int) ≤ x1 ∧ x1 ≤ (95 : Int) := r_lt f8 (il 96) q10 (by decide) (by decide)
        refine g_aload_n C rfl 0 rfl dJ7_fill_53178_10 ?_
        refine g_iload_n C rfl 2 rfl dJ7_fill_53178_11 ?_
        refine g_iload_n C rfl 1 rfl dJ7_fill_53178_12 ?_
        have e13 : Tg h2 a0 = 12100 := (fxT F7 ta0)
        have e14 : Ln h2 a0 = 96 := ((fxL F7 ta0).trans la0)
        refine g_iast C e13 rfl e14 (ix f12 (by decide) (by decide)) (iw fa1 (by decide) (by decide)) dJ7_fill_53178_13 (fun h16 hh15 => ?_)
        have O17 := O6.pIa e13 ar_12100 hh15 rI_12100_0 fa1 nofun
        have f18 : (1 : Int) ≤ (x1 + 1) ∧ (x1 + 1) ≤ (96 : Int) := ia_add f12 (il 1) (by decide) (by decide)
        refine g_iinc C [(2, .inl (x1 + 1)), (0, .inr (.inr a0)), (1, .inl a1), (3, .inl 96)] 2 rfl (by decide) rfl dJ7_fill_53178_14 ?_
        refine g_goto C 5 (by decide) dJ7_fill_53178_17 ?_
        refine GW.sub [1, 2, 0, 3] rfl ?_
        exact ih4 _ (by omega) (x1 + 1) h16 rfl O17 (F7.pIa e13 ar_12100 hh15 rfl) (iw f18 (by decide) (by decide))
  exact L3 _ 0 h rfl O Fx.rf (iw (il 0) (by decide) (by decide))
def wr_k_fill_15100 : List Nat := [3020000]
set_option maxRecDepth 100000 in
set_option maxHeartbeats 4000000 in
theorem k_fill_15100 (l : Launch) (D : va_G) (cy : Nat → ClassId) (w : Nat → Nat) (z0 : Nat)  {h : Hp} {a0 : Nat} {a1 : Int}  (O : Okh h) (ta0 : Tg h a0 = 15100) (la0 : Ln h a0 = 96) (fa1 : (-1) ≤ a1 ∧ a1 ≤ 3) : MV l D cy w z0 yJ7_fill_53178 cJ7_fill_53178 4 none 0 0 0 0 [.inr (.inr a0), .inl a1] h (fun h1 => Okh h1 ∧ Fx wr_k_fill_15100 h h1) := by
  refine hm_go (by decide +kernel) (Nat.le_of_ble_eq_true rfl) (fun p e s m below meth c C hr hn => ?_)
  refine g_iconst C dJ7_fill_53178_0 ?_
  refine g_istore_n C [(2, .inl 0), (0, .inr (.inr a0)), (1, .inl a1)] rfl (by decide) rfl dJ7_fill_53178_1 ?_
  refine g_aload_n C rfl 1 rfl dJ7_fill_53178_2 ?_
  refine g_alen (t := 0) C ta0 rfl rfl la0 dJ7_fill_53178_3 ?_
  refine g_istore_n C [(3, .inl 96), (2, .inl 0), (0, .inr (.inr a0)), (1, .inl a1)] rfl (by decide) rfl dJ7_fill_53178_4 ?_
  refine GW.sub [2, 3, 1, 0] rfl ?_
  -- loop at 5
  have L3 : ∀ (μ : Nat) (x1 : Int) (h2 : Hp), (96 - x1).toNat = μ → Okh h2 → Fx [3020000] h h2 → ((0 : Int) ≤ x1 ∧ x1 ≤ (96 : Int)) → GW p l e (rmm 0 0 0 0) s m (List.map toV [.inr (.inr a0), .inl a1]).toArray below meth c D cy z0 4 (MQ below (QV D cy z0 (fun h1 => Okh h1 ∧ Fx wr_k_fill_15100 h h1)) (List.map toV [.inr (.inr a0), .inl a1]).toArray s 0 0 (Aof z0)) 5 [(0, .inr (.inr a0)), (1, .inl a1), (2, .inl x1), (3, .inl 96)] [] h2 0 0 := by
    intro μ
    induction μ using Nat.strongRecOn with
    | ind μ ih4 =>
      intro x1 h2 hm5 O6 F7 f8
      refine g_iload_n C rfl 2 rfl dJ7_fill_53178_5 ?_
      refine g_iload_n C rfl 3 rfl dJ7_fill_53178_6 ?_
      refine g_icmp_ge C (iw f8 (by decide) (by decide)) (iw (il 96) (by decide) (by decide)) 20 (by decide) dJ7_fill_53178_7 (fun q9 => ?_) (fun q10 => ?_)
      · have f11 : (96 : Int) ≤ x1 ∧ x1 ≤ (96 : Int) := r_ge f8 (il 96) q9 (by decide) (by decide)
        exact g_vret C hr ⟨O6, ((Fx.rf (wr := wr_k_fill_15100)).call F7 rfl)⟩ (by decide) (by decide) dJ7_fill_53178_20
      · have f12 : (0 : Int) ≤ x1 ∧ x1 ≤ (95 : Int) := r_lt f8 (il 96) q10 (by decide) (by decide)
        refine g_aload_n C rfl 0 rfl dJ7_fill_53178_10 ?_
        refine g_iload_n C rfl 2 rfl dJ7_fill_53178_11 ?_
        refine g_iload_n C rfl 1 rfl dJ7_fill_53178_12 ?_
        have e13 : Tg h2 a0 = 15100 := (fxT F7 ta0)
        have e14 : Ln h2 a0 = 96 := ((fxL F7 ta0).trans la0)
        refine g_iast C e13 rfl e14 (ix f12 (by decide) (by decide)) (iw fa1 (by decide) (by decide)) dJ7_fill_53178_13 (fun h16 hh15 => ?_)
        have O17 := O6.pIa e13 ar_15100 hh15 rI_15100_0 fa1 nofun
        have f18 : (1 : Int) ≤ (x1 + 1) ∧ (x1 + 1) ≤ (96 : Int) := ia_add f12 (il 1) (by decide) (by decide)
        refine g_iinc C [(2, .inl (x1 + 1)), (0, .inr (.inr a0)), (1, .inl a1), (3, .inl 96)] 2 rfl (by decide) rfl dJ7_fill_53178_14 ?_
        refine g_goto C 5 (by decide) dJ7_fill_53178_17 ?_
        refine GW.sub [1, 2, 0, 3] rfl ?_
        exact ih4 _ (by omega) (x1 + 1) h16 rfl O17 (F7.pIa e13 ar_15100 hh15 rfl) (iw f18 (by decide) (by decide))
  exact L3 _ 0 h rfl O Fx.rf (iw (il 0) (by decide) (by decide))
def wr_k_fill_47100 : List Nat := [9420000]
set_option maxRecDepth 100000 in
set_option maxHeartbeats 4000000 in
theorem k_fill_47100 (l : Launch) (D : va_G) (cy : Nat → ClassId) (w : Nat → Nat) (z0 : Nat)  {h : Hp} {a0 : Nat} {a1 : Int}  (O : Okh h) (ta0 : Tg h a0 = 47100) (la0 : Ln h a0 = 96) (fa1 : (-1) ≤ a1 ∧ a1 ≤ 383) : MV l D cy w z0 yJ7_fill_53178 cJ7_fill_53178 4 none 0 0 0 0 [.inr (.inr a0), .inl a1] h (fun h1 => Okh h1 ∧ Fx wr_k_fill_47100 h h1) := by
  refine hm_go (by decide +kernel) (Nat.le_of_ble_eq_true rfl) (fun p e s m below meth c C hr hn => ?_)
  refine g_iconst C dJ7_fill_53178_0 ?_
  refine g_istore_n C [(2, .inl 0), (0, .inr (.inr a0)), (1, .inl a1)] rfl (by decide) rfl dJ7_fill_53178_1 ?_
  refine g_aload_n C rfl 1 rfl dJ7_fill_53178_2 ?_
  refine g_alen (t := 0) C ta0 rfl rfl la0 dJ7_fill_53178_3 ?_
  refine g_istore_n C [(3, .inl 96), (2, .inl 0), (0, .inr (.inr a0)), (1, .inl a1)] rfl (by decide) rfl dJ7_fill_53178_4 ?_
  refine GW.sub [2, 3, 1, 0] rfl ?_
  -- loop at 5
  have L3 : ∀ (μ : Nat) (x1 : Int) (h2 : Hp), (96 - x1).toNat = μ → Okh h2 → Fx [9420000] h h2 → ((0 : Int) ≤ x1 ∧ x1 ≤ (96 : Int)) → GW p l e (rmm 0 0 0 0) s m (List.map toV [.inr (.inr a0), .inl a1]).toArray below meth c D cy z0 4 (MQ below (QV D cy z0 (fun h1 => Okh h1 ∧ Fx wr_k_fill_47100 h h1)) (List.map toV [.inr (.inr a0), .inl a1]).toArray s 0 0 (Aof z0)) 5 [(0, .inr (.inr a0)), (1, .inl a1), (2, .inl x1), (3, .inl 96)] [] h2 0 0 := by
    intro μ
    induction μ using Nat.strongRecOn with
    | ind μ ih4 =>
      intro x1 h2 hm5 O6 F7 f8
      refine g_iload_n C rfl 2 rfl dJ7_fill_53178_5 ?_
      refine g_iload_n C rfl 3 rfl dJ7_fill_53178_6 ?_
      refine g_icmp_ge C (iw f8 (by decide) (by decide)) (iw (il 96) (by decide) (by decide)) 20 (by decide) dJ7_fill_53178_7 (fun q9 => ?_) (fun q10 => ?_)
      · have f11 : (96 : Int) ≤ x1 ∧ x1 ≤ (96 : Int) := r_ge f8 (il 96) q9 (by decide) (by decide)
        exact g_vret C hr ⟨O6, ((Fx.rf (wr := wr_k_fill_47100)).call F7 rfl)⟩ (by decide) (by decide) dJ7_fill_53178_20
      · have f12 : (0 : Int) ≤ x1 ∧ x1 ≤ (95 : Int) := r_lt f8 (il 96) q10 (by decide) (by decide)
        refine g_aload_n C rfl 0 rfl dJ7_fill_53178_10 ?_
        refine g_iload_n C rfl 2 rfl dJ7_fill_53178_11 ?_
        refine g_iload_n C rfl 1 rfl dJ7_fill_53178_12 ?_
        have e13 : Tg h2 a0 = 47100 := (fxT F7 ta0)
        have e14 : Ln h2 a0 = 96 := ((fxL F7 ta0).trans la0)
        refine g_iast C e13 rfl e14 (ix f12 (by decide) (by decide)) (iw fa1 (by decide) (by decide)) dJ7_fill_53178_13 (fun h16 hh15 => ?_)
        have O17 := O6.pIa e13 ar_47100 hh15 rI_47100_0 fa1 nofun
        have f18 : (1 : Int) ≤ (x1 + 1) ∧ (x1 + 1) ≤ (96 : Int) := ia_add f12 (il 1) (by decide) (by decide)
        refine g_iinc C [(2, .inl (x1 + 1)), (0, .inr (.inr a0)), (1, .inl a1), (3, .inl 96)] 2 rfl (by decide) rfl dJ7_fill_53178_14 ?_
        refine g_goto C 5 (by decide) dJ7_fill_53178_17 ?_
        refine GW.sub [1, 2, 0, 3] rfl ?_
        exact ih4 _ (by omega) (x1 + 1) h16 rfl O17 (F7.pIa e13 ar_47100 hh15 rfl) (iw f18 (by decide) (by decide))
  exact L3 _ 0 h rfl O Fx.rf (iw (il 0) (by decide) (by decide))
def wr_k_fill_43100 : List Nat := [8620000]
set_option maxRecDepth 100000 in
set_option maxHeartbeats 4000000 in
theorem k_fill_43100 (l : Launch) (D : va_G) (cy : Nat → ClassId) (w : Nat → Nat) (z0 : Nat)  {h : Hp} {a0 : Nat} {a1 : Int}  (O : Okh h) (ta0 : Tg h a0 = 43100) (la0 : Ln h a0 = 96) (fa1 : (-1) ≤ a1 ∧ a1 ≤ 95) : MV l D cy w z0 yJ7_fill_53178 cJ7_fill_53178 4 none 0 0 0 0 [.inr (.inr a0), .inl a1] h (fun h1 => Okh h1 ∧ Fx wr_k_fill_43100 h h1) := by
  refine hm_go (by decide +kernel) (Nat.le_of_ble_eq_true rfl) (fun p e s m below meth c C hr hn => ?_)
  refine g_iconst C dJ7_fill_53178_0 ?_
  refine g_istore_n C [(2, .inl 0), (0, .inr (.inr a0)), (1, .inl a1)] rfl (by decide) rfl dJ7_fill_53178_1 ?_
  refine g_aload_n C rfl 1 rfl dJ7_fill_53178_2 ?_
  refine g_alen (t := 0) C ta0 rfl rfl la0 dJ7_fill_53178_3 ?_
  refine g_istore_n C [(3, .inl 96), (2, .inl 0), (0, .inr (.inr a0)), (1, .inl a1)] rfl (by decide) rfl dJ7_fill_53178_4 ?_
  refine GW.sub [2, 3, 1, 0] rfl ?_
  -- loop at 5
  have L3 : ∀ (μ : Nat) (x1 : Int) (h2 : Hp), (96 - x1).toNat = μ → Okh h2 → Fx [8620000] h h2 → ((0 : Int) ≤ x1 ∧ x1 ≤ (96 : Int)) → GW p l e (rmm 0 0 0 0) s m (List.map toV [.inr (.inr a0), .inl a1]).toArray below meth c D cy z0 4 (MQ below (QV D cy z0 (fun h1 => Okh h1 ∧ Fx wr_k_fill_43100 h h1)) (List.map toV [.inr (.inr a0), .inl a1]).toArray s 0 0 (Aof z0)) 5 [(0, .inr (.inr a0)), (1, .inl a1), (2, .inl x1), (3, .inl 96)] [] h2 0 0 := by
    intro μ
    induction μ using Nat.strongRecOn with
    | ind μ ih4 =>
      intro x1 h2 hm5 O6 F7 f8
      refine g_iload_n C rfl 2 rfl dJ7_fill_53178_5 ?_
      refine g_iload_n C rfl 3 rfl dJ7_fill_53178_6 ?_
      refine g_icmp_ge C (iw f8 (by decide) (by decide)) (iw (il 96) (by decide) (by decide)) 20 (by decide) dJ7_fill_53178_7 (fun q9 => ?_) (fun q10 => ?_)
      · have f11 : (96 : Int) ≤ x1 ∧ x1 ≤ (96 : Int) := r_ge f8 (il 96) q9 (by decide) (by decide)
        exact g_vret C hr ⟨O6, ((Fx.rf (wr := wr_k_fill_43100)).call F7 rfl)⟩ (by decide) (by decide) dJ7_fill_53178_20
      · have f12 : (0 : Int) ≤ x1 ∧ x1 ≤ (95 : Int) := r_lt f8 (il 96) q10 (by decide) (by decide)
        refine g_aload_n C rfl 0 rfl dJ7_fill_53178_10 ?_
        refine g_iload_n C rfl 2 rfl dJ7_fill_53178_11 ?_
        refine g_iload_n C rfl 1 rfl dJ7_fill_53178_12 ?_
        have e13 : Tg h2 a0 = 43100 := (fxT F7 ta0)
        have e14 : Ln h2 a0 = 96 := ((fxL F7 ta0).trans la0)
        refine g_iast C e13 rfl e14 (ix f12 (by decide) (by decide)) (iw fa1 (by decide) (by decide)) dJ7_fill_53178_13 (fun h16 hh15 => ?_)
        have O17 := O6.pIa e13 ar_43100 hh15 rI_43100_0 fa1 nofun
        have f18 : (1 : Int) ≤ (x1 + 1) ∧ (x1 + 1) ≤ (96 : Int) := ia_add f12 (il 1) (by decide) (by decide)
        refine g_iinc C [(2, .inl (x1 + 1)), (0, .inr (.inr a0)), (1, .inl a1), (3, .inl 96)] 2 rfl (by decide) rfl dJ7_fill_53178_14 ?_
        refine g_goto C 5 (by decide) dJ7_fill_53178_17 ?_
        refine GW.sub [1, 2, 0, 3] rfl ?_
        exact ih4 _ (by omega) (x1 + 1) h16 rfl O17 (F7.pIa e13 ar_43100 hh15 rfl) (iw f18 (by decide) (by decide))
  exact L3 _ 0 h rfl O Fx.rf (iw (il 0) (by decide) (by decide))
def wr_k_fill_28100 : List Nat := [5620000]
set_option maxRecDepth 100000 in
set_option maxHeartbeats 4000000 in
theorem k_fill_28100 (l : Launch) (D : va_G) (cy : Nat → ClassId) (w : Nat → Nat) (z0 : Nat)  {h : Hp} {a0 : Nat} {a1 : Int}  (O : Okh h) (ta0 : Tg h a0 = 28100) (la0 : Ln h a0 = 10) (fa1 : (-1) ≤ a1 ∧ a1 ≤ 9) : MV l D cy w z0 yJ7_fill_53178 cJ7_fill_53178 4 none 0 0 0 0 [.inr (.inr a0), .inl a1] h (fun h1 => Okh h1 ∧ Fx wr_k_fill_28100 h h1) := by
  refine hm_go (by decide +kernel) (Nat.le_of_ble_eq_true rfl) (fun p e s m below meth c C hr hn => ?_)
  refine g_iconst C dJ7_fill_53178_0 ?_
  refine g_istore_n C [(2, .inl 0), (0, .inr (.inr a0)), (1, .inl a1)] rfl (by decide) rfl dJ7_fill_53178_1 ?_
  refine g_aload_n C rfl 1 rfl dJ7_fill_53178_2 ?_
  refine g_alen (t := 0) C ta0 rfl rfl la0 dJ7_fill_53178_3 ?_
  refine g_istore_n C [(3, .inl 10), (2, .inl 0), (0, .inr (.inr a0)), (1, .inl a1)] rfl (by decide) rfl dJ7_fill_53178_4 ?_
  refine GW.sub [2, 3, 1, 0] rfl ?_
  -- loop at 5
  have L3 : ∀ (μ : Nat) (x1 : Int) (h2 : Hp), (10 - x1).toNat = μ → Okh h2 → Fx [5620000] h h2 → ((0 : Int) ≤ x1 ∧ x1 ≤ (10 : Int)) → GW p l e (rmm 0 0 0 0) s m (List.map toV [.inr (.inr a0), .inl a1]).toArray below meth c D cy z0 4 (MQ below (QV D cy z0 (fun h1 => Okh h1 ∧ Fx wr_k_fill_28100 h h1)) (List.map toV [.inr (.inr a0), .inl a1]).toArray s 0 0 (Aof z0)) 5 [(0, .inr (.inr a0)), (1, .inl a1), (2, .inl x1), (3, .inl 10)] [] h2 0 0 := by
    intro μ
    induction μ using Nat.strongRecOn with
    | ind μ ih4 =>
      intro x1 h2 hm5 O6 F7 f8
      refine g_iload_n C rfl 2 rfl dJ7_fill_53178_5 ?_
      refine g_iload_n C rfl 3 rfl dJ7_fill_53178_6 ?_
      refine g_icmp_ge C (iw f8 (by decide) (by decide)) (iw (il 10) (by decide) (by decide)) 20 (by decide) dJ7_fill_53178_7 (fun q9 => ?_) (fun q10 => ?_)
      · have f11 : (10 : Int) ≤ x1 ∧ x1 ≤ (10 : Int) := r_ge f8 (il 10) q9 (by decide) (by decide)
        exact g_vret C hr ⟨O6, ((Fx.rf (wr := wr_k_fill_28100)).call F7 rfl)⟩ (by decide) (by decide) dJ7_fill_53178_20
      · have f12 : (0 : Int) ≤ x1 ∧ x1 ≤ (9 : Int) := r_lt f8 (il 10) q10 (by decide) (by decide)
        refine g_aload_n C rfl 0 rfl dJ7_fill_53178_10 ?_
        refine g_iload_n C rfl 2 rfl dJ7_fill_53178_11 ?_
        refine g_iload_n C rfl 1 rfl dJ7_fill_53178_12 ?_
        have e13 : Tg h2 a0 = 28100 := (fxT F7 ta0)
        have e14 : Ln h2 a0 = 10 := ((fxL F7 ta0).trans la0)
        refine g_iast C e13 rfl e14 (ix f12 (by decide) (by decide)) (iw fa1 (by decide) (by decide)) dJ7_fill_53178_13 (fun h16 hh15 => ?_)
        have O17 := O6.pIa e13 ar_28100 hh15 rI_28100_0 fa1 nofun
        have f18 : (1 : Int) ≤ (x1 + 1) ∧ (x1 + 1) ≤ (10 : Int) := ia_add f12 (il 1) (by decide) (by decide)
        refine g_iinc C [(2, .inl (x1 + 1)), (0, .inr (.inr a0)), (1, .inl a1), (3, .inl 10)] 2 rfl (by decide) rfl dJ7_fill_53178_14 ?_
        refine g_goto C 5 (by decide) dJ7_fill_53178_17 ?_
        refine GW.sub [1, 2, 0, 3] rfl ?_
        exact ih4 _ (by omega) (x1 + 1) h16 rfl O17 (F7.pIa e13 ar_28100 hh15 rfl) (iw f18 (by decide) (by decide))
  exact L3 _ 0 h rfl O Fx.rf (iw (il 0) (by decide) (by decide))
def wr_k_fill_46102 : List Nat := [9220400]
set_option maxRecDepth 100000 in
set_option maxHeartbeats 4000000 in
theorem k_fill_46102 (l : Launch) (D : va_G) (cy : Nat → ClassId) (w : Nat → Nat) (z0 : Nat)  {h : Hp} {a0 : Nat} {a1 : Int}  (O : Okh h) (ta0 : Tg h a0 = 46102) (la0 : Ln h a0 = 384) (fa1 : (-9223372036854775808) ≤ a1 ∧ a1 ≤ 9223372036854775807) : MV l D cy w z0 yJ7_fill_d0a16 cJ7_fill_d0a16 5 none 0 0 0 0 [.inr (.inr a0), .inr (.inl a1)] h (fun h1 => Okh h1 ∧ Fx wr_k_fill_46102 h h1) := by
  refine hm_go (by decide +kernel) (Nat.le_of_ble_eq_true rfl) (fun p e s m below meth c C hr hn => ?_)
  refine g_iconst C dJ7_fill_d0a16_0 ?_
  refine g_istore_n C [(3, .inl 0), (0, .inr (.inr a0)), (1, .inr (.inl a1))] rfl (by decide) rfl dJ7_fill_d0a16_1 ?_
  refine g_aload_n C rfl 1 rfl dJ7_fill_d0a16_2 ?_
  refine g_alen (t := 2) C ta0 rfl rfl la0 dJ7_fill_d0a16_3 ?_
  refine g_istore C [(4, .inl 384), (3, .inl 0), (0, .inr (.inr a0)), (1, .inr (.inl a1))] (by decide) rfl dJ7_fill_d0a16_4 ?_
  refine GW.sub [2, 3, 1, 0] rfl ?_
  -- loop at 6
  have L3 : ∀ (μ : Nat) (x1 : Int) (h2 : Hp), (384 - x1).toNat = μ → Okh h2 → Fx [9220400] h h2 → ((0 : Int) ≤ x1 ∧ x1 ≤ (384 : Int)) → GW p l e (rmm 0 0 0 0) s m (List.map toV [.inr (.inr a0), .inr (.inl a1)]).toArray below meth c D cy z0 5 (MQ below (QV D cy z0 (fun h1 => Okh h1 ∧ Fx wr_k_fill_46102 h h1)) (List.map toV [.inr (.inr a0), .inr (.inl a1)]).toArray s 0 0 (Aof z0)) 6 [(0, .inr (.inr a0)), (1, .inr (.inl a1)), (3, .inl x1), (4, .inl 384)] [] h2 0 0 := by
    intro μ
    induction μ using Nat.strongRecOn with
    | ind μ ih4 =>
      intro x1 h2 hm5 O6 F7 f8
      refine g_iload_n C rfl 2 rfl dJ7_fill_d0a16_6 ?_
      refine g_iload C 3 rfl dJ7_fill_d0a16_7 ?_
      refine g_icmp_ge C (iw f8 (by decide) (by decide)) (iw (il 384) (by decide) (by decide)) 22 (by decide) dJ7_fill_d0a16_9 (fun q9 => ?_) (fun q10 => ?_)
      · have f11 : (384 : Int) ≤ x1 ∧ x1 ≤ (384 : Int) := r_ge f8 (il 384) q9 (by decide) (by decide)
        exact g_vret C hr ⟨O6, ((Fx.rf (wr := wr_k_fill_46102)).call F7 rfl)⟩ (by decide) (by decide) dJ7_fill_d0a16_22
      · have f12 : (0 : Int) ≤ x1 ∧ x1 ≤ (383 : Int) := r_lt f8 (il 384) q10 (by decide) (by decide)
        refine g_aload_n C rfl 0 rfl dJ7_fill_d0a16_12 ?_
        refine g_iload_n C rfl 2 rfl dJ7_fill_d0a16_13 ?_
        refine g_lload_n C rfl 1 rfl dJ7_fill_d0a16_14 ?_
        have e13 : Tg h2 a0 = 46102 := (fxT F7 ta0)
        have e14 : Ln h2 a0 = 384 := ((fxL F7 ta0).trans la0)
        refine g_last C e13 rfl e14 (ix f12 (by decide) (by decide)) fa1 dJ7_fill_d0a16_15 (fun h16 hh15 => ?_)
        have O17 := O6.pJ hh15 fa1
        have f18 : (1 : Int) ≤ (x1 + 1) ∧ (x1 + 1) ≤ (384 : Int) := ia_add f12 (il 1) (by decide) (by decide)
        refine g_iinc C [(3, .inl (x1 + 1)), (0, .inr (.inr a0)), (1, .inr (.inl a1)), (4, .inl 384)] 2 rfl (by decide) rfl dJ7_fill_d0a16_16 ?_
        refine g_goto C 6 (by decide) dJ7_fill_d0a16_19 ?_
        refine GW.sub [1, 2, 0, 3] rfl ?_
        exact ih4 _ (by omega) (x1 + 1) h16 rfl O17 (F7.pJa e13 ar_46102 hh15 rfl) (iw f18 (by decide) (by decide))
  exact L3 _ 0 h rfl O Fx.rf (iw (il 0) (by decide) (by decide))
def wr_k_X9_level : List Nat := [9020000, 9220400, 9420000]
set_option maxRecDepth 100000 in
set_option maxHeartbeats 4000000 in
theorem k_X9_level (l : Launch) (D : va_G) (cy : Nat → ClassId) (w : Nat → Nat) (z0 : Nat)  {h : Hp} {a0 : Nat} {a1 : Int}  (O : Okh h) (ta0 : Tg h a0 = 10) (fa1 : (-2147483648) ≤ a1 ∧ a1 ≤ 2147483647) : MV l D cy w z0 yX9_level cX9_level 2 none 1 24 0 0 [.inr (.inr a0), .inl a1] h (fun h1 => Okh h1 ∧ Fx wr_k_X9_level h h1) := by
  refine hm_go (by decide +kernel) (Nat.le_of_ble_eq_true rfl) (fun p e s m below meth c C hr hn => ?_)
  refine g_aload_n C rfl 0 rfl dX9_level_0 ?_
  obtain ⟨v1, e2⟩ : ∃ z, Rv h a0 0 = z := ⟨_, rfl⟩
  have t3 := ok_R O ta0 rE_10_0 e2
  have l4 := ok_L O ta0 rE_10_0 e2
  refine gf_R C fk_LandSurvey_Slopes_9 rfl ta0 e2 dX9_level_1 ?_
  refine g_iload_n C rfl 1 rfl dX9_level_4 ?_
  refine g_callV (st := []) (gc_S C lk_LandSurvey_Slopes_22 (k_fill_45100 l D cy w z0 O t3 l4 fa1) rfl ⟨by decide, by decide⟩ (Nat.le_of_ble_eq_true rfl) dX9_level_5 ⟨(by decide), (by decide)⟩) (fun h6 K7 => ?_)
  obtain ⟨O9, F10⟩ := K7
  refine g_aload_n C rfl 0 rfl dX9_level_8 ?_
  have e11 : Tg h6 a0 = 10 := (fxT F10 ta0)
  obtain ⟨v12, e13⟩ : ∃ z, Rv h6 a0 1 = z := ⟨_, rfl⟩
  have t14 := ok_R O9 e11 rE_10_1 e13
  have l15 := ok_L O9 e11 rE_10_1 e13
  refine gf_R C fk_LandSurvey_Slopes_15 rfl e11 e13 dX9_level_9 ?_
  refine g_lconst (z := 0) C (by decide) dX9_level_12 ?_
  refine g_callV (st := []) (gc_S C lk_LandSurvey_Slopes_28 (k_fill_46102 l D cy w z0 O9 t14 l15 (iw (il 0) (by decide) (by decide))) rfl ⟨by decide, by decide⟩ (Nat.le_of_ble_eq_true rfl) dX9_level_13 ⟨(by decide), (by decide)⟩) (fun h17 K18 => ?_)
  obtain ⟨O20, F21⟩ := K18
  refine g_aload_n C rfl 0 rfl dX9_level_16 ?_
  have e22 : Tg h17 a0 = 10 := (fxT F21 e11)
  obtain ⟨v23, e24⟩ : ∃ z, Rv h17 a0 2 = z := ⟨_, rfl⟩
  have t25 := ok_R O20 e22 rE_10_2 e24
  have l26 := ok_L O20 e22 rE_10_2 e24
  refine gf_R C fk_LandSurvey_Slopes_19 rfl e22 e24 dX9_level_17 ?_
  refine g_iconst C dX9_level_20 ?_
  refine g_callV (st := []) (gc_S C lk_LandSurvey_Slopes_22 (k_fill_47100 l D cy w z0 O20 t25 l26 (iw (il (-1)) (by decide) (by decide))) rfl ⟨by decide, by decide⟩ (Nat.le_of_ble_eq_true rfl) dX9_level_21 ⟨(by decide), (by decide)⟩) (fun h28 K29 => ?_)
  obtain ⟨O31, F32⟩ := K29
  exact g_vret C hr ⟨O31, ((((Fx.rf (wr := wr_k_X9_level)).call F10 rfl).call F21 rfl).call F32 rfl)⟩ (by decide) (by decide) dX9_level_24
def wr_k_X9_narrow : List Nat := [9020000, 9220400]
set_option maxRecDepth 100000 in
set_option maxHeartbeats 4000000 in
theorem k_X9_narrow (l : Launch) (D : va_G) (cy : Nat → ClassId) (w : Nat → Nat) (z0 : Nat)  {h : Hp} {a0 : Nat} {a1 : Int} {a2 : Int} {a3 : Int}  (O : Okh h) (ta0 : Tg h a0 = 10) (fa1 : 0 ≤ a1 ∧ a1 ≤ 383) (fa2 : (-2147483648) ≤ a2 ∧ a2 ≤ 2147483647) (fa3 : (-9223372036854775808) ≤ a3 ∧ a3 ≤ 9223372036854775807) : MV l D cy w z0 yX9_narrow cX9_narrow 5 none 0 0 0 0 [.inr (.inr a0), .inl a1, .inl a2, .inr (.inl a3)] h (fun h1 => Okh h1 ∧ Fx wr_k_X9_narrow h h1) := by
  refine hm_go (by decide +kernel) (Nat.le_of_ble_eq_true rfl) (fun p e s m below meth c C hr hn => ?_)
  refine g_aload_n C rfl 0 rfl dX9_narrow_0 ?_
  obtain ⟨v1, e2⟩ : ∃ z, Rv h a0 1 = z := ⟨_, rfl⟩
  have t3 := ok_R O ta0 rE_10_1 e2
  have l4 := ok_L O ta0 rE_10_1 e2
  refine gf_R C fk_LandSurvey_Slopes_15 rfl ta0 e2 dX9_narrow_1 ?_
  refine g_iload_n C rfl 1 rfl dX9_narrow_4 ?_
  obtain ⟨v5, e6⟩ : ∃ z, Jv h v1 a1.toNat = z := ⟨_, rfl⟩
  have f7 := inL_J O e6
  refine g_lald C t3 rfl l4 (ix fa1 (by decide) (by decide)) e6 dX9_narrow_5 ?_
  refine g_lconst (z := 0) C (by decide) dX9_narrow_6 ?_
  refine g_lcmp C f7 (iw (il 0) (by decide) (by decide)) dX9_narrow_7 ?_
  have f8 : (-1 : Int) ≤ (lC v5 0) ∧ (lC v5 0) ≤ (1 : Int) := lC_rng _ _
  refine g_if_eq C (iw f8 (by decide) (by decide)) 21 (by decide) dX9_narrow_8 (fun q9 => ?_) (fun q10 => ?_)
  · have q11 : v5 = (0 : Int) := lC_eq.mp q9
    have f12 : (0 : Int) ≤ v5 ∧ v5 ≤ (0 : Int) := ii f7 (r_eq (il 0) q11) (by decide) (by decide)
    refine g_aload_n C rfl 0 rfl dX9_narrow_21 ?_
    obtain ⟨v13, e14⟩ : ∃ z, Rv h a0 0 = z := ⟨_, rfl⟩
    have t15 := ok_R O ta0 rE_10_0 e14
    have l16 := ok_L O ta0 rE_10_0 e14
    refine gf_R C fk_LandSurvey_Slopes_9 rfl ta0 e14 dX9_narrow_22 ?_
    refine g_iload_n C rfl 1 rfl dX9_narrow_25 ?_
    refine g_iload_n C rfl 2 rfl dX9_narrow_26 ?_
    refine g_iast C t15 rfl l16 (ix fa1 (by decide) (by decide)) fa2 dX9_narrow_27 (fun h18 hh17 => ?_)
    have O19 := O.pIa t15 ar_45100 hh17 rI_45100_0 fa2 nofun
    refine g_aload_n C rfl 0 rfl dX9_narrow_28 ?_
    have e20 : Tg h18 a0 = 10 := ((pIT hh17).trans ta0)
    have e21 : Rv h18 a0 1 = v1 := ((pIR hh17).trans e2)
    refine gf_R C fk_LandSurvey_Slopes_15 rfl e20 e21 dX9_narrow_29 ?_
    refine g_iload_n C rfl 1 rfl dX9_narrow_32 ?_
    refine g_lload_n C rfl 3 rfl dX9_narrow_33 ?_
    have e22 : Tg h18 v1 = 46102 := ((pIT hh17).trans t3)
    have e23 : Ln h18 v1 = 384 := ((pIL hh17).trans l4)
    refine g_last C e22 rfl e23 (ix fa1 (by decide) (by decide)) fa3 dX9_narrow_34 (fun h25 hh24 => ?_)
    have O26 := O19.pJ hh24 fa3
    exact g_vret C hr ⟨O26, (((Fx.rf (wr := wr_k_X9_narrow)).pIa t15 ar_45100 hh17 rfl).pJa e22 ar_46102 hh24 rfl)⟩ (by decide) (by decide) dX9_narrow_35
  · have q27 : ¬ v5 = (0 : Int) := fun z => q10 (lC_eq.mpr z)
    refine g_iload_n C rfl 2 rfl dX9_narrow_11 ?_
    refine g_aload_n C rfl 0 rfl dX9_narrow_12 ?_
    obtain ⟨v28, e29⟩ : ∃ z, Rv h a0 0 = z := ⟨_, rfl⟩
    have t30 := ok_R O ta0 rE_10_0 e29
    have l31 := ok_L O ta0 rE_10_0 e29
    refine gf_R C fk_LandSurvey_Slopes_9 rfl ta0 e29 dX9_narrow_13 ?_
    refine g_iload_n C rfl 1 rfl dX9_narrow_16 ?_
    obtain ⟨v32, e33⟩ : ∃ z, Iv h v28 a1.toNat = z := ⟨_, rfl⟩
    have f34 := ok_Ia O t30 ar_45100 rI_45100_0 e33
    refine g_iald C t30 rfl l31 (ix fa1 (by decide) (by decide)) e33 dX9_narrow_17 ?_
    refine g_icmp_ge C fa2 f34 35 (by decide) dX9_narrow_18 (fun q35 => ?_) (fun q36 => ?_)
    · exact g_vret C hr ⟨O, Fx.rf⟩ (by decide) (by decide) dX9_narrow_35
    · have f37 : (-2147483648 : Int) ≤ a2 ∧ a2 ≤ (2147483646 : Int) := r_lt fa2 f34 q36 (by decide) (by decide)
      have f38 : (-2147483647 : Int) ≤ v32 ∧ v32 ≤ (2147483647 : Int) := r_gt f34 fa2 q36 (by decide) (by decide)
      refine g_aload_n C rfl 0 rfl dX9_narrow_21 ?_
      refine gf_R C fk_LandSurvey_Slopes_9 rfl ta0 e29 dX9_narrow_22 ?_
      refine g_iload_n C rfl 1 rfl dX9_narrow_25 ?_
      refine g_iload_n C rfl 2 rfl dX9_narrow_26 ?_
      refine g_iast C t30 rfl l31 (ix fa1 (by decide) (by decide)) (iw f37 (by decide) (by decide)) dX9_narrow_27 (fun h40 hh39 => ?_)
      have O41 := O.pIa t30 ar_45100 hh39 rI_45100_0 (iw f37 (by decide) (by decide)) nofun
      refine g_aload_n C rfl 0 rfl dX9_narrow_28 ?_
      have e42 : Tg h40 a0 = 10 := ((pIT hh39).trans ta0)
      have e43 : Rv h40 a0 1 = v1 := ((pIR hh39).trans e2)
      refine gf_R C fk_LandSurvey_Slopes_15 rfl e42 e43 dX9_narrow_29 ?_
      refine g_iload_n C rfl 1 rfl dX9_narrow_32 ?_
      refine g_lload_n C rfl 3 rfl dX9_narrow_33 ?_
      have e44 : Tg h40 v1 = 46102 := ((pIT hh39).trans t3)
      have e45 : Ln h40 v1 = 384 := ((pIL hh39).trans l4)
      refine g_last C e44 rfl e45 (ix fa1 (by decide) (by decide)) fa3 dX9_narrow_34 (fun h47 hh46 => ?_)
      have O48 := O41.pJ hh46 fa3
      exact g_vret C hr ⟨O48, (((Fx.rf (wr := wr_k_X9_narrow)).pIa t30 ar_45100 hh39 rfl).pJa e44 ar_46102 hh46 rfl)⟩ (by decide) (by decide) dX9_narrow_35
def wr_k_X9_tear : List Nat := [9020000, 9220400]
set_option maxRecDepth 100000 in
set_option maxHeartbeats 4000000 in
theorem k_X9_tear (l : Launch) (D : va_G) (cy : Nat → ClassId) (w : Nat → Nat) (z0 : Nat)  {h : Hp} {a0 : Nat} {a1 : Nat}  (O : Okh h) (ta0 : Tg h a0 = 10) (ta1 : Tg h a1 = 1) (P_BreakOk : BreakOk h a1) : MV l D cy w z0 yX9_tear cX9_tear 10 none 0 0 0 0 [.inr (.inr a0), .inr (.inr a1)] h (fun h1 => Okh h1 ∧ Fx wr_k_X9_tear h h1) := by
  obtain ⟨v1, e2⟩ : ∃ z, Iv h a1 0 = z := ⟨_, rfl⟩
  have f3 := ok_I O ta1 rI_1_0 e2
  obtain ⟨v4, e5⟩ : ∃ z, Iv h a1 1 = z := ⟨_, rfl⟩
  have f6 := ok_I O ta1 rI_1_1 e5
  obtain ⟨v7, e8⟩ : ∃ z, Iv h a1 2 = z := ⟨_, rfl⟩
  have f9 := ok_I O ta1 rI_1_2 e8
  have p10 := P_BreakOk
  unfold BreakOk at p10
  rw [e2, e5, e8] at p10
  refine hm_go (by decide +kernel) (Nat.le_of_ble_eq_true rfl) (fun p e s m below meth c C hr hn => ?_)
  refine g_aload_n C rfl 1 rfl dX9_tear_0 ?_
  refine gf_I C fk_LandSurvey_Slopes_31 rfl ta1 e5 dX9_tear_1 ?_
  refine g_if_eq C (iw f6 (by decide) (by decide)) 12 (by decide) dX9_tear_4 (fun q11 => ?_) (fun q12 => ?_)
  · have f13 : (0 : Int) ≤ v4 ∧ v4 ≤ (0 : Int) := ii f6 (r_eq (il 0) q11) (by decide) (by decide)
    refine g_iconst C dX9_tear_12 ?_
    refine g_istore_n C [(2, .inl 1), (0, .inr (.inr a0)), (1, .inr (.inr a1))] rfl (by decide) rfl dX9_tear_13 ?_
    refine g_aload_n C rfl 2 rfl dX9_tear_14 ?_
    refine gf_I C fk_LandSurvey_Slopes_31 rfl ta1 e5 dX9_tear_15 ?_
    refine g_if_eq C (iw f13 (by decide) (by decide)) 25 (by decide) dX9_tear_18 (fun q14 => ?_) (fun q15 => ?_)
    · refine g_bipush C (by decide) dX9_tear_25 ?_
      refine g_istore_n C [(3, .inl 12), (2, .inl 1), (0, .inr (.inr a0)), (1, .inr (.inr a1))] rfl (by decide) rfl dX9_tear_27 ?_
      refine g_aload_n C rfl 3 rfl dX9_tear_28 ?_
      refine gf_I C fk_LandSurvey_Slopes_31 rfl ta1 e5 dX9_tear_29 ?_
      refine g_if_eq C (iw f13 (by decide) (by decide)) 39 (by decide) dX9_tear_32 (fun q16 => ?_) (fun q17 => ?_)
      · refine g_iconst C dX9_tear_39 ?_
        refine g_istore C [(4, .inl 3), (3, .inl 12), (2, .inl 1), (0, .inr (.inr a0)), (1, .inr (.inr a1))] (by decide) rfl dX9_tear_40 ?_
        refine g_aload_n C rfl 4 rfl dX9_tear_42 ?_
        refine gf_I C fk_LandSurvey_Slopes_31 rfl ta1 e5 dX9_tear_43 ?_
        refine g_if_eq C (iw f13 (by decide) (by decide)) 53 (by decide) dX9_tear_46 (fun q18 => ?_) (fun q19 => ?_)
        · refine g_iconst C dX9_tear_53 ?_
          refine g_istore C [(5, .inl 2), (4, .inl 3), (3, .inl 12), (2, .inl 1), (0, .inr (.inr a0)), (1, .inr (.inr a1))] (by decide) rfl dX9_tear_54 ?_
          refine g_iconst C dX9_tear_56 ?_
          refine g_istore C [(6, .inl 0), (5, .inl 2), (4, .inl 3), (3, .inl 12), (2, .inl 1), (0, .inr (.inr a0)), (1, .inr (.inr a1))] (by decide) rfl dX9_tear_57 ?_
          refine GW.sub [5, 6, 4, 3, 2, 1, 0] rfl ?_
          -- loop at 59
          have L22 : ∀ (μ : Nat) (x20 : Int) (h21 : Hp), (12 - x20).toNat = μ → Okh h21 → Fx [9020000, 9220400] h h21 → ((0 : Int) ≤ x20 ∧ x20 ≤ (12 : Int)) → GW p l e (rmm 0 0 0 0) s m (List.map toV [.inr (.inr a0), .inr (.inr a1)]).toArray below meth c D cy z0 10 (MQ below (QV D cy z0 (fun h1 => Okh h1 ∧ Fx wr_k_X9_tear h h1)) (List.map toV [.inr (.inr a0), .inr (.inr a1)]).toArray s 0 0 (Aof z0)) 59 [(0, .inr (.inr a0)), (1, .inr (.inr a1)), (2, .inl 1), (3, .inl 12), (4, .inl 3), (5, .inl 2), (6, .inl x20)] [] h21 0 0 := by
            intro μ
            induction μ using Nat.strongRecOn with
            | ind μ ih23 =>
              intro x20 h21 hm24 O25 F26 f27
              refine g_iload C 6 rfl dX9_tear_59 ?_
              refine g_aload_n C rfl 1 rfl dX9_tear_61 ?_
              have e28 : Tg h21 a1 = 1 := (fxT F26 ta1)
              have e29 : Iv h21 a1 2 = v7 := ((fxI F26 ta1 rfl).trans e8)
              refine gf_I C fk_LandSurvey_Slopes_37 rfl e28 e29 dX9_tear_62 ?_
              refine g_icmp_ge C (iw f27 (by decide) (by decide)) (iw f9 (by decide) (by decide)) 144 (by decide) dX9_tear_65 (fun q30 => ?_) (fun q31 => ?_)
              · exact g_vret C hr ⟨O25, ((Fx.rf (wr := wr_k_X9_tear)).call F26 rfl)⟩ (by decide) (by decide) dX9_tear_144
              · have f32 : (0 : Int) ≤ x20 ∧ x20 ≤ (11 : Int) := r_lt f27 f9 q31 (by decide) (by decide)
                have f33 : (1 : Int) ≤ v7 ∧ v7 ≤ (12 : Int) := r_gt f9 f27 q31 (by decide) (by decide)
                refine g_aload_n C rfl 1 rfl dX9_tear_68 ?_
                have e34 : Iv h21 a1 0 = v1 := ((fxI F26 ta1 rfl).trans e2)
                refine gf_I C fk_LandSurvey_Slopes_41 rfl e28 e34 dX9_tear_69 ?_
                refine g_iload C 6 rfl dX9_tear_72 ?_
                refine g_iload_n C rfl 2 rfl dX9_tear_74 ?_
                have f35 : (0 : Int) ≤ (x20 * 1) ∧ (x20 * 1) ≤ (11 : Int) := ia_mulr (by decide) f32 (by decide) (by decide)
                refine g_imul C dX9_tear_75 ?_
                have f36 : (0 : Int) ≤ (v1 + (x20 * 1)) ∧ (v1 + (x20 * 1)) ≤ (106 : Int) := ia_add f3 f35 (by decide) (by decide)
                refine g_iadd C dX9_tear_76 ?_
                refine g_istore C [(7, .inl (v1 + (x20 * 1))), (0, .inr (.inr a0)), (1, .inr (.inr a1)), (2, .inl 1), (3, .inl 12), (4, .inl 3), (5, .inl 2), (6, .inl x20)] (by decide) rfl dX9_tear_77 ?_
                refine g_iconst C dX9_tear_79 ?_
                refine g_iload C 0 rfl dX9_tear_80 ?_
                have f37 : (0 : Int) ≤ (4 * (v1 + (x20 * 1))) ∧ (4 * (v1 + (x20 * 1))) ≤ (424 : Int) := ia_mul (by decide) f36 (by decide) (by decide)
                refine g_imul C dX9_tear_82 ?_
                refine g_iload C 5 rfl dX9_tear_83 ?_
                have f38 : (3 : Int) ≤ ((4 * (v1 + (x20 * 1))) + 3) ∧ ((4 * (v1 + (x20 * 1))) + 3) ≤ (427 : Int) := ia_add f37 (il 3) (by decide) (by decide)
                refine g_iadd C dX9_tear_85 ?_
                refine g_istore C [(8, .inl ((4 * (v1 + (x20 * 1))) + 3)), (7, .inl (v1 + (x20 * 1))), (0, .inr (.inr a0)), (1, .inr (.inr a1)), (2, .inl 1), (3, .inl 12), (4, .inl 3), (5, .inl 2), (6, .inl x20)] (by decide) rfl dX9_tear_86 ?_
                refine g_iconst C dX9_tear_88 ?_
                refine g_iload C 1 rfl dX9_tear_89 ?_
                refine g_iload_n C rfl 5 rfl dX9_tear_91 ?_
                have f39 : (12 : Int) ≤ ((v1 + (x20 * 1)) + 12) ∧ ((v1 + (x20 * 1)) + 12) ≤ (118 : Int) := ia_add f36 (il 12) (by decide) (by decide)
                refine g_iadd C dX9_tear_92 ?_
                have f40 : (48 : Int) ≤ (4 * ((v1 + (x20 * 1)) + 12)) ∧ (4 * ((v1 + (x20 * 1)) + 12)) ≤ (472 : Int) := ia_mul (by decide) f39 (by decide) (by decide)
                refine g_imul C dX9_tear_93 ?_
                refine g_iload C 7 rfl dX9_tear_94 ?_
                have f41 : (50 : Int) ≤ ((4 * ((v1 + (x20 * 1)) + 12)) + 2) ∧ ((4 * ((v1 + (x20 * 1)) + 12)) + 2) ≤ (474 : Int) := ia_add f40 (il 2) (by decide) (by decide)
                refine g_iadd C dX9_tear_96 ?_
                refine g_istore C [(9, .inl ((4 * ((v1 + (x20 * 1)) + 12)) + 2)), (8, .inl ((4 * (v1 + (x20 * 1))) + 3)), (7, .inl (v1 + (x20 * 1))), (0, .inr (.inr a0)), (1, .inr (.inr a1)), (2, .inl 1), (3, .inl 12), (4, .inl 3), (5, .inl 2), (6, .inl x20)] (by decide) rfl dX9_tear_97 ?_
                refine g_aload_n C rfl 3 rfl dX9_tear_99 ?_
                have e42 : Tg h21 a0 = 10 := (fxT F26 ta0)
                obtain ⟨v43, e44⟩ : ∃ z, Rv h21 a0 0 = z := ⟨_, rfl⟩
                have t45 := ok_R O25 e42 rE_10_0 e44
                have l46 := ok_L O25 e42 rE_10_0 e44
                refine gf_R C fk_LandSurvey_Slopes_9 rfl e42 e44 dX9_tear_100 ?_
                refine g_iload C 1 rfl dX9_tear_103 ?_
                refine g_aload_n C rfl 4 rfl dX9_tear_105 ?_
                obtain ⟨v47, e48⟩ : ∃ z, Iv h21 a1 4 = z := ⟨_, rfl⟩
                have f49 := ok_I O25 e28 rI_1_4 e48
                refine gf_I C fk_LandSurvey_Slopes_44 rfl e28 e48 dX9_tear_106 ?_
                refine g_iast C t45 rfl l46 (by omega) (iw f49 (by decide) (by decide)) dX9_tear_109 (fun h51 hh50 => ?_)
                have O52 := O25.pIa t45 ar_45100 hh50 rI_45100_0 (iw f49 (by decide) (by decide)) nofun
                refine g_aload_n C rfl 3 rfl dX9_tear_110 ?_
                have e53 : Tg h51 a0 = 10 := ((pIT hh50).trans e42)
                obtain ⟨v54, e55⟩ : ∃ z, Rv h51 a0 1 = z := ⟨_, rfl⟩
                have t56 := ok_R O52 e53 rE_10_1 e55
                have l57 := ok_L O52 e53 rE_10_1 e55
                refine gf_R C fk_LandSurvey_Slopes_15 rfl e53 e55 dX9_tear_111 ?_
                refine g_iload C 1 rfl dX9_tear_114 ?_
                refine g_lconst (z := 0) C (by decide) dX9_tear_116 ?_
                refine g_last C t56 rfl l57 (by omega) (iw (il 0) (by decide) (by decide)) dX9_tear_117 (fun h59 hh58 => ?_)
                have O60 := O52.pJ hh58 (iw (il 0) (by decide) (by decide))
                refine g_aload_n C rfl 3 rfl dX9_tear_118 ?_
                have e61 : Tg h59 a0 = 10 := ((pJT hh58).trans e53)
                have e62 : Rv h59 a0 0 = v43 := ((pJR hh58).trans ((pIR hh50).trans e44))
                refine gf_R C fk_LandSurvey_Slopes_9 rfl e61 e62 dX9_tear_119 ?_
                refine g_iload C 0 rfl dX9_tear_122 ?_
                refine g_aload_n C rfl 4 rfl dX9_tear_124 ?_
                have e63 : Tg h59 a1 = 1 := ((pJT hh58).trans ((pIT hh50).trans e28))
                obtain ⟨v64, e65⟩ : ∃ z, Iv h59 a1 3 = z := ⟨_, rfl⟩
                have f66 := ok_I O60 e63 rI_1_3 e65
                refine gf_I C fk_LandSurvey_Slopes_47 rfl e63 e65 dX9_tear_125 ?_
                refine g_ineg C dX9_tear_128 ?_
                have f67 : (-300 : Int) ≤ (-v64) ∧ (-v64) ≤ (300 : Int) := ia_neg f66 (by decide) (by decide)
                have e68 : Tg h59 v43 = 45100 := ((pJT hh58).trans ((pIT hh50).trans t45))
                have e69 : Ln h59 v43 = 384 := ((pJL hh58).trans ((pIL hh50).trans l46))
                refine g_iast C e68 rfl e69 (by omega) (iw f67 (by decide) (by decide)) dX9_tear_129 (fun h71 hh70 => ?_)
                have O72 := O60.pIa e68 ar_45100 hh70 rI_45100_0 (iw f67 (by decide) (by decide)) nofun
                refine g_aload_n C rfl 3 rfl dX9_tear_130 ?_
                have e73 : Tg h71 a0 = 10 := ((pIT hh70).trans e61)
                have e74 : Rv h71 a0 1 = v54 := ((pIR hh70).trans ((pJR hh58).trans e55))
                refine gf_R C fk_LandSurvey_Slopes_15 rfl e73 e74 dX9_tear_131 ?_
                refine g_iload C 0 rfl dX9_tear_134 ?_
                refine g_lconst (z := 0) C (by decide) dX9_tear_136 ?_
                have e75 : Tg h71 v54 = 46102 := ((pIT hh70).trans ((pJT hh58).trans t56))
                have e76 : Ln h71 v54 = 384 := ((pIL hh70).trans ((pJL hh58).trans l57))
                refine g_last C e75 rfl e76 (by omega) (iw (il 0) (by decide) (by decide)) dX9_tear_137 (fun h78 hh77 => ?_)
                have O79 := O72.pJ hh77 (iw (il 0) (by decide) (by decide))
                have f80 : (1 : Int) ≤ (x20 + 1) ∧ (x20 + 1) ≤ (12 : Int) := ia_add f32 (il 1) (by decide) (by decide)
                refine g_iinc C [(6, .inl (x20 + 1)), (9, .inl ((4 * ((v1 + (x20 * 1)) + 12)) + 2)), (8, .inl ((4 * (v1 + (x20 * 1))) + 3)), (7, .inl (v1 + (x20 * 1))), (0, .inr (.inr a0)), (1, .inr (.inr a1)), (2, .inl 1), (3, .inl 12), (4, .inl 3), (5, .inl 2)] 9 rfl (by decide) rfl dX9_tear_138 ?_
                refine g_goto C 59 (by decide) dX9_tear_141 ?_
                refine GW.sub [4, 5, 6, 7, 8, 9, 0] rfl ?_
                exact ih23 _ (by omega) (x20 + 1) h78 rfl O79 ((((F26.pIa t45 ar_45100 hh50 rfl).pJa t56 ar_46102 hh58 rfl).pIa e68 ar_45100 hh70 rfl).pJa e75 ar_46102 hh77 rfl) (iw f80 (by decide) (by decide))
          exact L22 _ 0 h rfl O Fx.rf (iw (il 0) (by decide) (by decide))
        · exact (no_ne f13 (il 0) q19 (by decide)).elim
      · exact (no_ne f13 (il 0) q17 (by decide)).elim
    · exact (no_ne f13 (il 0) q15 (by decide)).elim
  · have f81 : (1 : Int) ≤ v4 ∧ v4 ≤ (1 : Int) := r_nl f6 q12
    refine g_bipush C (by decide) dX9_tear_7 ?_
    refine g_goto C 13 (by decide) dX9_tear_9 ?_
    refine g_istore_n C [(2, .inl 12), (0, .inr (.inr a0)), (1, .inr (.inr a1))] rfl (by decide) rfl dX9_tear_13 ?_
    refine g_aload_n C rfl 2 rfl dX9_tear_14 ?_
    refine gf_I C fk_LandSurvey_Slopes_31 rfl ta1 e5 dX9_tear_15 ?_
    refine g_if_eq C (iw f81 (by decide) (by decide)) 25 (by decide) dX9_tear_18 (fun q82 => ?_) (fun q83 => ?_)
    · exact (no_eq f81 (il 0) q82 (by decide)).elim
    · refine g_iconst C dX9_tear_21 ?_
      refine g_goto C 27 (by decide) dX9_tear_22 ?_
      refine g_istore_n C [(3, .inl 1), (2, .inl 12), (0, .inr (.inr a0)), (1, .inr (.inr a1))] rfl (by decide) rfl dX9_tear_27 ?_
      refine g_aload_n C rfl 3 rfl dX9_tear_28 ?_
      refine gf_I C fk_LandSurvey_Slopes_31 rfl ta1 e5 dX9_tear_29 ?_
      refine g_if_eq C (iw f81 (by decide) (by decide)) 39 (by decide) dX9_tear_32 (fun q84 => ?_) (fun q85 => ?_)
      · exact (no_eq f81 (il 0) q84 (by decide)).elim
      · refine g_iconst C dX9_tear_35 ?_
        refine g_goto C 40 (by decide) dX9_tear_36 ?_
        refine g_istore C [(4, .inl 1), (3, .inl 1), (2, .inl 12), (0, .inr (.inr a0)), (1, .inr (.inr a1))] (by decide) rfl dX9_tear_40 ?_
        refine g_aload_n C rfl 4 rfl dX9_tear_42 ?_
        refine gf_I C fk_LandSurvey_Slopes_31 rfl ta1 e5 dX9_tear_43 ?_
        refine g_if_eq C (iw f81 (by decide) (by decide)) 53 (by decide) dX9_tear_46 (fun q86 => ?_) (fun q87 => ?_)
        · exact (no_eq f81 (il 0) q86 (by decide)).elim
        · refine g_iconst C dX9_tear_49 ?_
          refine g_goto C 54 (by decide) dX9_tear_50 ?_
          refine g_istore C [(5, .inl 0), (4, .inl 1), (3, .inl 1), (2, .inl 12), (0, .inr (.inr a0)), (1, .inr (.inr a1))] (by decide) rfl dX9_tear_54 ?_
          refine g_iconst C dX9_tear_56 ?_
          refine g_istore C [(6, .inl 0), (5, .inl 0), (4, .inl 1), (3, .inl 1), (2, .inl 12), (0, .inr (.inr a0)), (1, .inr (.inr a1))] (by decide) rfl dX9_tear_57 ?_
          refine GW.sub [5, 6, 4, 3, 2, 1, 0] rfl ?_
          -- loop at 59
          have L90 : ∀ (μ : Nat) (x88 : Int) (h89 : Hp), (12 - x88).toNat = μ → Okh h89 → Fx [9020000, 9220400] h h89 → ((0 : Int) ≤ x88 ∧ x88 ≤ (12 : Int)) → GW p l e (rmm 0 0 0 0) s m (List.map toV [.inr (.inr a0), .inr (.inr a1)]).toArray below meth c D cy z0 10 (MQ below (QV D cy z0 (fun h1 => Okh h1 ∧ Fx wr_k_X9_tear h h1)) (List.map toV [.inr (.inr a0), .inr (.inr a1)]).toArray s 0 0 (Aof z0)) 59 [(0, .inr (.inr a0)), (1, .inr (.inr a1)), (2, .inl 12), (3, .inl 1), (4, .inl 1), (5, .inl 0), (6, .inl x88)] [] h89 0 0 := by
            intro μ
            induction μ using Nat.strongRecOn with
            | ind μ ih91 =>
              intro x88 h89 hm92 O93 F94 f95
              refine g_iload C 6 rfl dX9_tear_59 ?_
              refine g_aload_n C rfl 1 rfl dX9_tear_61 ?_
              have e96 : Tg h89 a1 = 1 := (fxT F94 ta1)
              have e97 : Iv h89 a1 2 = v7 := ((fxI F94 ta1 rfl).trans e8)
              refine gf_I C fk_LandSurvey_Slopes_37 rfl e96 e97 dX9_tear_62 ?_
              refine g_icmp_ge C (iw f95 (by decide) (by decide)) (iw f9 (by decide) (by decide)) 144 (by decide) dX9_tear_65 (fun q98 => ?_) (fun q99 => ?_)
              · exact g_vret C hr ⟨O93, ((Fx.rf (wr := wr_k_X9_tear)).call F94 rfl)⟩ (by decide) (by decide) dX9_tear_144
              · have f100 : (0 : Int) ≤ x88 ∧ x88 ≤ (11 : Int) := r_lt f95 f9 q99 (by decide) (by decide)
                have f101 : (1 : Int) ≤ v7 ∧ v7 ≤ (12 : Int) := r_gt f9 f95 q99 (by decide) (by decide)
                refine g_aload_n C rfl 1 rfl dX9_tear_68 ?_
                have e102 : Iv h89 a1 0 = v1 := ((fxI F94 ta1 rfl).trans e2)
                refine gf_I C fk_LandSurvey_Slopes_41 rfl e96 e102 dX9_tear_69 ?_
                refine g_iload C 6 rfl dX9_tear_72 ?_
                refine g_iload_n C rfl 2 rfl dX9_tear_74 ?_
                have f103 : (0 : Int) ≤ (x88 * 12) ∧ (x88 * 12) ≤ (132 : Int) := ia_mulr (by decide) f100 (by decide) (by decide)
                refine g_imul C dX9_tear_75 ?_
                have f104 : (0 : Int) ≤ (v1 + (x88 * 12)) ∧ (v1 + (x88 * 12)) ≤ (227 : Int) := ia_add f3 f103 (by decide) (by decide)
                refine g_iadd C dX9_tear_76 ?_
                refine g_istore C [(7, .inl (v1 + (x88 * 12))), (0, .inr (.inr a0)), (1, .inr (.inr a1)), (2, .inl 12), (3, .inl 1), (4, .inl 1), (5, .inl 0), (6, .inl x88)] (by decide) rfl dX9_tear_77 ?_
                refine g_iconst C dX9_tear_79 ?_
                refine g_iload C 0 rfl dX9_tear_80 ?_
                have f105 : (0 : Int) ≤ (4 * (v1 + (x88 * 12))) ∧ (4 * (v1 + (x88 * 12))) ≤ (908 : Int) := ia_mul (by decide) f104 (by decide) (by decide)
                refine g_imul C dX9_tear_82 ?_
                refine g_iload C 5 rfl dX9_tear_83 ?_
                have f106 : (1 : Int) ≤ ((4 * (v1 + (x88 * 12))) + 1) ∧ ((4 * (v1 + (x88 * 12))) + 1) ≤ (909 : Int) := ia_add f105 (il 1) (by decide) (by decide)
                refine g_iadd C dX9_tear_85 ?_
                refine g_istore C [(8, .inl ((4 * (v1 + (x88 * 12))) + 1)), (7, .inl (v1 + (x88 * 12))), (0, .inr (.inr a0)), (1, .inr (.inr a1)), (2, .inl 12), (3, .inl 1), (4, .inl 1), (5, .inl 0), (6, .inl x88)] (by decide) rfl dX9_tear_86 ?_
                refine g_iconst C dX9_tear_88 ?_
                refine g_iload C 1 rfl dX9_tear_89 ?_
                refine g_iload_n C rfl 5 rfl dX9_tear_91 ?_
                have f107 : (1 : Int) ≤ ((v1 + (x88 * 12)) + 1) ∧ ((v1 + (x88 * 12)) + 1) ≤ (228 : Int) := ia_add f104 (il 1) (by decide) (by decide)
                refine g_iadd C dX9_tear_92 ?_
                have f108 : (4 : Int) ≤ (4 * ((v1 + (x88 * 12)) + 1)) ∧ (4 * ((v1 + (x88 * 12)) + 1)) ≤ (912 : Int) := ia_mul (by decide) f107 (by decide) (by decide)
                refine g_imul C dX9_tear_93 ?_
                refine g_iload C 7 rfl dX9_tear_94 ?_
                have f109 : (4 : Int) ≤ ((4 * ((v1 + (x88 * 12)) + 1)) + 0) ∧ ((4 * ((v1 + (x88 * 12)) + 1)) + 0) ≤ (912 : Int) := ia_add f108 (il 0) (by decide) (by decide)
                refine g_iadd C dX9_tear_96 ?_
                refine g_istore C [(9, .inl ((4 * ((v1 + (x88 * 12)) + 1)) + 0)), (8, .inl ((4 * (v1 + (x88 * 12))) + 1)), (7, .inl (v1 + (x88 * 12))), (0, .inr (.inr a0)), (1, .inr (.inr a1)), (2, .inl 12), (3, .inl 1), (4, .inl 1), (5, .inl 0), (6, .inl x88)] (by decide) rfl dX9_tear_97 ?_
                refine g_aload_n C rfl 3 rfl dX9_tear_99 ?_
                have e110 : Tg h89 a0 = 10 := (fxT F94 ta0)
                obtain ⟨v111, e112⟩ : ∃ z, Rv h89 a0 0 = z := ⟨_, rfl⟩
                have t113 := ok_R O93 e110 rE_10_0 e112
                have l114 := ok_L O93 e110 rE_10_0 e112
                refine gf_R C fk_LandSurvey_Slopes_9 rfl e110 e112 dX9_tear_100 ?_
                refine g_iload C 1 rfl dX9_tear_103 ?_
                refine g_aload_n C rfl 4 rfl dX9_tear_105 ?_
                obtain ⟨v115, e116⟩ : ∃ z, Iv h89 a1 4 = z := ⟨_, rfl⟩
                have f117 := ok_I O93 e96 rI_1_4 e116
                refine gf_I C fk_LandSurvey_Slopes_44 rfl e96 e116 dX9_tear_106 ?_
                refine g_iast C t113 rfl l114 (by omega) (iw f117 (by decide) (by decide)) dX9_tear_109 (fun h119 hh118 => ?_)
                have O120 := O93.pIa t113 ar_45100 hh118 rI_45100_0 (iw f117 (by decide) (by decide)) nofun
                refine g_aload_n C rfl 3 rfl dX9_tear_110 ?_
                have e121 : Tg h119 a0 = 10 := ((pIT hh118).trans e110)
                obtain ⟨v122, e123⟩ : ∃ z, Rv h119 a0 1 = z := ⟨_, rfl⟩
                have t124 := ok_R O120 e121 rE_10_1 e123
                have l125 := ok_L O120 e121 rE_10_1 e123
                refine gf_R C fk_LandSurvey_Slopes_15 rfl e121 e123 dX9_tear_111 ?_
                refine g_iload C 1 rfl dX9_tear_114 ?_
                refine g_lconst (z := 0) C (by decide) dX9_tear_116 ?_
                refine g_last C t124 rfl l125 (by omega) (iw (il 0) (by decide) (by decide)) dX9_tear_117 (fun h127 hh126 => ?_)
                have O128 := O120.pJ hh126 (iw (il 0) (by decide) (by decide))
                refine g_aload_n C rfl 3 rfl dX9_tear_118 ?_
                have e129 : Tg h127 a0 = 10 := ((pJT hh126).trans e121)
                have e130 : Rv h127 a0 0 = v111 := ((pJR hh126).trans ((pIR hh118).trans e112))
                refine gf_R C fk_LandSurvey_Slopes_9 rfl e129 e130 dX9_tear_119 ?_
                refine g_iload C 0 rfl dX9_tear_122 ?_
                refine g_aload_n C rfl 4 rfl dX9_tear_124 ?_
                have e131 : Tg h127 a1 = 1 := ((pJT hh126).trans ((pIT hh118).trans e96))
                obtain ⟨v132, e133⟩ : ∃ z, Iv h127 a1 3 = z := ⟨_, rfl⟩
                have f134 := ok_I O128 e131 rI_1_3 e133
                refine gf_I C fk_LandSurvey_Slopes_47 rfl e131 e133 dX9_tear_125 ?_
                refine g_ineg C dX9_tear_128 ?_
                have f135 : (-300 : Int) ≤ (-v132) ∧ (-v132) ≤ (300 : Int) := ia_neg f134 (by decide) (by decide)
                have e136 : Tg h127 v111 = 45100 := ((pJT hh126).trans ((pIT hh118).trans t113))
                have e137 : Ln h127 v111 = 384 := ((pJL hh126).trans ((pIL hh118).trans l114))
                refine g_iast C e136 rfl e137 (by omega) (iw f135 (by decide) (by decide)) dX9_tear_129 (fun h139 hh138 => ?_)
                have O140 := O128.pIa e136 ar_45100 hh138 rI_45100_0 (iw f135 (by decide) (by decide)) nofun
                refine g_aload_n C rfl 3 rfl dX9_tear_130 ?_
                have e141 : Tg h139 a0 = 10 := ((pIT hh138).trans e129)
                have e142 : Rv h139 a0 1 = v122 := ((pIR hh138).trans ((pJR hh126).trans e123))
                refine gf_R C fk_LandSurvey_Slopes_15 rfl e141 e142 dX9_tear_131 ?_
                refine g_iload C 0 rfl dX9_tear_134 ?_
                refine g_lconst (z := 0) C (by decide) dX9_tear_136 ?_
                have e143 : Tg h139 v122 = 46102 := ((pIT hh138).trans ((pJT hh126).trans t124))
                have e144 : Ln h139 v122 = 384 := ((pIL hh138).trans ((pJL hh126).trans l125))
                refine g_last C e143 rfl e144 (by omega) (iw (il 0) (by decide) (by decide)) dX9_tear_137 (fun h146 hh145 => ?_)
                have O147 := O140.pJ hh145 (iw (il 0) (by decide) (by decide))
                have f148 : (1 : Int) ≤ (x88 + 1) ∧ (x88 + 1) ≤ (12 : Int) := ia_add f100 (il 1) (by decide) (by decide)
                refine g_iinc C [(6, .inl (x88 + 1)), (9, .inl ((4 * ((v1 + (x88 * 12)) + 1)) + 0)), (8, .inl ((4 * (v1 + (x88 * 12))) + 1)), (7, .inl (v1 + (x88 * 12))), (0, .inr (.inr a0)), (1, .inr (.inr a1)), (2, .inl 12), (3, .inl 1), (4, .inl 1), (5, .inl 0)] 9 rfl (by decide) rfl dX9_tear_138 ?_
                refine g_goto C 59 (by decide) dX9_tear_141 ?_
                refine GW.sub [4, 5, 6, 7, 8, 9, 0] rfl ?_
                exact ih91 _ (by omega) (x88 + 1) h146 rfl O147 ((((F94.pIa t113 ar_45100 hh118 rfl).pJa t124 ar_46102 hh126 rfl).pIa e136 ar_45100 hh138 rfl).pJa e143 ar_46102 hh145 rfl) (iw f148 (by decide) (by decide))
          exact L90 _ 0 h rfl O Fx.rf (iw (il 0) (by decide) (by decide))
def wr_k_X9_carry : List Nat := [2003, 8020000, 9420000]
set_option maxRecDepth 100000 in
set_option maxHeartbeats 4000000 in
theorem k_X9_carry (l : Launch) (D : va_G) (cy : Nat → ClassId) (w : Nat → Nat) (z0 : Nat)  {h : Hp} {a0 : Nat} {a1 : Nat} {a2 : Int} {a3 : Int} {a4 : Int}  (O : Okh h) (ta0 : Tg h a0 = 10) (ta1 : Tg h a1 = 40100) (la1 : Ln h a1 = 96) (fa2 : 0 ≤ a2 ∧ a2 ≤ 95) (fa3 : 0 ≤ a3 ∧ a3 ≤ 95) (fa4 : 0 ≤ a4 ∧ a4 ≤ 383) : MV l D cy w z0 yX9_carry cX9_carry 6 none 0 0 0 0 [.inr (.inr a0), .inr (.inr a1), .inl a2, .inl a3, .inl a4] h (fun h1 => Okh h1 ∧ Fx wr_k_X9_carry h h1) := by
  refine hm_go (by decide +kernel) (Nat.le_of_ble_eq_true rfl) (fun p e s m below meth c C hr hn => ?_)
  refine g_aload_n C rfl 1 rfl dX9_carry_0 ?_
  refine g_iload_n C rfl 2 rfl dX9_carry_1 ?_
  obtain ⟨v1, e2⟩ : ∃ z, Iv h a1 a2.toNat = z := ⟨_, rfl⟩
  have f3 := ok_Ia O ta1 ar_40100 rI_40100_0 e2
  refine g_iald C ta1 rfl la1 (ix fa2 (by decide) (by decide)) e2 dX9_carry_2 ?_
  refine g_aload_n C rfl 0 rfl dX9_carry_3 ?_
  obtain ⟨v4, e5⟩ : ∃ z, Rv h a0 0 = z := ⟨_, rfl⟩
  have t6 := ok_R O ta0 rE_10_0 e5
  have l7 := ok_L O ta0 rE_10_0 e5
  refine gf_R C fk_LandSurvey_Slopes_9 rfl ta0 e5 dX9_carry_4 ?_
  refine g_iload C 4 rfl dX9_carry_7 ?_
  obtain ⟨v8, e9⟩ : ∃ z, Iv h v4 a4.toNat = z := ⟨_, rfl⟩
  have f10 := ok_Ia O t6 ar_45100 rI_45100_0 e9
  refine g_iald C t6 rfl l7 (ix fa4 (by decide) (by decide)) e9 dX9_carry_9 ?_
  have f11 : (-2147483648 : Int) ≤ (w32 (v1 + v8)) ∧ (w32 (v1 + v8)) ≤ (2147483647 : Int) := w32_inR _
  refine g_iaddW C dX9_carry_10 ?_
  refine g_istore C [(5, .inl (w32 (v1 + v8))), (0, .inr (.inr a0)), (1, .inr (.inr a1)), (2, .inl a2), (3, .inl a3), (4, .inl a4)] (by decide) rfl dX9_carry_11 ?_
  refine g_iload C 0 rfl dX9_carry_13 ?_
  refine g_aload_n C rfl 2 rfl dX9_carry_15 ?_
  refine g_iload_n C rfl 4 rfl dX9_carry_16 ?_
  obtain ⟨v12, e13⟩ : ∃ z, Iv h a1 a3.toNat = z := ⟨_, rfl⟩
  have f14 := ok_Ia O ta1 ar_40100 rI_40100_0 e13
  refine g_iald C ta1 rfl la1 (ix fa3 (by decide) (by decide)) e13 dX9_carry_17 ?_
  refine g_icmp_ge C f11 f14 47 (by decide) dX9_carry_18 (fun q15 => ?_) (fun q16 => ?_)
  · exact g_vret C hr ⟨O, Fx.rf⟩ (by decide) (by decide) dX9_carry_47
  · have f17 : (-2147483648 : Int) ≤ (w32 (v1 + v8)) ∧ (w32 (v1 + v8)) ≤ (2147483646 : Int) := r_lt f11 f14 q16 (by decide) (by decide)
    have f18 : (-2147483647 : Int) ≤ v12 ∧ v12 ≤ (2147483647 : Int) := r_gt f14 f11 q16 (by decide) (by decide)
    refine g_aload_n C rfl 2 rfl dX9_carry_21 ?_
    refine g_iload_n C rfl 3 rfl dX9_carry_22 ?_
    refine g_iald C ta1 rfl la1 (ix fa2 (by decide) (by decide)) e2 dX9_carry_23 ?_
    refine g_ldc (z := 268435456) C kw_1117 (by decide) dX9_carry_24 ?_
    refine g_icmp_ge C f3 (iw (il 268435456) (by decide) (by decide)) 47 (by decide) dX9_carry_26 (fun q19 => ?_) (fun q20 => ?_)
    · have f21 : (268435456 : Int) ≤ v1 ∧ v1 ≤ (2147483647 : Int) := r_ge f3 (il 268435456) q19 (by decide) (by decide)
      exact g_vret C hr ⟨O, Fx.rf⟩ (by decide) (by decide) dX9_carry_47
    · have f22 : (-2147483648 : Int) ≤ v1 ∧ v1 ≤ (268435455 : Int) := r_lt f3 (il 268435456) q20 (by decide) (by decide)
      refine g_aload_n C rfl 2 rfl dX9_carry_29 ?_
      refine g_iload_n C rfl 4 rfl dX9_carry_30 ?_
      refine g_iload C 0 rfl dX9_carry_31 ?_
      refine g_iast C ta1 rfl la1 (ix fa3 (by decide) (by decide)) (iw f17 (by decide) (by decide)) dX9_carry_33 (fun h24 hh23 => ?_)
      have O25 := O.pIa ta1 ar_40100 hh23 rI_40100_0 (iw f17 (by decide) (by decide)) nofun
      refine g_aload_n C rfl 1 rfl dX9_carry_34 ?_
      have e26 : Tg h24 a0 = 10 := ((pIT hh23).trans ta0)
      obtain ⟨v27, e28⟩ : ∃ z, Rv h24 a0 2 = z := ⟨_, rfl⟩
      have t29 := ok_R O25 e26 rE_10_2 e28
      have l30 := ok_L O25 e26 rE_10_2 e28
      refine gf_R C fk_LandSurvey_Slopes_19 rfl e26 e28 dX9_carry_35 ?_
      refine g_iload_n C rfl 4 rfl dX9_carry_38 ?_
      refine g_iload C 5 rfl dX9_carry_39 ?_
      refine g_iast C t29 rfl l30 (ix fa3 (by decide) (by decide)) (iw fa4 (by decide) (by decide)) dX9_carry_41 (fun h32 hh31 => ?_)
      have O33 := O25.pIa t29 ar_47100 hh31 rI_47100_0 (iw fa4 (by decide) (by decide)) nofun
      refine g_aload_n C rfl 1 rfl dX9_carry_42 ?_
      refine g_iconst C dX9_carry_43 ?_
      have e34 : Tg h32 a0 = 10 := ((pIT hh31).trans e26)
      refine gp_I C fk_LandSurvey_Slopes_55 pk_LandSurvey_Slopes_3 rfl e34 (iw (il 1) (by decide) (by decide)) (nar_z2 (iw (il 1) (by decide) (by decide))) dX9_carry_44 (fun h36 hh35 => ?_)
      have O37 := O33.pI e34 hh35 rI_10_3 (iw (il 1) (by decide) (by decide)) nofun
      exact g_vret C hr ⟨O37, ((((Fx.rf (wr := wr_k_X9_carry)).pIa ta1 ar_40100 hh23 rfl).pIa t29 ar_47100 hh31 rfl).pI e34 hh35 rfl)⟩ (by decide) (by decide) dX9_carry_47
def wr_k_X9_sweep : List Nat := [2003, 8020000, 9420000]
set_option maxRecDepth 100000 in
set_option maxHeartbeats 4000000 in
theorem k_X9_sweep (l : Launch) (D : va_G) (cy : Nat → ClassId) (w : Nat → Nat) (z0 : Nat)  {h : Hp} {a0 : Nat} {a1 : Nat} {a2 : Int}  (O : Okh h) (ta0 : Tg h a0 = 10) (ta1 : Tg h a1 = 40100) (la1 : Ln h a1 = 96) (fa2 : 0 ≤ a2 ∧ a2 ≤ 1) : MV l D cy w z0 yX9_sweep cX9_sweep 5 none 1 25 0 0 [.inr (.inr a0), .inr (.inr a1), .inl a2] h (fun h1 => Okh h1 ∧ Fx wr_k_X9_sweep h h1) := by
  refine hm_go (by decide +kernel) (Nat.le_of_ble_eq_true rfl) (fun p e s m below meth c C hr hn => ?_)
  refine g_iconst C dX9_sweep_0 ?_
  refine g_istore_n C [(3, .inl 1), (0, .inr (.inr a0)), (1, .inr (.inr a1)), (2, .inl a2)] rfl (by decide) rfl dX9_sweep_1 ?_
  refine GW.sub [1, 2, 3, 0] rfl ?_
  -- loop at 2
  have L3 : ∀ (μ : Nat) (x1 : Int) (h2 : Hp), (96 - x1).toNat = μ → Okh h2 → Fx [2003, 8020000, 9420000] h h2 → ((1 : Int) ≤ x1 ∧ x1 ≤ (96 : Int)) → GW p l e (rmm 1 25 0 0) s m (List.map toV [.inr (.inr a0), .inr (.inr a1), .inl a2]).toArray below meth c D cy z0 5 (MQ below (QV D cy z0 (fun h1 => Okh h1 ∧ Fx wr_k_X9_sweep h h1)) (List.map toV [.inr (.inr a0), .inr (.inr a1), .inl a2]).toArray s 0 0 (Aof z0)) 2 [(0, .inr (.inr a0)), (1, .inr (.inr a1)), (2, .inl a2), (3, .inl x1)] [] h2 0 0 := by
    intro μ
    induction μ using Nat.strongRecOn with
    | ind μ ih4 =>
      intro x1 h2 hm5 O6 F7 f8
      refine g_iload_n C rfl 3 rfl dX9_sweep_2 ?_
      refine g_bipush C (by decide) dX9_sweep_3 ?_
      refine g_icmp_ge C (iw f8 (by decide) (by decide)) (iw (il 96) (by decide) (by decide)) 90 (by decide) dX9_sweep_5 (fun q9 => ?_) (fun q10 => ?_)
      · have f11 : (96 : Int) ≤ x1 ∧ x1 ≤ (96 : Int) := r_ge f8 (il 96) q9 (by decide) (by decide)
        refine g_bipush C (by decide) dX9_sweep_90 ?_
        refine g_istore_n C [(3, .inl 94), (0, .inr (.inr a0)), (1, .inr (.inr a1)), (2, .inl a2)] rfl (by decide) rfl dX9_sweep_92 ?_
        refine GW.sub [1, 2, 3, 0] rfl ?_
        -- loop at 93
        have L14 : ∀ (μ : Nat) (x12 : Int) (h13 : Hp), (x12 - (-1)).toNat = μ → Okh h13 → Fx [2003, 8020000, 9420000] h2 h13 → ((-1 : Int) ≤ x12 ∧ x12 ≤ (94 : Int)) → GW p l e (rmm 1 25 0 0) s m (List.map toV [.inr (.inr a0), .inr (.inr a1), .inl a2]).toArray below meth c D cy z0 5 (MQ below (QV D cy z0 (fun h1 => Okh h1 ∧ Fx wr_k_X9_sweep h h1)) (List.map toV [.inr (.inr a0), .inr (.inr a1), .inl a2]).toArray s 0 0 (Aof z0)) 93 [(0, .inr (.inr a0)), (1, .inr (.inr a1)), (2, .inl a2), (3, .inl x12)] [] h13 0 0 := by
          intro μ
          induction μ using Nat.strongRecOn with
          | ind μ ih15 =>
            intro x12 h13 hm16 O17 F18 f19
            refine g_iload_n C rfl 3 rfl dX9_sweep_93 ?_
            refine g_if_lt C (iw f19 (by decide) (by decide)) 181 (by decide) dX9_sweep_94 (fun q20 => ?_) (fun q21 => ?_)
            · have f22 : (-1 : Int) ≤ x12 ∧ x12 ≤ (-1 : Int) := r_lt f19 (il 0) q20 (by decide) (by decide)
              exact g_vret C hr ⟨O17, (((Fx.rf (wr := wr_k_X9_sweep)).call F7 rfl).call F18 rfl)⟩ (by decide) (by decide) dX9_sweep_181
            · have f23 : (0 : Int) ≤ x12 ∧ x12 ≤ (94 : Int) := r_ge f19 (il 0) q21 (by decide) (by decide)
              refine g_iload_n C rfl 3 rfl dX9_sweep_97 ?_
              refine g_bipush C (by decide) dX9_sweep_98 ?_
              refine g_iremE (k := 12) C (iw f23 (by decide) (by decide)) (by decide) (by decide) dX9_sweep_100 ?_
              have f24 : (0 : Int) ≤ (x12 % 12) ∧ (x12 % 12) ≤ (11 : Int) := iv_rem (by decide) (by decide)
              refine g_bipush C (by decide) dX9_sweep_101 ?_
              refine g_icmp_eq C (iw f24 (by decide) (by decide)) (iw (il 11) (by decide) (by decide)) 137 (by decide) dX9_sweep_103 (fun q25 => ?_) (fun q26 => ?_)
              · have f27 : (11 : Int) ≤ (x12 % 12) ∧ (x12 % 12) ≤ (11 : Int) := ii f24 (r_eq (il 11) q25) (by decide) (by decide)
                refine g_iload_n C rfl 3 rfl dX9_sweep_137 ?_
                refine g_bipush C (by decide) dX9_sweep_138 ?_
                refine g_icmp_ge C (iw f23 (by decide) (by decide)) (iw (il 84) (by decide) (by decide)) 175 (by decide) dX9_sweep_140 (fun q28 => ?_) (fun q29 => ?_)
                · have f30 : (84 : Int) ≤ x12 ∧ x12 ≤ (94 : Int) := r_ge f23 (il 84) q28 (by decide) (by decide)
                  have f31 : (83 : Int) ≤ (x12 + (-1)) ∧ (x12 + (-1)) ≤ (93 : Int) := ia_add f30 (il (-1)) (by decide) (by decide)
                  refine g_iinc C [(3, .inl (x12 + (-1))), (0, .inr (.inr a0)), (1, .inr (.inr a1)), (2, .inl a2)] 3 rfl (by decide) rfl dX9_sweep_175 ?_
                  refine g_goto C 93 (by decide) dX9_sweep_178 ?_
                  refine GW.sub [1, 2, 3, 0] rfl ?_
                  exact ih15 _ (by omega) (x12 + (-1)) h13 rfl O17 F18 (iw f31 (by decide) (by decide))
                · have f32 : (0 : Int) ≤ x12 ∧ x12 ≤ (83 : Int) := r_lt f23 (il 84) q29 (by decide) (by decide)
                  refine g_iload_n C rfl 3 rfl dX9_sweep_143 ?_
                  refine g_bipush C (by decide) dX9_sweep_144 ?_
                  have f33 : (12 : Int) ≤ (x12 + 12) ∧ (x12 + 12) ≤ (95 : Int) := ia_add f32 (il 12) (by decide) (by decide)
                  refine g_iadd C dX9_sweep_146 ?_
                  refine g_istore C [(4, .inl (x12 + 12)), (0, .inr (.inr a0)), (1, .inr (.inr a1)), (2, .inl a2), (3, .inl x12)] (by decide) rfl dX9_sweep_147 ?_
                  refine g_aload_n C rfl 1 rfl dX9_sweep_149 ?_
                  refine g_aload_n C rfl 2 rfl dX9_sweep_150 ?_
                  refine g_iload C 0 rfl dX9_sweep_151 ?_
                  refine g_iload_n C rfl 4 rfl dX9_sweep_153 ?_
                  refine g_iload_n C rfl 3 rfl dX9_sweep_154 ?_
                  refine g_if_eq C (iw fa2 (by decide) (by decide)) 166 (by decide) dX9_sweep_155 (fun q34 => ?_) (fun q35 => ?_)
                  · have f36 : (0 : Int) ≤ a2 ∧ a2 ≤ (0 : Int) := ii fa2 (r_eq (il 0) q34) (by decide) (by decide)
                    refine g_iconst C dX9_sweep_166 ?_
                    refine g_iload C 0 rfl dX9_sweep_167 ?_
                    have f37 : (48 : Int) ≤ (4 * (x12 + 12)) ∧ (4 * (x12 + 12)) ≤ (380 : Int) := ia_mul (by decide) f33 (by decide) (by decide)
                    refine g_imul C dX9_sweep_169 ?_
                    refine g_iconst C dX9_sweep_170 ?_
                    have f38 : (50 : Int) ≤ ((4 * (x12 + 12)) + 2) ∧ ((4 * (x12 + 12)) + 2) ≤ (382 : Int) := ia_add f37 (il 2) (by decide) (by decide)
                    refine g_iadd C dX9_sweep_171 ?_
                    have e39 : Tg h13 a0 = 10 := (fxT F18 (fxT F7 ta0))
                    have e40 : Tg h13 a1 = 40100 := (fxT F18 (fxT F7 ta1))
                    have e41 : Tg h2 a1 = 40100 := (fxT F7 ta1)
                    have e42 : Ln h13 a1 = 96 := ((fxL F18 e41).trans ((fxL F7 ta1).trans la1))
                    refine g_callV (st := []) (gc_V C lk_LandSurvey_Slopes_50 (k_X9_carry l D cy w z0 O17 e39 e40 e42 (iw f33 (by decide) (by decide)) (iw f32 (by decide) (by decide)) (iw f38 (by decide) (by decide))) e39 rfl rfl rfl ⟨by decide, by decide⟩ (Nat.le_of_ble_eq_true rfl) dX9_sweep_172 ⟨(by decide), (by decide)⟩) (fun h44 K45 => ?_)
                    obtain ⟨O47, F48⟩ := K45
                    have f49 : (-1 : Int) ≤ (x12 + (-1)) ∧ (x12 + (-1)) ≤ (82 : Int) := ia_add f32 (il (-1)) (by decide) (by decide)
                    refine g_iinc C [(3, .inl (x12 + (-1))), (4, .inl (x12 + 12)), (0, .inr (.inr a0)), (1, .inr (.inr a1)), (2, .inl a2)] 4 rfl (by decide) rfl dX9_sweep_175 ?_
                    refine g_goto C 93 (by decide) dX9_sweep_178 ?_
                    refine GW.sub [2, 3, 4, 0] rfl ?_
                    exact ih15 _ (by omega) (x12 + (-1)) h44 rfl O47 (F18.call F48 rfl) (iw f49 (by decide) (by decide))
                  · have f50 : (1 : Int) ≤ a2 ∧ a2 ≤ (1 : Int) := r_nl fa2 q35
                    refine g_iconst C dX9_sweep_158 ?_
                    refine g_iload_n C rfl 4 rfl dX9_sweep_159 ?_
                    have f51 : (0 : Int) ≤ (4 * x12) ∧ (4 * x12) ≤ (332 : Int) := ia_mul (by decide) f32 (by decide) (by decide)
                    refine g_imul C dX9_sweep_160 ?_
                    refine g_iconst C dX9_sweep_161 ?_
                    have f52 : (3 : Int) ≤ ((4 * x12) + 3) ∧ ((4 * x12) + 3) ≤ (335 : Int) := ia_add f51 (il 3) (by decide) (by decide)
                    refine g_iadd C dX9_sweep_162 ?_
                    refine g_goto C 172 (by decide) dX9_sweep_163 ?_
                    have e53 : Tg h13 a0 = 10 := (fxT F18 (fxT F7 ta0))
                    have e54 : Tg h13 a1 = 40100 := (fxT F18 (fxT F7 ta1))
                    have e55 : Tg h2 a1 = 40100 := (fxT F7 ta1)
                    have e56 : Ln h13 a1 = 96 := ((fxL F18 e55).trans ((fxL F7 ta1).trans la1))
                    refine g_callV (st := []) (gc_V C lk_LandSurvey_Slopes_50 (k_X9_carry l D cy w z0 O17 e53 e54 e56 (iw f33 (by decide) (by decide)) (iw f32 (by decide) (by decide)) (iw f52 (by decide) (by decide))) e53 rfl rfl rfl ⟨by decide, by decide⟩ (Nat.le_of_ble_eq_true rfl) dX9_sweep_172 ⟨(by decide), (by decide)⟩) (fun h58 K59 => ?_)
                    obtain ⟨O61, F62⟩ := K59
                    have f63 : (-1 : Int) ≤ (x12 + (-1)) ∧ (x12 + (-1)) ≤ (82 : Int) := ia_add f32 (il (-1)) (by decide) (by decide)
                    refine g_iinc C [(3, .inl (x12 + (-1))), (4, .inl (x12 + 12)), (0, .inr (.inr a0)), (1, .inr (.inr a1)), (2, .inl a2)] 4 rfl (by decide) rfl dX9_sweep_175 ?_
                    refine g_goto C 93 (by decide) dX9_sweep_178 ?_
                    refine GW.sub [2, 3, 4, 0] rfl ?_
                    exact ih15 _ (by omega) (x12 + (-1)) h58 rfl O61 (F18.call F62 rfl) (iw f63 (by decide) (by decide))
              · have f64 : (0 : Int) ≤ (x12 % 12) ∧ (x12 % 12) ≤ (10 : Int) := r_nh f24 q26
                refine g_iload_n C rfl 3 rfl dX9_sweep_106 ?_
                refine g_iconst C dX9_sweep_107 ?_
                have f65 : (1 : Int) ≤ (x12 + 1) ∧ (x12 + 1) ≤ (95 : Int) := ia_add f23 (il 1) (by decide) (by decide)
                refine g_iadd C dX9_sweep_108 ?_
                refine g_istore C [(4, .inl (x12 + 1)), (0, .inr (.inr a0)), (1, .inr (.inr a1)), (2, .inl a2), (3, .inl x12)] (by decide) rfl dX9_sweep_109 ?_
                refine g_aload_n C rfl 1 rfl dX9_sweep_111 ?_
                refine g_aload_n C rfl 2 rfl dX9_sweep_112 ?_
                refine g_iload C 0 rfl dX9_sweep_113 ?_
                refine g_iload_n C rfl 4 rfl dX9_sweep_115 ?_
                refine g_iload_n C rfl 3 rfl dX9_sweep_116 ?_
                refine g_if_eq C (iw fa2 (by decide) (by decide)) 128 (by decide) dX9_sweep_117 (fun q66 => ?_) (fun q67 => ?_)
                · have f68 : (0 : Int) ≤ a2 ∧ a2 ≤ (0 : Int) := ii fa2 (r_eq (il 0) q66) (by decide) (by decide)
                  refine g_iconst C dX9_sweep_128 ?_
                  refine g_iload C 0 rfl dX9_sweep_129 ?_
                  have f69 : (4 : Int) ≤ (4 * (x12 + 1)) ∧ (4 * (x12 + 1)) ≤ (380 : Int) := ia_mul (by decide) f65 (by decide) (by decide)
                  refine g_imul C dX9_sweep_131 ?_
                  refine g_iconst C dX9_sweep_132 ?_
                  have f70 : (4 : Int) ≤ ((4 * (x12 + 1)) + 0) ∧ ((4 * (x12 + 1)) + 0) ≤ (380 : Int) := ia_add f69 (il 0) (by decide) (by decide)
                  refine g_iadd C dX9_sweep_133 ?_
                  have e71 : Tg h13 a0 = 10 := (fxT F18 (fxT F7 ta0))
                  have e72 : Tg h13 a1 = 40100 := (fxT F18 (fxT F7 ta1))
                  have e73 : Tg h2 a1 = 40100 := (fxT F7 ta1)
                  have e74 : Ln h13 a1 = 96 := ((fxL F18 e73).trans ((fxL F7 ta1).trans la1))
                  refine g_callV (st := []) (gc_V C lk_LandSurvey_Slopes_50 (k_X9_carry l D cy w z0 O17 e71 e72 e74 (iw f65 (by decide) (by decide)) (iw f23 (by decide) (by decide)) (iw f70 (by decide) (by decide))) e71 rfl rfl rfl ⟨by decide, by decide⟩ (Nat.le_of_ble_eq_true rfl) dX9_sweep_134 ⟨(by decide), (by decide)⟩) (fun h76 K77 => ?_)
                  obtain ⟨O79, F80⟩ := K77
                  refine g_iload_n C rfl 4 rfl dX9_sweep_137 ?_
                  refine g_bipush C (by decide) dX9_sweep_138 ?_
                  refine g_icmp_ge C (iw f23 (by decide) (by decide)) (iw (il 84) (by decide) (by decide)) 175 (by decide) dX9_sweep_140 (fun q81 => ?_) (fun q82 => ?_)
                  · have f83 : (84 : Int) ≤ x12 ∧ x12 ≤ (94 : Int) := r_ge f23 (il 84) q81 (by decide) (by decide)
                    have f84 : (83 : Int) ≤ (x12 + (-1)) ∧ (x12 + (-1)) ≤ (93 : Int) := ia_add f83 (il (-1)) (by decide) (by decide)
                    refine g_iinc C [(3, .inl (x12 + (-1))), (4, .inl (x12 + 1)), (0, .inr (.inr a0)), (1, .inr (.inr a1)), (2, .inl a2)] 4 rfl (by decide) rfl dX9_sweep_175 ?_
                    refine g_goto C 93 (by decide) dX9_sweep_178 ?_
                    refine GW.sub [2, 3, 4, 0] rfl ?_
                    exact ih15 _ (by omega) (x12 + (-1)) h76 rfl O79 (F18.call F80 rfl) (iw f84 (by decide) (by decide))
                  · have f85 : (0 : Int) ≤ x12 ∧ x12 ≤ (83 : Int) := r_lt f23 (il 84) q82 (by decide) (by decide)
                    refine g_iload_n C rfl 4 rfl dX9_sweep_143 ?_
                    refine g_bipush C (by decide) dX9_sweep_144 ?_
                    have f86 : (12 : Int) ≤ (x12 + 12) ∧ (x12 + 12) ≤ (95 : Int) := ia_add f85 (il 12) (by decide) (by decide)
                    refine g_iadd C dX9_sweep_146 ?_
                    refine g_istore C [(4, .inl (x12 + 12)), (0, .inr (.inr a0)), (1, .inr (.inr a1)), (2, .inl a2), (3, .inl x12)] (by decide) rfl dX9_sweep_147 ?_
                    refine g_aload_n C rfl 1 rfl dX9_sweep_149 ?_
                    refine g_aload_n C rfl 2 rfl dX9_sweep_150 ?_
                    refine g_iload C 0 rfl dX9_sweep_151 ?_
                    refine g_iload_n C rfl 4 rfl dX9_sweep_153 ?_
                    refine g_iload_n C rfl 3 rfl dX9_sweep_154 ?_
                    refine g_if_eq C (iw f68 (by decide) (by decide)) 166 (by decide) dX9_sweep_155 (fun q87 => ?_) (fun q88 => ?_)
                    · refine g_iconst C dX9_sweep_166 ?_
                      refine g_iload C 0 rfl dX9_sweep_167 ?_
                      have f89 : (48 : Int) ≤ (4 * (x12 + 12)) ∧ (4 * (x12 + 12)) ≤ (380 : Int) := ia_mul (by decide) f86 (by decide) (by decide)
                      refine g_imul C dX9_sweep_169 ?_
                      refine g_iconst C dX9_sweep_170 ?_
                      have f90 : (50 : Int) ≤ ((4 * (x12 + 12)) + 2) ∧ ((4 * (x12 + 12)) + 2) ≤ (382 : Int) := ia_add f89 (il 2) (by decide) (by decide)
                      refine g_iadd C dX9_sweep_171 ?_
                      have e91 : Tg h76 a0 = 10 := (fxT F80 e71)
                      have e92 : Tg h76 a1 = 40100 := (fxT F80 e72)
                      have e93 : Ln h76 a1 = 96 := ((fxL F80 e72).trans e74)
                      refine g_callV (st := []) (gc_V C lk_LandSurvey_Slopes_50 (k_X9_carry l D cy w z0 O79 e91 e92 e93 (iw f86 (by decide) (by decide)) (iw f85 (by decide) (by decide)) (iw f90 (by decide) (by decide))) e91 rfl rfl rfl ⟨by decide, by decide⟩ (Nat.le_of_ble_eq_true rfl) dX9_sweep_172 ⟨(by decide), (by decide)⟩) (fun h95 K96 => ?_)
                      obtain ⟨O98, F99⟩ := K96
                      have f100 : (-1 : Int) ≤ (x12 + (-1)) ∧ (x12 + (-1)) ≤ (82 : Int) := ia_add f85 (il (-1)) (by decide) (by decide)
                      refine g_iinc C [(3, .inl (x12 + (-1))), (4, .inl (x12 + 12)), (0, .inr (.inr a0)), (1, .inr (.inr a1)), (2, .inl a2)] 4 rfl (by decide) rfl dX9_sweep_175 ?_
                      refine g_goto C 93 (by decide) dX9_sweep_178 ?_
                      refine GW.sub [2, 3, 4, 0] rfl ?_
                      exact ih15 _ (by omega) (x12 + (-1)) h95 rfl O98 ((F18.call F80 rfl).call F99 rfl) (iw f100 (by decide) (by decide))
                    · exact (no_ne f68 (il 0) q88 (by decide)).elim
                · have f101 : (1 : Int) ≤ a2 ∧ a2 ≤ (1 : Int) := r_nl fa2 q67
                  refine g_iconst C dX9_sweep_120 ?_
                  refine g_iload_n C rfl 4 rfl dX9_sweep_121 ?_
                  have f102 : (0 : Int) ≤ (4 * x12) ∧ (4 * x12) ≤ (376 : Int) := ia_mul (by decide) f23 (by decide) (by decide)
                  refine g_imul C dX9_sweep_122 ?_
                  refine g_iconst C dX9_sweep_123 ?_
                  have f103 : (1 : Int) ≤ ((4 * x12) + 1) ∧ ((4 * x12) + 1) ≤ (377 : Int) := ia_add f102 (il 1) (by decide) (by decide)
                  refine g_iadd C dX9_sweep_124 ?_
                  refine g_goto C 134 (by decide) dX9_sweep_125 ?_
                  have e104 : Tg h13 a0 = 10 := (fxT F18 (fxT F7 ta0))
                  have e105 : Tg h13 a1 = 40100 := (fxT F18 (fxT F7 ta1))
                  have e106 : Tg h2 a1 = 40100 := (fxT F7 ta1)
                  have e107 : Ln h13 a1 = 96 := ((fxL F18 e106).trans ((fxL F7 ta1).trans la1))
                  refine g_callV (st := []) (gc_V C lk_LandSurvey_Slopes_50 (k_X9_carry l D cy w z0 O17 e104 e105 e107 (iw f65 (by decide) (by decide)) (iw f23 (by decide) (by decide)) (iw f103 (by decide) (by decide))) e104 rfl rfl rfl ⟨by decide, by decide⟩ (Nat.le_of_ble_eq_true rfl) dX9_sweep_134 ⟨(by decide), (by decide)⟩) (fun h109 K110 => ?_)
                  obtain ⟨O112, F113⟩ := K110
                  refine g_iload_n C rfl 4 rfl dX9_sweep_137 ?_
                  refine g_bipush C (by decide) dX9_sweep_138 ?_
                  refine g_icmp_ge C (iw f23 (by decide) (by decide)) (iw (il 84) (by decide) (by decide)) 175 (by decide) dX9_sweep_140 (fun q114 => ?_) (fun q115 => ?_)
                  · have f116 : (84 : Int) ≤ x12 ∧ x12 ≤ (94 : Int) := r_ge f23 (il 84) q114 (by decide) (by decide)
                    have f117 : (83 : Int) ≤ (x12 + (-1)) ∧ (x12 + (-1)) ≤ (93 : Int) := ia_add f116 (il (-1)) (by decide) (by decide)
                    refine g_iinc C [(3, .inl (x12 + (-1))), (4, .inl (x12 + 1)), (0, .inr (.inr a0)), (1, .inr (.inr a1)), (2, .inl a2)] 4 rfl (by decide) rfl dX9_sweep_175 ?_
                    refine g_goto C 93 (by decide) dX9_sweep_178 ?_
                    refine GW.sub [2, 3, 4, 0] rfl ?_
                    exact ih15 _ (by omega) (x12 + (-1)) h109 rfl O112 (F18.call F113 rfl) (iw f117 (by decide) (by decide))
                  · have f118 : (0 : Int) ≤ x12 ∧ x12 ≤ (83 : Int) := r_lt f23 (il 84) q115 (by decide) (by decide)
                    refine g_iload_n C rfl 4 rfl dX9_sweep_143 ?_
                    refine g_bipush C (by decide) dX9_sweep_144 ?_
                    have f119 : (12 : Int) ≤ (x12 + 12) ∧ (x12 + 12) ≤ (95 : Int) := ia_add f118 (il 12) (by decide) (by decide)
                    refine g_iadd C dX9_sweep_146 ?_
                    refine g_istore C [(4, .inl (x12 + 12)), (0, .inr (.inr a0)), (1, .inr (.inr a1)), (2, .inl a2), (3, .inl x12)] (by decide) rfl dX9_sweep_147 ?_
                    refine g_aload_n C rfl 1 rfl dX9_sweep_149 ?_
                    refine g_aload_n C rfl 2 rfl dX9_sweep_150 ?_
                    refine g_iload C 0 rfl dX9_sweep_151 ?_
                    refine g_iload_n C rfl 4 rfl dX9_sweep_153 ?_
                    refine g_iload_n C rfl 3 rfl dX9_sweep_154 ?_
                    refine g_if_eq C (iw f101 (by decide) (by decide)) 166 (by decide) dX9_sweep_155 (fun q120 => ?_) (fun q121 => ?_)
                    · exact (no_eq f101 (il 0) q120 (by decide)).elim
                    · refine g_iconst C dX9_sweep_158 ?_
                      refine g_iload_n C rfl 4 rfl dX9_sweep_159 ?_
                      refine g_imul C dX9_sweep_160 ?_
                      refine g_iconst C dX9_sweep_161 ?_
                      have f122 : (3 : Int) ≤ ((4 * x12) + 3) ∧ ((4 * x12) + 3) ≤ (379 : Int) := ia_add f102 (il 3) (by decide) (by decide)
                      refine g_iadd C dX9_sweep_162 ?_
                      refine g_goto C 172 (by decide) dX9_sweep_163 ?_
                      have e123 : Tg h109 a0 = 10 := (fxT F113 e104)
                      have e124 : Tg h109 a1 = 40100 := (fxT F113 e105)
                      have e125 : Ln h109 a1 = 96 := ((fxL F113 e105).trans e107)
                      refine g_callV (st := []) (gc_V C lk_LandSurvey_Slopes_50 (k_X9_carry l D cy w z0 O112 e123 e124 e125 (iw f119 (by decide) (by decide)) (iw f118 (by decide) (by decide)) (iw f122 (by decide) (by decide))) e123 rfl rfl rfl ⟨by decide, by decide⟩ (Nat.le_of_ble_eq_true rfl) dX9_sweep_172 ⟨(by decide), (by decide)⟩) (fun h127 K128 => ?_)
                      obtain ⟨O130, F131⟩ := K128
                      have f132 : (-1 : Int) ≤ (x12 + (-1)) ∧ (x12 + (-1)) ≤ (82 : Int) := ia_add f118 (il (-1)) (by decide) (by decide)
                      refine g_iinc C [(3, .inl (x12 + (-1))), (4, .inl (x12 + 12)), (0, .inr (.inr a0)), (1, .inr (.inr a1)), (2, .inl a2)] 4 rfl (by decide) rfl dX9_sweep_175 ?_
                      refine g_goto C 93 (by decide) dX9_sweep_178 ?_
                      refine GW.sub [2, 3, 4, 0] rfl ?_
                      exact ih15 _ (by omega) (x12 + (-1)) h127 rfl O130 ((F18.call F113 rfl).call F131 rfl) (iw f132 (by decide) (by decide))
        exact L14 _ 94 h2 rfl O6 Fx.rf (iw (il 94) (by decide) (by decide))
      · have f133 : (1 : Int) ≤ x1 ∧ x1 ≤ (95 : Int) := r_lt f8 (il 96) q10 (by decide) (by decide)
        refine g_iload_n C rfl 3 rfl dX9_sweep_8 ?_
        refine g_bipush C (by decide) dX9_sweep_9 ?_
        refine g_iremE (k := 12) C (iw f133 (by decide) (by decide)) (by decide) (by decide) dX9_sweep_11 ?_
        have f134 : (0 : Int) ≤ (x1 % 12) ∧ (x1 % 12) ≤ (11 : Int) := iv_rem (by decide) (by decide)
        refine g_if_eq C (iw f134 (by decide) (by decide)) 46 (by decide) dX9_sweep_12 (fun q135 => ?_) (fun q136 => ?_)
        · have f137 : (0 : Int) ≤ (x1 % 12) ∧ (x1 % 12) ≤ (0 : Int) := ii f134 (r_eq (il 0) q135) (by decide) (by decide)
          refine g_iload_n C rfl 3 rfl dX9_sweep_46 ?_
          refine g_bipush C (by decide) dX9_sweep_47 ?_
          refine g_icmp_lt C (iw f133 (by decide) (by decide)) (iw (il 12) (by decide) (by decide)) 84 (by decide) dX9_sweep_49 (fun q138 => ?_) (fun q139 => ?_)
          · have f140 : (1 : Int) ≤ x1 ∧ x1 ≤ (11 : Int) := r_lt f133 (il 12) q138 (by decide) (by decide)
            have f141 : (2 : Int) ≤ (x1 + 1) ∧ (x1 + 1) ≤ (12 : Int) := ia_add f140 (il 1) (by decide) (by decide)
            refine g_iinc C [(3, .inl (x1 + 1)), (0, .inr (.inr a0)), (1, .inr (.inr a1)), (2, .inl a2)] 3 rfl (by decide) rfl dX9_sweep_84 ?_
            refine g_goto C 2 (by decide) dX9_sweep_87 ?_
            refine GW.sub [1, 2, 3, 0] rfl ?_
            exact ih4 _ (by omega) (x1 + 1) h2 rfl O6 F7 (iw f141 (by decide) (by decide))
          · have f142 : (12 : Int) ≤ x1 ∧ x1 ≤ (95 : Int) := r_ge f133 (il 12) q139 (by decide) (by decide)
            refine g_iload_n C rfl 3 rfl dX9_sweep_52 ?_
            refine g_bipush C (by decide) dX9_sweep_53 ?_
            have f143 : (0 : Int) ≤ (x1 - 12) ∧ (x1 - 12) ≤ (83 : Int) := ia_sub f142 (il 12) (by decide) (by decide)
            refine g_isub C dX9_sweep_55 ?_
            refine g_istore C [(4, .inl (x1 - 12)), (0, .inr (.inr a0)), (1, .inr (.inr a1)), (2, .inl a2), (3, .inl x1)] (by decide) rfl dX9_sweep_56 ?_
            refine g_aload_n C rfl 1 rfl dX9_sweep_58 ?_
            refine g_aload_n C rfl 2 rfl dX9_sweep_59 ?_
            refine g_iload C 0 rfl dX9_sweep_60 ?_
            refine g_iload_n C rfl 4 rfl dX9_sweep_62 ?_
            refine g_iload_n C rfl 3 rfl dX9_sweep_63 ?_
            refine g_if_eq C (iw fa2 (by decide) (by decide)) 75 (by decide) dX9_sweep_64 (fun q144 => ?_) (fun q145 => ?_)
            · have f146 : (0 : Int) ≤ a2 ∧ a2 ≤ (0 : Int) := ii fa2 (r_eq (il 0) q144) (by decide) (by decide)
              refine g_iconst C dX9_sweep_75 ?_
              refine g_iload C 0 rfl dX9_sweep_76 ?_
              have f147 : (0 : Int) ≤ (4 * (x1 - 12)) ∧ (4 * (x1 - 12)) ≤ (332 : Int) := ia_mul (by decide) f143 (by decide) (by decide)
              refine g_imul C dX9_sweep_78 ?_
              refine g_iconst C dX9_sweep_79 ?_
              have f148 : (3 : Int) ≤ ((4 * (x1 - 12)) + 3) ∧ ((4 * (x1 - 12)) + 3) ≤ (335 : Int) := ia_add f147 (il 3) (by decide) (by decide)
              refine g_iadd C dX9_sweep_80 ?_
              have e149 : Tg h2 a0 = 10 := (fxT F7 ta0)
              have e150 : Tg h2 a1 = 40100 := (fxT F7 ta1)
              have e151 : Ln h2 a1 = 96 := ((fxL F7 ta1).trans la1)
              refine g_callV (st := []) (gc_V C lk_LandSurvey_Slopes_50 (k_X9_carry l D cy w z0 O6 e149 e150 e151 (iw f143 (by decide) (by decide)) (iw f142 (by decide) (by decide)) (iw f148 (by decide) (by decide))) e149 rfl rfl rfl ⟨by decide, by decide⟩ (Nat.le_of_ble_eq_true rfl) dX9_sweep_81 ⟨(by decide), (by decide)⟩) (fun h153 K154 => ?_)
              obtain ⟨O156, F157⟩ := K154
              have f158 : (13 : Int) ≤ (x1 + 1) ∧ (x1 + 1) ≤ (96 : Int) := ia_add f142 (il 1) (by decide) (by decide)
              refine g_iinc C [(3, .inl (x1 + 1)), (4, .inl (x1 - 12)), (0, .inr (.inr a0)), (1, .inr (.inr a1)), (2, .inl a2)] 4 rfl (by decide) rfl dX9_sweep_84 ?_
              refine g_goto C 2 (by decide) dX9_sweep_87 ?_
              refine GW.sub [2, 3, 4, 0] rfl ?_
              exact ih4 _ (by omega) (x1 + 1) h153 rfl O156 (F7.call F157 rfl) (iw f158 (by decide) (by decide))
            · have f159 : (1 : Int) ≤ a2 ∧ a2 ≤ (1 : Int) := r_nl fa2 q145
              refine g_iconst C dX9_sweep_67 ?_
              refine g_iload_n C rfl 4 rfl dX9_sweep_68 ?_
              have f160 : (48 : Int) ≤ (4 * x1) ∧ (4 * x1) ≤ (380 : Int) := ia_mul (by decide) f142 (by decide) (by decide)
              refine g_imul C dX9_sweep_69 ?_
              refine g_iconst C dX9_sweep_70 ?_
              have f161 : (50 : Int) ≤ ((4 * x1) + 2) ∧ ((4 * x1) + 2) ≤ (382 : Int) := ia_add f160 (il 2) (by decide) (by decide)
              refine g_iadd C dX9_sweep_71 ?_
              refine g_goto C 81 (by decide) dX9_sweep_72 ?_
              have e162 : Tg h2 a0 = 10 := (fxT F7 ta0)
              have e163 : Tg h2 a1 = 40100 := (fxT F7 ta1)
              have e164 : Ln h2 a1 = 96 := ((fxL F7 ta1).trans la1)
              refine g_callV (st := []) (gc_V C lk_LandSurvey_Slopes_50 (k_X9_carry l D cy w z0 O6 e162 e163 e164 (iw f143 (by decide) (by decide)) (iw f142 (by decide) (by decide)) (iw f161 (by decide) (by decide))) e162 rfl rfl rfl ⟨by decide, by decide⟩ (Nat.le_of_ble_eq_true rfl) dX9_sweep_81 ⟨(by decide), (by decide)⟩) (fun h166 K167 => ?_)
              obtain ⟨O169, F170⟩ := K167
              have f171 : (13 : Int) ≤ (x1 + 1) ∧ (x1 + 1) ≤ (96 : Int) := ia_add f142 (il 1) (by decide) (by decide)
              refine g_iinc C [(3, .inl (x1 + 1)), (4, .inl (x1 - 12)), (0, .inr (.inr a0)), (1, .inr (.inr a1)), (2, .inl a2)] 4 rfl (by decide) rfl dX9_sweep_84 ?_
              refine g_goto C 2 (by decide) dX9_sweep_87 ?_
              refine GW.sub [2, 3, 4, 0] rfl ?_
              exact ih4 _ (by omega) (x1 + 1) h166 rfl O169 (F7.call F170 rfl) (iw f171 (by decide) (by decide))
        · have f172 : (1 : Int) ≤ (x1 % 12) ∧ (x1 % 12) ≤ (11 : Int) := r_nl f134 q136
          refine g_iload_n C rfl 3 rfl dX9_sweep_15 ?_
          refine g_iconst C dX9_sweep_16 ?_
          have f173 : (0 : Int) ≤ (x1 - 1) ∧ (x1 - 1) ≤ (94 : Int) := ia_sub f133 (il 1) (by decide) (by decide)
          refine g_isub C dX9_sweep_17 ?_
          refine g_istore C [(4, .inl (x1 - 1)), (0, .inr (.inr a0)), (1, .inr (.inr a1)), (2, .inl a2), (3, .inl x1)] (by decide) rfl dX9_sweep_18 ?_
          refine g_aload_n C rfl 1 rfl dX9_sweep_20 ?_
          refine g_aload_n C rfl 2 rfl dX9_sweep_21 ?_
          refine g_iload C 0 rfl dX9_sweep_22 ?_
          refine g_iload_n C rfl 4 rfl dX9_sweep_24 ?_
          refine g_iload_n C rfl 3 rfl dX9_sweep_25 ?_
          refine g_if_eq C (iw fa2 (by decide) (by decide)) 37 (by decide) dX9_sweep_26 (fun q174 => ?_) (fun q175 => ?_)
          · have f176 : (0 : Int) ≤ a2 ∧ a2 ≤ (0 : Int) := ii fa2 (r_eq (il 0) q174) (by decide) (by decide)
            refine g_iconst C dX9_sweep_37 ?_
            refine g_iload C 0 rfl dX9_sweep_38 ?_
            have f177 : (0 : Int) ≤ (4 * (x1 - 1)) ∧ (4 * (x1 - 1)) ≤ (376 : Int) := ia_mul (by decide) f173 (by decide) (by decide)
            refine g_imul C dX9_sweep_40 ?_
            refine g_iconst C dX9_sweep_41 ?_
            have f178 : (1 : Int) ≤ ((4 * (x1 - 1)) + 1) ∧ ((4 * (x1 - 1)) + 1) ≤ (377 : Int) := ia_add f177 (il 1) (by decide) (by decide)
            refine g_iadd C dX9_sweep_42 ?_
            have e179 : Tg h2 a0 = 10 := (fxT F7 ta0)
            have e180 : Tg h2 a1 = 40100 := (fxT F7 ta1)
            have e181 : Ln h2 a1 = 96 := ((fxL F7 ta1).trans la1)
            refine g_callV (st := []) (gc_V C lk_LandSurvey_Slopes_50 (k_X9_carry l D cy w z0 O6 e179 e180 e181 (iw f173 (by decide) (by decide)) (iw f133 (by decide) (by decide)) (iw f178 (by decide) (by decide))) e179 rfl rfl rfl ⟨by decide, by decide⟩ (Nat.le_of_ble_eq_true rfl) dX9_sweep_43 ⟨(by decide), (by decide)⟩) (fun h183 K184 => ?_)
            obtain ⟨O186, F187⟩ := K184
            refine g_iload_n C rfl 4 rfl dX9_sweep_46 ?_
            refine g_bipush C (by decide) dX9_sweep_47 ?_
            refine g_icmp_lt C (iw f133 (by decide) (by decide)) (iw (il 12) (by decide) (by decide)) 84 (by decide) dX9_sweep_49 (fun q188 => ?_) (fun q189 => ?_)
            · have f190 : (1 : Int) ≤ x1 ∧ x1 ≤ (11 : Int) := r_lt f133 (il 12) q188 (by decide) (by decide)
              have f191 : (2 : Int) ≤ (x1 + 1) ∧ (x1 + 1) ≤ (12 : Int) := ia_add f190 (il 1) (by decide) (by decide)
              refine g_iinc C [(3, .inl (x1 + 1)), (4, .inl (x1 - 1)), (0, .inr (.inr a0)), (1, .inr (.inr a1)), (2, .inl a2)] 4 rfl (by decide) rfl dX9_sweep_84 ?_
              refine g_goto C 2 (by decide) dX9_sweep_87 ?_
              refine GW.sub [2, 3, 4, 0] rfl ?_
              exact ih4 _ (by omega) (x1 + 1) h183 rfl O186 (F7.call F187 rfl) (iw f191 (by decide) (by decide))
            · have f192 : (12 : Int) ≤ x1 ∧ x1 ≤ (95 : Int) := r_ge f133 (il 12) q189 (by decide) (by decide)
              refine g_iload_n C rfl 4 rfl dX9_sweep_52 ?_
              refine g_bipush C (by decide) dX9_sweep_53 ?_
              have f193 : (0 : Int) ≤ (x1 - 12) ∧ (x1 - 12) ≤ (83 : Int) := ia_sub f192 (il 12) (by decide) (by decide)
              refine g_isub C dX9_sweep_55 ?_
              refine g_istore C [(4, .inl (x1 - 12)), (0, .inr (.inr a0)), (1, .inr (.inr a1)), (2, .inl a2), (3, .inl x1)] (by decide) rfl dX9_sweep_56 ?_
              refine g_aload_n C rfl 1 rfl dX9_sweep_58 ?_
              refine g_aload_n C rfl 2 rfl dX9_sweep_59 ?_
              refine g_iload C 0 rfl dX9_sweep_60 ?_
              refine g_iload_n C rfl 4 rfl dX9_sweep_62 ?_
              refine g_iload_n C rfl 3 rfl dX9_sweep_63 ?_
              refine g_if_eq C (iw f176 (by decide) (by decide)) 75 (by decide) dX9_sweep_64 (fun q194 => ?_) (fun q195 => ?_)
              · refine g_iconst C dX9_sweep_75 ?_
                refine g_iload C 0 rfl dX9_sweep_76 ?_
                have f196 : (0 : Int) ≤ (4 * (x1 - 12)) ∧ (4 * (x1 - 12)) ≤ (332 : Int) := ia_mul (by decide) f193 (by decide) (by decide)
                refine g_imul C dX9_sweep_78 ?_
                refine g_iconst C dX9_sweep_79 ?_
                have f197 : (3 : Int) ≤ ((4 * (x1 - 12)) + 3) ∧ ((4 * (x1 - 12)) + 3) ≤ (335 : Int) := ia_add f196 (il 3) (by decide) (by decide)
                refine g_iadd C dX9_sweep_80 ?_
                have e198 : Tg h183 a0 = 10 := (fxT F187 e179)
                have e199 : Tg h183 a1 = 40100 := (fxT F187 e180)
                have e200 : Ln h183 a1 = 96 := ((fxL F187 e180).trans e181)
                refine g_callV (st := []) (gc_V C lk_LandSurvey_Slopes_50 (k_X9_carry l D cy w z0 O186 e198 e199 e200 (iw f193 (by decide) (by decide)) (iw f192 (by decide) (by decide)) (iw f197 (by decide) (by decide))) e198 rfl rfl rfl ⟨by decide, by decide⟩ (Nat.le_of_ble_eq_true rfl) dX9_sweep_81 ⟨(by decide), (by decide)⟩) (fun h202 K203 => ?_)
                obtain ⟨O205, F206⟩ := K203
                have f207 : (13 : Int) ≤ (x1 + 1) ∧ (x1 + 1) ≤ (96 : Int) := ia_add f192 (il 1) (by decide) (by decide)
                refine g_iinc C [(3, .inl (x1 + 1)), (4, .inl (x1 - 12)), (0, .inr (.inr a0)), (1, .inr (.inr a1)), (2, .inl a2)] 4 rfl (by decide) rfl dX9_sweep_84 ?_
                refine g_goto C 2 (by decide) dX9_sweep_87 ?_
                refine GW.sub [2, 3, 4, 0] rfl ?_
                exact ih4 _ (by omega) (x1 + 1) h202 rfl O205 ((F7.call F187 rfl).call F206 rfl) (iw f207 (by decide) (by decide))
              · exact (no_ne f176 (il 0) q195 (by decide)).elim
          · have f208 : (1 : Int) ≤ a2 ∧ a2 ≤ (1 : Int) := r_nl fa2 q175
            refine g_iconst C dX9_sweep_29 ?_
            refine g_iload_n C rfl 4 rfl dX9_sweep_30 ?_
            have f209 : (4 : Int) ≤ (4 * x1) ∧ (4 * x1) ≤ (380 : Int) := ia_mul (by decide) f133 (by decide) (by decide)
            refine g_imul C dX9_sweep_31 ?_
            refine g_iconst C dX9_sweep_32 ?_
            have f210 : (4 : Int) ≤ ((4 * x1) + 0) ∧ ((4 * x1) + 0) ≤ (380 : Int) := ia_add f209 (il 0) (by decide) (by decide)
            refine g_iadd C dX9_sweep_33 ?_
            refine g_goto C 43 (by decide) dX9_sweep_34 ?_
            have e211 : Tg h2 a0 = 10 := (fxT F7 ta0)
            have e212 : Tg h2 a1 = 40100 := (fxT F7 ta1)
            have e213 : Ln h2 a1 = 96 := ((fxL F7 ta1).trans la1)
            refine g_callV (st := []) (gc_V C lk_LandSurvey_Slopes_50 (k_X9_carry l D cy w z0 O6 e211 e212 e213 (iw f173 (by decide) (by decide)) (iw f133 (by decide) (by decide)) (iw f210 (by decide) (by decide))) e211 rfl rfl rfl ⟨by decide, by decide⟩ (Nat.le_of_ble_eq_true rfl) dX9_sweep_43 ⟨(by decide), (by decide)⟩) (fun h215 K216 => ?_)
            obtain ⟨O218, F219⟩ := K216
            refine g_iload_n C rfl 4 rfl dX9_sweep_46 ?_
            refine g_bipush C (by decide) dX9_sweep_47 ?_
            refine g_icmp_lt C (iw f133 (by decide) (by decide)) (iw (il 12) (by decide) (by decide)) 84 (by decide) dX9_sweep_49 (fun q220 => ?_) (fun q221 => ?_)
            · have f222 : (1 : Int) ≤ x1 ∧ x1 ≤ (11 : Int) := r_lt f133 (il 12) q220 (by decide) (by decide)
              have f223 : (2 : Int) ≤ (x1 + 1) ∧ (x1 + 1) ≤ (12 : Int) := ia_add f222 (il 1) (by decide) (by decide)
              refine g_iinc C [(3, .inl (x1 + 1)), (4, .inl (x1 - 1)), (0, .inr (.inr a0)), (1, .inr (.inr a1)), (2, .inl a2)] 4 rfl (by decide) rfl dX9_sweep_84 ?_
              refine g_goto C 2 (by decide) dX9_sweep_87 ?_
              refine GW.sub [2, 3, 4, 0] rfl ?_
              exact ih4 _ (by omega) (x1 + 1) h215 rfl O218 (F7.call F219 rfl) (iw f223 (by decide) (by decide))
            · have f224 : (12 : Int) ≤ x1 ∧ x1 ≤ (95 : Int) := r_ge f133 (il 12) q221 (by decide) (by decide)
              refine g_iload_n C rfl 4 rfl dX9_sweep_52 ?_
              refine g_bipush C (by decide) dX9_sweep_53 ?_
              have f225 : (0 : Int) ≤ (x1 - 12) ∧ (x1 - 12) ≤ (83 : Int) := ia_sub f224 (il 12) (by decide) (by decide)
              refine g_isub C dX9_sweep_55 ?_
              refine g_istore C [(4, .inl (x1 - 12)), (0, .inr (.inr a0)), (1, .inr (.inr a1)), (2, .inl a2), (3, .inl x1)] (by decide) rfl dX9_sweep_56 ?_
              refine g_aload_n C rfl 1 rfl dX9_sweep_58 ?_
              refine g_aload_n C rfl 2 rfl dX9_sweep_59 ?_
              refine g_iload C 0 rfl dX9_sweep_60 ?_
              refine g_iload_n C rfl 4 rfl dX9_sweep_62 ?_
              refine g_iload_n C rfl 3 rfl dX9_sweep_63 ?_
              refine g_if_eq C (iw f208 (by decide) (by decide)) 75 (by decide) dX9_sweep_64 (fun q226 => ?_) (fun q227 => ?_)
              · exact (no_eq f208 (il 0) q226 (by decide)).elim
              · refine g_iconst C dX9_sweep_67 ?_
                refine g_iload_n C rfl 4 rfl dX9_sweep_68 ?_
                refine g_imul C dX9_sweep_69 ?_
                refine g_iconst C dX9_sweep_70 ?_
                have f228 : (6 : Int) ≤ ((4 * x1) + 2) ∧ ((4 * x1) + 2) ≤ (382 : Int) := ia_add f209 (il 2) (by decide) (by decide)
                refine g_iadd C dX9_sweep_71 ?_
                refine g_goto C 81 (by decide) dX9_sweep_72 ?_
                have e229 : Tg h215 a0 = 10 := (fxT F219 e211)
                have e230 : Tg h215 a1 = 40100 := (fxT F219 e212)
                have e231 : Ln h215 a1 = 96 := ((fxL F219 e212).trans e213)
                refine g_callV (st := []) (gc_V C lk_LandSurvey_Slopes_50 (k_X9_carry l D cy w z0 O218 e229 e230 e231 (iw f225 (by decide) (by decide)) (iw f224 (by decide) (by decide)) (iw f228 (by decide) (by decide))) e229 rfl rfl rfl ⟨by decide, by decide⟩ (Nat.le_of_ble_eq_true rfl) dX9_sweep_81 ⟨(by decide), (by decide)⟩) (fun h233 K234 => ?_)
                obtain ⟨O236, F237⟩ := K234
                have f238 : (13 : Int) ≤ (x1 + 1) ∧ (x1 + 1) ≤ (96 : Int) := ia_add f224 (il 1) (by decide) (by decide)
                refine g_iinc C [(3, .inl (x1 + 1)), (4, .inl (x1 - 12)), (0, .inr (.inr a0)), (1, .inr (.inr a1)), (2, .inl a2)] 4 rfl (by decide) rfl dX9_sweep_84 ?_
                refine g_goto C 2 (by decide) dX9_sweep_87 ?_
                refine GW.sub [2, 3, 4, 0] rfl ?_
                exact ih4 _ (by omega) (x1 + 1) h233 rfl O236 ((F7.call F219 rfl).call F237 rfl) (iw f238 (by decide) (by decide))
  exact L3 _ 1 h rfl O Fx.rf (iw (il 1) (by decide) (by decide))
def wr_k_X9_spread : List Nat := [2003, 8020000, 9420000]
set_option maxRecDepth 100000 in
set_option maxHeartbeats 4000000 in
theorem k_X9_spread (l : Launch) (D : va_G) (cy : Nat → ClassId) (w : Nat → Nat) (z0 : Nat)  {h : Hp} {a0 : Nat} {a1 : Nat} {a2 : Int}  (O : Okh h) (ta0 : Tg h a0 = 10) (ta1 : Tg h a1 = 40100) (la1 : Ln h a1 = 96) (fa2 : 0 ≤ a2 ∧ a2 ≤ 1) : MV l D cy w z0 yX9_spread cX9_spread 4 none 2 49 0 0 [.inr (.inr a0), .inr (.inr a1), .inl a2] h (fun h1 => Okh h1 ∧ Fx wr_k_X9_spread h h1) := by
  refine hm_go (by decide +kernel) (Nat.le_of_ble_eq_true rfl) (fun p e s m below meth c C hr hn => ?_)
  refine g_aload_n C rfl 0 rfl dX9_spread_0 ?_
  refine g_iconst C dX9_spread_1 ?_
  refine gp_I C fk_LandSurvey_Slopes_55 pk_LandSurvey_Slopes_3 rfl ta0 (iw (il 1) (by decide) (by decide)) (nar_z2 (iw (il 1) (by decide) (by decide))) dX9_spread_2 (fun h2 hh1 => ?_)
  have O3 := O.pI ta0 hh1 rI_10_3 (iw (il 1) (by decide) (by decide)) nofun
  refine g_iconst C dX9_spread_5 ?_
  refine g_istore_n C [(3, .inl 0), (0, .inr (.inr a0)), (1, .inr (.inr a1)), (2, .inl a2)] rfl (by decide) rfl dX9_spread_6 ?_
  refine GW.sub [1, 2, 3, 0] rfl ?_
  -- loop at 7
  have L6 : ∀ (μ : Nat) (x4 : Int) (h5 : Hp), (97 - x4).toNat = μ → Okh h5 → Fx [2003, 8020000, 9420000] h2 h5 → ((0 : Int) ≤ x4 ∧ x4 ≤ (97 : Int)) → GW p l e (rmm 2 49 0 0) s m (List.map toV [.inr (.inr a0), .inr (.inr a1), .inl a2]).toArray below meth c D cy z0 4 (MQ below (QV D cy z0 (fun h1 => Okh h1 ∧ Fx wr_k_X9_spread h h1)) (List.map toV [.inr (.inr a0), .inr (.inr a1), .inl a2]).toArray s 0 0 (Aof z0)) 7 [(0, .inr (.inr a0)), (1, .inr (.inr a1)), (2, .inl a2), (3, .inl x4)] [] h5 0 0 := by
    intro μ
    induction μ using Nat.strongRecOn with
    | ind μ ih7 =>
      intro x4 h5 hm8 O9 F10 f11
      refine g_iload_n C rfl 3 rfl dX9_spread_7 ?_
      refine g_bipush C (by decide) dX9_spread_8 ?_
      refine g_icmp_gt C (iw f11 (by decide) (by decide)) (iw (il 96) (by decide) (by decide)) 37 (by decide) dX9_spread_10 (fun q12 => ?_) (fun q13 => ?_)
      · have f14 : (97 : Int) ≤ x4 ∧ x4 ≤ (97 : Int) := r_gt f11 (il 96) q12 (by decide) (by decide)
        exact g_vret C hr ⟨O9, (((Fx.rf (wr := wr_k_X9_spread)).pI ta0 hh1 rfl).call F10 rfl)⟩ (by decide) (by decide) dX9_spread_37
      · have f15 : (0 : Int) ≤ x4 ∧ x4 ≤ (96 : Int) := r_le f11 (il 96) q13 (by decide) (by decide)
        refine g_aload_n C rfl 0 rfl dX9_spread_13 ?_
        have e16 : Tg h5 a0 = 10 := (fxT F10 ((pIT hh1).trans ta0))
        have e17 : Tg h2 a0 = 10 := ((pIT hh1).trans ta0)
        obtain ⟨v18, e19⟩ : ∃ z, Iv h5 a0 3 = z := ⟨_, rfl⟩
        have f20 := ok_I O9 e16 rI_10_3 e19
        refine gf_I C fk_LandSurvey_Slopes_55 rfl e16 e19 dX9_spread_14 ?_
        refine g_if_eq C (iw f20 (by decide) (by decide)) 37 (by decide) dX9_spread_17 (fun q21 => ?_) (fun q22 => ?_)
        · have f23 : (0 : Int) ≤ v18 ∧ v18 ≤ (0 : Int) := ii f20 (r_eq (il 0) q21) (by decide) (by decide)
          exact g_vret C hr ⟨O9, (((Fx.rf (wr := wr_k_X9_spread)).pI ta0 hh1 rfl).call F10 rfl)⟩ (by decide) (by decide) dX9_spread_37
        · have f24 : (1 : Int) ≤ v18 ∧ v18 ≤ (1 : Int) := r_nl f20 q22
          refine g_aload_n C rfl 0 rfl dX9_spread_20 ?_
          refine g_iconst C dX9_spread_21 ?_
          refine gp_I C fk_LandSurvey_Slopes_55 pk_LandSurvey_Slopes_3 rfl e16 (iw (il 0) (by decide) (by decide)) (nar_z2 (iw (il 0) (by decide) (by decide))) dX9_spread_22 (fun h26 hh25 => ?_)
          have O27 := O9.pI e16 hh25 rI_10_3 (iw (il 0) (by decide) (by decide)) nofun
          refine g_aload_n C rfl 0 rfl dX9_spread_25 ?_
          refine g_aload_n C rfl 1 rfl dX9_spread_26 ?_
          refine g_iload_n C rfl 2 rfl dX9_spread_27 ?_
          have e28 : Tg h26 a0 = 10 := ((pIT hh25).trans e16)
          have e29 : Tg h26 a1 = 40100 := ((pIT hh25).trans (fxT F10 ((pIT hh1).trans ta1)))
          have e30 : Tg h2 a1 = 40100 := ((pIT hh1).trans ta1)
          have e31 : Ln h26 a1 = 96 := ((pIL hh25).trans ((fxL F10 e30).trans ((pIL hh1).trans la1)))
          refine g_callV (st := []) (gc_V C lk_LandSurvey_Slopes_58 (k_X9_sweep l D cy w z0 O27 e28 e29 e31 fa2) e28 rfl rfl rfl ⟨by decide, by decide⟩ (Nat.le_of_ble_eq_true rfl) dX9_spread_28 ⟨(by decide), (by decide)⟩) (fun h33 K34 => ?_)
          obtain ⟨O36, F37⟩ := K34
          have f38 : (1 : Int) ≤ (x4 + 1) ∧ (x4 + 1) ≤ (97 : Int) := ia_add f15 (il 1) (by decide) (by decide)
          refine g_iinc C [(3, .inl (x4 + 1)), (0, .inr (.inr a0)), (1, .inr (.inr a1)), (2, .inl a2)] 3 rfl (by decide) rfl dX9_spread_31 ?_
          refine g_goto C 7 (by decide) dX9_spread_34 ?_
          refine GW.sub [1, 2, 3, 0] rfl ?_
          exact ih7 _ (by omega) (x4 + 1) h33 rfl O36 ((F10.pI e16 hh25 rfl).call F37 rfl) (iw f38 (by decide) (by decide))
  exact L6 _ 0 h2 rfl O3 Fx.rf (iw (il 0) (by decide) (by decide))
