abbrev cX3_emit : ByteArray := prog_5_method_19_code
def yX3_emit : MethodName := ⟨RX3, "emit", "(I)Z"⟩
theorem okX3_emit : yok yX3_emit 1 := by decide +kernel
theorem kw_247 : Cond.fieldLink "LandSurvey$Reader" 36 "LandSurvey$Reader" "codeLength" "I" ∈ uu := uu_in (i := 247) (by decide +kernel) (by decide +kernel)
theorem fk_LandSurvey_Reader_36 : fkI "LandSurvey$Reader" 36 3 12 RX3 TX3 14 := ⟨rfl, rfl, inX3, by decide, kw_247, by decide⟩
theorem dX3_emit_0 : decode cX3_emit 0 = .ok (.aload_n 0, 1) := by decide +kernel
theorem dX3_emit_1 : decode cX3_emit 1 = .ok (.getfield 36, 3) := by decide +kernel
theorem dX3_emit_4 : decode cX3_emit 4 = .ok (.aload_n 0, 1) := by decide +kernel
theorem dX3_emit_5 : decode cX3_emit 5 = .ok (.getfield 15, 3) := by decide +kernel
theorem kw_246 : Cond.fieldLink "LandSurvey$Reader" 15 "LandSurvey$Reader" "code" "[I" ∈ uu := uu_in (i := 246) (by decide +kernel) (by decide +kernel)
theorem fk_LandSurvey_Reader_15 : fkR "LandSurvey$Reader" 15 3 11 RX3 TX3 14 := ⟨rfl, rfl, inX3, by decide, kw_246, by decide⟩
theorem dX3_emit_8 : decode cX3_emit 8 = .ok (.arraylength, 1) := by decide +kernel
theorem dX3_emit_9 : decode cX3_emit 9 = .ok (.if_icmp .ge 23, 3) := by decide +kernel
theorem dX3_emit_32 : decode cX3_emit 32 = .ok (.iconst 1, 1) := by decide +kernel
theorem dX3_emit_33 : decode cX3_emit 33 = .ok (.ireturn, 1) := by decide +kernel
theorem dX3_emit_12 : decode cX3_emit 12 = .ok (.aload_n 0, 1) := by decide +kernel
theorem dX3_emit_13 : decode cX3_emit 13 = .ok (.getfield 15, 3) := by decide +kernel
theorem dX3_emit_16 : decode cX3_emit 16 = .ok (.aload_n 0, 1) := by decide +kernel
theorem dX3_emit_17 : decode cX3_emit 17 = .ok (.getfield 36, 3) := by decide +kernel
theorem dX3_emit_20 : decode cX3_emit 20 = .ok (.iload_n 1, 1) := by decide +kernel
theorem dX3_emit_21 : decode cX3_emit 21 = .ok (.iastore, 1) := by decide +kernel
theorem dX3_emit_22 : decode cX3_emit 22 = .ok (.aload_n 0, 1) := by decide +kernel
theorem dX3_emit_23 : decode cX3_emit 23 = .ok (.dup, 1) := by decide +kernel
theorem dX3_emit_24 : decode cX3_emit 24 = .ok (.getfield 36, 3) := by decide +kernel
theorem dX3_emit_27 : decode cX3_emit 27 = .ok (.iconst 1, 1) := by decide +kernel
theorem dX3_emit_28 : decode cX3_emit 28 = .ok (.iadd, 1) := by decide +kernel
theorem dX3_emit_29 : decode cX3_emit 29 = .ok (.putfield 36, 3) := by decide +kernel
theorem pk_LandSurvey_Reader_12 : pk RX3 TX3 14 12 tyX3 false := ⟨tyX3_ok, nmX3, rfl⟩
abbrev cX3_readFact : ByteArray := prog_5_method_23_code
def yX3_readFact : MethodName := ⟨RX3, "readFact", "(I)Z"⟩
theorem okX3_readFact : yok yX3_readFact 1 := by decide +kernel
theorem dX3_readFact_0 : decode cX3_readFact 0 = .ok (.aload_n 0, 1) := by decide +kernel
theorem dX3_readFact_1 : decode cX3_readFact 1 = .ok (.getfield 49, 3) := by decide +kernel
theorem dX3_readFact_4 : decode cX3_readFact 4 = .ok (.iconst 2, 1) := by decide +kernel
theorem dX3_readFact_5 : decode cX3_readFact 5 = .ok (.if_icmp .eq 21, 3) := by decide +kernel
theorem dX3_readFact_26 : decode cX3_readFact 26 = .ok (.iconst 1, 1) := by decide +kernel
theorem dX3_readFact_27 : decode cX3_readFact 27 = .ok (.goto 4, 3) := by decide +kernel
theorem dX3_readFact_31 : decode cX3_readFact 31 = .ok (.istore_n 2, 1) := by decide +kernel
theorem dX3_readFact_32 : decode cX3_readFact 32 = .ok (.aload_n 0, 1) := by decide +kernel
theorem dX3_readFact_33 : decode cX3_readFact 33 = .ok (.getfield 69, 3) := by decide +kernel
theorem dX3_readFact_36 : decode cX3_readFact 36 = .ok (.getstatic 256, 3) := by decide +kernel
theorem kw_839 : Cond.fieldLink "LandSurvey$Reader" 256 "LandSurvey$Word" "NOT" "LLandSurvey$Word;" ∈ uu := uu_in (i := 839) (by decide +kernel) (by decide +kernel)
theorem dX3_readFact_39 : decode cX3_readFact 39 = .ok (.if_acmp .ne 7, 3) := by decide +kernel
theorem dX3_readFact_46 : decode cX3_readFact 46 = .ok (.iconst 0, 1) := by decide +kernel
theorem dX3_readFact_47 : decode cX3_readFact 47 = .ok (.istore_n 3, 1) := by decide +kernel
theorem dX3_readFact_48 : decode cX3_readFact 48 = .ok (.iload_n 2, 1) := by decide +kernel
theorem dX3_readFact_49 : decode cX3_readFact 49 = .ok (.ifCond .ne 22, 3) := by decide +kernel
theorem dX3_readFact_71 : decode cX3_readFact 71 = .ok (.iload_n 1, 1) := by decide +kernel
theorem dX3_readFact_72 : decode cX3_readFact 72 = .ok (.iconst 4, 1) := by decide +kernel
theorem dX3_readFact_73 : decode cX3_readFact 73 = .ok (.if_icmp .lt 9, 3) := by decide +kernel
theorem dX3_readFact_76 : decode cX3_readFact 76 = .ok (.aload_n 0, 1) := by decide +kernel
theorem dX3_readFact_77 : decode cX3_readFact 77 = .ok (.iconst 5, 1) := by decide +kernel
theorem dX3_readFact_78 : decode cX3_readFact 78 = .ok (.invokevirtual 99, 3) := by decide +kernel
theorem dX3_readFact_81 : decode cX3_readFact 81 = .ok (.ireturn, 1) := by decide +kernel
theorem dX3_readFact_42 : decode cX3_readFact 42 = .ok (.iconst 1, 1) := by decide +kernel
theorem dX3_readFact_43 : decode cX3_readFact 43 = .ok (.goto 4, 3) := by decide +kernel
theorem dX3_readFact_8 : decode cX3_readFact 8 = .ok (.aload_n 0, 1) := by decide +kernel
theorem dX3_readFact_9 : decode cX3_readFact 9 = .ok (.getfield 69, 3) := by decide +kernel
theorem dX3_readFact_12 : decode cX3_readFact 12 = .ok (.ifnull 18, 3) := by decide +kernel
theorem dX3_readFact_30 : decode cX3_readFact 30 = .ok (.iconst 0, 1) := by decide +kernel
theorem dX3_readFact_52 : decode cX3_readFact 52 = .ok (.iload_n 3, 1) := by decide +kernel
theorem dX3_readFact_53 : decode cX3_readFact 53 = .ok (.ifCond .ne 18, 3) := by decide +kernel
theorem dX3_readFact_56 : decode cX3_readFact 56 = .ok (.aload_n 0, 1) := by decide +kernel
theorem dX3_readFact_57 : decode cX3_readFact 57 = .ok (.bipush 40, 2) := by decide +kernel
theorem dX3_readFact_59 : decode cX3_readFact 59 = .ok (.invokevirtual 95, 3) := by decide +kernel
theorem dX3_readFact_62 : decode cX3_readFact 62 = .ok (.ifCond .ne 9, 3) := by decide +kernel
theorem dX3_readFact_65 : decode cX3_readFact 65 = .ok (.aload_n 0, 1) := by decide +kernel
theorem dX3_readFact_66 : decode cX3_readFact 66 = .ok (.iconst 1, 1) := by decide +kernel
theorem dX3_readFact_67 : decode cX3_readFact 67 = .ok (.invokevirtual 99, 3) := by decide +kernel
theorem dX3_readFact_70 : decode cX3_readFact 70 = .ok (.ireturn, 1) := by decide +kernel
theorem dX3_readFact_15 : decode cX3_readFact 15 = .ok (.aload_n 0, 1) := by decide +kernel
theorem dX3_readFact_16 : decode cX3_readFact 16 = .ok (.getfield 69, 3) := by decide +kernel
theorem dX3_readFact_19 : decode cX3_readFact 19 = .ok (.getfield 253, 3) := by decide +kernel
theorem kw_2284 : Cond.fieldLink "LandSurvey$Reader" 253 "LandSurvey$Word" "fact" "I" ∈ uu := uu_in (i := 2284) (by decide +kernel) (by decide +kernel)
theorem dX3_readFact_22 : decode cX3_readFact 22 = .ok (.iconst (-1), 1) := by decide +kernel
theorem dX3_readFact_23 : decode cX3_readFact 23 = .ok (.if_icmp .eq 7, 3) := by decide +kernel
abbrev cX3_readSum : ByteArray := prog_5_method_22_code
def yX3_readSum : MethodName := ⟨RX3, "readSum", "(I)Z"⟩
theorem okX3_readSum : yok yX3_readSum 1 := by decide +kernel
theorem dX3_readSum_0 : decode cX3_readSum 0 = .ok (.aload_n 0, 1) := by decide +kernel
theorem dX3_readSum_1 : decode cX3_readSum 1 = .ok (.iload_n 1, 1) := by decide +kernel
theorem dX3_readSum_2 : decode cX3_readSum 2 = .ok (.invokevirtual 250, 3) := by decide +kernel
theorem kw_838 : Cond.code yX3_readFact prog_5_method_23_code 4 (some .boolean) ∈ uu := uu_in (i := 838) (by decide +kernel) (by decide +kernel)
theorem kw_835 : Cond.methodLink "LandSurvey$Reader" 250 yX3_readFact ∈ uu := uu_in (i := 835) (by decide +kernel) (by decide +kernel)
theorem kw_837 : Cond.instanceMethod yX3_readFact ∈ uu := uu_in (i := 837) (by decide +kernel) (by decide +kernel)
theorem kw_15 : Cond.selects "LandSurvey$Reader" yX3_readFact yX3_readFact ∈ uu := uu_in (i := 15) (by decide +kernel) (by decide +kernel)
theorem lk_LandSurvey_Reader_250 : lkV "LandSurvey$Reader" 250 yX3_readFact cX3_readFact 4 (some .boolean) 1 := ⟨kw_835, kw_837, kw_15, kw_147, kw_838, okX3_readFact⟩
theorem dX3_readSum_5 : decode cX3_readSum 5 = .ok (.ifCond .ne 5, 3) := by decide +kernel
theorem dX3_readSum_10 : decode cX3_readSum 10 = .ok (.iconst 0, 1) := by decide +kernel
theorem dX3_readSum_11 : decode cX3_readSum 11 = .ok (.istore_n 2, 1) := by decide +kernel
theorem dX3_readSum_12 : decode cX3_readSum 12 = .ok (.iload_n 2, 1) := by decide +kernel
theorem dX3_readSum_13 : decode cX3_readSum 13 = .ok (.sipush 1500, 3) := by decide +kernel
theorem dX3_readSum_16 : decode cX3_readSum 16 = .ok (.if_icmp .gt 66, 3) := by decide +kernel
theorem dX3_readSum_82 : decode cX3_readSum 82 = .ok (.iconst 1, 1) := by decide +kernel
theorem dX3_readSum_83 : decode cX3_readSum 83 = .ok (.ireturn, 1) := by decide +kernel
theorem dX3_readSum_19 : decode cX3_readSum 19 = .ok (.aload_n 0, 1) := by decide +kernel
theorem dX3_readSum_20 : decode cX3_readSum 20 = .ok (.bipush 43, 2) := by decide +kernel
theorem dX3_readSum_22 : decode cX3_readSum 22 = .ok (.invokevirtual 95, 3) := by decide +kernel
theorem dX3_readSum_25 : decode cX3_readSum 25 = .ok (.ifCond .ne 12, 3) := by decide +kernel
theorem dX3_readSum_37 : decode cX3_readSum 37 = .ok (.aload_n 0, 1) := by decide +kernel
theorem dX3_readSum_38 : decode cX3_readSum 38 = .ok (.bipush 43, 2) := by decide +kernel
theorem dX3_readSum_40 : decode cX3_readSum 40 = .ok (.invokevirtual 95, 3) := by decide +kernel
theorem dX3_readSum_43 : decode cX3_readSum 43 = .ok (.ifCond .eq 8, 3) := by decide +kernel
theorem dX3_readSum_51 : decode cX3_readSum 51 = .ok (.bipush (-22), 2) := by decide +kernel
theorem dX3_readSum_53 : decode cX3_readSum 53 = .ok (.istore_n 3, 1) := by decide +kernel
theorem dX3_readSum_54 : decode cX3_readSum 54 = .ok (.aload_n 0, 1) := by decide +kernel
theorem dX3_readSum_55 : decode cX3_readSum 55 = .ok (.invokevirtual 46, 3) := by decide +kernel
theorem dX3_readSum_58 : decode cX3_readSum 58 = .ok (.aload_n 0, 1) := by decide +kernel
theorem dX3_readSum_59 : decode cX3_readSum 59 = .ok (.iload_n 1, 1) := by decide +kernel
theorem dX3_readSum_60 : decode cX3_readSum 60 = .ok (.invokevirtual 250, 3) := by decide +kernel
theorem dX3_readSum_63 : decode cX3_readSum 63 = .ok (.ifCond .eq 11, 3) := by decide +kernel
theorem dX3_readSum_74 : decode cX3_readSum 74 = .ok (.iconst 0, 1) := by decide +kernel
theorem dX3_readSum_75 : decode cX3_readSum 75 = .ok (.ireturn, 1) := by decide +kernel
theorem dX3_readSum_66 : decode cX3_readSum 66 = .ok (.aload_n 0, 1) := by decide +kernel
theorem dX3_readSum_67 : decode cX3_readSum 67 = .ok (.iload_n 3, 1) := by decide +kernel
theorem dX3_readSum_68 : decode cX3_readSum 68 = .ok (.invokevirtual 244, 3) := by decide +kernel
theorem kw_844 : Cond.code yX3_emit prog_5_method_19_code 2 (some .boolean) ∈ uu := uu_in (i := 844) (by decide +kernel) (by decide +kernel)
theorem kw_841 : Cond.methodLink "LandSurvey$Reader" 244 yX3_emit ∈ uu := uu_in (i := 841) (by decide +kernel) (by decide +kernel)
theorem kw_843 : Cond.instanceMethod yX3_emit ∈ uu := uu_in (i := 843) (by decide +kernel) (by decide +kernel)
theorem kw_16 : Cond.selects "LandSurvey$Reader" yX3_emit yX3_emit ∈ uu := uu_in (i := 16) (by decide +kernel) (by decide +kernel)
theorem lk_LandSurvey_Reader_244 : lkV "LandSurvey$Reader" 244 yX3_emit cX3_emit 2 (some .boolean) 1 := ⟨kw_841, kw_843, kw_16, kw_147, kw_844, okX3_emit⟩
theorem dX3_readSum_71 : decode cX3_readSum 71 = .ok (.ifCond .ne 5, 3) := by decide +kernel
theorem dX3_readSum_76 : decode cX3_readSum 76 = .ok (.iinc 2 1, 3) := by decide +kernel
theorem dX3_readSum_79 : decode cX3_readSum 79 = .ok (.goto (-67), 3) := by decide +kernel
theorem dX3_readSum_46 : decode cX3_readSum 46 = .ok (.bipush (-21), 2) := by decide +kernel
theorem dX3_readSum_48 : decode cX3_readSum 48 = .ok (.goto 5, 3) := by decide +kernel
theorem dX3_readSum_28 : decode cX3_readSum 28 = .ok (.aload_n 0, 1) := by decide +kernel
theorem dX3_readSum_29 : decode cX3_readSum 29 = .ok (.bipush 45, 2) := by decide +kernel
theorem dX3_readSum_31 : decode cX3_readSum 31 = .ok (.invokevirtual 95, 3) := by decide +kernel
theorem dX3_readSum_34 : decode cX3_readSum 34 = .ok (.ifCond .eq 48, 3) := by decide +kernel
theorem dX3_readSum_8 : decode cX3_readSum 8 = .ok (.iconst 0, 1) := by decide +kernel
theorem dX3_readSum_9 : decode cX3_readSum 9 = .ok (.ireturn, 1) := by decide +kernel
abbrev cX3_readTest : ByteArray := prog_5_method_21_code
def yX3_readTest : MethodName := ⟨RX3, "readTest", "(I)Z"⟩
theorem okX3_readTest : yok yX3_readTest 1 := by decide +kernel
theorem dX3_readTest_0 : decode cX3_readTest 0 = .ok (.aload_n 0, 1) := by decide +kernel
theorem dX3_readTest_1 : decode cX3_readTest 1 = .ok (.iload_n 1, 1) := by decide +kernel
theorem dX3_readTest_2 : decode cX3_readTest 2 = .ok (.invokevirtual 247, 3) := by decide +kernel
theorem kw_834 : Cond.code yX3_readSum prog_5_method_22_code 4 (some .boolean) ∈ uu := uu_in (i := 834) (by decide +kernel) (by decide +kernel)
theorem kw_831 : Cond.methodLink "LandSurvey$Reader" 247 yX3_readSum ∈ uu := uu_in (i := 831) (by decide +kernel) (by decide +kernel)
theorem kw_833 : Cond.instanceMethod yX3_readSum ∈ uu := uu_in (i := 833) (by decide +kernel) (by decide +kernel)
theorem kw_14 : Cond.selects "LandSurvey$Reader" yX3_readSum yX3_readSum ∈ uu := uu_in (i := 14) (by decide +kernel) (by decide +kernel)
theorem lk_LandSurvey_Reader_247 : lkV "LandSurvey$Reader" 247 yX3_readSum cX3_readSum 4 (some .boolean) 1 := ⟨kw_831, kw_833, kw_14, kw_147, kw_834, okX3_readSum⟩
theorem dX3_readTest_5 : decode cX3_readTest 5 = .ok (.ifCond .ne 5, 3) := by decide +kernel
theorem dX3_readTest_10 : decode cX3_readTest 10 = .ok (.aload_n 0, 1) := by decide +kernel
theorem dX3_readTest_11 : decode cX3_readTest 11 = .ok (.bipush 60, 2) := by decide +kernel
theorem dX3_readTest_13 : decode cX3_readTest 13 = .ok (.invokevirtual 95, 3) := by decide +kernel
theorem dX3_readTest_16 : decode cX3_readTest 16 = .ok (.ifCond .ne 14, 3) := by decide +kernel
theorem dX3_readTest_30 : decode cX3_readTest 30 = .ok (.aload_n 0, 1) := by decide +kernel
theorem dX3_readTest_31 : decode cX3_readTest 31 = .ok (.bipush 60, 2) := by decide +kernel
theorem dX3_readTest_33 : decode cX3_readTest 33 = .ok (.invokevirtual 95, 3) := by decide +kernel
theorem dX3_readTest_36 : decode cX3_readTest 36 = .ok (.ifCond .eq 8, 3) := by decide +kernel
theorem dX3_readTest_44 : decode cX3_readTest 44 = .ok (.bipush (-24), 2) := by decide +kernel
theorem dX3_readTest_46 : decode cX3_readTest 46 = .ok (.istore_n 2, 1) := by decide +kernel
theorem dX3_readTest_47 : decode cX3_readTest 47 = .ok (.aload_n 0, 1) := by decide +kernel
theorem dX3_readTest_48 : decode cX3_readTest 48 = .ok (.invokevirtual 46, 3) := by decide +kernel
theorem dX3_readTest_51 : decode cX3_readTest 51 = .ok (.aload_n 0, 1) := by decide +kernel
theorem dX3_readTest_52 : decode cX3_readTest 52 = .ok (.iload_n 1, 1) := by decide +kernel
theorem dX3_readTest_53 : decode cX3_readTest 53 = .ok (.invokevirtual 247, 3) := by decide +kernel
theorem dX3_readTest_56 : decode cX3_readTest 56 = .ok (.ifCond .eq 15, 3) := by decide +kernel
theorem dX3_readTest_71 : decode cX3_readTest 71 = .ok (.iconst 0, 1) := by decide +kernel
theorem dX3_readTest_72 : decode cX3_readTest 72 = .ok (.ireturn, 1) := by decide +kernel
theorem dX3_readTest_59 : decode cX3_readTest 59 = .ok (.aload_n 0, 1) := by decide +kernel
theorem dX3_readTest_60 : decode cX3_readTest 60 = .ok (.iload_n 2, 1) := by decide +kernel
theorem dX3_readTest_61 : decode cX3_readTest 61 = .ok (.invokevirtual 244, 3) := by decide +kernel
theorem dX3_readTest_64 : decode cX3_readTest 64 = .ok (.ifCond .eq 7, 3) := by decide +kernel
theorem dX3_readTest_67 : decode cX3_readTest 67 = .ok (.iconst 1, 1) := by decide +kernel
theorem dX3_readTest_68 : decode cX3_readTest 68 = .ok (.goto 4, 3) := by decide +kernel
theorem dX3_readTest_39 : decode cX3_readTest 39 = .ok (.bipush (-23), 2) := by decide +kernel
theorem dX3_readTest_41 : decode cX3_readTest 41 = .ok (.goto 5, 3) := by decide +kernel
theorem dX3_readTest_19 : decode cX3_readTest 19 = .ok (.aload_n 0, 1) := by decide +kernel
theorem dX3_readTest_20 : decode cX3_readTest 20 = .ok (.bipush 61, 2) := by decide +kernel
theorem dX3_readTest_22 : decode cX3_readTest 22 = .ok (.invokevirtual 95, 3) := by decide +kernel
theorem dX3_readTest_25 : decode cX3_readTest 25 = .ok (.ifCond .ne 5, 3) := by decide +kernel
theorem dX3_readTest_28 : decode cX3_readTest 28 = .ok (.iconst 1, 1) := by decide +kernel
theorem dX3_readTest_29 : decode cX3_readTest 29 = .ok (.ireturn, 1) := by decide +kernel
theorem dX3_readTest_8 : decode cX3_readTest 8 = .ok (.iconst 0, 1) := by decide +kernel
theorem dX3_readTest_9 : decode cX3_readTest 9 = .ok (.ireturn, 1) := by decide +kernel
abbrev cX3_readTests : ByteArray := prog_5_method_20_code
def yX3_readTests : MethodName := ⟨RX3, "readTests", "(I)Z"⟩
theorem okX3_readTests : yok yX3_readTests 1 := by decide +kernel
theorem dX3_readTests_0 : decode cX3_readTests 0 = .ok (.aload_n 0, 1) := by decide +kernel
theorem dX3_readTests_1 : decode cX3_readTests 1 = .ok (.iload_n 1, 1) := by decide +kernel
theorem dX3_readTests_2 : decode cX3_readTests 2 = .ok (.invokevirtual 235, 3) := by decide +kernel
theorem kw_830 : Cond.code yX3_readTest prog_5_method_21_code 3 (some .boolean) ∈ uu := uu_in (i := 830) (by decide +kernel) (by decide +kernel)
theorem kw_827 : Cond.methodLink "LandSurvey$Reader" 235 yX3_readTest ∈ uu := uu_in (i := 827) (by decide +kernel) (by decide +kernel)
theorem kw_829 : Cond.instanceMethod yX3_readTest ∈ uu := uu_in (i := 829) (by decide +kernel) (by decide +kernel)
theorem kw_13 : Cond.selects "LandSurvey$Reader" yX3_readTest yX3_readTest ∈ uu := uu_in (i := 13) (by decide +kernel) (by decide +kernel)
theorem lk_LandSurvey_Reader_235 : lkV "LandSurvey$Reader" 235 yX3_readTest cX3_readTest 3 (some .boolean) 1 := ⟨kw_827, kw_829, kw_13, kw_147, kw_830, okX3_readTest⟩
theorem dX3_readTests_5 : decode cX3_readTests 5 = .ok (.ifCond .ne 5, 3) := by decide +kernel
theorem dX3_readTests_10 : decode cX3_readTests 10 = .ok (.iconst 0, 1) := by decide +kernel
theorem dX3_readTests_11 : decode cX3_readTests 11 = .ok (.istore_n 2, 1) := by decide +kernel
theorem dX3_readTests_12 : decode cX3_readTests 12 = .ok (.iload_n 2, 1) := by decide +kernel
theorem dX3_readTests_13 : decode cX3_readTests 13 = .ok (.sipush 1500, 3) := by decide +kernel
theorem dX3_readTests_16 : decode cX3_readTests 16 = .ok (.if_icmp .gt 69, 3) := by decide +kernel
theorem dX3_readTests_85 : decode cX3_readTests 85 = .ok (.iconst 1, 1) := by decide +kernel
theorem dX3_readTests_86 : decode cX3_readTests 86 = .ok (.ireturn, 1) := by decide +kernel
theorem dX3_readTests_19 : decode cX3_readTests 19 = .ok (.aload_n 0, 1) := by decide +kernel
theorem dX3_readTests_20 : decode cX3_readTests 20 = .ok (.getfield 69, 3) := by decide +kernel
theorem dX3_readTests_23 : decode cX3_readTests 23 = .ok (.getstatic 238, 3) := by decide +kernel
theorem kw_845 : Cond.fieldLink "LandSurvey$Reader" 238 "LandSurvey$Word" "AND" "LLandSurvey$Word;" ∈ uu := uu_in (i := 845) (by decide +kernel) (by decide +kernel)
theorem dX3_readTests_26 : decode cX3_readTests 26 = .ok (.if_acmp .eq 13, 3) := by decide +kernel
theorem dX3_readTests_39 : decode cX3_readTests 39 = .ok (.aload_n 0, 1) := by decide +kernel
theorem dX3_readTests_40 : decode cX3_readTests 40 = .ok (.getfield 69, 3) := by decide +kernel
theorem dX3_readTests_43 : decode cX3_readTests 43 = .ok (.getstatic 238, 3) := by decide +kernel
theorem dX3_readTests_46 : decode cX3_readTests 46 = .ok (.if_acmp .ne 8, 3) := by decide +kernel
theorem dX3_readTests_54 : decode cX3_readTests 54 = .ok (.bipush (-26), 2) := by decide +kernel
theorem dX3_readTests_56 : decode cX3_readTests 56 = .ok (.istore_n 3, 1) := by decide +kernel
theorem dX3_readTests_57 : decode cX3_readTests 57 = .ok (.aload_n 0, 1) := by decide +kernel
theorem dX3_readTests_58 : decode cX3_readTests 58 = .ok (.invokevirtual 46, 3) := by decide +kernel
theorem dX3_readTests_61 : decode cX3_readTests 61 = .ok (.aload_n 0, 1) := by decide +kernel
theorem dX3_readTests_62 : decode cX3_readTests 62 = .ok (.iload_n 1, 1) := by decide +kernel
theorem dX3_readTests_63 : decode cX3_readTests 63 = .ok (.invokevirtual 235, 3) := by decide +kernel
theorem dX3_readTests_66 : decode cX3_readTests 66 = .ok (.ifCond .eq 11, 3) := by decide +kernel
theorem dX3_readTests_77 : decode cX3_readTests 77 = .ok (.iconst 0, 1) := by decide +kernel
theorem dX3_readTests_78 : decode cX3_readTests 78 = .ok (.ireturn, 1) := by decide +kernel
theorem dX3_readTests_69 : decode cX3_readTests 69 = .ok (.aload_n 0, 1) := by decide +kernel
theorem dX3_readTests_70 : decode cX3_readTests 70 = .ok (.iload_n 3, 1) := by decide +kernel
theorem dX3_readTests_71 : decode cX3_readTests 71 = .ok (.invokevirtual 244, 3) := by decide +kernel
theorem dX3_readTests_74 : decode cX3_readTests 74 = .ok (.ifCond .ne 5, 3) := by decide +kernel
theorem dX3_readTests_79 : decode cX3_readTests 79 = .ok (.iinc 2 1, 3) := by decide +kernel
theorem dX3_readTests_82 : decode cX3_readTests 82 = .ok (.goto (-70), 3) := by decide +kernel
theorem dX3_readTests_49 : decode cX3_readTests 49 = .ok (.bipush (-25), 2) := by decide +kernel
theorem dX3_readTests_51 : decode cX3_readTests 51 = .ok (.goto 5, 3) := by decide +kernel
theorem dX3_readTests_29 : decode cX3_readTests 29 = .ok (.aload_n 0, 1) := by decide +kernel
theorem dX3_readTests_30 : decode cX3_readTests 30 = .ok (.getfield 69, 3) := by decide +kernel
theorem dX3_readTests_33 : decode cX3_readTests 33 = .ok (.getstatic 241, 3) := by decide +kernel
theorem kw_847 : Cond.fieldLink "LandSurvey$Reader" 241 "LandSurvey$Word" "OR" "LLandSurvey$Word;" ∈ uu := uu_in (i := 847) (by decide +kernel) (by decide +kernel)
theorem dX3_readTests_36 : decode cX3_readTests 36 = .ok (.if_acmp .ne 49, 3) := by decide +kernel
theorem dX3_readTests_8 : decode cX3_readTests 8 = .ok (.iconst 0, 1) := by decide +kernel
theorem dX3_readTests_9 : decode cX3_readTests 9 = .ok (.ireturn, 1) := by decide +kernel
theorem dX3_readFact_82 : decode cX3_readFact 82 = .ok (.iload_n 2, 1) := by decide +kernel
theorem dX3_readFact_83 : decode cX3_readFact 83 = .ok (.ifCond .eq 39, 3) := by decide +kernel
theorem dX3_readFact_86 : decode cX3_readFact 86 = .ok (.aload_n 0, 1) := by decide +kernel
theorem dX3_readFact_87 : decode cX3_readFact 87 = .ok (.aload_n 0, 1) := by decide +kernel
theorem dX3_readFact_88 : decode cX3_readFact 88 = .ok (.getfield 49, 3) := by decide +kernel
theorem dX3_readFact_91 : decode cX3_readFact 91 = .ok (.iconst 2, 1) := by decide +kernel
theorem dX3_readFact_92 : decode cX3_readFact 92 = .ok (.if_icmp .ne 11, 3) := by decide +kernel
theorem dX3_readFact_95 : decode cX3_readFact 95 = .ok (.aload_n 0, 1) := by decide +kernel
theorem dX3_readFact_96 : decode cX3_readFact 96 = .ok (.getfield 73, 3) := by decide +kernel
theorem dX3_readFact_99 : decode cX3_readFact 99 = .ok (.l2i, 1) := by decide +kernel
theorem dX3_readFact_100 : decode cX3_readFact 100 = .ok (.goto 12, 3) := by decide +kernel
theorem dX3_readFact_112 : decode cX3_readFact 112 = .ok (.invokevirtual 244, 3) := by decide +kernel
theorem dX3_readFact_115 : decode cX3_readFact 115 = .ok (.pop, 1) := by decide +kernel
theorem dX3_readFact_116 : decode cX3_readFact 116 = .ok (.aload_n 0, 1) := by decide +kernel
theorem dX3_readFact_117 : decode cX3_readFact 117 = .ok (.invokevirtual 46, 3) := by decide +kernel
theorem dX3_readFact_120 : decode cX3_readFact 120 = .ok (.iconst 1, 1) := by decide +kernel
theorem dX3_readFact_121 : decode cX3_readFact 121 = .ok (.ireturn, 1) := by decide +kernel
theorem dX3_readFact_122 : decode cX3_readFact 122 = .ok (.aload_n 0, 1) := by decide +kernel
theorem dX3_readFact_123 : decode cX3_readFact 123 = .ok (.invokevirtual 46, 3) := by decide +kernel
theorem dX3_readFact_126 : decode cX3_readFact 126 = .ok (.iload_n 3, 1) := by decide +kernel
theorem dX3_readFact_127 : decode cX3_readFact 127 = .ok (.ifCond .eq 28, 3) := by decide +kernel
theorem dX3_readFact_155 : decode cX3_readFact 155 = .ok (.aload_n 0, 1) := by decide +kernel
theorem dX3_readFact_156 : decode cX3_readFact 156 = .ok (.iload_n 1, 1) := by decide +kernel
theorem dX3_readFact_157 : decode cX3_readFact 157 = .ok (.iconst 1, 1) := by decide +kernel
theorem dX3_readFact_158 : decode cX3_readFact 158 = .ok (.iadd, 1) := by decide +kernel
theorem dX3_readFact_159 : decode cX3_readFact 159 = .ok (.invokevirtual 196, 3) := by decide +kernel
theorem kw_826 : Cond.code yX3_readTests prog_5_method_20_code 4 (some .boolean) ∈ uu := uu_in (i := 826) (by decide +kernel) (by decide +kernel)
theorem kw_823 : Cond.methodLink "LandSurvey$Reader" 196 yX3_readTests ∈ uu := uu_in (i := 823) (by decide +kernel) (by decide +kernel)
theorem kw_825 : Cond.instanceMethod yX3_readTests ∈ uu := uu_in (i := 825) (by decide +kernel) (by decide +kernel)
theorem kw_12 : Cond.selects "LandSurvey$Reader" yX3_readTests yX3_readTests ∈ uu := uu_in (i := 12) (by decide +kernel) (by decide +kernel)
theorem lk_LandSurvey_Reader_196 : lkV "LandSurvey$Reader" 196 yX3_readTests cX3_readTests 4 (some .boolean) 1 := ⟨kw_823, kw_825, kw_12, kw_147, kw_826, okX3_readTests⟩
theorem dX3_readFact_162 : decode cX3_readFact 162 = .ok (.ifCond .eq 16, 3) := by decide +kernel
theorem dX3_readFact_178 : decode cX3_readFact 178 = .ok (.iconst 0, 1) := by decide +kernel
theorem dX3_readFact_179 : decode cX3_readFact 179 = .ok (.ireturn, 1) := by decide +kernel
theorem dX3_readFact_165 : decode cX3_readFact 165 = .ok (.aload_n 0, 1) := by decide +kernel
theorem dX3_readFact_166 : decode cX3_readFact 166 = .ok (.bipush 41, 2) := by decide +kernel
theorem dX3_readFact_168 : decode cX3_readFact 168 = .ok (.invokevirtual 169, 3) := by decide +kernel
theorem dX3_readFact_171 : decode cX3_readFact 171 = .ok (.ifCond .eq 7, 3) := by decide +kernel
theorem dX3_readFact_174 : decode cX3_readFact 174 = .ok (.iconst 1, 1) := by decide +kernel
theorem dX3_readFact_175 : decode cX3_readFact 175 = .ok (.goto 4, 3) := by decide +kernel
theorem dX3_readFact_130 : decode cX3_readFact 130 = .ok (.aload_n 0, 1) := by decide +kernel
theorem dX3_readFact_131 : decode cX3_readFact 131 = .ok (.iload_n 1, 1) := by decide +kernel
theorem dX3_readFact_132 : decode cX3_readFact 132 = .ok (.iconst 1, 1) := by decide +kernel
theorem dX3_readFact_133 : decode cX3_readFact 133 = .ok (.iadd, 1) := by decide +kernel
theorem dX3_readFact_134 : decode cX3_readFact 134 = .ok (.invokevirtual 250, 3) := by decide +kernel
theorem dX3_readFact_137 : decode cX3_readFact 137 = .ok (.ifCond .eq 16, 3) := by decide +kernel
theorem dX3_readFact_153 : decode cX3_readFact 153 = .ok (.iconst 0, 1) := by decide +kernel
theorem dX3_readFact_154 : decode cX3_readFact 154 = .ok (.ireturn, 1) := by decide +kernel
theorem dX3_readFact_140 : decode cX3_readFact 140 = .ok (.aload_n 0, 1) := by decide +kernel
theorem dX3_readFact_141 : decode cX3_readFact 141 = .ok (.bipush (-27), 2) := by decide +kernel
theorem dX3_readFact_143 : decode cX3_readFact 143 = .ok (.invokevirtual 244, 3) := by decide +kernel
theorem dX3_readFact_146 : decode cX3_readFact 146 = .ok (.ifCond .eq 7, 3) := by decide +kernel
theorem dX3_readFact_149 : decode cX3_readFact 149 = .ok (.iconst 1, 1) := by decide +kernel
theorem dX3_readFact_150 : decode cX3_readFact 150 = .ok (.goto 4, 3) := by decide +kernel
theorem dX3_readFact_103 : decode cX3_readFact 103 = .ok (.iconst (-1), 1) := by decide +kernel
theorem dX3_readFact_104 : decode cX3_readFact 104 = .ok (.aload_n 0, 1) := by decide +kernel
theorem dX3_readFact_105 : decode cX3_readFact 105 = .ok (.getfield 69, 3) := by decide +kernel
theorem dX3_readFact_108 : decode cX3_readFact 108 = .ok (.getfield 253, 3) := by decide +kernel
theorem dX3_readFact_111 : decode cX3_readFact 111 = .ok (.isub, 1) := by decide +kernel
def wr_k_X3_emit : List Nat := [812, 4020000]
set_option maxRecDepth 100000 in
set_option maxHeartbeats 4000000 in
theorem k_X3_emit (l : Launch) (D : va_G) (cy : Nat → ClassId) (w : Nat → Nat) (z0 : Nat)  {h : Hp} {a0 : Nat} {a1 : Int}  (O : Okh h) (ta0 : Tg h a0 = 4) (fa1 : (-2147483648) ≤ a1 ∧ a1 ≤ 2147483647) (P_RInv : RInv w h a0) (P_hol : a1 < -20 ∨ -13 < a1) : MI l D cy w z0 yX3_emit cX3_emit 2 (some .boolean) 0 0 0 0 [.inr (.inr a0), .inl a1] h (fun v h1 => Okh h1 ∧ Fx wr_k_X3_emit h h1 ∧ (1 ≤ v ∧ v ≤ 1) ∧ (RInv w h1 a0)) := by
  obtain ⟨v1, e2⟩ : ∃ z, Rv h a0 13 = z := ⟨_, rfl⟩
  have t3 := P_RInv.1
  rw [e2] at t3
  obtain ⟨v4, e5⟩ : ∃ z, Iv h a0 4 = z := ⟨_, rfl⟩
  have f6 := ok_I O ta0 rI_4_4 e5
  obtain ⟨v7, e8⟩ : ∃ z, Jv h a0 5 = z := ⟨_, rfl⟩
  have f9 := inL_J O e8
  obtain ⟨v10, e11⟩ : ∃ z, Rv h a0 6 = z := ⟨_, rfl⟩
  have p12 := P_RInv.2.2.1
  rw [e5, e8] at p12
  have p13 := P_RInv.2.2.2
  rw [e11] at p13
  refine hm_go (by decide +kernel) (Nat.le_of_ble_eq_true rfl) (fun p e s m below meth c C hr hn => ?_)
  refine g_aload_n C rfl 0 rfl dX3_emit_0 ?_
  obtain ⟨v14, e15⟩ : ∃ z, Iv h a0 12 = z := ⟨_, rfl⟩
  have f16 := ok_I O ta0 rI_4_12 e15
  refine gf_I C fk_LandSurvey_Reader_36 rfl ta0 e15 dX3_emit_1 ?_
  refine g_aload_n C rfl 0 rfl dX3_emit_4 ?_
  obtain ⟨v17, e18⟩ : ∃ z, Rv h a0 11 = z := ⟨_, rfl⟩
  have t19 := ok_R O ta0 rE_4_11 e18
  have l20 := ok_L O ta0 rE_4_11 e18
  refine gf_R C fk_LandSurvey_Reader_15 rfl ta0 e18 dX3_emit_5 ?_
  refine g_alen (t := 0) C t19 rfl rfl l20 dX3_emit_8 ?_
  refine g_icmp_ge C (iw f16 (by decide) (by decide)) (iw (il 1500) (by decide) (by decide)) 32 (by decide) dX3_emit_9 (fun q21 => ?_) (fun q22 => ?_)
  · have f23 : (1500 : Int) ≤ v14 ∧ v14 ≤ (1500 : Int) := r_ge f16 (il 1500) q21 (by decide) (by decide)
    refine g_iconst C dX3_emit_32 ?_
    exact g_iret C hr (nar_z2 (iw (il 1) (by decide) (by decide))).1 (iw (il 1) (by decide) (by decide)) ⟨O, Fx.rf, (il 1), (by unfold RInv; rw [e2, e5, e8, e11]; exact ⟨t3, P_RInv.2.1, p12, p13⟩)⟩ (by decide) (by decide) dX3_emit_33
  · have f24 : (0 : Int) ≤ v14 ∧ v14 ≤ (1499 : Int) := r_lt f16 (il 1500) q22 (by decide) (by decide)
    refine g_aload_n C rfl 0 rfl dX3_emit_12 ?_
    refine gf_R C fk_LandSurvey_Reader_15 rfl ta0 e18 dX3_emit_13 ?_
    refine g_aload_n C rfl 0 rfl dX3_emit_16 ?_
    refine gf_I C fk_LandSurvey_Reader_36 rfl ta0 e15 dX3_emit_17 ?_
    refine g_iload_n C rfl 1 rfl dX3_emit_20 ?_
    refine g_iast C t19 rfl l20 (ix f24 (by decide) (by decide)) fa1 dX3_emit_21 (fun h26 hh25 => ?_)
    have O27 := O.pIa t19 ar_20100 hh25 rI_20100_0 fa1 (fun _ => P_hol)
    refine g_aload_n C rfl 0 rfl dX3_emit_22 ?_
    refine g_dup C rfl dX3_emit_23 ?_
    have e28 : Tg h26 a0 = 4 := ((pIT hh25).trans ta0)
    have e29 : Iv h26 a0 12 = v14 := ((pI_n hh25 (ne_tag ta0 t19 (by decide))).trans e15)
    refine gf_I C fk_LandSurvey_Reader_36 rfl e28 e29 dX3_emit_24 ?_
    refine g_iconst C dX3_emit_27 ?_
    have f30 : (1 : Int) ≤ (v14 + 1) ∧ (v14 + 1) ≤ (1500 : Int) := ia_add f24 (il 1) (by decide) (by decide)
    refine g_iadd C dX3_emit_28 ?_
    refine gp_I C fk_LandSurvey_Reader_36 pk_LandSurvey_Reader_12 rfl e28 (iw f30 (by decide) (by decide)) (nf_i _) dX3_emit_29 (fun h32 hh31 => ?_)
    have O33 := O27.pI e28 hh31 rI_4_12 (iw f30 (by decide) (by decide)) nofun
    have p34 := (DOk_fx O ((Fx.rf (wr := [4020000]) (h := h)).pIa t19 ar_20100 hh25 rfl) ta0 (by rw [e2]; exact t3) rfl P_RInv.2.1)
    have e35 : Rv h26 a0 13 = v1 := ((pIR hh25).trans e2)
    have e36 : Tg h26 v1 = 2006 := ((pIT hh25).trans t3)
    refine g_iconst C dX3_emit_32 ?_
    have e37 : Rv h32 a0 13 = v1 := ((pIR hh31).trans e35)
    have e38 : Iv h32 a0 4 = v4 := ((pI_j hh31 (by decide)).trans ((pI_n hh25 (ne_tag ta0 t19 (by decide))).trans e5))
    have e39 : Jv h32 a0 5 = v7 := ((pIJ hh31).trans ((pIJ hh25).trans e8))
    have e40 : Rv h32 a0 6 = v10 := ((pIR hh31).trans ((pIR hh25).trans e11))
    have e41 : Tg h32 v1 = 2006 := ((pIT hh31).trans e36)
    exact g_iret C hr (nar_z2 (iw (il 1) (by decide) (by decide))).1 (iw (il 1) (by decide) (by decide)) ⟨O33, (((Fx.rf (wr := wr_k_X3_emit)).pIa t19 ar_20100 hh25 rfl).pI e28 hh31 rfl), (il 1), (by unfold RInv; rw [e37, e38, e39, e40]; exact ⟨e41, (DOk_cl O27 e28 (by rw [e35]; exact e36) hh31 (by rw [e29]; omega) p34), p12, p13⟩)⟩ (by decide) (by decide) dX3_emit_33
def wr_k_readFact_4 : List Nat := [802, 803, 804, 805, 806, 807, 812, 4020000]
set_option maxRecDepth 100000 in
set_option maxHeartbeats 4000000 in
theorem k_readFact_4 (l : Launch) (D : va_G) (cy : Nat → ClassId) (w : Nat → Nat) (z0 : Nat)  {h : Hp} {a0 : Nat} {a1 : Int}  (O : Okh h) (ta0 : Tg h a0 = 4) (fa1 : 4 ≤ a1 ∧ a1 ≤ 4) (P_RInv : RInv w h a0) : MI l D cy w z0 yX3_readFact cX3_readFact 4 (some .boolean) 6 133 0 0 [.inr (.inr a0), .inl a1] h (fun v h1 => Okh h1 ∧ Fx wr_k_readFact_4 h h1 ∧ (0 ≤ v ∧ v ≤ 1) ∧ (RInv w h1 a0)) := by
  obtain ⟨v1, e2⟩ : ∃ z, Rv h a0 13 = z := ⟨_, rfl⟩
  have t3 := P_RInv.1
  rw [e2] at t3
  obtain ⟨v4, e5⟩ : ∃ z, Iv h a0 4 = z := ⟨_, rfl⟩
  have f6 := ok_I O ta0 rI_4_4 e5
  obtain ⟨v7, e8⟩ : ∃ z, Jv h a0 5 = z := ⟨_, rfl⟩
  have f9 := inL_J O e8
  obtain ⟨v10, e11⟩ : ∃ z, Rv h a0 6 = z := ⟨_, rfl⟩
  have p12 := P_RInv.2.2.1
  rw [e5, e8] at p12
  have p13 := P_RInv.2.2.2
  rw [e11] at p13
  refine hm_go (by decide +kernel) (Nat.le_of_ble_eq_true rfl) (fun p e s m below meth c C hr hn => ?_)
  refine g_aload_n C rfl 0 rfl dX3_readFact_0 ?_
  refine gf_I C fk_LandSurvey_Reader_49 rfl ta0 e5 dX3_readFact_1 ?_
  refine g_iconst C dX3_readFact_4 ?_
  refine g_icmp_eq C (iw f6 (by decide) (by decide)) (iw (il 2) (by decide) (by decide)) 26 (by decide) dX3_readFact_5 (fun q14 => ?_) (fun q15 => ?_)
  · have f16 : (2 : Int) ≤ v4 ∧ v4 ≤ (2 : Int) := ii f6 (r_eq (il 2) q14) (by decide) (by decide)
    refine g_iconst C dX3_readFact_26 ?_
    refine g_goto C 31 (by decide) dX3_readFact_27 ?_
    refine g_istore_n C [(2, .inl 1), (0, .inr (.inr a0)), (1, .inl a1)] rfl (by decide) rfl dX3_readFact_31 ?_
    refine g_aload_n C rfl 1 rfl dX3_readFact_32 ?_
    refine gf_R C fk_LandSurvey_Reader_69 rfl ta0 e11 dX3_readFact_33 ?_
    refine g_gets (x := .inr (.inr (w 17 + 1))) C (C.2.2.2.2.2.2.1.1 17 (by decide)).1 kw_839 dX3_readFact_36 ?_
    refine g_acmp_ne C 46 (by decide) dX3_readFact_39 (fun q17 => ?_) (fun q18 => ?_)
    · refine g_iconst C dX3_readFact_46 ?_
      refine g_istore_n C [(3, .inl 0), (2, .inl 1), (0, .inr (.inr a0)), (1, .inl a1)] rfl (by decide) rfl dX3_readFact_47 ?_
      refine g_iload_n C rfl 1 rfl dX3_readFact_48 ?_
      refine g_if_ne C (iw (il 1) (by decide) (by decide)) 71 (by decide) dX3_readFact_49 (fun q19 => ?_) (fun q20 => ?_)
      · refine g_iload_n C rfl 3 rfl dX3_readFact_71 ?_
        refine g_iconst C dX3_readFact_72 ?_
        refine g_icmp_lt C (iw fa1 (by decide) (by decide)) (iw (il 4) (by decide) (by decide)) 82 (by decide) dX3_readFact_73 (fun q21 => ?_) (fun q22 => ?_)
        · exact (no_lt fa1 (il 4) q21 (by decide)).elim
        · refine g_aload_n C rfl 2 rfl dX3_readFact_76 ?_
          refine g_iconst C dX3_readFact_77 ?_
          refine g_callI (st := []) (gc_V C lk_LandSurvey_Reader_99 (k_X3_wrong l D cy w z0 O ta0 (iw (il 5) (by decide) (by decide))) ta0 rfl rfl rfl ⟨by decide, by decide⟩ (Nat.le_of_ble_eq_true rfl) dX3_readFact_78 ⟨(by decide), (by decide)⟩) (fun r23 h24 f26 K25 => ?_)
          obtain ⟨O27, F28, f29⟩ := K25
          have e30 : Rv h24 a0 13 = v1 := ((fxR F28 ta0 rfl).trans e2)
          have e31 : Iv h24 a0 4 = v4 := ((fxI F28 ta0 rfl).trans e5)
          have e32 : Jv h24 a0 5 = v7 := ((fxJ F28 ta0 rfl).trans e8)
          have e33 : Rv h24 a0 6 = v10 := ((fxR F28 ta0 rfl).trans e11)
          have e34 : Tg h24 v1 = 2006 := (fxT F28 t3)
          have p35 := (DOk_fx O F28 ta0 (by rw [e2]; exact t3) rfl P_RInv.2.1)
          exact g_iret C hr (nar_z2 (iw f29 (by decide) (by decide))).1 (iw f29 (by decide) (by decide)) ⟨O27, ((Fx.rf (wr := wr_k_readFact_4)).call F28 rfl), (iw f29 (by decide) (by decide)), (by unfold RInv; rw [e30, e31, e32, e33]; exact ⟨e34, p35, p12, p13⟩)⟩ (by decide) (by decide) dX3_readFact_81
      · exact (no_eq (il 1) (il 0) q20 (by decide)).elim
    · refine g_iconst C dX3_readFact_42 ?_
      refine g_goto C 47 (by decide) dX3_readFact_43 ?_
      refine g_istore_n C [(3, .inl 1), (2, .inl 1), (0, .inr (.inr a0)), (1, .inl a1)] rfl (by decide) rfl dX3_readFact_47 ?_
      refine g_iload_n C rfl 1 rfl dX3_readFact_48 ?_
      refine g_if_ne C (iw (il 1) (by decide) (by decide)) 71 (by decide) dX3_readFact_49 (fun q36 => ?_) (fun q37 => ?_)
      · refine g_iload_n C rfl 3 rfl dX3_readFact_71 ?_
        refine g_iconst C dX3_readFact_72 ?_
        refine g_icmp_lt C (iw fa1 (by decide) (by decide)) (iw (il 4) (by decide) (by decide)) 82 (by decide) dX3_readFact_73 (fun q38 => ?_) (fun q39 => ?_)
        · exact (no_lt fa1 (il 4) q38 (by decide)).elim
        · refine g_aload_n C rfl 2 rfl dX3_readFact_76 ?_
          refine g_iconst C dX3_readFact_77 ?_
          refine g_callI (st := []) (gc_V C lk_LandSurvey_Reader_99 (k_X3_wrong l D cy w z0 O ta0 (iw (il 5) (by decide) (by decide))) ta0 rfl rfl rfl ⟨by decide, by decide⟩ (Nat.le_of_ble_eq_true rfl) dX3_readFact_78 ⟨(by decide), (by decide)⟩) (fun r40 h41 f43 K42 => ?_)
          obtain ⟨O44, F45, f46⟩ := K42
          have e47 : Rv h41 a0 13 = v1 := ((fxR F45 ta0 rfl).trans e2)
          have e48 : Iv h41 a0 4 = v4 := ((fxI F45 ta0 rfl).trans e5)
          have e49 : Jv h41 a0 5 = v7 := ((fxJ F45 ta0 rfl).trans e8)
          have e50 : Rv h41 a0 6 = v10 := ((fxR F45 ta0 rfl).trans e11)
          have e51 : Tg h41 v1 = 2006 := (fxT F45 t3)
          have p52 := (DOk_fx O F45 ta0 (by rw [e2]; exact t3) rfl P_RInv.2.1)
          exact g_iret C hr (nar_z2 (iw f46 (by decide) (by decide))).1 (iw f46 (by decide) (by decide)) ⟨O44, ((Fx.rf (wr := wr_k_readFact_4)).call F45 rfl), (iw f46 (by decide) (by decide)), (by unfold RInv; rw [e47, e48, e49, e50]; exact ⟨e51, p52, p12, p13⟩)⟩ (by decide) (by decide) dX3_readFact_81
      · exact (no_eq (il 1) (il 0) q37 (by decide)).elim
  · refine g_aload_n C rfl 0 rfl dX3_readFact_8 ?_
    refine gf_R C fk_LandSurvey_Reader_69 rfl ta0 e11 dX3_readFact_9 ?_
    refine g_ifnull C 30 (by decide) dX3_readFact_12 (fun q53 => ?_) (fun q54 => ?_)
    · refine g_iconst C dX3_readFact_30 ?_
      refine g_istore_n C [(2, .inl 0), (0, .inr (.inr a0)), (1, .inl a1)] rfl (by decide) rfl dX3_readFact_31 ?_
      refine g_aload_n C rfl 1 rfl dX3_readFact_32 ?_
      refine gf_R C fk_LandSurvey_Reader_69 rfl ta0 e11 dX3_readFact_33 ?_
      refine g_gets (x := .inr (.inr (w 17 + 1))) C (C.2.2.2.2.2.2.1.1 17 (by decide)).1 kw_839 dX3_readFact_36 ?_
      refine g_acmp_ne C 46 (by decide) dX3_readFact_39 (fun q55 => ?_) (fun q56 => ?_)
      · refine g_iconst C dX3_readFact_46 ?_
        refine g_istore_n C [(3, .inl 0), (2, .inl 0), (0, .inr (.inr a0)), (1, .inl a1)] rfl (by decide) rfl dX3_readFact_47 ?_
        refine g_iload_n C rfl 1 rfl dX3_readFact_48 ?_
        refine g_if_ne C (iw (il 0) (by decide) (by decide)) 71 (by decide) dX3_readFact_49 (fun q57 => ?_) (fun q58 => ?_)
        · exact (no_ne (il 0) (il 0) q57 (by decide)).elim
        · refine g_iload_n C rfl 0 rfl dX3_readFact_52 ?_
          refine g_if_ne C (iw (il 0) (by decide) (by decide)) 71 (by decide) dX3_readFact_53 (fun q59 => ?_) (fun q60 => ?_)
          · exact (no_ne (il 0) (il 0) q59 (by decide)).elim
          · refine g_aload_n C rfl 2 rfl dX3_readFact_56 ?_
            refine g_bipush C (by decide) dX3_readFact_57 ?_
            refine g_callI (st := []) (gc_V C lk_LandSurvey_Reader_95 (k_X3_isNext l D cy w z0 O ta0 (iw (il 40) (by decide) (by decide))) ta0 rfl rfl rfl ⟨by decide, by decide⟩ (Nat.le_of_ble_eq_true rfl) dX3_readFact_59 ⟨(by decide), (by decide)⟩) (fun r61 h62 f64 K63 => ?_)
            obtain ⟨O65, F66, f67⟩ := K63
            refine g_if_ne C (iw f67 (by decide) (by decide)) 71 (by decide) dX3_readFact_62 (fun q68 => ?_) (fun q69 => ?_)
            · have f70 : (1 : Int) ≤ r61 ∧ r61 ≤ (1 : Int) := r_nl f67 q68
              refine g_iload_n C rfl 3 rfl dX3_readFact_71 ?_
              refine g_iconst C dX3_readFact_72 ?_
              refine g_icmp_lt C (iw fa1 (by decide) (by decide)) (iw (il 4) (by decide) (by decide)) 82 (by decide) dX3_readFact_73 (fun q71 => ?_) (fun q72 => ?_)
              · exact (no_lt fa1 (il 4) q71 (by decide)).elim
              · refine g_aload_n C rfl 2 rfl dX3_readFact_76 ?_
                refine g_iconst C dX3_readFact_77 ?_
                have e73 : Tg h62 a0 = 4 := (fxT F66 ta0)
                refine g_callI (st := []) (gc_V C lk_LandSurvey_Reader_99 (k_X3_wrong l D cy w z0 O65 e73 (iw (il 5) (by decide) (by decide))) e73 rfl rfl rfl ⟨by decide, by decide⟩ (Nat.le_of_ble_eq_true rfl) dX3_readFact_78 ⟨(by decide), (by decide)⟩) (fun r74 h75 f77 K76 => ?_)
                obtain ⟨O78, F79, f80⟩ := K76
                have e81 : Rv h75 a0 13 = v1 := ((fxR F79 e73 rfl).trans ((fxR F66 ta0 rfl).trans e2))
                have e82 : Iv h75 a0 4 = v4 := ((fxI F79 e73 rfl).trans ((fxI F66 ta0 rfl).trans e5))
                have e83 : Jv h75 a0 5 = v7 := ((fxJ F79 e73 rfl).trans ((fxJ F66 ta0 rfl).trans e8))
                have e84 : Rv h75 a0 6 = v10 := ((fxR F79 e73 rfl).trans ((fxR F66 ta0 rfl).trans e11))
                have e85 : Tg h75 v1 = 2006 := (fxT F79 (fxT F66 t3))
                have e86 : Rv h62 a0 13 = v1 := ((fxR F66 ta0 rfl).trans e2)
                have e87 : Tg h62 v1 = 2006 := (fxT F66 t3)
                have p88 := (DOk_fx O65 F79 e73 (by rw [e86]; exact e87) rfl (DOk_fx O F66 ta0 (by rw [e2]; exact t3) rfl P_RInv.2.1))
                exact g_iret C hr (nar_z2 (iw f80 (by decide) (by decide))).1 (iw f80 (by decide) (by decide)) ⟨O78, (((Fx.rf (wr := wr_k_readFact_4)).call F66 rfl).call F79 rfl), (iw f80 (by decide) (by decide)), (by unfold RInv; rw [e81, e82, e83, e84]; exact ⟨e85, p88, p12, p13⟩)⟩ (by decide) (by decide) dX3_readFact_81
            · have f89 : (0 : Int) ≤ r61 ∧ r61 ≤ (0 : Int) := ii f67 (r_eq (il 0) q69) (by decide) (by decide)
              refine g_aload_n C rfl 2 rfl dX3_readFact_65 ?_
              refine g_iconst C dX3_readFact_66 ?_
              have e90 : Tg h62 a0 = 4 := (fxT F66 ta0)
              refine g_callI (st := []) (gc_V C lk_LandSurvey_Reader_99 (k_X3_wrong l D cy w z0 O65 e90 (iw (il 1) (by decide) (by decide))) e90 rfl rfl rfl ⟨by decide, by decide⟩ (Nat.le_of_ble_eq_true rfl) dX3_readFact_67 ⟨(by decide), (by decide)⟩) (fun r91 h92 f94 K93 => ?_)
              obtain ⟨O95, F96, f97⟩ := K93
              have e98 : Rv h92 a0 13 = v1 := ((fxR F96 e90 rfl).trans ((fxR F66 ta0 rfl).trans e2))
              have e99 : Iv h92 a0 4 = v4 := ((fxI F96 e90 rfl).trans ((fxI F66 ta0 rfl).trans e5))
              have e100 : Jv h92 a0 5 = v7 := ((fxJ F96 e90 rfl).trans ((fxJ F66 ta0 rfl).trans e8))
              have e101 : Rv h92 a0 6 = v10 := ((fxR F96 e90 rfl).trans ((fxR F66 ta0 rfl).trans e11))
              have e102 : Tg h92 v1 = 2006 := (fxT F96 (fxT F66 t3))
              have e103 : Rv h62 a0 13 = v1 := ((fxR F66 ta0 rfl).trans e2)
              have e104 : Tg h62 v1 = 2006 := (fxT F66 t3)
              have p105 := (DOk_fx O65 F96 e90 (by rw [e103]; exact e104) rfl (DOk_fx O F66 ta0 (by rw [e2]; exact t3) rfl P_RInv.2.1))
              exact g_iret C hr (nar_z2 (iw f97 (by decide) (by decide))).1 (iw f97 (by decide) (by decide)) ⟨O95, (((Fx.rf (wr := wr_k_readFact_4)).call F66 rfl).call F96 rfl), (iw f97 (by decide) (by decide)), (by unfold RInv; rw [e98, e99, e100, e101]; exact ⟨e102, p105, p12, p13⟩)⟩ (by decide) (by decide) dX3_readFact_70
      · refine g_iconst C dX3_readFact_42 ?_
        refine g_goto C 47 (by decide) dX3_readFact_43 ?_
        refine g_istore_n C [(3, .inl 1), (2, .inl 0), (0, .inr (.inr a0)), (1, .inl a1)] rfl (by decide) rfl dX3_readFact_47 ?_
        refine g_iload_n C rfl 1 rfl dX3_readFact_48 ?_
        refine g_if_ne C (iw (il 0) (by decide) (by decide)) 71 (by decide) dX3_readFact_49 (fun q106 => ?_) (fun q107 => ?_)
        · exact (no_ne (il 0) (il 0) q106 (by decide)).elim
        · refine g_iload_n C rfl 0 rfl dX3_readFact_52 ?_
          refine g_if_ne C (iw (il 1) (by decide) (by decide)) 71 (by decide) dX3_readFact_53 (fun q108 => ?_) (fun q109 => ?_)
          · refine g_iload_n C rfl 3 rfl dX3_readFact_71 ?_
            refine g_iconst C dX3_readFact_72 ?_
            refine g_icmp_lt C (iw fa1 (by decide) (by decide)) (iw (il 4) (by decide) (by decide)) 82 (by decide) dX3_readFact_73 (fun q110 => ?_) (fun q111 => ?_)
            · exact (no_lt fa1 (il 4) q110 (by decide)).elim
            · refine g_aload_n C rfl 2 rfl dX3_readFact_76 ?_
              refine g_iconst C dX3_readFact_77 ?_
              refine g_callI (st := []) (gc_V C lk_LandSurvey_Reader_99 (k_X3_wrong l D cy w z0 O ta0 (iw (il 5) (by decide) (by decide))) ta0 rfl rfl rfl ⟨by decide, by decide⟩ (Nat.le_of_ble_eq_true rfl) dX3_readFact_78 ⟨(by decide), (by decide)⟩) (fun r112 h113 f115 K114 => ?_)
              obtain ⟨O116, F117, f118⟩ := K114
              have e119 : Rv h113 a0 13 = v1 := ((fxR F117 ta0 rfl).trans e2)
              have e120 : Iv h113 a0 4 = v4 := ((fxI F117 ta0 rfl).trans e5)
              have e121 : Jv h113 a0 5 = v7 := ((fxJ F117 ta0 rfl).trans e8)
              have e122 : Rv h113 a0 6 = v10 := ((fxR F117 ta0 rfl).trans e11)
              have e123 : Tg h113 v1 = 2006 := (fxT F117 t3)
              have p124 := (DOk_fx O F117 ta0 (by rw [e2]; exact t3) rfl P_RInv.2.1)
              exact g_iret C hr (nar_z2 (iw f118 (by decide) (by decide))).1 (iw f118 (by decide) (by decide)) ⟨O116, ((Fx.rf (wr := wr_k_readFact_4)).call F117 rfl), (iw f118 (by decide) (by decide)), (by unfold RInv; rw [e119, e120, e121, e122]; exact ⟨e123, p124, p12, p13⟩)⟩ (by decide) (by decide) dX3_readFact_81
          · exact (no_eq (il 1) (il 0) q109 (by decide)).elim
    · refine g_aload_n C rfl 0 rfl dX3_readFact_15 ?_
      refine gf_R C fk_LandSurvey_Reader_69 rfl ta0 e11 dX3_readFact_16 ?_
      obtain ⟨i125, q126, e127⟩ := WOk.get p13 q54
      refine g_getf2 (x := .inl (wFa.getD i125 0)) C e127 (C.2.2.2.2.2.2.1.1 i125 q126).2.2 kw_2284 dX3_readFact_19 ?_
      have f128 : (-1 : Int) ≤ (wFa.getD i125 0) ∧ (wFa.getD i125 0) ≤ (11 : Int) := wFa_rng _
      refine g_iconst C dX3_readFact_22 ?_
      refine g_icmp_eq C (iw f128 (by decide) (by decide)) (iw (il (-1)) (by decide) (by decide)) 30 (by decide) dX3_readFact_23 (fun q129 => ?_) (fun q130 => ?_)
      · have f131 : (-1 : Int) ≤ (wFa.getD i125 0) ∧ (wFa.getD i125 0) ≤ (-1 : Int) := ii f128 (r_eq (il (-1)) q129) (by decide) (by decide)
        refine g_iconst C dX3_readFact_30 ?_
        refine g_istore_n C [(2, .inl 0), (0, .inr (.inr a0)), (1, .inl a1)] rfl (by decide) rfl dX3_readFact_31 ?_
        refine g_aload_n C rfl 1 rfl dX3_readFact_32 ?_
        refine gf_R C fk_LandSurvey_Reader_69 rfl ta0 e11 dX3_readFact_33 ?_
        refine g_gets (x := .inr (.inr (w 17 + 1))) C (C.2.2.2.2.2.2.1.1 17 (by decide)).1 kw_839 dX3_readFact_36 ?_
        refine g_acmp_ne C 46 (by decide) dX3_readFact_39 (fun q132 => ?_) (fun q133 => ?_)
        · refine g_iconst C dX3_readFact_46 ?_
          refine g_istore_n C [(3, .inl 0), (2, .inl 0), (0, .inr (.inr a0)), (1, .inl a1)] rfl (by decide) rfl dX3_readFact_47 ?_
          refine g_iload_n C rfl 1 rfl dX3_readFact_48 ?_
          refine g_if_ne C (iw (il 0) (by decide) (by decide)) 71 (by decide) dX3_readFact_49 (fun q134 => ?_) (fun q135 => ?_)
          · exact (no_ne (il 0) (il 0) q134 (by decide)).elim
          · refine g_iload_n C rfl 0 rfl dX3_readFact_52 ?_
            refine g_if_ne C (iw (il 0) (by decide) (by decide)) 71 (by decide) dX3_readFact_53 (fun q136 => ?_) (fun q137 => ?_)
            · exact (no_ne (il 0) (il 0) q136 (by decide)).elim
            · refine g_aload_n C rfl 2 rfl dX3_readFact_56 ?_
              refine g_bipush C (by decide) dX3_readFact_57 ?_
              refine g_callI (st := []) (gc_V C lk_LandSurvey_Reader_95 (k_X3_isNext l D cy w z0 O ta0 (iw (il 40) (by decide) (by decide))) ta0 rfl rfl rfl ⟨by decide, by decide⟩ (Nat.le_of_ble_eq_true rfl) dX3_readFact_59 ⟨(by decide), (by decide)⟩) (fun r138 h139 f141 K140 => ?_)
              obtain ⟨O142, F143, f144⟩ := K140
              refine g_if_ne C (iw f144 (by decide) (by decide)) 71 (by decide) dX3_readFact_62 (fun q145 => ?_) (fun q146 => ?_)
              · have f147 : (1 : Int) ≤ r138 ∧ r138 ≤ (1 : Int) := r_nl f144 q145
                refine g_iload_n C rfl 3 rfl dX3_readFact_71 ?_
                refine g_iconst C dX3_readFact_72 ?_
                refine g_icmp_lt C (iw fa1 (by decide) (by decide)) (iw (il 4) (by decide) (by decide)) 82 (by decide) dX3_readFact_73 (fun q148 => ?_) (fun q149 => ?_)
                · exact (no_lt fa1 (il 4) q148 (by decide)).elim
                · refine g_aload_n C rfl 2 rfl dX3_readFact_76 ?_
                  refine g_iconst C dX3_readFact_77 ?_
                  have e150 : Tg h139 a0 = 4 := (fxT F143 ta0)
                  refine g_callI (st := []) (gc_V C lk_LandSurvey_Reader_99 (k_X3_wrong l D cy w z0 O142 e150 (iw (il 5) (by decide) (by decide))) e150 rfl rfl rfl ⟨by decide, by decide⟩ (Nat.le_of_ble_eq_true rfl) dX3_readFact_78 ⟨(by decide), (by decide)⟩) (fun r151 h152 f154 K153 => ?_)
                  obtain ⟨O155, F156, f157⟩ := K153
                  have e158 : Rv h152 a0 13 = v1 := ((fxR F156 e150 rfl).trans ((fxR F143 ta0 rfl).trans e2))
                  have e159 : Iv h152 a0 4 = v4 := ((fxI F156 e150 rfl).trans ((fxI F143 ta0 rfl).trans e5))
                  have e160 : Jv h152 a0 5 = v7 := ((fxJ F156 e150 rfl).trans ((fxJ F143 ta0 rfl).trans e8))
                  have e161 : Rv h152 a0 6 = v10 := ((fxR F156 e150 rfl).trans ((fxR F143 ta0 rfl).trans e11))
                  have e162 : Tg h152 v1 = 2006 := (fxT F156 (fxT F143 t3))
                  have e163 : Rv h139 a0 13 = v1 := ((fxR F143 ta0 rfl).trans e2)
                  have e164 : Tg h139 v1 = 2006 := (fxT F143 t3)
                  have p165 := (DOk_fx O142 F156 e150 (by rw [e163]; exact e164) rfl (DOk_fx O F143 ta0 (by rw [e2]; exact t3) rfl P_RInv.2.1))
                  exact g_iret C hr (nar_z2 (iw f157 (by decide) (by decide))).1 (iw f157 (by decide) (by decide)) ⟨O155, (((Fx.rf (wr := wr_k_readFact_4)).call F143 rfl).call F156 rfl), (iw f157 (by decide) (by decide)), (by unfold RInv; rw [e158, e159, e160, e161]; exact ⟨e162, p165, p12, p13⟩)⟩ (by decide) (by decide) dX3_readFact_81
              · have f166 : (0 : Int) ≤ r138 ∧ r138 ≤ (0 : Int) := ii f144 (r_eq (il 0) q146) (by decide) (by decide)
                refine g_aload_n C rfl 2 rfl dX3_readFact_65 ?_
                refine g_iconst C dX3_readFact_66 ?_
                have e167 : Tg h139 a0 = 4 := (fxT F143 ta0)
                refine g_callI (st := []) (gc_V C lk_LandSurvey_Reader_99 (k_X3_wrong l D cy w z0 O142 e167 (iw (il 1) (by decide) (by decide))) e167 rfl rfl rfl ⟨by decide, by decide⟩ (Nat.le_of_ble_eq_true rfl) dX3_readFact_67 ⟨(by decide), (by decide)⟩) (fun r168 h169 f171 K170 => ?_)
                obtain ⟨O172, F173, f174⟩ := K170
                have e175 : Rv h169 a0 13 = v1 := ((fxR F173 e167 rfl).trans ((fxR F143 ta0 rfl).trans e2))
                have e176 : Iv h169 a0 4 = v4 := ((fxI F173 e167 rfl).trans ((fxI F143 ta0 rfl).trans e5))
                have e177 : Jv h169 a0 5 = v7 := ((fxJ F173 e167 rfl).trans ((fxJ F143 ta0 rfl).trans e8))
                have e178 : Rv h169 a0 6 = v10 := ((fxR F173 e167 rfl).trans ((fxR F143 ta0 rfl).trans e11))
                have e179 : Tg h169 v1 = 2006 := (fxT F173 (fxT F143 t3))
                have e180 : Rv h139 a0 13 = v1 := ((fxR F143 ta0 rfl).trans e2)
                have e181 : Tg h139 v1 = 2006 := (fxT F143 t3)
                have p182 := (DOk_fx O142 F173 e167 (by rw [e180]; exact e181) rfl (DOk_fx O F143 ta0 (by rw [e2]; exact t3) rfl P_RInv.2.1))
                exact g_iret C hr (nar_z2 (iw f174 (by decide) (by decide))).1 (iw f174 (by decide) (by decide)) ⟨O172, (((Fx.rf (wr := wr_k_readFact_4)).call F143 rfl).call F173 rfl), (iw f174 (by decide) (by decide)), (by unfold RInv; rw [e175, e176, e177, e178]; exact ⟨e179, p182, p12, p13⟩)⟩ (by decide) (by decide) dX3_readFact_70
        · refine g_iconst C dX3_readFact_42 ?_
          refine g_goto C 47 (by decide) dX3_readFact_43 ?_
          refine g_istore_n C [(3, .inl 1), (2, .inl 0), (0, .inr (.inr a0)), (1, .inl a1)] rfl (by decide) rfl dX3_readFact_47 ?_
          refine g_iload_n C rfl 1 rfl dX3_readFact_48 ?_
          refine g_if_ne C (iw (il 0) (by decide) (by decide)) 71 (by decide) dX3_readFact_49 (fun q183 => ?_) (fun q184 => ?_)
          · exact (no_ne (il 0) (il 0) q183 (by decide)).elim
          · refine g_iload_n C rfl 0 rfl dX3_readFact_52 ?_
            refine g_if_ne C (iw (il 1) (by decide) (by decide)) 71 (by decide) dX3_readFact_53 (fun q185 => ?_) (fun q186 => ?_)
            · refine g_iload_n C rfl 3 rfl dX3_readFact_71 ?_
              refine g_iconst C dX3_readFact_72 ?_
              refine g_icmp_lt C (iw fa1 (by decide) (by decide)) (iw (il 4) (by decide) (by decide)) 82 (by decide) dX3_readFact_73 (fun q187 => ?_) (fun q188 => ?_)
              · exact (no_lt fa1 (il 4) q187 (by decide)).elim
              · refine g_aload_n C rfl 2 rfl dX3_readFact_76 ?_
                refine g_iconst C dX3_readFact_77 ?_
                refine g_callI (st := []) (gc_V C lk_LandSurvey_Reader_99 (k_X3_wrong l D cy w z0 O ta0 (iw (il 5) (by decide) (by decide))) ta0 rfl rfl rfl ⟨by decide, by decide⟩ (Nat.le_of_ble_eq_true rfl) dX3_readFact_78 ⟨(by decide), (by decide)⟩) (fun r189 h190 f192 K191 => ?_)
                obtain ⟨O193, F194, f195⟩ := K191
                have e196 : Rv h190 a0 13 = v1 := ((fxR F194 ta0 rfl).trans e2)
                have e197 : Iv h190 a0 4 = v4 := ((fxI F194 ta0 rfl).trans e5)
                have e198 : Jv h190 a0 5 = v7 := ((fxJ F194 ta0 rfl).trans e8)
                have e199 : Rv h190 a0 6 = v10 := ((fxR F194 ta0 rfl).trans e11)
                have e200 : Tg h190 v1 = 2006 := (fxT F194 t3)
                have p201 := (DOk_fx O F194 ta0 (by rw [e2]; exact t3) rfl P_RInv.2.1)
                exact g_iret C hr (nar_z2 (iw f195 (by decide) (by decide))).1 (iw f195 (by decide) (by decide)) ⟨O193, ((Fx.rf (wr := wr_k_readFact_4)).call F194 rfl), (iw f195 (by decide) (by decide)), (by unfold RInv; rw [e196, e197, e198, e199]; exact ⟨e200, p201, p12, p13⟩)⟩ (by decide) (by decide) dX3_readFact_81
            · exact (no_eq (il 1) (il 0) q186 (by decide)).elim
      · have f202 : (0 : Int) ≤ (wFa.getD i125 0) ∧ (wFa.getD i125 0) ≤ (11 : Int) := r_nl f128 q130
        refine g_iconst C dX3_readFact_26 ?_
        refine g_goto C 31 (by decide) dX3_readFact_27 ?_
        refine g_istore_n C [(2, .inl 1), (0, .inr (.inr a0)), (1, .inl a1)] rfl (by decide) rfl dX3_readFact_31 ?_
        refine g_aload_n C rfl 1 rfl dX3_readFact_32 ?_
        refine gf_R C fk_LandSurvey_Reader_69 rfl ta0 e11 dX3_readFact_33 ?_
        refine g_gets (x := .inr (.inr (w 17 + 1))) C (C.2.2.2.2.2.2.1.1 17 (by decide)).1 kw_839 dX3_readFact_36 ?_
        refine g_acmp_ne C 46 (by decide) dX3_readFact_39 (fun q203 => ?_) (fun q204 => ?_)
        · refine g_iconst C dX3_readFact_46 ?_
          refine g_istore_n C [(3, .inl 0), (2, .inl 1), (0, .inr (.inr a0)), (1, .inl a1)] rfl (by decide) rfl dX3_readFact_47 ?_
          refine g_iload_n C rfl 1 rfl dX3_readFact_48 ?_
          refine g_if_ne C (iw (il 1) (by decide) (by decide)) 71 (by decide) dX3_readFact_49 (fun q205 => ?_) (fun q206 => ?_)
          · refine g_iload_n C rfl 3 rfl dX3_readFact_71 ?_
            refine g_iconst C dX3_readFact_72 ?_
            refine g_icmp_lt C (iw fa1 (by decide) (by decide)) (iw (il 4) (by decide) (by decide)) 82 (by decide) dX3_readFact_73 (fun q207 => ?_) (fun q208 => ?_)
            · exact (no_lt fa1 (il 4) q207 (by decide)).elim
            · refine g_aload_n C rfl 2 rfl dX3_readFact_76 ?_
              refine g_iconst C dX3_readFact_77 ?_
              refine g_callI (st := []) (gc_V C lk_LandSurvey_Reader_99 (k_X3_wrong l D cy w z0 O ta0 (iw (il 5) (by decide) (by decide))) ta0 rfl rfl rfl ⟨by decide, by decide⟩ (Nat.le_of_ble_eq_true rfl) dX3_readFact_78 ⟨(by decide), (by decide)⟩) (fun r209 h210 f212 K211 => ?_)
              obtain ⟨O213, F214, f215⟩ := K211
              have e216 : Rv h210 a0 13 = v1 := ((fxR F214 ta0 rfl).trans e2)
              have e217 : Iv h210 a0 4 = v4 := ((fxI F214 ta0 rfl).trans e5)
              have e218 : Jv h210 a0 5 = v7 := ((fxJ F214 ta0 rfl).trans e8)
              have e219 : Rv h210 a0 6 = v10 := ((fxR F214 ta0 rfl).trans e11)
              have e220 : Tg h210 v1 = 2006 := (fxT F214 t3)
              have p221 := (DOk_fx O F214 ta0 (by rw [e2]; exact t3) rfl P_RInv.2.1)
              exact g_iret C hr (nar_z2 (iw f215 (by decide) (by decide))).1 (iw f215 (by decide) (by decide)) ⟨O213, ((Fx.rf (wr := wr_k_readFact_4)).call F214 rfl), (iw f215 (by decide) (by decide)), (by unfold RInv; rw [e216, e217, e218, e219]; exact ⟨e220, p221, p12, p13⟩)⟩ (by decide) (by decide) dX3_readFact_81
          · exact (no_eq (il 1) (il 0) q206 (by decide)).elim
        · refine g_iconst C dX3_readFact_42 ?_
          refine g_goto C 47 (by decide) dX3_readFact_43 ?_
          refine g_istore_n C [(3, .inl 1), (2, .inl 1), (0, .inr (.inr a0)), (1, .inl a1)] rfl (by decide) rfl dX3_readFact_47 ?_
          refine g_iload_n C rfl 1 rfl dX3_readFact_48 ?_
          refine g_if_ne C (iw (il 1) (by decide) (by decide)) 71 (by decide) dX3_readFact_49 (fun q222 => ?_) (fun q223 => ?_)
          · refine g_iload_n C rfl 3 rfl dX3_readFact_71 ?_
            refine g_iconst C dX3_readFact_72 ?_
            refine g_icmp_lt C (iw fa1 (by decide) (by decide)) (iw (il 4) (by decide) (by decide)) 82 (by decide) dX3_readFact_73 (fun q224 => ?_) (fun q225 => ?_)
            · exact (no_lt fa1 (il 4) q224 (by decide)).elim
            · refine g_aload_n C rfl 2 rfl dX3_readFact_76 ?_
              refine g_iconst C dX3_readFact_77 ?_
              refine g_callI (st := []) (gc_V C lk_LandSurvey_Reader_99 (k_X3_wrong l D cy w z0 O ta0 (iw (il 5) (by decide) (by decide))) ta0 rfl rfl rfl ⟨by decide, by decide⟩ (Nat.le_of_ble_eq_true rfl) dX3_readFact_78 ⟨(by decide), (by decide)⟩) (fun r226 h227 f229 K228 => ?_)
              obtain ⟨O230, F231, f232⟩ := K228
              have e233 : Rv h227 a0 13 = v1 := ((fxR F231 ta0 rfl).trans e2)
              have e234 : Iv h227 a0 4 = v4 := ((fxI F231 ta0 rfl).trans e5)
              have e235 : Jv h227 a0 5 = v7 := ((fxJ F231 ta0 rfl).trans e8)
              have e236 : Rv h227 a0 6 = v10 := ((fxR F231 ta0 rfl).trans e11)
              have e237 : Tg h227 v1 = 2006 := (fxT F231 t3)
              have p238 := (DOk_fx O F231 ta0 (by rw [e2]; exact t3) rfl P_RInv.2.1)
              exact g_iret C hr (nar_z2 (iw f232 (by decide) (by decide))).1 (iw f232 (by decide) (by decide)) ⟨O230, ((Fx.rf (wr := wr_k_readFact_4)).call F231 rfl), (iw f232 (by decide) (by decide)), (by unfold RInv; rw [e233, e234, e235, e236]; exact ⟨e237, p238, p12, p13⟩)⟩ (by decide) (by decide) dX3_readFact_81
          · exact (no_eq (il 1) (il 0) q223 (by decide)).elim
def wr_k_readSum_4 : List Nat := [802, 803, 804, 805, 806, 807, 812, 4020000]
set_option maxRecDepth 100000 in
set_option maxHeartbeats 4000000 in
theorem k_readSum_4 (l : Launch) (D : va_G) (cy : Nat → ClassId) (w : Nat → Nat) (z0 : Nat)  {h : Hp} {a0 : Nat} {a1 : Int}  (O : Okh h) (ta0 : Tg h a0 = 4) (fa1 : 4 ≤ a1 ∧ a1 ≤ 4) (P_RInv : RInv w h a0) : MI l D cy w z0 yX3_readSum cX3_readSum 4 (some .boolean) 7 156 0 0 [.inr (.inr a0), .inl a1] h (fun v h1 => Okh h1 ∧ Fx wr_k_readSum_4 h h1 ∧ (0 ≤ v ∧ v ≤ 1) ∧ (RInv w h1 a0)) := by
  obtain ⟨v1, e2⟩ : ∃ z, Rv h a0 13 = z := ⟨_, rfl⟩
  have t3 := P_RInv.1
  rw [e2] at t3
  obtain ⟨v4, e5⟩ : ∃ z, Iv h a0 4 = z := ⟨_, rfl⟩
  have f6 := ok_I O ta0 rI_4_4 e5
  obtain ⟨v7, e8⟩ : ∃ z, Jv h a0 5 = z := ⟨_, rfl⟩
  have f9 := inL_J O e8
  obtain ⟨v10, e11⟩ : ∃ z, Rv h a0 6 = z := ⟨_, rfl⟩
  have p12 := P_RInv.2.2.1
  rw [e5, e8] at p12
  have p13 := P_RInv.2.2.2
  rw [e11] at p13
  refine hm_go (by decide +kernel) (Nat.le_of_ble_eq_true rfl) (fun p e s m below meth c C hr hn => ?_)
  refine g_aload_n C rfl 0 rfl dX3_readSum_0 ?_
  refine g_iload_n C rfl 1 rfl dX3_readSum_1 ?_
  refine g_callI (st := []) (gc_V C lk_LandSurvey_Reader_250 (k_readFact_4 l D cy w z0 O ta0 fa1 (by unfold RInv; rw [e2, e5, e8, e11]; exact ⟨t3, P_RInv.2.1, p12, p13⟩)) ta0 rfl rfl rfl ⟨by decide, by decide⟩ (Nat.le_of_ble_eq_true rfl) dX3_readSum_2 ⟨(by decide), (by decide)⟩) (fun r14 h15 f17 K16 => ?_)
  obtain ⟨O18, F19, f20, p21⟩ := K16
  have e22 : Rv h15 a0 13 = v1 := ((fxR F19 ta0 rfl).trans e2)
  obtain ⟨v23, e24⟩ : ∃ z, Iv h15 a0 4 = z := ⟨_, rfl⟩
  have e25 : Tg h15 a0 = 4 := (fxT F19 ta0)
  have f26 := ok_I O18 e25 rI_4_4 e24
  obtain ⟨v27, e28⟩ : ∃ z, Jv h15 a0 5 = z := ⟨_, rfl⟩
  have f29 := inL_J O18 e28
  obtain ⟨v30, e31⟩ : ∃ z, Rv h15 a0 6 = z := ⟨_, rfl⟩
  have p32 := p21.2.2.1
  rw [e24, e28] at p32
  have p33 := p21.2.2.2
  rw [e31] at p33
  refine g_if_ne C (iw f20 (by decide) (by decide)) 10 (by decide) dX3_readSum_5 (fun q34 => ?_) (fun q35 => ?_)
  · have f36 : (1 : Int) ≤ r14 ∧ r14 ≤ (1 : Int) := r_nl f20 q34
    refine g_iconst C dX3_readSum_10 ?_
    refine g_istore_n C [(2, .inl 0), (0, .inr (.inr a0)), (1, .inl a1)] rfl (by decide) rfl dX3_readSum_11 ?_
    refine GW.sub [1, 2, 0] rfl ?_
    -- loop at 12
    have L39 : ∀ (μ : Nat) (x37 : Int) (h38 : Hp), (1501 - x37).toNat = μ → Okh h38 → Fx [802, 803, 804, 805, 806, 807, 812, 4020000] h15 h38 → ((0 : Int) ≤ x37 ∧ x37 ≤ (1501 : Int)) → (RInv w h38 a0) → GW p l e (rmm 7 156 0 0) s m (List.map toV [.inr (.inr a0), .inl a1]).toArray below meth c D cy z0 4 (MQ below (QI D cy z0 (fun v h1 => Okh h1 ∧ Fx wr_k_readSum_4 h h1 ∧ (0 ≤ v ∧ v ≤ 1) ∧ (RInv w h1 a0))) (List.map toV [.inr (.inr a0), .inl a1]).toArray s 0 0 (Aof z0)) 12 [(0, .inr (.inr a0)), (1, .inl a1), (2, .inl x37)] [] h38 0 0 := by
      intro μ
      induction μ using Nat.strongRecOn with
      | ind μ ih40 =>
        intro x37 h38 hm41 O42 F43 f44 p45
        have e46 : Rv h38 a0 13 = v1 := ((fxR F43 e25 rfl).trans e22)
        obtain ⟨v47, e48⟩ : ∃ z, Iv h38 a0 4 = z := ⟨_, rfl⟩
        have e49 : Tg h38 a0 = 4 := (fxT F43 e25)
        have f50 := ok_I O42 e49 rI_4_4 e48
        obtain ⟨v51, e52⟩ : ∃ z, Jv h38 a0 5 = z := ⟨_, rfl⟩
        have f53 := inL_J O42 e52
        obtain ⟨v54, e55⟩ : ∃ z, Rv h38 a0 6 = z := ⟨_, rfl⟩
        have p56 := p45.2.2.1
        rw [e48, e52] at p56
        have p57 := p45.2.2.2
        rw [e55] at p57
        refine g_iload_n C rfl 2 rfl dX3_readSum_12 ?_
        refine g_sipush C (by decide) dX3_readSum_13 ?_
        refine g_icmp_gt C (iw f44 (by decide) (by decide)) (iw (il 1500) (by decide) (by decide)) 82 (by decide) dX3_readSum_16 (fun q58 => ?_) (fun q59 => ?_)
        · have f60 : (1501 : Int) ≤ x37 ∧ x37 ≤ (1501 : Int) := r_gt f44 (il 1500) q58 (by decide) (by decide)
          refine g_iconst C dX3_readSum_82 ?_
          have e61 : Tg h38 v1 = 2006 := (fxT F43 (fxT F19 t3))
          exact g_iret C hr (nar_z2 (iw (il 1) (by decide) (by decide))).1 (iw (il 1) (by decide) (by decide)) ⟨O42, (((Fx.rf (wr := wr_k_readSum_4)).call F19 rfl).call F43 rfl), (iw (il 1) (by decide) (by decide)), (by unfold RInv; rw [e46, e48, e52, e55]; exact ⟨e61, p45.2.1, p56, p57⟩)⟩ (by decide) (by decide) dX3_readSum_83
        · have f62 : (0 : Int) ≤ x37 ∧ x37 ≤ (1500 : Int) := r_le f44 (il 1500) q59 (by decide) (by decide)
          refine g_aload_n C rfl 0 rfl dX3_readSum_19 ?_
          refine g_bipush C (by decide) dX3_readSum_20 ?_
          refine g_callI (st := []) (gc_V C lk_LandSurvey_Reader_95 (k_X3_isNext l D cy w z0 O42 e49 (iw (il 43) (by decide) (by decide))) e49 rfl rfl rfl ⟨by decide, by decide⟩ (Nat.le_of_ble_eq_true rfl) dX3_readSum_22 ⟨(by decide), (by decide)⟩) (fun r63 h64 f66 K65 => ?_)
          obtain ⟨O67, F68, f69⟩ := K65
          refine g_if_ne C (iw f69 (by decide) (by decide)) 37 (by decide) dX3_readSum_25 (fun q70 => ?_) (fun q71 => ?_)
          · have f72 : (1 : Int) ≤ r63 ∧ r63 ≤ (1 : Int) := r_nl f69 q70
            refine g_aload_n C rfl 0 rfl dX3_readSum_37 ?_
            refine g_bipush C (by decide) dX3_readSum_38 ?_
            have e73 : Tg h64 a0 = 4 := (fxT F68 e49)
            refine g_callI (st := []) (gc_V C lk_LandSurvey_Reader_95 (k_X3_isNext l D cy w z0 O67 e73 (iw (il 43) (by decide) (by decide))) e73 rfl rfl rfl ⟨by decide, by decide⟩ (Nat.le_of_ble_eq_true rfl) dX3_readSum_40 ⟨(by decide), (by decide)⟩) (fun r74 h75 f77 K76 => ?_)
            obtain ⟨O78, F79, f80⟩ := K76
            refine g_if_eq C (iw f80 (by decide) (by decide)) 51 (by decide) dX3_readSum_43 (fun q81 => ?_) (fun q82 => ?_)
            · have f83 : (0 : Int) ≤ r74 ∧ r74 ≤ (0 : Int) := ii f80 (r_eq (il 0) q81) (by decide) (by decide)
              refine g_bipush C (by decide) dX3_readSum_51 ?_
              refine g_istore_n C [(3, .inl (-22)), (0, .inr (.inr a0)), (1, .inl a1), (2, .inl x37)] rfl (by decide) rfl dX3_readSum_53 ?_
              refine g_aload_n C rfl 1 rfl dX3_readSum_54 ?_
              have e84 : Tg h75 a0 = 4 := (fxT F79 e73)
              have e85 : Rv h75 a0 13 = v1 := ((fxR F79 e73 rfl).trans ((fxR F68 e49 rfl).trans e46))
              have e86 : Iv h75 a0 4 = v47 := ((fxI F79 e73 rfl).trans ((fxI F68 e49 rfl).trans e48))
              have e87 : Jv h75 a0 5 = v51 := ((fxJ F79 e73 rfl).trans ((fxJ F68 e49 rfl).trans e52))
              have e88 : Rv h75 a0 6 = v54 := ((fxR F79 e73 rfl).trans ((fxR F68 e49 rfl).trans e55))
              have e89 : Tg h75 v1 = 2006 := (fxT F79 (fxT F68 (fxT F43 (fxT F19 t3))))
              have e90 : Tg h38 v1 = 2006 := (fxT F43 (fxT F19 t3))
              have e91 : Rv h64 a0 13 = v1 := ((fxR F68 e49 rfl).trans e46)
              have e92 : Tg h64 v1 = 2006 := (fxT F68 e90)
              have p93 := (DOk_fx O67 F79 e73 (by rw [e91]; exact e92) rfl (DOk_fx O42 F68 e49 (by rw [e46]; exact e90) rfl p45.2.1))
              refine g_callV (st := []) (gc_V C lk_LandSurvey_Reader_46 (k_X3_advance l D cy w z0 O78 e84 (by unfold RInv; rw [e85, e86, e87, e88]; exact ⟨e89, p93, p56, p57⟩)) e84 rfl rfl rfl ⟨by decide, by decide⟩ (Nat.le_of_ble_eq_true rfl) dX3_readSum_55 ⟨(by decide), (by decide)⟩) (fun h95 K96 => ?_)
              obtain ⟨O98, F99, p100⟩ := K96
              have e101 : Rv h95 a0 13 = v1 := ((fxR F99 e84 rfl).trans e85)
              obtain ⟨v102, e103⟩ : ∃ z, Iv h95 a0 4 = z := ⟨_, rfl⟩
              have e104 : Tg h95 a0 = 4 := (fxT F99 e84)
              have f105 := ok_I O98 e104 rI_4_4 e103
              obtain ⟨v106, e107⟩ : ∃ z, Jv h95 a0 5 = z := ⟨_, rfl⟩
              have f108 := inL_J O98 e107
              obtain ⟨v109, e110⟩ : ∃ z, Rv h95 a0 6 = z := ⟨_, rfl⟩
              have p111 := p100.2.2.1
              rw [e103, e107] at p111
              have p112 := p100.2.2.2
              rw [e110] at p112
              refine g_aload_n C rfl 1 rfl dX3_readSum_58 ?_
              refine g_iload_n C rfl 2 rfl dX3_readSum_59 ?_
              have e113 : Tg h95 v1 = 2006 := (fxT F99 e89)
              refine g_callI (st := []) (gc_V C lk_LandSurvey_Reader_250 (k_readFact_4 l D cy w z0 O98 e104 fa1 (by unfold RInv; rw [e101, e103, e107, e110]; exact ⟨e113, p100.2.1, p111, p112⟩)) e104 rfl rfl rfl ⟨by decide, by decide⟩ (Nat.le_of_ble_eq_true rfl) dX3_readSum_60 ⟨(by decide), (by decide)⟩) (fun r114 h115 f117 K116 => ?_)
              obtain ⟨O118, F119, f120, p121⟩ := K116
              have e122 : Rv h115 a0 13 = v1 := ((fxR F119 e104 rfl).trans e101)
              obtain ⟨v123, e124⟩ : ∃ z, Iv h115 a0 4 = z := ⟨_, rfl⟩
              have e125 : Tg h115 a0 = 4 := (fxT F119 e104)
              have f126 := ok_I O118 e125 rI_4_4 e124
              obtain ⟨v127, e128⟩ : ∃ z, Jv h115 a0 5 = z := ⟨_, rfl⟩
              have f129 := inL_J O118 e128
              obtain ⟨v130, e131⟩ : ∃ z, Rv h115 a0 6 = z := ⟨_, rfl⟩
              have p132 := p121.2.2.1
              rw [e124, e128] at p132
              have p133 := p121.2.2.2
              rw [e131] at p133
              refine g_if_eq C (iw f120 (by decide) (by decide)) 74 (by decide) dX3_readSum_63 (fun q134 => ?_) (fun q135 => ?_)
              · have f136 : (0 : Int) ≤ r114 ∧ r114 ≤ (0 : Int) := ii f120 (r_eq (il 0) q134) (by decide) (by decide)
                refine g_iconst C dX3_readSum_74 ?_
                have e137 : Tg h115 v1 = 2006 := (fxT F119 e113)
                exact g_iret C hr (nar_z2 (iw (il 0) (by decide) (by decide))).1 (iw (il 0) (by decide) (by decide)) ⟨O118, (((((((Fx.rf (wr := wr_k_readSum_4)).call F19 rfl).call F43 rfl).call F68 rfl).call F79 rfl).call F99 rfl).call F119 rfl), (iw (il 0) (by decide) (by decide)), (by unfold RInv; rw [e122, e124, e128, e131]; exact ⟨e137, p121.2.1, p132, p133⟩)⟩ (by decide) (by decide) dX3_readSum_75
              · have f138 : (1 : Int) ≤ r114 ∧ r114 ≤ (1 : Int) := r_nl f120 q135
                refine g_aload_n C rfl 1 rfl dX3_readSum_66 ?_
                refine g_iload_n C rfl 0 rfl dX3_readSum_67 ?_
                have e139 : Tg h115 v1 = 2006 := (fxT F119 e113)
                refine g_callI (st := []) (gc_V C lk_LandSurvey_Reader_244 (k_X3_emit l D cy w z0 O118 e125 (iw (il (-22)) (by decide) (by decide)) (by unfold RInv; rw [e122, e124, e128, e131]; exact ⟨e139, p121.2.1, p132, p133⟩) (by omega)) e125 rfl rfl rfl ⟨by decide, by decide⟩ (Nat.le_of_ble_eq_true rfl) dX3_readSum_68 ⟨(by decide), (by decide)⟩) (fun r140 h141 f143 K142 => ?_)
                obtain ⟨O144, F145, f146, p147⟩ := K142
                have e148 : Rv h141 a0 13 = v1 := ((fxR F145 e125 rfl).trans e122)
                have e149 : Iv h141 a0 4 = v123 := ((fxI F145 e125 rfl).trans e124)
                have e150 : Jv h141 a0 5 = v127 := ((fxJ F145 e125 rfl).trans e128)
                have e151 : Rv h141 a0 6 = v130 := ((fxR F145 e125 rfl).trans e131)
                have p152 := p147.2.2.1
                rw [e149, e150] at p152
                have p153 := p147.2.2.2
                rw [e151] at p153
                refine g_if_ne C (iw f146 (by decide) (by decide)) 76 (by decide) dX3_readSum_71 (fun q154 => ?_) (fun q155 => ?_)
                · have f156 : (1 : Int) ≤ (x37 + 1) ∧ (x37 + 1) ≤ (1501 : Int) := ia_add f62 (il 1) (by decide) (by decide)
                  refine g_iinc C [(2, .inl (x37 + 1)), (3, .inl (-22)), (0, .inr (.inr a0)), (1, .inl a1)] 3 rfl (by decide) rfl dX3_readSum_76 ?_
                  refine g_goto C 12 (by decide) dX3_readSum_79 ?_
                  refine GW.sub [2, 3, 0] rfl ?_
                  have e157 : Tg h141 v1 = 2006 := (fxT F145 e139)
                  exact ih40 _ (by omega) (x37 + 1) h141 rfl O144 (((((F43.call F68 rfl).call F79 rfl).call F99 rfl).call F119 rfl).call F145 rfl) (iw f156 (by decide) (by decide)) (by unfold RInv; rw [e148, e149, e150, e151]; exact ⟨e157, p147.2.1, p152, p153⟩)
                · exact (no_eq f146 (il 0) q155 (by decide)).elim
            · have f158 : (1 : Int) ≤ r74 ∧ r74 ≤ (1 : Int) := r_nl f80 q82
              refine g_bipush C (by decide) dX3_readSum_46 ?_
              refine g_goto C 53 (by decide) dX3_readSum_48 ?_
              refine g_istore_n C [(3, .inl (-21)), (0, .inr (.inr a0)), (1, .inl a1), (2, .inl x37)] rfl (by decide) rfl dX3_readSum_53 ?_
              refine g_aload_n C rfl 1 rfl dX3_readSum_54 ?_
              have e159 : Tg h75 a0 = 4 := (fxT F79 e73)
              have e160 : Rv h75 a0 13 = v1 := ((fxR F79 e73 rfl).trans ((fxR F68 e49 rfl).trans e46))
              have e161 : Iv h75 a0 4 = v47 := ((fxI F79 e73 rfl).trans ((fxI F68 e49 rfl).trans e48))
              have e162 : Jv h75 a0 5 = v51 := ((fxJ F79 e73 rfl).trans ((fxJ F68 e49 rfl).trans e52))
              have e163 : Rv h75 a0 6 = v54 := ((fxR F79 e73 rfl).trans ((fxR F68 e49 rfl).trans e55))
              have e164 : Tg h75 v1 = 2006 := (fxT F79 (fxT F68 (fxT F43 (fxT F19 t3))))
              have e165 : Tg h38 v1 = 2006 := (fxT F43 (fxT F19 t3))
              have e166 : Rv h64 a0 13 = v1 := ((fxR F68 e49 rfl).trans e46)
              have e167 : Tg h64 v1 = 2006 := (fxT F68 e165)
              have p168 := (DOk_fx O67 F79 e73 (by rw [e166]; exact e167) rfl (DOk_fx O42 F68 e49 (by rw [e46]; exact e165) rfl p45.2.1))
              refine g_callV (st := []) (gc_V C lk_LandSurvey_Reader_46 (k_X3_advance l D cy w z0 O78 e159 (by unfold RInv; rw [e160, e161, e162, e163]; exact ⟨e164, p168, p56, p57⟩)) e159 rfl rfl rfl ⟨by decide, by decide⟩ (Nat.le_of_ble_eq_true rfl) dX3_readSum_55 ⟨(by decide), (by decide)⟩) (fun h170 K171 => ?_)
              obtain ⟨O173, F174, p175⟩ := K171
              have e176 : Rv h170 a0 13 = v1 := ((fxR F174 e159 rfl).trans e160)
              obtain ⟨v177, e178⟩ : ∃ z, Iv h170 a0 4 = z := ⟨_, rfl⟩
              have e179 : Tg h170 a0 = 4 := (fxT F174 e159)
              have f180 := ok_I O173 e179 rI_4_4 e178
              obtain ⟨v181, e182⟩ : ∃ z, Jv h170 a0 5 = z := ⟨_, rfl⟩
              have f183 := inL_J O173 e182
              obtain ⟨v184, e185⟩ : ∃ z, Rv h170 a0 6 = z := ⟨_, rfl⟩
              have p186 := p175.2.2.1
              rw [e178, e182] at p186
              have p187 := p175.2.2.2
              rw [e185] at p187
              refine g_aload_n C rfl 1 rfl dX3_readSum_58 ?_
              refine g_iload_n C rfl 2 rfl dX3_readSum_59 ?_
              have e188 : Tg h170 v1 = 2006 := (fxT F174 e164)
              refine g_callI (st := []) (gc_V C lk_LandSurvey_Reader_250 (k_readFact_4 l D cy w z0 O173 e179 fa1 (by unfold RInv; rw [e176, e178, e182, e185]; exact ⟨e188, p175.2.1, p186, p187⟩)) e179 rfl rfl rfl ⟨by decide, by decide⟩ (Nat.le_of_ble_eq_true rfl) dX3_readSum_60 ⟨(by decide), (by decide)⟩) (fun r189 h190 f192 K191 => ?_)
              obtain ⟨O193, F194, f195, p196⟩ := K191
              have e197 : Rv h190 a0 13 = v1 := ((fxR F194 e179 rfl).trans e176)
              obtain ⟨v198, e199⟩ : ∃ z, Iv h190 a0 4 = z := ⟨_, rfl⟩
              have e200 : Tg h190 a0 = 4 := (fxT F194 e179)
              have f201 := ok_I O193 e200 rI_4_4 e199
              obtain ⟨v202, e203⟩ : ∃ z, Jv h190 a0 5 = z := ⟨_, rfl⟩
              have f204 := inL_J O193 e203
              obtain ⟨v205, e206⟩ : ∃ z, Rv h190 a0 6 = z := ⟨_, rfl⟩
              have p207 := p196.2.2.1
              rw [e199, e203] at p207
              have p208 := p196.2.2.2
              rw [e206] at p208
              refine g_if_eq C (iw f195 (by decide) (by decide)) 74 (by decide) dX3_readSum_63 (fun q209 => ?_) (fun q210 => ?_)
              · have f211 : (0 : Int) ≤ r189 ∧ r189 ≤ (0 : Int) := ii f195 (r_eq (il 0) q209) (by decide) (by decide)
                refine g_iconst C dX3_readSum_74 ?_
                have e212 : Tg h190 v1 = 2006 := (fxT F194 e188)
                exact g_iret C hr (nar_z2 (iw (il 0) (by decide) (by decide))).1 (iw (il 0) (by decide) (by decide)) ⟨O193, (((((((Fx.rf (wr := wr_k_readSum_4)).call F19 rfl).call F43 rfl).call F68 rfl).call F79 rfl).call F174 rfl).call F194 rfl), (iw (il 0) (by decide) (by decide)), (by unfold RInv; rw [e197, e199, e203, e206]; exact ⟨e212, p196.2.1, p207, p208⟩)⟩ (by decide) (by decide) dX3_readSum_75
              · have f213 : (1 : Int) ≤ r189 ∧ r189 ≤ (1 : Int) := r_nl f195 q210
                refine g_aload_n C rfl 1 rfl dX3_readSum_66 ?_
                refine g_iload_n C rfl 0 rfl dX3_readSum_67 ?_
                have e214 : Tg h190 v1 = 2006 := (fxT F194 e188)
                refine g_callI (st := []) (gc_V C lk_LandSurvey_Reader_244 (k_X3_emit l D cy w z0 O193 e200 (iw (il (-21)) (by decide) (by decide)) (by unfold RInv; rw [e197, e199, e203, e206]; exact ⟨e214, p196.2.1, p207, p208⟩) (by omega)) e200 rfl rfl rfl ⟨by decide, by decide⟩ (Nat.le_of_ble_eq_true rfl) dX3_readSum_68 ⟨(by decide), (by decide)⟩) (fun r215 h216 f218 K217 => ?_)
                obtain ⟨O219, F220, f221, p222⟩ := K217
                have e223 : Rv h216 a0 13 = v1 := ((fxR F220 e200 rfl).trans e197)
                have e224 : Iv h216 a0 4 = v198 := ((fxI F220 e200 rfl).trans e199)
                have e225 : Jv h216 a0 5 = v202 := ((fxJ F220 e200 rfl).trans e203)
                have e226 : Rv h216 a0 6 = v205 := ((fxR F220 e200 rfl).trans e206)
                have p227 := p222.2.2.1
                rw [e224, e225] at p227
                have p228 := p222.2.2.2
                rw [e226] at p228
                refine g_if_ne C (iw f221 (by decide) (by decide)) 76 (by decide) dX3_readSum_71 (fun q229 => ?_) (fun q230 => ?_)
                · have f231 : (1 : Int) ≤ (x37 + 1) ∧ (x37 + 1) ≤ (1501 : Int) := ia_add f62 (il 1) (by decide) (by decide)
                  refine g_iinc C [(2, .inl (x37 + 1)), (3, .inl (-21)), (0, .inr (.inr a0)), (1, .inl a1)] 3 rfl (by decide) rfl dX3_readSum_76 ?_
                  refine g_goto C 12 (by decide) dX3_readSum_79 ?_
                  refine GW.sub [2, 3, 0] rfl ?_
                  have e232 : Tg h216 v1 = 2006 := (fxT F220 e214)
                  exact ih40 _ (by omega) (x37 + 1) h216 rfl O219 (((((F43.call F68 rfl).call F79 rfl).call F174 rfl).call F194 rfl).call F220 rfl) (iw f231 (by decide) (by decide)) (by unfold RInv; rw [e223, e224, e225, e226]; exact ⟨e232, p222.2.1, p227, p228⟩)
                · exact (no_eq f221 (il 0) q230 (by decide)).elim
          · have f233 : (0 : Int) ≤ r63 ∧ r63 ≤ (0 : Int) := ii f69 (r_eq (il 0) q71) (by decide) (by decide)
            refine g_aload_n C rfl 0 rfl dX3_readSum_28 ?_
            refine g_bipush C (by decide) dX3_readSum_29 ?_
            have e234 : Tg h64 a0 = 4 := (fxT F68 e49)
            refine g_callI (st := []) (gc_V C lk_LandSurvey_Reader_95 (k_X3_isNext l D cy w z0 O67 e234 (iw (il 45) (by decide) (by decide))) e234 rfl rfl rfl ⟨by decide, by decide⟩ (Nat.le_of_ble_eq_true rfl) dX3_readSum_31 ⟨(by decide), (by decide)⟩) (fun r235 h236 f238 K237 => ?_)
            obtain ⟨O239, F240, f241⟩ := K237
            refine g_if_eq C (iw f241 (by decide) (by decide)) 82 (by decide) dX3_readSum_34 (fun q242 => ?_) (fun q243 => ?_)
            · have f244 : (0 : Int) ≤ r235 ∧ r235 ≤ (0 : Int) := ii f241 (r_eq (il 0) q242) (by decide) (by decide)
              refine g_iconst C dX3_readSum_82 ?_
              have e245 : Rv h236 a0 13 = v1 := ((fxR F240 e234 rfl).trans ((fxR F68 e49 rfl).trans e46))
              have e246 : Iv h236 a0 4 = v47 := ((fxI F240 e234 rfl).trans ((fxI F68 e49 rfl).trans e48))
              have e247 : Jv h236 a0 5 = v51 := ((fxJ F240 e234 rfl).trans ((fxJ F68 e49 rfl).trans e52))
              have e248 : Rv h236 a0 6 = v54 := ((fxR F240 e234 rfl).trans ((fxR F68 e49 rfl).trans e55))
              have e249 : Tg h236 v1 = 2006 := (fxT F240 (fxT F68 (fxT F43 (fxT F19 t3))))
              have e250 : Tg h38 v1 = 2006 := (fxT F43 (fxT F19 t3))
              have e251 : Rv h64 a0 13 = v1 := ((fxR F68 e49 rfl).trans e46)
              have e252 : Tg h64 v1 = 2006 := (fxT F68 e250)
              have p253 := (DOk_fx O67 F240 e234 (by rw [e251]; exact e252) rfl (DOk_fx O42 F68 e49 (by rw [e46]; exact e250) rfl p45.2.1))
              exact g_iret C hr (nar_z2 (iw (il 1) (by decide) (by decide))).1 (iw (il 1) (by decide) (by decide)) ⟨O239, (((((Fx.rf (wr := wr_k_readSum_4)).call F19 rfl).call F43 rfl).call F68 rfl).call F240 rfl), (iw (il 1) (by decide) (by decide)), (by unfold RInv; rw [e245, e246, e247, e248]; exact ⟨e249, p253, p56, p57⟩)⟩ (by decide) (by decide) dX3_readSum_83
            · have f254 : (1 : Int) ≤ r235 ∧ r235 ≤ (1 : Int) := r_nl f241 q243
              refine g_aload_n C rfl 0 rfl dX3_readSum_37 ?_
              refine g_bipush C (by decide) dX3_readSum_38 ?_
              have e255 : Tg h236 a0 = 4 := (fxT F240 e234)
              refine g_callI (st := []) (gc_V C lk_LandSurvey_Reader_95 (k_X3_isNext l D cy w z0 O239 e255 (iw (il 43) (by decide) (by decide))) e255 rfl rfl rfl ⟨by decide, by decide⟩ (Nat.le_of_ble_eq_true rfl) dX3_readSum_40 ⟨(by decide), (by decide)⟩) (fun r256 h257 f259 K258 => ?_)
              obtain ⟨O260, F261, f262⟩ := K258
              refine g_if_eq C (iw f262 (by decide) (by decide)) 51 (by decide) dX3_readSum_43 (fun q263 => ?_) (fun q264 => ?_)
              · have f265 : (0 : Int) ≤ r256 ∧ r256 ≤ (0 : Int) := ii f262 (r_eq (il 0) q263) (by decide) (by decide)
                refine g_bipush C (by decide) dX3_readSum_51 ?_
                refine g_istore_n C [(3, .inl (-22)), (0, .inr (.inr a0)), (1, .inl a1), (2, .inl x37)] rfl (by decide) rfl dX3_readSum_53 ?_
                refine g_aload_n C rfl 1 rfl dX3_readSum_54 ?_
                have e266 : Tg h257 a0 = 4 := (fxT F261 e255)
                have e267 : Rv h257 a0 13 = v1 := ((fxR F261 e255 rfl).trans ((fxR F240 e234 rfl).trans ((fxR F68 e49 rfl).trans e46)))
                have e268 : Iv h257 a0 4 = v47 := ((fxI F261 e255 rfl).trans ((fxI F240 e234 rfl).trans ((fxI F68 e49 rfl).trans e48)))
                have e269 : Jv h257 a0 5 = v51 := ((fxJ F261 e255 rfl).trans ((fxJ F240 e234 rfl).trans ((fxJ F68 e49 rfl).trans e52)))
                have e270 : Rv h257 a0 6 = v54 := ((fxR F261 e255 rfl).trans ((fxR F240 e234 rfl).trans ((fxR F68 e49 rfl).trans e55)))
                have e271 : Tg h257 v1 = 2006 := (fxT F261 (fxT F240 (fxT F68 (fxT F43 (fxT F19 t3)))))
                have e272 : Tg h38 v1 = 2006 := (fxT F43 (fxT F19 t3))
                have e273 : Rv h64 a0 13 = v1 := ((fxR F68 e49 rfl).trans e46)
                have e274 : Tg h64 v1 = 2006 := (fxT F68 e272)
                have e275 : Rv h236 a0 13 = v1 := ((fxR F240 e234 rfl).trans e273)
                have e276 : Tg h236 v1 = 2006 := (fxT F240 e274)
                have p277 := (DOk_fx O239 F261 e255 (by rw [e275]; exact e276) rfl (DOk_fx O67 F240 e234 (by rw [e273]; exact e274) rfl (DOk_fx O42 F68 e49 (by rw [e46]; exact e272) rfl p45.2.1)))
                refine g_callV (st := []) (gc_V C lk_LandSurvey_Reader_46 (k_X3_advance l D cy w z0 O260 e266 (by unfold RInv; rw [e267, e268, e269, e270]; exact ⟨e271, p277, p56, p57⟩)) e266 rfl rfl rfl ⟨by decide, by decide⟩ (Nat.le_of_ble_eq_true rfl) dX3_readSum_55 ⟨(by decide), (by decide)⟩) (fun h279 K280 => ?_)
                obtain ⟨O282, F283, p284⟩ := K280
                have e285 : Rv h279 a0 13 = v1 := ((fxR F283 e266 rfl).trans e267)
                obtain ⟨v286, e287⟩ : ∃ z, Iv h279 a0 4 = z := ⟨_, rfl⟩
                have e288 : Tg h279 a0 = 4 := (fxT F283 e266)
                have f289 := ok_I O282 e288 rI_4_4 e287
                obtain ⟨v290, e291⟩ : ∃ z, Jv h279 a0 5 = z := ⟨_, rfl⟩
                have f292 := inL_J O282 e291
                obtain ⟨v293, e294⟩ : ∃ z, Rv h279 a0 6 = z := ⟨_, rfl⟩
                have p295 := p284.2.2.1
                rw [e287, e291] at p295
                have p296 := p284.2.2.2
                rw [e294] at p296
                refine g_aload_n C rfl 1 rfl dX3_readSum_58 ?_
                refine g_iload_n C rfl 2 rfl dX3_readSum_59 ?_
                have e297 : Tg h279 v1 = 2006 := (fxT F283 e271)
                refine g_callI (st := []) (gc_V C lk_LandSurvey_Reader_250 (k_readFact_4 l D cy w z0 O282 e288 fa1 (by unfold RInv; rw [e285, e287, e291, e294]; exact ⟨e297, p284.2.1, p295, p296⟩)) e288 rfl rfl rfl ⟨by decide, by decide⟩ (Nat.le_of_ble_eq_true rfl) dX3_readSum_60 ⟨(by decide), (by decide)⟩) (fun r298 h299 f301 K300 => ?_)
                obtain ⟨O302, F303, f304, p305⟩ := K300
                have e306 : Rv h299 a0 13 = v1 := ((fxR F303 e288 rfl).trans e285)
                obtain ⟨v307, e308⟩ : ∃ z, Iv h299 a0 4 = z := ⟨_, rfl⟩
                have e309 : Tg h299 a0 = 4 := (fxT F303 e288)
                have f310 := ok_I O302 e309 rI_4_4 e308
                obtain ⟨v311, e312⟩ : ∃ z, Jv h299 a0 5 = z := ⟨_, rfl⟩
                have f313 := inL_J O302 e312
                obtain ⟨v314, e315⟩ : ∃ z, Rv h299 a0 6 = z := ⟨_, rfl⟩
                have p316 := p305.2.2.1
                rw [e308, e312] at p316
                have p317 := p305.2.2.2
                rw [e315] at p317
                refine g_if_eq C (iw f304 (by decide) (by decide)) 74 (by decide) dX3_readSum_63 (fun q318 => ?_) (fun q319 => ?_)
                · have f320 : (0 : Int) ≤ r298 ∧ r298 ≤ (0 : Int) := ii f304 (r_eq (il 0) q318) (by decide) (by decide)
                  refine g_iconst C dX3_readSum_74 ?_
                  have e321 : Tg h299 v1 = 2006 := (fxT F303 e297)
                  exact g_iret C hr (nar_z2 (iw (il 0) (by decide) (by decide))).1 (iw (il 0) (by decide) (by decide)) ⟨O302, ((((((((Fx.rf (wr := wr_k_readSum_4)).call F19 rfl).call F43 rfl).call F68 rfl).call F240 rfl).call F261 rfl).call F283 rfl).call F303 rfl), (iw (il 0) (by decide) (by decide)), (by unfold RInv; rw [e306, e308, e312, e315]; exact ⟨e321, p305.2.1, p316, p317⟩)⟩ (by decide) (by decide) dX3_readSum_75
                · have f322 : (1 : Int) ≤ r298 ∧ r298 ≤ (1 : Int) := r_nl f304 q319
                  refine g_aload_n C rfl 1 rfl dX3_readSum_66 ?_
                  refine g_iload_n C rfl 0 rfl dX3_readSum_67 ?_
                  have e323 : Tg h299 v1 = 2006 := (fxT F303 e297)
                  refine g_callI (st := []) (gc_V C lk_LandSurvey_Reader_244 (k_X3_emit l D cy w z0 O302 e309 (iw (il (-22)) (by decide) (by decide)) (by unfold RInv; rw [e306, e308, e312, e315]; exact ⟨e323, p305.2.1, p316, p317⟩) (by omega)) e309 rfl rfl rfl ⟨by decide, by decide⟩ (Nat.le_of_ble_eq_true rfl) dX3_readSum_68 ⟨(by decide), (by decide)⟩) (fun r324 h325 f327 K326 => ?_)
                  obtain ⟨O328, F329, f330, p331⟩ := K326
                  have e332 : Rv h325 a0 13 = v1 := ((fxR F329 e309 rfl).trans e306)
                  have e333 : Iv h325 a0 4 = v307 := ((fxI F329 e309 rfl).trans e308)
                  have e334 : Jv h325 a0 5 = v311 := ((fxJ F329 e309 rfl).trans e312)
                  have e335 : Rv h325 a0 6 = v314 := ((fxR F329 e309 rfl).trans e315)
                  have p336 := p331.2.2.1
                  rw [e333, e334] at p336
                  have p337 := p331.2.2.2
                  rw [e335] at p337
                  refine g_if_ne C (iw f330 (by decide) (by decide)) 76 (by decide) dX3_readSum_71 (fun q338 => ?_) (fun q339 => ?_)
                  · have f340 : (1 : Int) ≤ (x37 + 1) ∧ (x37 + 1) ≤ (1501 : Int) := ia_add f62 (il 1) (by decide) (by decide)
                    refine g_iinc C [(2, .inl (x37 + 1)), (3, .inl (-22)), (0, .inr (.inr a0)), (1, .inl a1)] 3 rfl (by decide) rfl dX3_readSum_76 ?_
                    refine g_goto C 12 (by decide) dX3_readSum_79 ?_
                    refine GW.sub [2, 3, 0] rfl ?_
                    have e341 : Tg h325 v1 = 2006 := (fxT F329 e323)
                    exact ih40 _ (by omega) (x37 + 1) h325 rfl O328 ((((((F43.call F68 rfl).call F240 rfl).call F261 rfl).call F283 rfl).call F303 rfl).call F329 rfl) (iw f340 (by decide) (by decide)) (by unfold RInv; rw [e332, e333, e334, e335]; exact ⟨e341, p331.2.1, p336, p337⟩)
                  · exact (no_eq f330 (il 0) q339 (by decide)).elim
              · have f342 : (1 : Int) ≤ r256 ∧ r256 ≤ (1 : Int) := r_nl f262 q264
                refine g_bipush C (by decide) dX3_readSum_46 ?_
                refine g_goto C 53 (by decide) dX3_readSum_48 ?_
                refine g_istore_n C [(3, .inl (-21)), (0, .inr (.inr a0)), (1, .inl a1), (2, .inl x37)] rfl (by decide) rfl dX3_readSum_53 ?_
                refine g_aload_n C rfl 1 rfl dX3_readSum_54 ?_
                have e343 : Tg h257 a0 = 4 := (fxT F261 e255)
                have e344 : Rv h257 a0 13 = v1 := ((fxR F261 e255 rfl).trans ((fxR F240 e234 rfl).trans ((fxR F68 e49 rfl).trans e46)))
                have e345 : Iv h257 a0 4 = v47 := ((fxI F261 e255 rfl).trans ((fxI F240 e234 rfl).trans ((fxI F68 e49 rfl).trans e48)))
                have e346 : Jv h257 a0 5 = v51 := ((fxJ F261 e255 rfl).trans ((fxJ F240 e234 rfl).trans ((fxJ F68 e49 rfl).trans e52)))
                have e347 : Rv h257 a0 6 = v54 := ((fxR F261 e255 rfl).trans ((fxR F240 e234 rfl).trans ((fxR F68 e49 rfl).trans e55)))
                have e348 : Tg h257 v1 = 2006 := (fxT F261 (fxT F240 (fxT F68 (fxT F43 (fxT F19 t3)))))
                have e349 : Tg h38 v1 = 2006 := (fxT F43 (fxT F19 t3))
                have e350 : Rv h64 a0 13 = v1 := ((fxR F68 e49 rfl).trans e46)
                have e351 : Tg h64 v1 = 2006 := (fxT F68 e349)
                have e352 : Rv h236 a0 13 = v1 := ((fxR F240 e234 rfl).trans e350)
                have e353 : Tg h236 v1 = 2006 := (fxT F240 e351)
                have p354 := (DOk_fx O239 F261 e255 (by rw [e352]; exact e353) rfl (DOk_fx O67 F240 e234 (by rw [e350]; exact e351) rfl (DOk_fx O42 F68 e49 (by rw [e46]; exact e349) rfl p45.2.1)))
                refine g_callV (st := []) (gc_V C lk_LandSurvey_Reader_46 (k_X3_advance l D cy w z0 O260 e343 (by unfold RInv; rw [e344, e345, e346, e347]; exact ⟨e348, p354, p56, p57⟩)) e343 rfl rfl rfl ⟨by decide, by decide⟩ (Nat.le_of_ble_eq_true rfl) dX3_readSum_55 ⟨(by decide), (by decide)⟩) (fun h356 K357 => ?_)
                obtain ⟨O359, F360, p361⟩ := K357
                have e362 : Rv h356 a0 13 = v1 := ((fxR F360 e343 rfl).trans e344)
                obtain ⟨v363, e364⟩ : ∃ z, Iv h356 a0 4 = z := ⟨_, rfl⟩
                have e365 : Tg h356 a0 = 4 := (fxT F360 e343)
                have f366 := ok_I O359 e365 rI_4_4 e364
                obtain ⟨v367, e368⟩ : ∃ z, Jv h356 a0 5 = z := ⟨_, rfl⟩
                have f369 := inL_J O359 e368
                obtain ⟨v370, e371⟩ : ∃ z, Rv h356 a0 6 = z := ⟨_, rfl⟩
                have p372 := p361.2.2.1
                rw [e364, e368] at p372
                have p373 := p361.2.2.2
                rw [e371] at p373
                refine g_aload_n C rfl 1 rfl dX3_readSum_58 ?_
                refine g_iload_n C rfl 2 rfl dX3_readSum_59 ?_
                have e374 : Tg h356 v1 = 2006 := (fxT F360 e348)
                refine g_callI (st := []) (gc_V C lk_LandSurvey_Reader_250 (k_readFact_4 l D cy w z0 O359 e365 fa1 (by unfold RInv; rw [e362, e364, e368, e371]; exact ⟨e374, p361.2.1, p372, p373⟩)) e365 rfl rfl rfl ⟨by decide, by decide⟩ (Nat.le_of_ble_eq_true rfl) dX3_readSum_60 ⟨(by decide), (by decide)⟩) (fun r375 h376 f378 K377 => ?_)
                obtain ⟨O379, F380, f381, p382⟩ := K377
                have e383 : Rv h376 a0 13 = v1 := ((fxR F380 e365 rfl).trans e362)
                obtain ⟨v384, e385⟩ : ∃ z, Iv h376 a0 4 = z := ⟨_, rfl⟩
                have e386 : Tg h376 a0 = 4 := (fxT F380 e365)
                have f387 := ok_I O379 e386 rI_4_4 e385
                obtain ⟨v388, e389⟩ : ∃ z, Jv h376 a0 5 = z := ⟨_, rfl⟩
                have f390 := inL_J O379 e389
                obtain ⟨v391, e392⟩ : ∃ z, Rv h376 a0 6 = z := ⟨_, rfl⟩
                have p393 := p382.2.2.1
                rw [e385, e389] at p393
                have p394 := p382.2.2.2
                rw [e392] at p394
                refine g_if_eq C (iw f381 (by decide) (by decide)) 74 (by decide) dX3_readSum_63 (fun q395 => ?_) (fun q396 => ?_)
                · have f397 : (0 : Int) ≤ r375 ∧ r375 ≤ (0 : Int) := ii f381 (r_eq (il 0) q395) (by decide) (by decide)
                  refine g_iconst C dX3_readSum_74 ?_
                  have e398 : Tg h376 v1 = 2006 := (fxT F380 e374)
                  exact g_iret C hr (nar_z2 (iw (il 0) (by decide) (by decide))).1 (iw (il 0) (by decide) (by decide)) ⟨O379, ((((((((Fx.rf (wr := wr_k_readSum_4)).call F19 rfl).call F43 rfl).call F68 rfl).call F240 rfl).call F261 rfl).call F360 rfl).call F380 rfl), (iw (il 0) (by decide) (by decide)), (by unfold RInv; rw [e383, e385, e389, e392]; exact ⟨e398, p382.2.1, p393, p394⟩)⟩ (by decide) (by decide) dX3_readSum_75
                · have f399 : (1 : Int) ≤ r375 ∧ r375 ≤ (1 : Int) := r_nl f381 q396
                  refine g_aload_n C rfl 1 rfl dX3_readSum_66 ?_
                  refine g_iload_n C rfl 0 rfl dX3_readSum_67 ?_
                  have e400 : Tg h376 v1 = 2006 := (fxT F380 e374)
                  refine g_callI (st := []) (gc_V C lk_LandSurvey_Reader_244 (k_X3_emit l D cy w z0 O379 e386 (iw (il (-21)) (by decide) (by decide)) (by unfold RInv; rw [e383, e385, e389, e392]; exact ⟨e400, p382.2.1, p393, p394⟩) (by omega)) e386 rfl rfl rfl ⟨by decide, by decide⟩ (Nat.le_of_ble_eq_true rfl) dX3_readSum_68 ⟨(by decide), (by decide)⟩) (fun r401 h402 f404 K403 => ?_)
                  obtain ⟨O405, F406, f407, p408⟩ := K403
                  have e409 : Rv h402 a0 13 = v1 := ((fxR F406 e386 rfl).trans e383)
                  have e410 : Iv h402 a0 4 = v384 := ((fxI F406 e386 rfl).trans e385)
                  have e411 : Jv h402 a0 5 = v388 := ((fxJ F406 e386 rfl).trans e389)
                  have e412 : Rv h402 a0 6 = v391 := ((fxR F406 e386 rfl).trans e392)
                  have p413 := p408.2.2.1
                  rw [e410, e411] at p413
                  have p414 := p408.2.2.2
                  rw [e412] at p414
                  refine g_if_ne C (iw f407 (by decide) (by decide)) 76 (by decide) dX3_readSum_71 (fun q415 => ?_) (fun q416 => ?_)
                  · have f417 : (1 : Int) ≤ (x37 + 1) ∧ (x37 + 1) ≤ (1501 : Int) := ia_add f62 (il 1) (by decide) (by decide)
                    refine g_iinc C [(2, .inl (x37 + 1)), (3, .inl (-21)), (0, .inr (.inr a0)), (1, .inl a1)] 3 rfl (by decide) rfl dX3_readSum_76 ?_
                    refine g_goto C 12 (by decide) dX3_readSum_79 ?_
                    refine GW.sub [2, 3, 0] rfl ?_
                    have e418 : Tg h402 v1 = 2006 := (fxT F406 e400)
                    exact ih40 _ (by omega) (x37 + 1) h402 rfl O405 ((((((F43.call F68 rfl).call F240 rfl).call F261 rfl).call F360 rfl).call F380 rfl).call F406 rfl) (iw f417 (by decide) (by decide)) (by unfold RInv; rw [e409, e410, e411, e412]; exact ⟨e418, p408.2.1, p413, p414⟩)
                  · exact (no_eq f407 (il 0) q416 (by decide)).elim
    have e419 : Tg h15 v1 = 2006 := (fxT F19 t3)
    exact L39 _ 0 h15 rfl O18 Fx.rf (iw (il 0) (by decide) (by decide)) (by unfold RInv; rw [e22, e24, e28, e31]; exact ⟨e419, p21.2.1, p32, p33⟩)
  · have f420 : (0 : Int) ≤ r14 ∧ r14 ≤ (0 : Int) := ii f20 (r_eq (il 0) q35) (by decide) (by decide)
    refine g_iconst C dX3_readSum_8 ?_
    have e421 : Tg h15 v1 = 2006 := (fxT F19 t3)
    exact g_iret C hr (nar_z2 (iw (il 0) (by decide) (by decide))).1 (iw (il 0) (by decide) (by decide)) ⟨O18, ((Fx.rf (wr := wr_k_readSum_4)).call F19 rfl), (iw (il 0) (by decide) (by decide)), (by unfold RInv; rw [e22, e24, e28, e31]; exact ⟨e421, p21.2.1, p32, p33⟩)⟩ (by decide) (by decide) dX3_readSum_9
def wr_k_readTest_4 : List Nat := [802, 803, 804, 805, 806, 807, 812, 4020000]
set_option maxRecDepth 100000 in
set_option maxHeartbeats 4000000 in
theorem k_readTest_4 (l : Launch) (D : va_G) (cy : Nat → ClassId) (w : Nat → Nat) (z0 : Nat)  {h : Hp} {a0 : Nat} {a1 : Int}  (O : Okh h) (ta0 : Tg h a0 = 4) (fa1 : 4 ≤ a1 ∧ a1 ≤ 4) (P_RInv : RInv w h a0) : MI l D cy w z0 yX3_readTest cX3_readTest 3 (some .boolean) 8 179 0 0 [.inr (.inr a0), .inl a1] h (fun v h1 => Okh h1 ∧ Fx wr_k_readTest_4 h h1 ∧ (0 ≤ v ∧ v ≤ 1) ∧ (RInv w h1 a0)) := by
  obtain ⟨v1, e2⟩ : ∃ z, Rv h a0 13 = z := ⟨_, rfl⟩
  have t3 := P_RInv.1
  rw [e2] at t3
  obtain ⟨v4, e5⟩ : ∃ z, Iv h a0 4 = z := ⟨_, rfl⟩
  have f6 := ok_I O ta0 rI_4_4 e5
  obtain ⟨v7, e8⟩ : ∃ z, Jv h a0 5 = z := ⟨_, rfl⟩
  have f9 := inL_J O e8
  obtain ⟨v10, e11⟩ : ∃ z, Rv h a0 6 = z := ⟨_, rfl⟩
  have p12 := P_RInv.2.2.1
  rw [e5, e8] at p12
  have p13 := P_RInv.2.2.2
  rw [e11] at p13
  refine hm_go (by decide +kernel) (Nat.le_of_ble_eq_true rfl) (fun p e s m below meth c C hr hn => ?_)
  refine g_aload_n C rfl 0 rfl dX3_readTest_0 ?_
  refine g_iload_n C rfl 1 rfl dX3_readTest_1 ?_
  refine g_callI (st := []) (gc_V C lk_LandSurvey_Reader_247 (k_readSum_4 l D cy w z0 O ta0 fa1 (by unfold RInv; rw [e2, e5, e8, e11]; exact ⟨t3, P_RInv.2.1, p12, p13⟩)) ta0 rfl rfl rfl ⟨by decide, by decide⟩ (Nat.le_of_ble_eq_true rfl) dX3_readTest_2 ⟨(by decide), (by decide)⟩) (fun r14 h15 f17 K16 => ?_)
  obtain ⟨O18, F19, f20, p21⟩ := K16
  have e22 : Rv h15 a0 13 = v1 := ((fxR F19 ta0 rfl).trans e2)
  obtain ⟨v23, e24⟩ : ∃ z, Iv h15 a0 4 = z := ⟨_, rfl⟩
  have e25 : Tg h15 a0 = 4 := (fxT F19 ta0)
  have f26 := ok_I O18 e25 rI_4_4 e24
  obtain ⟨v27, e28⟩ : ∃ z, Jv h15 a0 5 = z := ⟨_, rfl⟩
  have f29 := inL_J O18 e28
  obtain ⟨v30, e31⟩ : ∃ z, Rv h15 a0 6 = z := ⟨_, rfl⟩
  have p32 := p21.2.2.1
  rw [e24, e28] at p32
  have p33 := p21.2.2.2
  rw [e31] at p33
  refine g_if_ne C (iw f20 (by decide) (by decide)) 10 (by decide) dX3_readTest_5 (fun q34 => ?_) (fun q35 => ?_)
  · have f36 : (1 : Int) ≤ r14 ∧ r14 ≤ (1 : Int) := r_nl f20 q34
    refine g_aload_n C rfl 0 rfl dX3_readTest_10 ?_
    refine g_bipush C (by decide) dX3_readTest_11 ?_
    refine g_callI (st := []) (gc_V C lk_LandSurvey_Reader_95 (k_X3_isNext l D cy w z0 O18 e25 (iw (il 60) (by decide) (by decide))) e25 rfl rfl rfl ⟨by decide, by decide⟩ (Nat.le_of_ble_eq_true rfl) dX3_readTest_13 ⟨(by decide), (by decide)⟩) (fun r37 h38 f40 K39 => ?_)
    obtain ⟨O41, F42, f43⟩ := K39
    refine g_if_ne C (iw f43 (by decide) (by decide)) 30 (by decide) dX3_readTest_16 (fun q44 => ?_) (fun q45 => ?_)
    · have f46 : (1 : Int) ≤ r37 ∧ r37 ≤ (1 : Int) := r_nl f43 q44
      refine g_aload_n C rfl 0 rfl dX3_readTest_30 ?_
      refine g_bipush C (by decide) dX3_readTest_31 ?_
      have e47 : Tg h38 a0 = 4 := (fxT F42 e25)
      refine g_callI (st := []) (gc_V C lk_LandSurvey_Reader_95 (k_X3_isNext l D cy w z0 O41 e47 (iw (il 60) (by decide) (by decide))) e47 rfl rfl rfl ⟨by decide, by decide⟩ (Nat.le_of_ble_eq_true rfl) dX3_readTest_33 ⟨(by decide), (by decide)⟩) (fun r48 h49 f51 K50 => ?_)
      obtain ⟨O52, F53, f54⟩ := K50
      refine g_if_eq C (iw f54 (by decide) (by decide)) 44 (by decide) dX3_readTest_36 (fun q55 => ?_) (fun q56 => ?_)
      · have f57 : (0 : Int) ≤ r48 ∧ r48 ≤ (0 : Int) := ii f54 (r_eq (il 0) q55) (by decide) (by decide)
        refine g_bipush C (by decide) dX3_readTest_44 ?_
        refine g_istore_n C [(2, .inl (-24)), (0, .inr (.inr a0)), (1, .inl a1)] rfl (by decide) rfl dX3_readTest_46 ?_
        refine g_aload_n C rfl 1 rfl dX3_readTest_47 ?_
        have e58 : Tg h49 a0 = 4 := (fxT F53 e47)
        have e59 : Rv h49 a0 13 = v1 := ((fxR F53 e47 rfl).trans ((fxR F42 e25 rfl).trans e22))
        have e60 : Iv h49 a0 4 = v23 := ((fxI F53 e47 rfl).trans ((fxI F42 e25 rfl).trans e24))
        have e61 : Jv h49 a0 5 = v27 := ((fxJ F53 e47 rfl).trans ((fxJ F42 e25 rfl).trans e28))
        have e62 : Rv h49 a0 6 = v30 := ((fxR F53 e47 rfl).trans ((fxR F42 e25 rfl).trans e31))
        have e63 : Tg h49 v1 = 2006 := (fxT F53 (fxT F42 (fxT F19 t3)))
        have e64 : Tg h15 v1 = 2006 := (fxT F19 t3)
        have e65 : Rv h38 a0 13 = v1 := ((fxR F42 e25 rfl).trans e22)
        have e66 : Tg h38 v1 = 2006 := (fxT F42 e64)
        have p67 := (DOk_fx O41 F53 e47 (by rw [e65]; exact e66) rfl (DOk_fx O18 F42 e25 (by rw [e22]; exact e64) rfl p21.2.1))
        refine g_callV (st := []) (gc_V C lk_LandSurvey_Reader_46 (k_X3_advance l D cy w z0 O52 e58 (by unfold RInv; rw [e59, e60, e61, e62]; exact ⟨e63, p67, p32, p33⟩)) e58 rfl rfl rfl ⟨by decide, by decide⟩ (Nat.le_of_ble_eq_true rfl) dX3_readTest_48 ⟨(by decide), (by decide)⟩) (fun h69 K70 => ?_)
        obtain ⟨O72, F73, p74⟩ := K70
        have e75 : Rv h69 a0 13 = v1 := ((fxR F73 e58 rfl).trans e59)
        obtain ⟨v76, e77⟩ : ∃ z, Iv h69 a0 4 = z := ⟨_, rfl⟩
        have e78 : Tg h69 a0 = 4 := (fxT F73 e58)
        have f79 := ok_I O72 e78 rI_4_4 e77
        obtain ⟨v80, e81⟩ : ∃ z, Jv h69 a0 5 = z := ⟨_, rfl⟩
        have f82 := inL_J O72 e81
        obtain ⟨v83, e84⟩ : ∃ z, Rv h69 a0 6 = z := ⟨_, rfl⟩
        have p85 := p74.2.2.1
        rw [e77, e81] at p85
        have p86 := p74.2.2.2
        rw [e84] at p86
        refine g_aload_n C rfl 1 rfl dX3_readTest_51 ?_
        refine g_iload_n C rfl 2 rfl dX3_readTest_52 ?_
        have e87 : Tg h69 v1 = 2006 := (fxT F73 e63)
        refine g_callI (st := []) (gc_V C lk_LandSurvey_Reader_247 (k_readSum_4 l D cy w z0 O72 e78 fa1 (by unfold RInv; rw [e75, e77, e81, e84]; exact ⟨e87, p74.2.1, p85, p86⟩)) e78 rfl rfl rfl ⟨by decide, by decide⟩ (Nat.le_of_ble_eq_true rfl) dX3_readTest_53 ⟨(by decide), (by decide)⟩) (fun r88 h89 f91 K90 => ?_)
        obtain ⟨O92, F93, f94, p95⟩ := K90
        have e96 : Rv h89 a0 13 = v1 := ((fxR F93 e78 rfl).trans e75)
        obtain ⟨v97, e98⟩ : ∃ z, Iv h89 a0 4 = z := ⟨_, rfl⟩
        have e99 : Tg h89 a0 = 4 := (fxT F93 e78)
        have f100 := ok_I O92 e99 rI_4_4 e98
        obtain ⟨v101, e102⟩ : ∃ z, Jv h89 a0 5 = z := ⟨_, rfl⟩
        have f103 := inL_J O92 e102
        obtain ⟨v104, e105⟩ : ∃ z, Rv h89 a0 6 = z := ⟨_, rfl⟩
        have p106 := p95.2.2.1
        rw [e98, e102] at p106
        have p107 := p95.2.2.2
        rw [e105] at p107
        refine g_if_eq C (iw f94 (by decide) (by decide)) 71 (by decide) dX3_readTest_56 (fun q108 => ?_) (fun q109 => ?_)
        · have f110 : (0 : Int) ≤ r88 ∧ r88 ≤ (0 : Int) := ii f94 (r_eq (il 0) q108) (by decide) (by decide)
          refine g_iconst C dX3_readTest_71 ?_
          have e111 : Tg h89 v1 = 2006 := (fxT F93 e87)
          exact g_iret C hr (nar_z2 (iw (il 0) (by decide) (by decide))).1 (iw (il 0) (by decide) (by decide)) ⟨O92, ((((((Fx.rf (wr := wr_k_readTest_4)).call F19 rfl).call F42 rfl).call F53 rfl).call F73 rfl).call F93 rfl), (iw (il 0) (by decide) (by decide)), (by unfold RInv; rw [e96, e98, e102, e105]; exact ⟨e111, p95.2.1, p106, p107⟩)⟩ (by decide) (by decide) dX3_readTest_72
        · have f112 : (1 : Int) ≤ r88 ∧ r88 ≤ (1 : Int) := r_nl f94 q109
          refine g_aload_n C rfl 1 rfl dX3_readTest_59 ?_
          refine g_iload_n C rfl 0 rfl dX3_readTest_60 ?_
          have e113 : Tg h89 v1 = 2006 := (fxT F93 e87)
          refine g_callI (st := []) (gc_V C lk_LandSurvey_Reader_244 (k_X3_emit l D cy w z0 O92 e99 (iw (il (-24)) (by decide) (by decide)) (by unfold RInv; rw [e96, e98, e102, e105]; exact ⟨e113, p95.2.1, p106, p107⟩) (by omega)) e99 rfl rfl rfl ⟨by decide, by decide⟩ (Nat.le_of_ble_eq_true rfl) dX3_readTest_61 ⟨(by decide), (by decide)⟩) (fun r114 h115 f117 K116 => ?_)
          obtain ⟨O118, F119, f120, p121⟩ := K116
          have e122 : Rv h115 a0 13 = v1 := ((fxR F119 e99 rfl).trans e96)
          have e123 : Iv h115 a0 4 = v97 := ((fxI F119 e99 rfl).trans e98)
          have e124 : Jv h115 a0 5 = v101 := ((fxJ F119 e99 rfl).trans e102)
          have e125 : Rv h115 a0 6 = v104 := ((fxR F119 e99 rfl).trans e105)
          have p126 := p121.2.2.1
          rw [e123, e124] at p126
          have p127 := p121.2.2.2
          rw [e125] at p127
          refine g_if_eq C (iw f120 (by decide) (by decide)) 71 (by decide) dX3_readTest_64 (fun q128 => ?_) (fun q129 => ?_)
          · exact (no_eq f120 (il 0) q128 (by decide)).elim
          · refine g_iconst C dX3_readTest_67 ?_
            refine g_goto C 72 (by decide) dX3_readTest_68 ?_
            have e130 : Tg h115 v1 = 2006 := (fxT F119 e113)
            exact g_iret C hr (nar_z2 (iw (il 1) (by decide) (by decide))).1 (iw (il 1) (by decide) (by decide)) ⟨O118, (((((((Fx.rf (wr := wr_k_readTest_4)).call F19 rfl).call F42 rfl).call F53 rfl).call F73 rfl).call F93 rfl).call F119 rfl), (iw (il 1) (by decide) (by decide)), (by unfold RInv; rw [e122, e123, e124, e125]; exact ⟨e130, p121.2.1, p126, p127⟩)⟩ (by decide) (by decide) dX3_readTest_72
      · have f131 : (1 : Int) ≤ r48 ∧ r48 ≤ (1 : Int) := r_nl f54 q56
        refine g_bipush C (by decide) dX3_readTest_39 ?_
        refine g_goto C 46 (by decide) dX3_readTest_41 ?_
        refine g_istore_n C [(2, .inl (-23)), (0, .inr (.inr a0)), (1, .inl a1)] rfl (by decide) rfl dX3_readTest_46 ?_
        refine g_aload_n C rfl 1 rfl dX3_readTest_47 ?_
        have e132 : Tg h49 a0 = 4 := (fxT F53 e47)
        have e133 : Rv h49 a0 13 = v1 := ((fxR F53 e47 rfl).trans ((fxR F42 e25 rfl).trans e22))
        have e134 : Iv h49 a0 4 = v23 := ((fxI F53 e47 rfl).trans ((fxI F42 e25 rfl).trans e24))
        have e135 : Jv h49 a0 5 = v27 := ((fxJ F53 e47 rfl).trans ((fxJ F42 e25 rfl).trans e28))
        have e136 : Rv h49 a0 6 = v30 := ((fxR F53 e47 rfl).trans ((fxR F42 e25 rfl).trans e31))
        have e137 : Tg h49 v1 = 2006 := (fxT F53 (fxT F42 (fxT F19 t3)))
        have e138 : Tg h15 v1 = 2006 := (fxT F19 t3)
        have e139 : Rv h38 a0 13 = v1 := ((fxR F42 e25 rfl).trans e22)
        have e140 : Tg h38 v1 = 2006 := (fxT F42 e138)
        have p141 := (DOk_fx O41 F53 e47 (by rw [e139]; exact e140) rfl (DOk_fx O18 F42 e25 (by rw [e22]; exact e138) rfl p21.2.1))
        refine g_callV (st := []) (gc_V C lk_LandSurvey_Reader_46 (k_X3_advance l D cy w z0 O52 e132 (by unfold RInv; rw [e133, e134, e135, e136]; exact ⟨e137, p141, p32, p33⟩)) e132 rfl rfl rfl ⟨by decide, by decide⟩ (Nat.le_of_ble_eq_true rfl) dX3_readTest_48 ⟨(by decide), (by decide)⟩) (fun h143 K144 => ?_)
        obtain ⟨O146, F147, p148⟩ := K144
        have e149 : Rv h143 a0 13 = v1 := ((fxR F147 e132 rfl).trans e133)
        obtain ⟨v150, e151⟩ : ∃ z, Iv h143 a0 4 = z := ⟨_, rfl⟩
        have e152 : Tg h143 a0 = 4 := (fxT F147 e132)
        have f153 := ok_I O146 e152 rI_4_4 e151
        obtain ⟨v154, e155⟩ : ∃ z, Jv h143 a0 5 = z := ⟨_, rfl⟩
        have f156 := inL_J O146 e155
        obtain ⟨v157, e158⟩ : ∃ z, Rv h143 a0 6 = z := ⟨_, rfl⟩
        have p159 := p148.2.2.1
        rw [e151, e155] at p159
        have p160 := p148.2.2.2
        rw [e158] at p160
        refine g_aload_n C rfl 1 rfl dX3_readTest_51 ?_
        refine g_iload_n C rfl 2 rfl dX3_readTest_52 ?_
        have e161 : Tg h143 v1 = 2006 := (fxT F147 e137)
        refine g_callI (st := []) (gc_V C lk_LandSurvey_Reader_247 (k_readSum_4 l D cy w z0 O146 e152 fa1 (by unfold RInv; rw [e149, e151, e155, e158]; exact ⟨e161, p148.2.1, p159, p160⟩)) e152 rfl rfl rfl ⟨by decide, by decide⟩ (Nat.le_of_ble_eq_true rfl) dX3_readTest_53 ⟨(by decide), (by decide)⟩) (fun r162 h163 f165 K164 => ?_)
        obtain ⟨O166, F167, f168, p169⟩ := K164
        have e170 : Rv h163 a0 13 = v1 := ((fxR F167 e152 rfl).trans e149)
        obtain ⟨v171, e172⟩ : ∃ z, Iv h163 a0 4 = z := ⟨_, rfl⟩
        have e173 : Tg h163 a0 = 4 := (fxT F167 e152)
        have f174 := ok_I O166 e173 rI_4_4 e172
        obtain ⟨v175, e176⟩ : ∃ z, Jv h163 a0 5 = z := ⟨_, rfl⟩
        have f177 := inL_J O166 e176
        obtain ⟨v178, e179⟩ : ∃ z, Rv h163 a0 6 = z := ⟨_, rfl⟩
        have p180 := p169.2.2.1
        rw [e172, e176] at p180
        have p181 := p169.2.2.2
        rw [e179] at p181
        refine g_if_eq C (iw f168 (by decide) (by decide)) 71 (by decide) dX3_readTest_56 (fun q182 => ?_) (fun q183 => ?_)
        · have f184 : (0 : Int) ≤ r162 ∧ r162 ≤ (0 : Int) := ii f168 (r_eq (il 0) q182) (by decide) (by decide)
          refine g_iconst C dX3_readTest_71 ?_
          have e185 : Tg h163 v1 = 2006 := (fxT F167 e161)
          exact g_iret C hr (nar_z2 (iw (il 0) (by decide) (by decide))).1 (iw (il 0) (by decide) (by decide)) ⟨O166, ((((((Fx.rf (wr := wr_k_readTest_4)).call F19 rfl).call F42 rfl).call F53 rfl).call F147 rfl).call F167 rfl), (iw (il 0) (by decide) (by decide)), (by unfold RInv; rw [e170, e172, e176, e179]; exact ⟨e185, p169.2.1, p180, p181⟩)⟩ (by decide) (by decide) dX3_readTest_72
        · have f186 : (1 : Int) ≤ r162 ∧ r162 ≤ (1 : Int) := r_nl f168 q183
          refine g_aload_n C rfl 1 rfl dX3_readTest_59 ?_
          refine g_iload_n C rfl 0 rfl dX3_readTest_60 ?_
          have e187 : Tg h163 v1 = 2006 := (fxT F167 e161)
          refine g_callI (st := []) (gc_V C lk_LandSurvey_Reader_244 (k_X3_emit l D cy w z0 O166 e173 (iw (il (-23)) (by decide) (by decide)) (by unfold RInv; rw [e170, e172, e176, e179]; exact ⟨e187, p169.2.1, p180, p181⟩) (by omega)) e173 rfl rfl rfl ⟨by decide, by decide⟩ (Nat.le_of_ble_eq_true rfl) dX3_readTest_61 ⟨(by decide), (by decide)⟩) (fun r188 h189 f191 K190 => ?_)
          obtain ⟨O192, F193, f194, p195⟩ := K190
          have e196 : Rv h189 a0 13 = v1 := ((fxR F193 e173 rfl).trans e170)
          have e197 : Iv h189 a0 4 = v171 := ((fxI F193 e173 rfl).trans e172)
          have e198 : Jv h189 a0 5 = v175 := ((fxJ F193 e173 rfl).trans e176)
          have e199 : Rv h189 a0 6 = v178 := ((fxR F193 e173 rfl).trans e179)
          have p200 := p195.2.2.1
          rw [e197, e198] at p200
          have p201 := p195.2.2.2
          rw [e199] at p201
          refine g_if_eq C (iw f194 (by decide) (by decide)) 71 (by decide) dX3_readTest_64 (fun q202 => ?_) (fun q203 => ?_)
          · exact (no_eq f194 (il 0) q202 (by decide)).elim
          · refine g_iconst C dX3_readTest_67 ?_
            refine g_goto C 72 (by decide) dX3_readTest_68 ?_
            have e204 : Tg h189 v1 = 2006 := (fxT F193 e187)
            exact g_iret C hr (nar_z2 (iw (il 1) (by decide) (by decide))).1 (iw (il 1) (by decide) (by decide)) ⟨O192, (((((((Fx.rf (wr := wr_k_readTest_4)).call F19 rfl).call F42 rfl).call F53 rfl).call F147 rfl).call F167 rfl).call F193 rfl), (iw (il 1) (by decide) (by decide)), (by unfold RInv; rw [e196, e197, e198, e199]; exact ⟨e204, p195.2.1, p200, p201⟩)⟩ (by decide) (by decide) dX3_readTest_72
    · have f205 : (0 : Int) ≤ r37 ∧ r37 ≤ (0 : Int) := ii f43 (r_eq (il 0) q45) (by decide) (by decide)
      refine g_aload_n C rfl 0 rfl dX3_readTest_19 ?_
      refine g_bipush C (by decide) dX3_readTest_20 ?_
      have e206 : Tg h38 a0 = 4 := (fxT F42 e25)
      refine g_callI (st := []) (gc_V C lk_LandSurvey_Reader_95 (k_X3_isNext l D cy w z0 O41 e206 (iw (il 61) (by decide) (by decide))) e206 rfl rfl rfl ⟨by decide, by decide⟩ (Nat.le_of_ble_eq_true rfl) dX3_readTest_22 ⟨(by decide), (by decide)⟩) (fun r207 h208 f210 K209 => ?_)
      obtain ⟨O211, F212, f213⟩ := K209
      refine g_if_ne C (iw f213 (by decide) (by decide)) 30 (by decide) dX3_readTest_25 (fun q214 => ?_) (fun q215 => ?_)
      · have f216 : (1 : Int) ≤ r207 ∧ r207 ≤ (1 : Int) := r_nl f213 q214
        refine g_aload_n C rfl 0 rfl dX3_readTest_30 ?_
        refine g_bipush C (by decide) dX3_readTest_31 ?_
        have e217 : Tg h208 a0 = 4 := (fxT F212 e206)
        refine g_callI (st := []) (gc_V C lk_LandSurvey_Reader_95 (k_X3_isNext l D cy w z0 O211 e217 (iw (il 60) (by decide) (by decide))) e217 rfl rfl rfl ⟨by decide, by decide⟩ (Nat.le_of_ble_eq_true rfl) dX3_readTest_33 ⟨(by decide), (by decide)⟩) (fun r218 h219 f221 K220 => ?_)
        obtain ⟨O222, F223, f224⟩ := K220
        refine g_if_eq C (iw f224 (by decide) (by decide)) 44 (by decide) dX3_readTest_36 (fun q225 => ?_) (fun q226 => ?_)
        · have f227 : (0 : Int) ≤ r218 ∧ r218 ≤ (0 : Int) := ii f224 (r_eq (il 0) q225) (by decide) (by decide)
          refine g_bipush C (by decide) dX3_readTest_44 ?_
          refine g_istore_n C [(2, .inl (-24)), (0, .inr (.inr a0)), (1, .inl a1)] rfl (by decide) rfl dX3_readTest_46 ?_
          refine g_aload_n C rfl 1 rfl dX3_readTest_47 ?_
          have e228 : Tg h219 a0 = 4 := (fxT F223 e217)
          have e229 : Rv h219 a0 13 = v1 := ((fxR F223 e217 rfl).trans ((fxR F212 e206 rfl).trans ((fxR F42 e25 rfl).trans e22)))
          have e230 : Iv h219 a0 4 = v23 := ((fxI F223 e217 rfl).trans ((fxI F212 e206 rfl).trans ((fxI F42 e25 rfl).trans e24)))
          have e231 : Jv h219 a0 5 = v27 := ((fxJ F223 e217 rfl).trans ((fxJ F212 e206 rfl).trans ((fxJ F42 e25 rfl).trans e28)))
          have e232 : Rv h219 a0 6 = v30 := ((fxR F223 e217 rfl).trans ((fxR F212 e206 rfl).trans ((fxR F42 e25 rfl).trans e31)))
          have e233 : Tg h219 v1 = 2006 := (fxT F223 (fxT F212 (fxT F42 (fxT F19 t3))))
          have e234 : Tg h15 v1 = 2006 := (fxT F19 t3)
          have e235 : Rv h38 a0 13 = v1 := ((fxR F42 e25 rfl).trans e22)
          have e236 : Tg h38 v1 = 2006 := (fxT F42 e234)
          have e237 : Rv h208 a0 13 = v1 := ((fxR F212 e206 rfl).trans e235)
          have e238 : Tg h208 v1 = 2006 := (fxT F212 e236)
          have p239 := (DOk_fx O211 F223 e217 (by rw [e237]; exact e238) rfl (DOk_fx O41 F212 e206 (by rw [e235]; exact e236) rfl (DOk_fx O18 F42 e25 (by rw [e22]; exact e234) rfl p21.2.1)))
          refine g_callV (st := []) (gc_V C lk_LandSurvey_Reader_46 (k_X3_advance l D cy w z0 O222 e228 (by unfold RInv; rw [e229, e230, e231, e232]; exact ⟨e233, p239, p32, p33⟩)) e228 rfl rfl rfl ⟨by decide, by decide⟩ (Nat.le_of_ble_eq_true rfl) dX3_readTest_48 ⟨(by decide), (by decide)⟩) (fun h241 K242 => ?_)
          obtain ⟨O244, F245, p246⟩ := K242
          have e247 : Rv h241 a0 13 = v1 := ((fxR F245 e228 rfl).trans e229)
          obtain ⟨v248, e249⟩ : ∃ z, Iv h241 a0 4 = z := ⟨_, rfl⟩
          have e250 : Tg h241 a0 = 4 := (fxT F245 e228)
          have f251 := ok_I O244 e250 rI_4_4 e249
          obtain ⟨v252, e253⟩ : ∃ z, Jv h241 a0 5 = z := ⟨_, rfl⟩
          have f254 := inL_J O244 e253
          obtain ⟨v255, e256⟩ : ∃ z, Rv h241 a0 6 = z := ⟨_, rfl⟩
          have p257 := p246.2.2.1
          rw [e249, e253] at p257
          have p258 := p246.2.2.2
          rw [e256] at p258
          refine g_aload_n C rfl 1 rfl dX3_readTest_51 ?_
          refine g_iload_n C rfl 2 rfl dX3_readTest_52 ?_
          have e259 : Tg h241 v1 = 2006 := (fxT F245 e233)
          refine g_callI (st := []) (gc_V C lk_LandSurvey_Reader_247 (k_readSum_4 l D cy w z0 O244 e250 fa1 (by unfold RInv; rw [e247, e249, e253, e256]; exact ⟨e259, p246.2.1, p257, p258⟩)) e250 rfl rfl rfl ⟨by decide, by decide⟩ (Nat.le_of_ble_eq_true rfl) dX3_readTest_53 ⟨(by decide), (by decide)⟩) (fun r260 h261 f263 K262 => ?_)
          obtain ⟨O264, F265, f266, p267⟩ := K262
          have e268 : Rv h261 a0 13 = v1 := ((fxR F265 e250 rfl).trans e247)
          obtain ⟨v269, e270⟩ : ∃ z, Iv h261 a0 4 = z := ⟨_, rfl⟩
          have e271 : Tg h261 a0 = 4 := (fxT F265 e250)
          have f272 := ok_I O264 e271 rI_4_4 e270
          obtain ⟨v273, e274⟩ : ∃ z, Jv h261 a0 5 = z := ⟨_, rfl⟩
          have f275 := inL_J O264 e274
          obtain ⟨v276, e277⟩ : ∃ z, Rv h261 a0 6 = z := ⟨_, rfl⟩
          have p278 := p267.2.2.1
          rw [e270, e274] at p278
          have p279 := p267.2.2.2
          rw [e277] at p279
          refine g_if_eq C (iw f266 (by decide) (by decide)) 71 (by decide) dX3_readTest_56 (fun q280 => ?_) (fun q281 => ?_)
          · have f282 : (0 : Int) ≤ r260 ∧ r260 ≤ (0 : Int) := ii f266 (r_eq (il 0) q280) (by decide) (by decide)
            refine g_iconst C dX3_readTest_71 ?_
            have e283 : Tg h261 v1 = 2006 := (fxT F265 e259)
            exact g_iret C hr (nar_z2 (iw (il 0) (by decide) (by decide))).1 (iw (il 0) (by decide) (by decide)) ⟨O264, (((((((Fx.rf (wr := wr_k_readTest_4)).call F19 rfl).call F42 rfl).call F212 rfl).call F223 rfl).call F245 rfl).call F265 rfl), (iw (il 0) (by decide) (by decide)), (by unfold RInv; rw [e268, e270, e274, e277]; exact ⟨e283, p267.2.1, p278, p279⟩)⟩ (by decide) (by decide) dX3_readTest_72
          · have f284 : (1 : Int) ≤ r260 ∧ r260 ≤ (1 : Int) := r_nl f266 q281
            refine g_aload_n C rfl 1 rfl dX3_readTest_59 ?_
            refine g_iload_n C rfl 0 rfl dX3_readTest_60 ?_
            have e285 : Tg h261 v1 = 2006 := (fxT F265 e259)
            refine g_callI (st := []) (gc_V C lk_LandSurvey_Reader_244 (k_X3_emit l D cy w z0 O264 e271 (iw (il (-24)) (by decide) (by decide)) (by unfold RInv; rw [e268, e270, e274, e277]; exact ⟨e285, p267.2.1, p278, p279⟩) (by omega)) e271 rfl rfl rfl ⟨by decide, by decide⟩ (Nat.le_of_ble_eq_true rfl) dX3_readTest_61 ⟨(by decide), (by decide)⟩) (fun r286 h287 f289 K288 => ?_)
            obtain ⟨O290, F291, f292, p293⟩ := K288
            have e294 : Rv h287 a0 13 = v1 := ((fxR F291 e271 rfl).trans e268)
            have e295 : Iv h287 a0 4 = v269 := ((fxI F291 e271 rfl).trans e270)
            have e296 : Jv h287 a0 5 = v273 := ((fxJ F291 e271 rfl).trans e274)
            have e297 : Rv h287 a0 6 = v276 := ((fxR F291 e271 rfl).trans e277)
            have p298 := p293.2.2.1
            rw [e295, e296] at p298
            have p299 := p293.2.2.2
            rw [e297] at p299
            refine g_if_eq C (iw f292 (by decide) (by decide)) 71 (by decide) dX3_readTest_64 (fun q300 => ?_) (fun q301 => ?_)
            · exact (no_eq f292 (il 0) q300 (by decide)).elim
            · refine g_iconst C dX3_readTest_67 ?_
              refine g_goto C 72 (by decide) dX3_readTest_68 ?_
              have e302 : Tg h287 v1 = 2006 := (fxT F291 e285)
              exact g_iret C hr (nar_z2 (iw (il 1) (by decide) (by decide))).1 (iw (il 1) (by decide) (by decide)) ⟨O290, ((((((((Fx.rf (wr := wr_k_readTest_4)).call F19 rfl).call F42 rfl).call F212 rfl).call F223 rfl).call F245 rfl).call F265 rfl).call F291 rfl), (iw (il 1) (by decide) (by decide)), (by unfold RInv; rw [e294, e295, e296, e297]; exact ⟨e302, p293.2.1, p298, p299⟩)⟩ (by decide) (by decide) dX3_readTest_72
        · have f303 : (1 : Int) ≤ r218 ∧ r218 ≤ (1 : Int) := r_nl f224 q226
          refine g_bipush C (by decide) dX3_readTest_39 ?_
          refine g_goto C 46 (by decide) dX3_readTest_41 ?_
          refine g_istore_n C [(2, .inl (-23)), (0, .inr (.inr a0)), (1, .inl a1)] rfl (by decide) rfl dX3_readTest_46 ?_
          refine g_aload_n C rfl 1 rfl dX3_readTest_47 ?_
          have e304 : Tg h219 a0 = 4 := (fxT F223 e217)
          have e305 : Rv h219 a0 13 = v1 := ((fxR F223 e217 rfl).trans ((fxR F212 e206 rfl).trans ((fxR F42 e25 rfl).trans e22)))
          have e306 : Iv h219 a0 4 = v23 := ((fxI F223 e217 rfl).trans ((fxI F212 e206 rfl).trans ((fxI F42 e25 rfl).trans e24)))
          have e307 : Jv h219 a0 5 = v27 := ((fxJ F223 e217 rfl).trans ((fxJ F212 e206 rfl).trans ((fxJ F42 e25 rfl).trans e28)))
          have e308 : Rv h219 a0 6 = v30 := ((fxR F223 e217 rfl).trans ((fxR F212 e206 rfl).trans ((fxR F42 e25 rfl).trans e31)))
          have e309 : Tg h219 v1 = 2006 := (fxT F223 (fxT F212 (fxT F42 (fxT F19 t3))))
          have e310 : Tg h15 v1 = 2006 := (fxT F19 t3)
          have e311 : Rv h38 a0 13 = v1 := ((fxR F42 e25 rfl).trans e22)
          have e312 : Tg h38 v1 = 2006 := (fxT F42 e310)
          have e313 : Rv h208 a0 13 = v1 := ((fxR F212 e206 rfl).trans e311)
          have e314 : Tg h208 v1 = 2006 := (fxT F212 e312)
          have p315 := (DOk_fx O211 F223 e217 (by rw [e313]; exact e314) rfl (DOk_fx O41 F212 e206 (by rw [e311]; exact e312) rfl (DOk_fx O18 F42 e25 (by rw [e22]; exact e310) rfl p21.2.1)))
          refine g_callV (st := []) (gc_V C lk_LandSurvey_Reader_46 (k_X3_advance l D cy w z0 O222 e304 (by unfold RInv; rw [e305, e306, e307, e308]; exact ⟨e309, p315, p32, p33⟩)) e304 rfl rfl rfl ⟨by decide, by decide⟩ (Nat.le_of_ble_eq_true rfl) dX3_readTest_48 ⟨(by decide), (by decide)⟩) (fun h317 K318 => ?_)
          obtain ⟨O320, F321, p322⟩ := K318
          have e323 : Rv h317 a0 13 = v1 := ((fxR F321 e304 rfl).trans e305)
          obtain ⟨v324, e325⟩ : ∃ z, Iv h317 a0 4 = z := ⟨_, rfl⟩
          have e326 : Tg h317 a0 = 4 := (fxT F321 e304)
          have f327 := ok_I O320 e326 rI_4_4 e325
          obtain ⟨v328, e329⟩ : ∃ z, Jv h317 a0 5 = z := ⟨_, rfl⟩
          have f330 := inL_J O320 e329
          obtain ⟨v331, e332⟩ : ∃ z, Rv h317 a0 6 = z := ⟨_, rfl⟩
          have p333 := p322.2.2.1
          rw [e325, e329] at p333
          have p334 := p322.2.2.2
          rw [e332] at p334
          refine g_aload_n C rfl 1 rfl dX3_readTest_51 ?_
          refine g_iload_n C rfl 2 rfl dX3_readTest_52 ?_
          have e335 : Tg h317 v1 = 2006 := (fxT F321 e309)
          refine g_callI (st := []) (gc_V C lk_LandSurvey_Reader_247 (k_readSum_4 l D cy w z0 O320 e326 fa1 (by unfold RInv; rw [e323, e325, e329, e332]; exact ⟨e335, p322.2.1, p333, p334⟩)) e326 rfl rfl rfl ⟨by decide, by decide⟩ (Nat.le_of_ble_eq_true rfl) dX3_readTest_53 ⟨(by decide), (by decide)⟩) (fun r336 h337 f339 K338 => ?_)
          obtain ⟨O340, F341, f342, p343⟩ := K338
          have e344 : Rv h337 a0 13 = v1 := ((fxR F341 e326 rfl).trans e323)
          obtain ⟨v345, e346⟩ : ∃ z, Iv h337 a0 4 = z := ⟨_, rfl⟩
          have e347 : Tg h337 a0 = 4 := (fxT F341 e326)
          have f348 := ok_I O340 e347 rI_4_4 e346
          obtain ⟨v349, e350⟩ : ∃ z, Jv h337 a0 5 = z := ⟨_, rfl⟩
          have f351 := inL_J O340 e350
          obtain ⟨v352, e353⟩ : ∃ z, Rv h337 a0 6 = z := ⟨_, rfl⟩
          have p354 := p343.2.2.1
          rw [e346, e350] at p354
          have p355 := p343.2.2.2
          rw [e353] at p355
          refine g_if_eq C (iw f342 (by decide) (by decide)) 71 (by decide) dX3_readTest_56 (fun q356 => ?_) (fun q357 => ?_)
          · have f358 : (0 : Int) ≤ r336 ∧ r336 ≤ (0 : Int) := ii f342 (r_eq (il 0) q356) (by decide) (by decide)
            refine g_iconst C dX3_readTest_71 ?_
            have e359 : Tg h337 v1 = 2006 := (fxT F341 e335)
            exact g_iret C hr (nar_z2 (iw (il 0) (by decide) (by decide))).1 (iw (il 0) (by decide) (by decide)) ⟨O340, (((((((Fx.rf (wr := wr_k_readTest_4)).call F19 rfl).call F42 rfl).call F212 rfl).call F223 rfl).call F321 rfl).call F341 rfl), (iw (il 0) (by decide) (by decide)), (by unfold RInv; rw [e344, e346, e350, e353]; exact ⟨e359, p343.2.1, p354, p355⟩)⟩ (by decide) (by decide) dX3_readTest_72
          · have f360 : (1 : Int) ≤ r336 ∧ r336 ≤ (1 : Int) := r_nl f342 q357
            refine g_aload_n C rfl 1 rfl dX3_readTest_59 ?_
            refine g_iload_n C rfl 0 rfl dX3_readTest_60 ?_
            have e361 : Tg h337 v1 = 2006 := (fxT F341 e335)
            refine g_callI (st := []) (gc_V C lk_LandSurvey_Reader_244 (k_X3_emit l D cy w z0 O340 e347 (iw (il (-23)) (by decide) (by decide)) (by unfold RInv; rw [e344, e346, e350, e353]; exact ⟨e361, p343.2.1, p354, p355⟩) (by omega)) e347 rfl rfl rfl ⟨by decide, by decide⟩ (Nat.le_of_ble_eq_true rfl) dX3_readTest_61 ⟨(by decide), (by decide)⟩) (fun r362 h363 f365 K364 => ?_)
            obtain ⟨O366, F367, f368, p369⟩ := K364
            have e370 : Rv h363 a0 13 = v1 := ((fxR F367 e347 rfl).trans e344)
            have e371 : Iv h363 a0 4 = v345 := ((fxI F367 e347 rfl).trans e346)
            have e372 : Jv h363 a0 5 = v349 := ((fxJ F367 e347 rfl).trans e350)
            have e373 : Rv h363 a0 6 = v352 := ((fxR F367 e347 rfl).trans e353)
            have p374 := p369.2.2.1
            rw [e371, e372] at p374
            have p375 := p369.2.2.2
            rw [e373] at p375
            refine g_if_eq C (iw f368 (by decide) (by decide)) 71 (by decide) dX3_readTest_64 (fun q376 => ?_) (fun q377 => ?_)
            · exact (no_eq f368 (il 0) q376 (by decide)).elim
            · refine g_iconst C dX3_readTest_67 ?_
              refine g_goto C 72 (by decide) dX3_readTest_68 ?_
              have e378 : Tg h363 v1 = 2006 := (fxT F367 e361)
              exact g_iret C hr (nar_z2 (iw (il 1) (by decide) (by decide))).1 (iw (il 1) (by decide) (by decide)) ⟨O366, ((((((((Fx.rf (wr := wr_k_readTest_4)).call F19 rfl).call F42 rfl).call F212 rfl).call F223 rfl).call F321 rfl).call F341 rfl).call F367 rfl), (iw (il 1) (by decide) (by decide)), (by unfold RInv; rw [e370, e371, e372, e373]; exact ⟨e378, p369.2.1, p374, p375⟩)⟩ (by decide) (by decide) dX3_readTest_72
      · have f379 : (0 : Int) ≤ r207 ∧ r207 ≤ (0 : Int) := ii f213 (r_eq (il 0) q215) (by decide) (by decide)
        refine g_iconst C dX3_readTest_28 ?_
        have e380 : Rv h208 a0 13 = v1 := ((fxR F212 e206 rfl).trans ((fxR F42 e25 rfl).trans e22))
        have e381 : Iv h208 a0 4 = v23 := ((fxI F212 e206 rfl).trans ((fxI F42 e25 rfl).trans e24))
        have e382 : Jv h208 a0 5 = v27 := ((fxJ F212 e206 rfl).trans ((fxJ F42 e25 rfl).trans e28))
        have e383 : Rv h208 a0 6 = v30 := ((fxR F212 e206 rfl).trans ((fxR F42 e25 rfl).trans e31))
        have e384 : Tg h208 v1 = 2006 := (fxT F212 (fxT F42 (fxT F19 t3)))
        have e385 : Tg h15 v1 = 2006 := (fxT F19 t3)
        have e386 : Rv h38 a0 13 = v1 := ((fxR F42 e25 rfl).trans e22)
        have e387 : Tg h38 v1 = 2006 := (fxT F42 e385)
        have p388 := (DOk_fx O41 F212 e206 (by rw [e386]; exact e387) rfl (DOk_fx O18 F42 e25 (by rw [e22]; exact e385) rfl p21.2.1))
        exact g_iret C hr (nar_z2 (iw (il 1) (by decide) (by decide))).1 (iw (il 1) (by decide) (by decide)) ⟨O211, ((((Fx.rf (wr := wr_k_readTest_4)).call F19 rfl).call F42 rfl).call F212 rfl), (iw (il 1) (by decide) (by decide)), (by unfold RInv; rw [e380, e381, e382, e383]; exact ⟨e384, p388, p32, p33⟩)⟩ (by decide) (by decide) dX3_readTest_29
  · have f389 : (0 : Int) ≤ r14 ∧ r14 ≤ (0 : Int) := ii f20 (r_eq (il 0) q35) (by decide) (by decide)
    refine g_iconst C dX3_readTest_8 ?_
    have e390 : Tg h15 v1 = 2006 := (fxT F19 t3)
    exact g_iret C hr (nar_z2 (iw (il 0) (by decide) (by decide))).1 (iw (il 0) (by decide) (by decide)) ⟨O18, ((Fx.rf (wr := wr_k_readTest_4)).call F19 rfl), (iw (il 0) (by decide) (by decide)), (by unfold RInv; rw [e22, e24, e28, e31]; exact ⟨e390, p21.2.1, p32, p33⟩)⟩ (by decide) (by decide) dX3_readTest_9
def wr_k_readTests_4 : List Nat := [802, 803, 804, 805, 806, 807, 812, 4020000]
set_option maxRecDepth 100000 in
set_option maxHeartbeats 4000000 in
theorem k_readTests_4 (l : Launch) (D : va_G) (cy : Nat → ClassId) (w : Nat → Nat) (z0 : Nat)  {h : Hp} {a0 : Nat} {a1 : Int}  (O : Okh h) (ta0 : Tg h a0 = 4) (fa1 : 4 ≤ a1 ∧ a1 ≤ 4) (P_RInv : RInv w h a0) : MI l D cy w z0 yX3_readTests cX3_readTests 4 (some .boolean) 9 201 0 0 [.inr (.inr a0), .inl a1] h (fun v h1 => Okh h1 ∧ Fx wr_k_readTests_4 h h1 ∧ (0 ≤ v ∧ v ≤ 1) ∧ (RInv w h1 a0)) := by
  obtain ⟨v1, e2⟩ : ∃ z, Rv h a0 13 = z := ⟨_, rfl⟩
  have t3 := P_RInv.1
  rw [e2] at t3
  obtain ⟨v4, e5⟩ : ∃ z, Iv h a0 4 = z := ⟨_, rfl⟩
  have f6 := ok_I O ta0 rI_4_4 e5
  obtain ⟨v7, e8⟩ : ∃ z, Jv h a0 5 = z := ⟨_, rfl⟩
  have f9 := inL_J O e8
  obtain ⟨v10, e11⟩ : ∃ z, Rv h a0 6 = z := ⟨_, rfl⟩
  have p12 := P_RInv.2.2.1
  rw [e5, e8] at p12
  have p13 := P_RInv.2.2.2
  rw [e11] at p13
  refine hm_go (by decide +kernel) (Nat.le_of_ble_eq_true rfl) (fun p e s m below meth c C hr hn => ?_)
  refine g_aload_n C rfl 0 rfl dX3_readTests_0 ?_
  refine g_iload_n C rfl 1 rfl dX3_readTests_1 ?_
  refine g_callI (st := []) (gc_V C lk_LandSurvey_Reader_235 (k_readTest_4 l D cy w z0 O ta0 fa1 (by unfold RInv; rw [e2, e5, e8, e11]; exact ⟨t3, P_RInv.2.1, p12, p13⟩)) ta0 rfl rfl rfl ⟨by decide, by decide⟩ (Nat.le_of_ble_eq_true rfl) dX3_readTests_2 ⟨(by decide), (by decide)⟩) (fun r14 h15 f17 K16 => ?_)
  obtain ⟨O18, F19, f20, p21⟩ := K16
  have e22 : Rv h15 a0 13 = v1 := ((fxR F19 ta0 rfl).trans e2)
  obtain ⟨v23, e24⟩ : ∃ z, Iv h15 a0 4 = z := ⟨_, rfl⟩
  have e25 : Tg h15 a0 = 4 := (fxT F19 ta0)
  have f26 := ok_I O18 e25 rI_4_4 e24
  obtain ⟨v27, e28⟩ : ∃ z, Jv h15 a0 5 = z := ⟨_, rfl⟩
  have f29 := inL_J O18 e28
  obtain ⟨v30, e31⟩ : ∃ z, Rv h15 a0 6 = z := ⟨_, rfl⟩
  have p32 := p21.2.2.1
  rw [e24, e28] at p32
  have p33 := p21.2.2.2
  rw [e31] at p33
  refine g_if_ne C (iw f20 (by decide) (by decide)) 10 (by decide) dX3_readTests_5 (fun q34 => ?_) (fun q35 => ?_)
  · have f36 : (1 : Int) ≤ r14 ∧ r14 ≤ (1 : Int) := r_nl f20 q34
    refine g_iconst C dX3_readTests_10 ?_
    refine g_istore_n C [(2, .inl 0), (0, .inr (.inr a0)), (1, .inl a1)] rfl (by decide) rfl dX3_readTests_11 ?_
    refine GW.sub [1, 2, 0] rfl ?_
    -- loop at 12
    have L39 : ∀ (μ : Nat) (x37 : Int) (h38 : Hp), (1501 - x37).toNat = μ → Okh h38 → Fx [802, 803, 804, 805, 806, 807, 812, 4020000] h15 h38 → ((0 : Int) ≤ x37 ∧ x37 ≤ (1501 : Int)) → (RInv w h38 a0) → GW p l e (rmm 9 201 0 0) s m (List.map toV [.inr (.inr a0), .inl a1]).toArray below meth c D cy z0 4 (MQ below (QI D cy z0 (fun v h1 => Okh h1 ∧ Fx wr_k_readTests_4 h h1 ∧ (0 ≤ v ∧ v ≤ 1) ∧ (RInv w h1 a0))) (List.map toV [.inr (.inr a0), .inl a1]).toArray s 0 0 (Aof z0)) 12 [(0, .inr (.inr a0)), (1, .inl a1), (2, .inl x37)] [] h38 0 0 := by
      intro μ
      induction μ using Nat.strongRecOn with
      | ind μ ih40 =>
        intro x37 h38 hm41 O42 F43 f44 p45
        have e46 : Rv h38 a0 13 = v1 := ((fxR F43 e25 rfl).trans e22)
        obtain ⟨v47, e48⟩ : ∃ z, Iv h38 a0 4 = z := ⟨_, rfl⟩
        have e49 : Tg h38 a0 = 4 := (fxT F43 e25)
        have f50 := ok_I O42 e49 rI_4_4 e48
        obtain ⟨v51, e52⟩ : ∃ z, Jv h38 a0 5 = z := ⟨_, rfl⟩
        have f53 := inL_J O42 e52
        obtain ⟨v54, e55⟩ : ∃ z, Rv h38 a0 6 = z := ⟨_, rfl⟩
        have p56 := p45.2.2.1
        rw [e48, e52] at p56
        have p57 := p45.2.2.2
        rw [e55] at p57
        refine g_iload_n C rfl 2 rfl dX3_readTests_12 ?_
        refine g_sipush C (by decide) dX3_readTests_13 ?_
        refine g_icmp_gt C (iw f44 (by decide) (by decide)) (iw (il 1500) (by decide) (by decide)) 85 (by decide) dX3_readTests_16 (fun q58 => ?_) (fun q59 => ?_)
        · have f60 : (1501 : Int) ≤ x37 ∧ x37 ≤ (1501 : Int) := r_gt f44 (il 1500) q58 (by decide) (by decide)
          refine g_iconst C dX3_readTests_85 ?_
          have e61 : Tg h38 v1 = 2006 := (fxT F43 (fxT F19 t3))
          exact g_iret C hr (nar_z2 (iw (il 1) (by decide) (by decide))).1 (iw (il 1) (by decide) (by decide)) ⟨O42, (((Fx.rf (wr := wr_k_readTests_4)).call F19 rfl).call F43 rfl), (iw (il 1) (by decide) (by decide)), (by unfold RInv; rw [e46, e48, e52, e55]; exact ⟨e61, p45.2.1, p56, p57⟩)⟩ (by decide) (by decide) dX3_readTests_86
        · have f62 : (0 : Int) ≤ x37 ∧ x37 ≤ (1500 : Int) := r_le f44 (il 1500) q59 (by decide) (by decide)
          refine g_aload_n C rfl 0 rfl dX3_readTests_19 ?_
          refine gf_R C fk_LandSurvey_Reader_69 rfl e49 e55 dX3_readTests_20 ?_
          refine g_gets (x := .inr (.inr (w 15 + 1))) C (C.2.2.2.2.2.2.1.1 15 (by decide)).1 kw_845 dX3_readTests_23 ?_
          refine g_acmp_eq C 39 (by decide) dX3_readTests_26 (fun q63 => ?_) (fun q64 => ?_)
          · refine g_aload_n C rfl 0 rfl dX3_readTests_39 ?_
            refine gf_R C fk_LandSurvey_Reader_69 rfl e49 e55 dX3_readTests_40 ?_
            refine g_gets (x := .inr (.inr (w 15 + 1))) C (C.2.2.2.2.2.2.1.1 15 (by decide)).1 kw_845 dX3_readTests_43 ?_
            refine g_acmp_ne C 54 (by decide) dX3_readTests_46 (fun q65 => ?_) (fun q66 => ?_)
            · refine g_bipush C (by decide) dX3_readTests_54 ?_
              refine g_istore_n C [(3, .inl (-26)), (0, .inr (.inr a0)), (1, .inl a1), (2, .inl x37)] rfl (by decide) rfl dX3_readTests_56 ?_
              refine g_aload_n C rfl 1 rfl dX3_readTests_57 ?_
              have e67 : Tg h38 v1 = 2006 := (fxT F43 (fxT F19 t3))
              refine g_callV (st := []) (gc_V C lk_LandSurvey_Reader_46 (k_X3_advance l D cy w z0 O42 e49 (by unfold RInv; rw [e46, e48, e52, e55]; exact ⟨e67, p45.2.1, p56, p57⟩)) e49 rfl rfl rfl ⟨by decide, by decide⟩ (Nat.le_of_ble_eq_true rfl) dX3_readTests_58 ⟨(by decide), (by decide)⟩) (fun h69 K70 => ?_)
              obtain ⟨O72, F73, p74⟩ := K70
              have e75 : Rv h69 a0 13 = v1 := ((fxR F73 e49 rfl).trans e46)
              obtain ⟨v76, e77⟩ : ∃ z, Iv h69 a0 4 = z := ⟨_, rfl⟩
              have e78 : Tg h69 a0 = 4 := (fxT F73 e49)
              have f79 := ok_I O72 e78 rI_4_4 e77
              obtain ⟨v80, e81⟩ : ∃ z, Jv h69 a0 5 = z := ⟨_, rfl⟩
              have f82 := inL_J O72 e81
              obtain ⟨v83, e84⟩ : ∃ z, Rv h69 a0 6 = z := ⟨_, rfl⟩
              have p85 := p74.2.2.1
              rw [e77, e81] at p85
              have p86 := p74.2.2.2
              rw [e84] at p86
              refine g_aload_n C rfl 1 rfl dX3_readTests_61 ?_
              refine g_iload_n C rfl 2 rfl dX3_readTests_62 ?_
              have e87 : Tg h69 v1 = 2006 := (fxT F73 e67)
              refine g_callI (st := []) (gc_V C lk_LandSurvey_Reader_235 (k_readTest_4 l D cy w z0 O72 e78 fa1 (by unfold RInv; rw [e75, e77, e81, e84]; exact ⟨e87, p74.2.1, p85, p86⟩)) e78 rfl rfl rfl ⟨by decide, by decide⟩ (Nat.le_of_ble_eq_true rfl) dX3_readTests_63 ⟨(by decide), (by decide)⟩) (fun r88 h89 f91 K90 => ?_)
              obtain ⟨O92, F93, f94, p95⟩ := K90
              have e96 : Rv h89 a0 13 = v1 := ((fxR F93 e78 rfl).trans e75)
              obtain ⟨v97, e98⟩ : ∃ z, Iv h89 a0 4 = z := ⟨_, rfl⟩
              have e99 : Tg h89 a0 = 4 := (fxT F93 e78)
              have f100 := ok_I O92 e99 rI_4_4 e98
              obtain ⟨v101, e102⟩ : ∃ z, Jv h89 a0 5 = z := ⟨_, rfl⟩
              have f103 := inL_J O92 e102
              obtain ⟨v104, e105⟩ : ∃ z, Rv h89 a0 6 = z := ⟨_, rfl⟩
              have p106 := p95.2.2.1
              rw [e98, e102] at p106
              have p107 := p95.2.2.2
              rw [e105] at p107
              refine g_if_eq C (iw f94 (by decide) (by decide)) 77 (by decide) dX3_readTests_66 (fun q108 => ?_) (fun q109 => ?_)
              · have f110 : (0 : Int) ≤ r88 ∧ r88 ≤ (0 : Int) := ii f94 (r_eq (il 0) q108) (by decide) (by decide)
                refine g_iconst C dX3_readTests_77 ?_
                have e111 : Tg h89 v1 = 2006 := (fxT F93 e87)
                exact g_iret C hr (nar_z2 (iw (il 0) (by decide) (by decide))).1 (iw (il 0) (by decide) (by decide)) ⟨O92, (((((Fx.rf (wr := wr_k_readTests_4)).call F19 rfl).call F43 rfl).call F73 rfl).call F93 rfl), (iw (il 0) (by decide) (by decide)), (by unfold RInv; rw [e96, e98, e102, e105]; exact ⟨e111, p95.2.1, p106, p107⟩)⟩ (by decide) (by decide) dX3_readTests_78
              · have f112 : (1 : Int) ≤ r88 ∧ r88 ≤ (1 : Int) := r_nl f94 q109
                refine g_aload_n C rfl 1 rfl dX3_readTests_69 ?_
                refine g_iload_n C rfl 0 rfl dX3_readTests_70 ?_
                have e113 : Tg h89 v1 = 2006 := (fxT F93 e87)
                refine g_callI (st := []) (gc_V C lk_LandSurvey_Reader_244 (k_X3_emit l D cy w z0 O92 e99 (iw (il (-26)) (by decide) (by decide)) (by unfold RInv; rw [e96, e98, e102, e105]; exact ⟨e113, p95.2.1, p106, p107⟩) (by omega)) e99 rfl rfl rfl ⟨by decide, by decide⟩ (Nat.le_of_ble_eq_true rfl) dX3_readTests_71 ⟨(by decide), (by decide)⟩) (fun r114 h115 f117 K116 => ?_)
                obtain ⟨O118, F119, f120, p121⟩ := K116
                have e122 : Rv h115 a0 13 = v1 := ((fxR F119 e99 rfl).trans e96)
                have e123 : Iv h115 a0 4 = v97 := ((fxI F119 e99 rfl).trans e98)
                have e124 : Jv h115 a0 5 = v101 := ((fxJ F119 e99 rfl).trans e102)
                have e125 : Rv h115 a0 6 = v104 := ((fxR F119 e99 rfl).trans e105)
                have p126 := p121.2.2.1
                rw [e123, e124] at p126
                have p127 := p121.2.2.2
                rw [e125] at p127
                refine g_if_ne C (iw f120 (by decide) (by decide)) 79 (by decide) dX3_readTests_74 (fun q128 => ?_) (fun q129 => ?_)
                · have f130 : (1 : Int) ≤ (x37 + 1) ∧ (x37 + 1) ≤ (1501 : Int) := ia_add f62 (il 1) (by decide) (by decide)
                  refine g_iinc C [(2, .inl (x37 + 1)), (3, .inl (-26)), (0, .inr (.inr a0)), (1, .inl a1)] 3 rfl (by decide) rfl dX3_readTests_79 ?_
                  refine g_goto C 12 (by decide) dX3_readTests_82 ?_
                  refine GW.sub [2, 3, 0] rfl ?_
                  have e131 : Tg h115 v1 = 2006 := (fxT F119 e113)
                  exact ih40 _ (by omega) (x37 + 1) h115 rfl O118 (((F43.call F73 rfl).call F93 rfl).call F119 rfl) (iw f130 (by decide) (by decide)) (by unfold RInv; rw [e122, e123, e124, e125]; exact ⟨e131, p121.2.1, p126, p127⟩)
                · exact (no_eq f120 (il 0) q129 (by decide)).elim
            · refine g_bipush C (by decide) dX3_readTests_49 ?_
              refine g_goto C 56 (by decide) dX3_readTests_51 ?_
              refine g_istore_n C [(3, .inl (-25)), (0, .inr (.inr a0)), (1, .inl a1), (2, .inl x37)] rfl (by decide) rfl dX3_readTests_56 ?_
              refine g_aload_n C rfl 1 rfl dX3_readTests_57 ?_
              have e132 : Tg h38 v1 = 2006 := (fxT F43 (fxT F19 t3))
              refine g_callV (st := []) (gc_V C lk_LandSurvey_Reader_46 (k_X3_advance l D cy w z0 O42 e49 (by unfold RInv; rw [e46, e48, e52, e55]; exact ⟨e132, p45.2.1, p56, p57⟩)) e49 rfl rfl rfl ⟨by decide, by decide⟩ (Nat.le_of_ble_eq_true rfl) dX3_readTests_58 ⟨(by decide), (by decide)⟩) (fun h134 K135 => ?_)
              obtain ⟨O137, F138, p139⟩ := K135
              have e140 : Rv h134 a0 13 = v1 := ((fxR F138 e49 rfl).trans e46)
              obtain ⟨v141, e142⟩ : ∃ z, Iv h134 a0 4 = z := ⟨_, rfl⟩
              have e143 : Tg h134 a0 = 4 := (fxT F138 e49)
              have f144 := ok_I O137 e143 rI_4_4 e142
              obtain ⟨v145, e146⟩ : ∃ z, Jv h134 a0 5 = z := ⟨_, rfl⟩
              have f147 := inL_J O137 e146
              obtain ⟨v148, e149⟩ : ∃ z, Rv h134 a0 6 = z := ⟨_, rfl⟩
              have p150 := p139.2.2.1
              rw [e142, e146] at p150
              have p151 := p139.2.2.2
              rw [e149] at p151
              refine g_aload_n C rfl 1 rfl dX3_readTests_61 ?_
              refine g_iload_n C rfl 2 rfl dX3_readTests_62 ?_
              have e152 : Tg h134 v1 = 2006 := (fxT F138 e132)
              refine g_callI (st := []) (gc_V C lk_LandSurvey_Reader_235 (k_readTest_4 l D cy w z0 O137 e143 fa1 (by unfold RInv; rw [e140, e142, e146, e149]; exact ⟨e152, p139.2.1, p150, p151⟩)) e143 rfl rfl rfl ⟨by decide, by decide⟩ (Nat.le_of_ble_eq_true rfl) dX3_readTests_63 ⟨(by decide), (by decide)⟩) (fun r153 h154 f156 K155 => ?_)
              obtain ⟨O157, F158, f159, p160⟩ := K155
              have e161 : Rv h154 a0 13 = v1 := ((fxR F158 e143 rfl).trans e140)
              obtain ⟨v162, e163⟩ : ∃ z, Iv h154 a0 4 = z := ⟨_, rfl⟩
              have e164 : Tg h154 a0 = 4 := (fxT F158 e143)
              have f165 := ok_I O157 e164 rI_4_4 e163
              obtain ⟨v166, e167⟩ : ∃ z, Jv h154 a0 5 = z := ⟨_, rfl⟩
              have f168 := inL_J O157 e167
              obtain ⟨v169, e170⟩ : ∃ z, Rv h154 a0 6 = z := ⟨_, rfl⟩
              have p171 := p160.2.2.1
              rw [e163, e167] at p171
              have p172 := p160.2.2.2
              rw [e170] at p172
              refine g_if_eq C (iw f159 (by decide) (by decide)) 77 (by decide) dX3_readTests_66 (fun q173 => ?_) (fun q174 => ?_)
              · have f175 : (0 : Int) ≤ r153 ∧ r153 ≤ (0 : Int) := ii f159 (r_eq (il 0) q173) (by decide) (by decide)
                refine g_iconst C dX3_readTests_77 ?_
                have e176 : Tg h154 v1 = 2006 := (fxT F158 e152)
                exact g_iret C hr (nar_z2 (iw (il 0) (by decide) (by decide))).1 (iw (il 0) (by decide) (by decide)) ⟨O157, (((((Fx.rf (wr := wr_k_readTests_4)).call F19 rfl).call F43 rfl).call F138 rfl).call F158 rfl), (iw (il 0) (by decide) (by decide)), (by unfold RInv; rw [e161, e163, e167, e170]; exact ⟨e176, p160.2.1, p171, p172⟩)⟩ (by decide) (by decide) dX3_readTests_78
              · have f177 : (1 : Int) ≤ r153 ∧ r153 ≤ (1 : Int) := r_nl f159 q174
                refine g_aload_n C rfl 1 rfl dX3_readTests_69 ?_
                refine g_iload_n C rfl 0 rfl dX3_readTests_70 ?_
                have e178 : Tg h154 v1 = 2006 := (fxT F158 e152)
                refine g_callI (st := []) (gc_V C lk_LandSurvey_Reader_244 (k_X3_emit l D cy w z0 O157 e164 (iw (il (-25)) (by decide) (by decide)) (by unfold RInv; rw [e161, e163, e167, e170]; exact ⟨e178, p160.2.1, p171, p172⟩) (by omega)) e164 rfl rfl rfl ⟨by decide, by decide⟩ (Nat.le_of_ble_eq_true rfl) dX3_readTests_71 ⟨(by decide), (by decide)⟩) (fun r179 h180 f182 K181 => ?_)
                obtain ⟨O183, F184, f185, p186⟩ := K181
                have e187 : Rv h180 a0 13 = v1 := ((fxR F184 e164 rfl).trans e161)
                have e188 : Iv h180 a0 4 = v162 := ((fxI F184 e164 rfl).trans e163)
                have e189 : Jv h180 a0 5 = v166 := ((fxJ F184 e164 rfl).trans e167)
                have e190 : Rv h180 a0 6 = v169 := ((fxR F184 e164 rfl).trans e170)
                have p191 := p186.2.2.1
                rw [e188, e189] at p191
                have p192 := p186.2.2.2
                rw [e190] at p192
                refine g_if_ne C (iw f185 (by decide) (by decide)) 79 (by decide) dX3_readTests_74 (fun q193 => ?_) (fun q194 => ?_)
                · have f195 : (1 : Int) ≤ (x37 + 1) ∧ (x37 + 1) ≤ (1501 : Int) := ia_add f62 (il 1) (by decide) (by decide)
                  refine g_iinc C [(2, .inl (x37 + 1)), (3, .inl (-25)), (0, .inr (.inr a0)), (1, .inl a1)] 3 rfl (by decide) rfl dX3_readTests_79 ?_
                  refine g_goto C 12 (by decide) dX3_readTests_82 ?_
                  refine GW.sub [2, 3, 0] rfl ?_
                  have e196 : Tg h180 v1 = 2006 := (fxT F184 e178)
                  exact ih40 _ (by omega) (x37 + 1) h180 rfl O183 (((F43.call F138 rfl).call F158 rfl).call F184 rfl) (iw f195 (by decide) (by decide)) (by unfold RInv; rw [e187, e188, e189, e190]; exact ⟨e196, p186.2.1, p191, p192⟩)
                · exact (no_eq f185 (il 0) q194 (by decide)).elim
          · refine g_aload_n C rfl 0 rfl dX3_readTests_29 ?_
            refine gf_R C fk_LandSurvey_Reader_69 rfl e49 e55 dX3_readTests_30 ?_
            refine g_gets (x := .inr (.inr (w 16 + 1))) C (C.2.2.2.2.2.2.1.1 16 (by decide)).1 kw_847 dX3_readTests_33 ?_
            refine g_acmp_ne C 85 (by decide) dX3_readTests_36 (fun q197 => ?_) (fun q198 => ?_)
            · refine g_iconst C dX3_readTests_85 ?_
              have e199 : Tg h38 v1 = 2006 := (fxT F43 (fxT F19 t3))
              exact g_iret C hr (nar_z2 (iw (il 1) (by decide) (by decide))).1 (iw (il 1) (by decide) (by decide)) ⟨O42, (((Fx.rf (wr := wr_k_readTests_4)).call F19 rfl).call F43 rfl), (iw (il 1) (by decide) (by decide)), (by unfold RInv; rw [e46, e48, e52, e55]; exact ⟨e199, p45.2.1, p56, p57⟩)⟩ (by decide) (by decide) dX3_readTests_86
            · refine g_aload_n C rfl 0 rfl dX3_readTests_39 ?_
              refine gf_R C fk_LandSurvey_Reader_69 rfl e49 e55 dX3_readTests_40 ?_
              refine g_gets (x := .inr (.inr (w 15 + 1))) C (C.2.2.2.2.2.2.1.1 15 (by decide)).1 kw_845 dX3_readTests_43 ?_
              refine g_acmp_ne C 54 (by decide) dX3_readTests_46 (fun q200 => ?_) (fun q201 => ?_)
              · refine g_bipush C (by decide) dX3_readTests_54 ?_
                refine g_istore_n C [(3, .inl (-26)), (0, .inr (.inr a0)), (1, .inl a1), (2, .inl x37)] rfl (by decide) rfl dX3_readTests_56 ?_
                refine g_aload_n C rfl 1 rfl dX3_readTests_57 ?_
                have e202 : Tg h38 v1 = 2006 := (fxT F43 (fxT F19 t3))
                refine g_callV (st := []) (gc_V C lk_LandSurvey_Reader_46 (k_X3_advance l D cy w z0 O42 e49 (by unfold RInv; rw [e46, e48, e52, e55]; exact ⟨e202, p45.2.1, p56, p57⟩)) e49 rfl rfl rfl ⟨by decide, by decide⟩ (Nat.le_of_ble_eq_true rfl) dX3_readTests_58 ⟨(by decide), (by decide)⟩) (fun h204 K205 => ?_)
                obtain ⟨O207, F208, p209⟩ := K205
                have e210 : Rv h204 a0 13 = v1 := ((fxR F208 e49 rfl).trans e46)
                obtain ⟨v211, e212⟩ : ∃ z, Iv h204 a0 4 = z := ⟨_, rfl⟩
                have e213 : Tg h204 a0 = 4 := (fxT F208 e49)
                have f214 := ok_I O207 e213 rI_4_4 e212
                obtain ⟨v215, e216⟩ : ∃ z, Jv h204 a0 5 = z := ⟨_, rfl⟩
                have f217 := inL_J O207 e216
                obtain ⟨v218, e219⟩ : ∃ z, Rv h204 a0 6 = z := ⟨_, rfl⟩
                have p220 := p209.2.2.1
                rw [e212, e216] at p220
                have p221 := p209.2.2.2
                rw [e219] at p221
                refine g_aload_n C rfl 1 rfl dX3_readTests_61 ?_
                refine g_iload_n C rfl 2 rfl dX3_readTests_62 ?_
                have e222 : Tg h204 v1 = 2006 := (fxT F208 e202)
                refine g_callI (st := []) (gc_V C lk_LandSurvey_Reader_235 (k_readTest_4 l D cy w z0 O207 e213 fa1 (by unfold RInv; rw [e210, e212, e216, e219]; exact ⟨e222, p209.2.1, p220, p221⟩)) e213 rfl rfl rfl ⟨by decide, by decide⟩ (Nat.le_of_ble_eq_true rfl) dX3_readTests_63 ⟨(by decide), (by decide)⟩) (fun r223 h224 f226 K225 => ?_)
                obtain ⟨O227, F228, f229, p230⟩ := K225
                have e231 : Rv h224 a0 13 = v1 := ((fxR F228 e213 rfl).trans e210)
                obtain ⟨v232, e233⟩ : ∃ z, Iv h224 a0 4 = z := ⟨_, rfl⟩
                have e234 : Tg h224 a0 = 4 := (fxT F228 e213)
                have f235 := ok_I O227 e234 rI_4_4 e233
                obtain ⟨v236, e237⟩ : ∃ z, Jv h224 a0 5 = z := ⟨_, rfl⟩
                have f238 := inL_J O227 e237
                obtain ⟨v239, e240⟩ : ∃ z, Rv h224 a0 6 = z := ⟨_, rfl⟩
                have p241 := p230.2.2.1
                rw [e233, e237] at p241
                have p242 := p230.2.2.2
                rw [e240] at p242
                refine g_if_eq C (iw f229 (by decide) (by decide)) 77 (by decide) dX3_readTests_66 (fun q243 => ?_) (fun q244 => ?_)
                · have f245 : (0 : Int) ≤ r223 ∧ r223 ≤ (0 : Int) := ii f229 (r_eq (il 0) q243) (by decide) (by decide)
                  refine g_iconst C dX3_readTests_77 ?_
                  have e246 : Tg h224 v1 = 2006 := (fxT F228 e222)
                  exact g_iret C hr (nar_z2 (iw (il 0) (by decide) (by decide))).1 (iw (il 0) (by decide) (by decide)) ⟨O227, (((((Fx.rf (wr := wr_k_readTests_4)).call F19 rfl).call F43 rfl).call F208 rfl).call F228 rfl), (iw (il 0) (by decide) (by decide)), (by unfold RInv; rw [e231, e233, e237, e240]; exact ⟨e246, p230.2.1, p241, p242⟩)⟩ (by decide) (by decide) dX3_readTests_78
                · have f247 : (1 : Int) ≤ r223 ∧ r223 ≤ (1 : Int) := r_nl f229 q244
                  refine g_aload_n C rfl 1 rfl dX3_readTests_69 ?_
                  refine g_iload_n C rfl 0 rfl dX3_readTests_70 ?_
                  have e248 : Tg h224 v1 = 2006 := (fxT F228 e222)
                  refine g_callI (st := []) (gc_V C lk_LandSurvey_Reader_244 (k_X3_emit l D cy w z0 O227 e234 (iw (il (-26)) (by decide) (by decide)) (by unfold RInv; rw [e231, e233, e237, e240]; exact ⟨e248, p230.2.1, p241, p242⟩) (by omega)) e234 rfl rfl rfl ⟨by decide, by decide⟩ (Nat.le_of_ble_eq_true rfl) dX3_readTests_71 ⟨(by decide), (by decide)⟩) (fun r249 h250 f252 K251 => ?_)
                  obtain ⟨O253, F254, f255, p256⟩ := K251
                  have e257 : Rv h250 a0 13 = v1 := ((fxR F254 e234 rfl).trans e231)
                  have e258 : Iv h250 a0 4 = v232 := ((fxI F254 e234 rfl).trans e233)
                  have e259 : Jv h250 a0 5 = v236 := ((fxJ F254 e234 rfl).trans e237)
                  have e260 : Rv h250 a0 6 = v239 := ((fxR F254 e234 rfl).trans e240)
                  have p261 := p256.2.2.1
                  rw [e258, e259] at p261
                  have p262 := p256.2.2.2
                  rw [e260] at p262
                  refine g_if_ne C (iw f255 (by decide) (by decide)) 79 (by decide) dX3_readTests_74 (fun q263 => ?_) (fun q264 => ?_)
                  · have f265 : (1 : Int) ≤ (x37 + 1) ∧ (x37 + 1) ≤ (1501 : Int) := ia_add f62 (il 1) (by decide) (by decide)
                    refine g_iinc C [(2, .inl (x37 + 1)), (3, .inl (-26)), (0, .inr (.inr a0)), (1, .inl a1)] 3 rfl (by decide) rfl dX3_readTests_79 ?_
                    refine g_goto C 12 (by decide) dX3_readTests_82 ?_
                    refine GW.sub [2, 3, 0] rfl ?_
                    have e266 : Tg h250 v1 = 2006 := (fxT F254 e248)
                    exact ih40 _ (by omega) (x37 + 1) h250 rfl O253 (((F43.call F208 rfl).call F228 rfl).call F254 rfl) (iw f265 (by decide) (by decide)) (by unfold RInv; rw [e257, e258, e259, e260]; exact ⟨e266, p256.2.1, p261, p262⟩)
                  · exact (no_eq f255 (il 0) q264 (by decide)).elim
              · refine g_bipush C (by decide) dX3_readTests_49 ?_
                refine g_goto C 56 (by decide) dX3_readTests_51 ?_
                refine g_istore_n C [(3, .inl (-25)), (0, .inr (.inr a0)), (1, .inl a1), (2, .inl x37)] rfl (by decide) rfl dX3_readTests_56 ?_
                refine g_aload_n C rfl 1 rfl dX3_readTests_57 ?_
                have e267 : Tg h38 v1 = 2006 := (fxT F43 (fxT F19 t3))
                refine g_callV (st := []) (gc_V C lk_LandSurvey_Reader_46 (k_X3_advance l D cy w z0 O42 e49 (by unfold RInv; rw [e46, e48, e52, e55]; exact ⟨e267, p45.2.1, p56, p57⟩)) e49 rfl rfl rfl ⟨by decide, by decide⟩ (Nat.le_of_ble_eq_true rfl) dX3_readTests_58 ⟨(by decide), (by decide)⟩) (fun h269 K270 => ?_)
                obtain ⟨O272, F273, p274⟩ := K270
                have e275 : Rv h269 a0 13 = v1 := ((fxR F273 e49 rfl).trans e46)
                obtain ⟨v276, e277⟩ : ∃ z, Iv h269 a0 4 = z := ⟨_, rfl⟩
                have e278 : Tg h269 a0 = 4 := (fxT F273 e49)
                have f279 := ok_I O272 e278 rI_4_4 e277
                obtain ⟨v280, e281⟩ : ∃ z, Jv h269 a0 5 = z := ⟨_, rfl⟩
                have f282 := inL_J O272 e281
                obtain ⟨v283, e284⟩ : ∃ z, Rv h269 a0 6 = z := ⟨_, rfl⟩
                have p285 := p274.2.2.1
                rw [e277, e281] at p285
                have p286 := p274.2.2.2
                rw [e284] at p286
                refine g_aload_n C rfl 1 rfl dX3_readTests_61 ?_
                refine g_iload_n C rfl 2 rfl dX3_readTests_62 ?_
                have e287 : Tg h269 v1 = 2006 := (fxT F273 e267)
                refine g_callI (st := []) (gc_V C lk_LandSurvey_Reader_235 (k_readTest_4 l D cy w z0 O272 e278 fa1 (by unfold RInv; rw [e275, e277, e281, e284]; exact ⟨e287, p274.2.1, p285, p286⟩)) e278 rfl rfl rfl ⟨by decide, by decide⟩ (Nat.le_of_ble_eq_true rfl) dX3_readTests_63 ⟨(by decide), (by decide)⟩) (fun r288 h289 f291 K290 => ?_)
                obtain ⟨O292, F293, f294, p295⟩ := K290
                have e296 : Rv h289 a0 13 = v1 := ((fxR F293 e278 rfl).trans e275)
                obtain ⟨v297, e298⟩ : ∃ z, Iv h289 a0 4 = z := ⟨_, rfl⟩
                have e299 : Tg h289 a0 = 4 := (fxT F293 e278)
                have f300 := ok_I O292 e299 rI_4_4 e298
                obtain ⟨v301, e302⟩ : ∃ z, Jv h289 a0 5 = z := ⟨_, rfl⟩
                have f303 := inL_J O292 e302
                obtain ⟨v304, e305⟩ : ∃ z, Rv h289 a0 6 = z := ⟨_, rfl⟩
                have p306 := p295.2.2.1
                rw [e298, e302] at p306
                have p307 := p295.2.2.2
                rw [e305] at p307
                refine g_if_eq C (iw f294 (by decide) (by decide)) 77 (by decide) dX3_readTests_66 (fun q308 => ?_) (fun q309 => ?_)
                · have f310 : (0 : Int) ≤ r288 ∧ r288 ≤ (0 : Int) := ii f294 (r_eq (il 0) q308) (by decide) (by decide)
                  refine g_iconst C dX3_readTests_77 ?_
                  have e311 : Tg h289 v1 = 2006 := (fxT F293 e287)
                  exact g_iret C hr (nar_z2 (iw (il 0) (by decide) (by decide))).1 (iw (il 0) (by decide) (by decide)) ⟨O292, (((((Fx.rf (wr := wr_k_readTests_4)).call F19 rfl).call F43 rfl).call F273 rfl).call F293 rfl), (iw (il 0) (by decide) (by decide)), (by unfold RInv; rw [e296, e298, e302, e305]; exact ⟨e311, p295.2.1, p306, p307⟩)⟩ (by decide) (by decide) dX3_readTests_78
                · have f312 : (1 : Int) ≤ r288 ∧ r288 ≤ (1 : Int) := r_nl f294 q309
                  refine g_aload_n C rfl 1 rfl dX3_readTests_69 ?_
                  refine g_iload_n C rfl 0 rfl dX3_readTests_70 ?_
                  have e313 : Tg h289 v1 = 2006 := (fxT F293 e287)
                  refine g_callI (st := []) (gc_V C lk_LandSurvey_Reader_244 (k_X3_emit l D cy w z0 O292 e299 (iw (il (-25)) (by decide) (by decide)) (by unfold RInv; rw [e296, e298, e302, e305]; exact ⟨e313, p295.2.1, p306, p307⟩) (by omega)) e299 rfl rfl rfl ⟨by decide, by decide⟩ (Nat.le_of_ble_eq_true rfl) dX3_readTests_71 ⟨(by decide), (by decide)⟩) (fun r314 h315 f317 K316 => ?_)
                  obtain ⟨O318, F319, f320, p321⟩ := K316
                  have e322 : Rv h315 a0 13 = v1 := ((fxR F319 e299 rfl).trans e296)
                  have e323 : Iv h315 a0 4 = v297 := ((fxI F319 e299 rfl).trans e298)
                  have e324 : Jv h315 a0 5 = v301 := ((fxJ F319 e299 rfl).trans e302)
                  have e325 : Rv h315 a0 6 = v304 := ((fxR F319 e299 rfl).trans e305)
                  have p326 := p321.2.2.1
                  rw [e323, e324] at p326
                  have p327 := p321.2.2.2
                  rw [e325] at p327
                  refine g_if_ne C (iw f320 (by decide) (by decide)) 79 (by decide) dX3_readTests_74 (fun q328 => ?_) (fun q329 => ?_)
                  · have f330 : (1 : Int) ≤ (x37 + 1) ∧ (x37 + 1) ≤ (1501 : Int) := ia_add f62 (il 1) (by decide) (by decide)
                    refine g_iinc C [(2, .inl (x37 + 1)), (3, .inl (-25)), (0, .inr (.inr a0)), (1, .inl a1)] 3 rfl (by decide) rfl dX3_readTests_79 ?_
                    refine g_goto C 12 (by decide) dX3_readTests_82 ?_
                    refine GW.sub [2, 3, 0] rfl ?_
                    have e331 : Tg h315 v1 = 2006 := (fxT F319 e313)
                    exact ih40 _ (by omega) (x37 + 1) h315 rfl O318 (((F43.call F273 rfl).call F293 rfl).call F319 rfl) (iw f330 (by decide) (by decide)) (by unfold RInv; rw [e322, e323, e324, e325]; exact ⟨e331, p321.2.1, p326, p327⟩)
                  · exact (no_eq f320 (il 0) q329 (by decide)).elim
    have e332 : Tg h15 v1 = 2006 := (fxT F19 t3)
    exact L39 _ 0 h15 rfl O18 Fx.rf (iw (il 0) (by decide) (by decide)) (by unfold RInv; rw [e22, e24, e28, e31]; exact ⟨e332, p21.2.1, p32, p33⟩)
  · have f333 : (0 : Int) ≤ r14 ∧ r14 ≤ (0 : Int) := ii f20 (r_eq (il 0) q35) (by decide) (by decide)
    refine g_iconst C dX3_readTests_8 ?_
    have e334 : Tg h15 v1 = 2006 := (fxT F19 t3)
    exact g_iret C hr (nar_z2 (iw (il 0) (by decide) (by decide))).1 (iw (il 0) (by decide) (by decide)) ⟨O18, ((Fx.rf (wr := wr_k_readTests_4)).call F19 rfl), (iw (il 0) (by decide) (by decide)), (by unfold RInv; rw [e22, e24, e28, e31]; exact ⟨e334, p21.2.1, p32, p33⟩)⟩ (by decide) (by decide) dX3_readTests_9
def wr_k_readFact_3 : List Nat := [802, 803, 804, 805, 806, 807, 812, 4020000]
set_option maxRecDepth 100000 in
set_option maxHeartbeats 4000000 in
theorem k_readFact_3 (l : Launch) (D : va_G) (cy : Nat → ClassId) (w : Nat → Nat) (z0 : Nat)  {h : Hp} {a0 : Nat} {a1 : Int}  (O : Okh h) (ta0 : Tg h a0 = 4) (fa1 : 3 ≤ a1 ∧ a1 ≤ 3) (P_RInv : RInv w h a0) : MI l D cy w z0 yX3_readFact cX3_readFact 4 (some .boolean) 10 224 0 0 [.inr (.inr a0), .inl a1] h (fun v h1 => Okh h1 ∧ Fx wr_k_readFact_3 h h1 ∧ (0 ≤ v ∧ v ≤ 1) ∧ (RInv w h1 a0)) := by
  obtain ⟨v1, e2⟩ : ∃ z, Rv h a0 13 = z := ⟨_, rfl⟩
  have t3 := P_RInv.1
  rw [e2] at t3
  obtain ⟨v4, e5⟩ : ∃ z, Iv h a0 4 = z := ⟨_, rfl⟩
  have f6 := ok_I O ta0 rI_4_4 e5
  obtain ⟨v7, e8⟩ : ∃ z, Jv h a0 5 = z := ⟨_, rfl⟩
  have f9 := inL_J O e8
  obtain ⟨v10, e11⟩ : ∃ z, Rv h a0 6 = z := ⟨_, rfl⟩
  have p12 := P_RInv.2.2.1
  rw [e5, e8] at p12
  have p13 := P_RInv.2.2.2
  rw [e11] at p13
  refine hm_go (by decide +kernel) (Nat.le_of_ble_eq_true rfl) (fun p e s m below meth c C hr hn => ?_)
  refine g_aload_n C rfl 0 rfl dX3_readFact_0 ?_
  refine gf_I C fk_LandSurvey_Reader_49 rfl ta0 e5 dX3_readFact_1 ?_
  refine g_iconst C dX3_readFact_4 ?_
  refine g_icmp_eq C (iw f6 (by decide) (by decide)) (iw (il 2) (by decide) (by decide)) 26 (by decide) dX3_readFact_5 (fun q14 => ?_) (fun q15 => ?_)
  · have f16 : (2 : Int) ≤ v4 ∧ v4 ≤ (2 : Int) := ii f6 (r_eq (il 2) q14) (by decide) (by decide)
    refine g_iconst C dX3_readFact_26 ?_
    refine g_goto C 31 (by decide) dX3_readFact_27 ?_
    refine g_istore_n C [(2, .inl 1), (0, .inr (.inr a0)), (1, .inl a1)] rfl (by decide) rfl dX3_readFact_31 ?_
    refine g_aload_n C rfl 1 rfl dX3_readFact_32 ?_
    refine gf_R C fk_LandSurvey_Reader_69 rfl ta0 e11 dX3_readFact_33 ?_
    refine g_gets (x := .inr (.inr (w 17 + 1))) C (C.2.2.2.2.2.2.1.1 17 (by decide)).1 kw_839 dX3_readFact_36 ?_
    refine g_acmp_ne C 46 (by decide) dX3_readFact_39 (fun q17 => ?_) (fun q18 => ?_)
    · refine g_iconst C dX3_readFact_46 ?_
      refine g_istore_n C [(3, .inl 0), (2, .inl 1), (0, .inr (.inr a0)), (1, .inl a1)] rfl (by decide) rfl dX3_readFact_47 ?_
      refine g_iload_n C rfl 1 rfl dX3_readFact_48 ?_
      refine g_if_ne C (iw (il 1) (by decide) (by decide)) 71 (by decide) dX3_readFact_49 (fun q19 => ?_) (fun q20 => ?_)
      · refine g_iload_n C rfl 3 rfl dX3_readFact_71 ?_
        refine g_iconst C dX3_readFact_72 ?_
        refine g_icmp_lt C (iw fa1 (by decide) (by decide)) (iw (il 4) (by decide) (by decide)) 82 (by decide) dX3_readFact_73 (fun q21 => ?_) (fun q22 => ?_)
        · refine g_iload_n C rfl 1 rfl dX3_readFact_82 ?_
          refine g_if_eq C (iw (il 1) (by decide) (by decide)) 122 (by decide) dX3_readFact_83 (fun q23 => ?_) (fun q24 => ?_)
          · exact (no_eq (il 1) (il 0) q23 (by decide)).elim
          · refine g_aload_n C rfl 2 rfl dX3_readFact_86 ?_
            refine g_aload_n C rfl 2 rfl dX3_readFact_87 ?_
            refine gf_I C fk_LandSurvey_Reader_49 rfl ta0 e5 dX3_readFact_88 ?_
            refine g_iconst C dX3_readFact_91 ?_
            refine g_icmp_ne C (iw f16 (by decide) (by decide)) (iw (il 2) (by decide) (by decide)) 103 (by decide) dX3_readFact_92 (fun q25 => ?_) (fun q26 => ?_)
            · exact (no_ne f16 (il 2) q25 (by decide)).elim
            · have f27 : (0 : Int) ≤ v7 ∧ v7 ≤ (9999 : Int) := by omega
              refine g_aload_n C rfl 2 rfl dX3_readFact_95 ?_
              refine gf_J C fk_LandSurvey_Reader_73 rfl ta0 e8 dX3_readFact_96 ?_
              refine g_l2i C dX3_readFact_99 ?_
              have f28 : (0 : Int) ≤ (l2w v7) ∧ (l2w v7) ≤ (9999 : Int) := l2w_in f27 (by decide) (by decide)
              refine g_goto C 112 (by decide) dX3_readFact_100 ?_
              refine g_callI (st := []) (gc_V C lk_LandSurvey_Reader_244 (k_X3_emit l D cy w z0 O ta0 (iw f28 (by decide) (by decide)) (by unfold RInv; rw [e2, e5, e8, e11]; exact ⟨t3, P_RInv.2.1, p12, p13⟩) (by omega)) ta0 rfl rfl rfl ⟨by decide, by decide⟩ (Nat.le_of_ble_eq_true rfl) dX3_readFact_112 ⟨(by decide), (by decide)⟩) (fun r29 h30 f32 K31 => ?_)
              obtain ⟨O33, F34, f35, p36⟩ := K31
              have e37 : Rv h30 a0 13 = v1 := ((fxR F34 ta0 rfl).trans e2)
              have e38 : Iv h30 a0 4 = v4 := ((fxI F34 ta0 rfl).trans e5)
              have e39 : Jv h30 a0 5 = v7 := ((fxJ F34 ta0 rfl).trans e8)
              have e40 : Rv h30 a0 6 = v10 := ((fxR F34 ta0 rfl).trans e11)
              have p41 := p36.2.2.1
              rw [e38, e39] at p41
              have p42 := p36.2.2.2
              rw [e40] at p42
              refine g_pop C rfl dX3_readFact_115 ?_
              refine g_aload_n C rfl 2 rfl dX3_readFact_116 ?_
              have e43 : Tg h30 a0 = 4 := (fxT F34 ta0)
              have e44 : Tg h30 v1 = 2006 := (fxT F34 t3)
              refine g_callV (st := []) (gc_V C lk_LandSurvey_Reader_46 (k_X3_advance l D cy w z0 O33 e43 (by unfold RInv; rw [e37, e38, e39, e40]; exact ⟨e44, p36.2.1, p41, p42⟩)) e43 rfl rfl rfl ⟨by decide, by decide⟩ (Nat.le_of_ble_eq_true rfl) dX3_readFact_117 ⟨(by decide), (by decide)⟩) (fun h46 K47 => ?_)
              obtain ⟨O49, F50, p51⟩ := K47
              have e52 : Rv h46 a0 13 = v1 := ((fxR F50 e43 rfl).trans e37)
              obtain ⟨v53, e54⟩ : ∃ z, Iv h46 a0 4 = z := ⟨_, rfl⟩
              have e55 : Tg h46 a0 = 4 := (fxT F50 e43)
              have f56 := ok_I O49 e55 rI_4_4 e54
              obtain ⟨v57, e58⟩ : ∃ z, Jv h46 a0 5 = z := ⟨_, rfl⟩
              have f59 := inL_J O49 e58
              obtain ⟨v60, e61⟩ : ∃ z, Rv h46 a0 6 = z := ⟨_, rfl⟩
              have p62 := p51.2.2.1
              rw [e54, e58] at p62
              have p63 := p51.2.2.2
              rw [e61] at p63
              refine g_iconst C dX3_readFact_120 ?_
              have e64 : Tg h46 v1 = 2006 := (fxT F50 e44)
              exact g_iret C hr (nar_z2 (iw (il 1) (by decide) (by decide))).1 (iw (il 1) (by decide) (by decide)) ⟨O49, (((Fx.rf (wr := wr_k_readFact_3)).call F34 rfl).call F50 rfl), (iw (il 1) (by decide) (by decide)), (by unfold RInv; rw [e52, e54, e58, e61]; exact ⟨e64, p51.2.1, p62, p63⟩)⟩ (by decide) (by decide) dX3_readFact_121
        · exact (no_le (il 4) fa1 q22 (by decide)).elim
      · exact (no_eq (il 1) (il 0) q20 (by decide)).elim
    · refine g_iconst C dX3_readFact_42 ?_
      refine g_goto C 47 (by decide) dX3_readFact_43 ?_
      refine g_istore_n C [(3, .inl 1), (2, .inl 1), (0, .inr (.inr a0)), (1, .inl a1)] rfl (by decide) rfl dX3_readFact_47 ?_
      refine g_iload_n C rfl 1 rfl dX3_readFact_48 ?_
      refine g_if_ne C (iw (il 1) (by decide) (by decide)) 71 (by decide) dX3_readFact_49 (fun q65 => ?_) (fun q66 => ?_)
      · refine g_iload_n C rfl 3 rfl dX3_readFact_71 ?_
        refine g_iconst C dX3_readFact_72 ?_
        refine g_icmp_lt C (iw fa1 (by decide) (by decide)) (iw (il 4) (by decide) (by decide)) 82 (by decide) dX3_readFact_73 (fun q67 => ?_) (fun q68 => ?_)
        · refine g_iload_n C rfl 1 rfl dX3_readFact_82 ?_
          refine g_if_eq C (iw (il 1) (by decide) (by decide)) 122 (by decide) dX3_readFact_83 (fun q69 => ?_) (fun q70 => ?_)
          · exact (no_eq (il 1) (il 0) q69 (by decide)).elim
          · refine g_aload_n C rfl 2 rfl dX3_readFact_86 ?_
            refine g_aload_n C rfl 2 rfl dX3_readFact_87 ?_
            refine gf_I C fk_LandSurvey_Reader_49 rfl ta0 e5 dX3_readFact_88 ?_
            refine g_iconst C dX3_readFact_91 ?_
            refine g_icmp_ne C (iw f16 (by decide) (by decide)) (iw (il 2) (by decide) (by decide)) 103 (by decide) dX3_readFact_92 (fun q71 => ?_) (fun q72 => ?_)
            · exact (no_ne f16 (il 2) q71 (by decide)).elim
            · have f73 : (0 : Int) ≤ v7 ∧ v7 ≤ (9999 : Int) := by omega
              refine g_aload_n C rfl 2 rfl dX3_readFact_95 ?_
              refine gf_J C fk_LandSurvey_Reader_73 rfl ta0 e8 dX3_readFact_96 ?_
              refine g_l2i C dX3_readFact_99 ?_
              have f74 : (0 : Int) ≤ (l2w v7) ∧ (l2w v7) ≤ (9999 : Int) := l2w_in f73 (by decide) (by decide)
              refine g_goto C 112 (by decide) dX3_readFact_100 ?_
              refine g_callI (st := []) (gc_V C lk_LandSurvey_Reader_244 (k_X3_emit l D cy w z0 O ta0 (iw f74 (by decide) (by decide)) (by unfold RInv; rw [e2, e5, e8, e11]; exact ⟨t3, P_RInv.2.1, p12, p13⟩) (by omega)) ta0 rfl rfl rfl ⟨by decide, by decide⟩ (Nat.le_of_ble_eq_true rfl) dX3_readFact_112 ⟨(by decide), (by decide)⟩) (fun r75 h76 f78 K77 => ?_)
              obtain ⟨O79, F80, f81, p82⟩ := K77
              have e83 : Rv h76 a0 13 = v1 := ((fxR F80 ta0 rfl).trans e2)
              have e84 : Iv h76 a0 4 = v4 := ((fxI F80 ta0 rfl).trans e5)
              have e85 : Jv h76 a0 5 = v7 := ((fxJ F80 ta0 rfl).trans e8)
              have e86 : Rv h76 a0 6 = v10 := ((fxR F80 ta0 rfl).trans e11)
              have p87 := p82.2.2.1
              rw [e84, e85] at p87
              have p88 := p82.2.2.2
              rw [e86] at p88
              refine g_pop C rfl dX3_readFact_115 ?_
              refine g_aload_n C rfl 2 rfl dX3_readFact_116 ?_
              have e89 : Tg h76 a0 = 4 := (fxT F80 ta0)
              have e90 : Tg h76 v1 = 2006 := (fxT F80 t3)
              refine g_callV (st := []) (gc_V C lk_LandSurvey_Reader_46 (k_X3_advance l D cy w z0 O79 e89 (by unfold RInv; rw [e83, e84, e85, e86]; exact ⟨e90, p82.2.1, p87, p88⟩)) e89 rfl rfl rfl ⟨by decide, by decide⟩ (Nat.le_of_ble_eq_true rfl) dX3_readFact_117 ⟨(by decide), (by decide)⟩) (fun h92 K93 => ?_)
              obtain ⟨O95, F96, p97⟩ := K93
              have e98 : Rv h92 a0 13 = v1 := ((fxR F96 e89 rfl).trans e83)
              obtain ⟨v99, e100⟩ : ∃ z, Iv h92 a0 4 = z := ⟨_, rfl⟩
              have e101 : Tg h92 a0 = 4 := (fxT F96 e89)
              have f102 := ok_I O95 e101 rI_4_4 e100
              obtain ⟨v103, e104⟩ : ∃ z, Jv h92 a0 5 = z := ⟨_, rfl⟩
              have f105 := inL_J O95 e104
              obtain ⟨v106, e107⟩ : ∃ z, Rv h92 a0 6 = z := ⟨_, rfl⟩
              have p108 := p97.2.2.1
              rw [e100, e104] at p108
              have p109 := p97.2.2.2
              rw [e107] at p109
              refine g_iconst C dX3_readFact_120 ?_
              have e110 : Tg h92 v1 = 2006 := (fxT F96 e90)
              exact g_iret C hr (nar_z2 (iw (il 1) (by decide) (by decide))).1 (iw (il 1) (by decide) (by decide)) ⟨O95, (((Fx.rf (wr := wr_k_readFact_3)).call F80 rfl).call F96 rfl), (iw (il 1) (by decide) (by decide)), (by unfold RInv; rw [e98, e100, e104, e107]; exact ⟨e110, p97.2.1, p108, p109⟩)⟩ (by decide) (by decide) dX3_readFact_121
        · exact (no_le (il 4) fa1 q68 (by decide)).elim
      · exact (no_eq (il 1) (il 0) q66 (by decide)).elim
  · refine g_aload_n C rfl 0 rfl dX3_readFact_8 ?_
    refine gf_R C fk_LandSurvey_Reader_69 rfl ta0 e11 dX3_readFact_9 ?_
    refine g_ifnull C 30 (by decide) dX3_readFact_12 (fun q111 => ?_) (fun q112 => ?_)
    · refine g_iconst C dX3_readFact_30 ?_
      refine g_istore_n C [(2, .inl 0), (0, .inr (.inr a0)), (1, .inl a1)] rfl (by decide) rfl dX3_readFact_31 ?_
      refine g_aload_n C rfl 1 rfl dX3_readFact_32 ?_
      refine gf_R C fk_LandSurvey_Reader_69 rfl ta0 e11 dX3_readFact_33 ?_
      refine g_gets (x := .inr (.inr (w 17 + 1))) C (C.2.2.2.2.2.2.1.1 17 (by decide)).1 kw_839 dX3_readFact_36 ?_
      refine g_acmp_ne C 46 (by decide) dX3_readFact_39 (fun q113 => ?_) (fun q114 => ?_)
      · refine g_iconst C dX3_readFact_46 ?_
        refine g_istore_n C [(3, .inl 0), (2, .inl 0), (0, .inr (.inr a0)), (1, .inl a1)] rfl (by decide) rfl dX3_readFact_47 ?_
        refine g_iload_n C rfl 1 rfl dX3_readFact_48 ?_
        refine g_if_ne C (iw (il 0) (by decide) (by decide)) 71 (by decide) dX3_readFact_49 (fun q115 => ?_) (fun q116 => ?_)
        · exact (no_ne (il 0) (il 0) q115 (by decide)).elim
        · refine g_iload_n C rfl 0 rfl dX3_readFact_52 ?_
          refine g_if_ne C (iw (il 0) (by decide) (by decide)) 71 (by decide) dX3_readFact_53 (fun q117 => ?_) (fun q118 => ?_)
          · exact (no_ne (il 0) (il 0) q117 (by decide)).elim
          · refine g_aload_n C rfl 2 rfl dX3_readFact_56 ?_
            refine g_bipush C (by decide) dX3_readFact_57 ?_
            refine g_callI (st := []) (gc_V C lk_LandSurvey_Reader_95 (k_X3_isNext l D cy w z0 O ta0 (iw (il 40) (by decide) (by decide))) ta0 rfl rfl rfl ⟨by decide, by decide⟩ (Nat.le_of_ble_eq_true rfl) dX3_readFact_59 ⟨(by decide), (by decide)⟩) (fun r119 h120 f122 K121 => ?_)
            obtain ⟨O123, F124, f125⟩ := K121
            refine g_if_ne C (iw f125 (by decide) (by decide)) 71 (by decide) dX3_readFact_62 (fun q126 => ?_) (fun q127 => ?_)
            · have f128 : (1 : Int) ≤ r119 ∧ r119 ≤ (1 : Int) := r_nl f125 q126
              refine g_iload_n C rfl 3 rfl dX3_readFact_71 ?_
              refine g_iconst C dX3_readFact_72 ?_
              refine g_icmp_lt C (iw fa1 (by decide) (by decide)) (iw (il 4) (by decide) (by decide)) 82 (by decide) dX3_readFact_73 (fun q129 => ?_) (fun q130 => ?_)
              · refine g_iload_n C rfl 1 rfl dX3_readFact_82 ?_
                refine g_if_eq C (iw (il 0) (by decide) (by decide)) 122 (by decide) dX3_readFact_83 (fun q131 => ?_) (fun q132 => ?_)
                · refine g_aload_n C rfl 2 rfl dX3_readFact_122 ?_
                  have e133 : Tg h120 a0 = 4 := (fxT F124 ta0)
                  have e134 : Rv h120 a0 13 = v1 := ((fxR F124 ta0 rfl).trans e2)
                  have e135 : Iv h120 a0 4 = v4 := ((fxI F124 ta0 rfl).trans e5)
                  have e136 : Jv h120 a0 5 = v7 := ((fxJ F124 ta0 rfl).trans e8)
                  have e137 : Rv h120 a0 6 = v10 := ((fxR F124 ta0 rfl).trans e11)
                  have e138 : Tg h120 v1 = 2006 := (fxT F124 t3)
                  have p139 := (DOk_fx O F124 ta0 (by rw [e2]; exact t3) rfl P_RInv.2.1)
                  refine g_callV (st := []) (gc_V C lk_LandSurvey_Reader_46 (k_X3_advance l D cy w z0 O123 e133 (by unfold RInv; rw [e134, e135, e136, e137]; exact ⟨e138, p139, p12, p13⟩)) e133 rfl rfl rfl ⟨by decide, by decide⟩ (Nat.le_of_ble_eq_true rfl) dX3_readFact_123 ⟨(by decide), (by decide)⟩) (fun h141 K142 => ?_)
                  obtain ⟨O144, F145, p146⟩ := K142
                  have e147 : Rv h141 a0 13 = v1 := ((fxR F145 e133 rfl).trans e134)
                  obtain ⟨v148, e149⟩ : ∃ z, Iv h141 a0 4 = z := ⟨_, rfl⟩
                  have e150 : Tg h141 a0 = 4 := (fxT F145 e133)
                  have f151 := ok_I O144 e150 rI_4_4 e149
                  obtain ⟨v152, e153⟩ : ∃ z, Jv h141 a0 5 = z := ⟨_, rfl⟩
                  have f154 := inL_J O144 e153
                  obtain ⟨v155, e156⟩ : ∃ z, Rv h141 a0 6 = z := ⟨_, rfl⟩
                  have p157 := p146.2.2.1
                  rw [e149, e153] at p157
                  have p158 := p146.2.2.2
                  rw [e156] at p158
                  refine g_iload_n C rfl 0 rfl dX3_readFact_126 ?_
                  refine g_if_eq C (iw (il 0) (by decide) (by decide)) 155 (by decide) dX3_readFact_127 (fun q159 => ?_) (fun q160 => ?_)
                  · refine g_aload_n C rfl 2 rfl dX3_readFact_155 ?_
                    refine g_iload_n C rfl 3 rfl dX3_readFact_156 ?_
                    refine g_iconst C dX3_readFact_157 ?_
                    have f161 : (4 : Int) ≤ (a1 + 1) ∧ (a1 + 1) ≤ (4 : Int) := ia_add fa1 (il 1) (by decide) (by decide)
                    refine g_iadd C dX3_readFact_158 ?_
                    have e162 : Tg h141 v1 = 2006 := (fxT F145 e138)
                    refine g_callI (st := []) (gc_V C lk_LandSurvey_Reader_196 (k_readTests_4 l D cy w z0 O144 e150 f161 (by unfold RInv; rw [e147, e149, e153, e156]; exact ⟨e162, p146.2.1, p157, p158⟩)) e150 rfl rfl rfl ⟨by decide, by decide⟩ (Nat.le_of_ble_eq_true rfl) dX3_readFact_159 ⟨(by decide), (by decide)⟩) (fun r163 h164 f166 K165 => ?_)
                    obtain ⟨O167, F168, f169, p170⟩ := K165
                    have e171 : Rv h164 a0 13 = v1 := ((fxR F168 e150 rfl).trans e147)
                    obtain ⟨v172, e173⟩ : ∃ z, Iv h164 a0 4 = z := ⟨_, rfl⟩
                    have e174 : Tg h164 a0 = 4 := (fxT F168 e150)
                    have f175 := ok_I O167 e174 rI_4_4 e173
                    obtain ⟨v176, e177⟩ : ∃ z, Jv h164 a0 5 = z := ⟨_, rfl⟩
                    have f178 := inL_J O167 e177
                    obtain ⟨v179, e180⟩ : ∃ z, Rv h164 a0 6 = z := ⟨_, rfl⟩
                    have p181 := p170.2.2.1
                    rw [e173, e177] at p181
                    have p182 := p170.2.2.2
                    rw [e180] at p182
                    refine g_if_eq C (iw f169 (by decide) (by decide)) 178 (by decide) dX3_readFact_162 (fun q183 => ?_) (fun q184 => ?_)
                    · have f185 : (0 : Int) ≤ r163 ∧ r163 ≤ (0 : Int) := ii f169 (r_eq (il 0) q183) (by decide) (by decide)
                      refine g_iconst C dX3_readFact_178 ?_
                      have e186 : Tg h164 v1 = 2006 := (fxT F168 e162)
                      exact g_iret C hr (nar_z2 (iw (il 0) (by decide) (by decide))).1 (iw (il 0) (by decide) (by decide)) ⟨O167, ((((Fx.rf (wr := wr_k_readFact_3)).call F124 rfl).call F145 rfl).call F168 rfl), (iw (il 0) (by decide) (by decide)), (by unfold RInv; rw [e171, e173, e177, e180]; exact ⟨e186, p170.2.1, p181, p182⟩)⟩ (by decide) (by decide) dX3_readFact_179
                    · have f187 : (1 : Int) ≤ r163 ∧ r163 ≤ (1 : Int) := r_nl f169 q184
                      refine g_aload_n C rfl 2 rfl dX3_readFact_165 ?_
                      refine g_bipush C (by decide) dX3_readFact_166 ?_
                      have e188 : Tg h164 v1 = 2006 := (fxT F168 e162)
                      refine g_callI (st := []) (gc_V C lk_LandSurvey_Reader_169 (k_X3_takeOnly l D cy w z0 O167 e174 (iw (il 41) (by decide) (by decide)) (by unfold RInv; rw [e171, e173, e177, e180]; exact ⟨e188, p170.2.1, p181, p182⟩)) e174 rfl rfl rfl ⟨by decide, by decide⟩ (Nat.le_of_ble_eq_true rfl) dX3_readFact_168 ⟨(by decide), (by decide)⟩) (fun r189 h190 f192 K191 => ?_)
                      obtain ⟨O193, F194, f195, p196⟩ := K191
                      have e197 : Rv h190 a0 13 = v1 := ((fxR F194 e174 rfl).trans e171)
                      obtain ⟨v198, e199⟩ : ∃ z, Iv h190 a0 4 = z := ⟨_, rfl⟩
                      have e200 : Tg h190 a0 = 4 := (fxT F194 e174)
                      have f201 := ok_I O193 e200 rI_4_4 e199
                      obtain ⟨v202, e203⟩ : ∃ z, Jv h190 a0 5 = z := ⟨_, rfl⟩
                      have f204 := inL_J O193 e203
                      obtain ⟨v205, e206⟩ : ∃ z, Rv h190 a0 6 = z := ⟨_, rfl⟩
                      have p207 := p196.2.2.1
                      rw [e199, e203] at p207
                      have p208 := p196.2.2.2
                      rw [e206] at p208
                      refine g_if_eq C (iw f195 (by decide) (by decide)) 178 (by decide) dX3_readFact_171 (fun q209 => ?_) (fun q210 => ?_)
                      · have f211 : (0 : Int) ≤ r189 ∧ r189 ≤ (0 : Int) := ii f195 (r_eq (il 0) q209) (by decide) (by decide)
                        refine g_iconst C dX3_readFact_178 ?_
                        have e212 : Tg h190 v1 = 2006 := (fxT F194 e188)
                        exact g_iret C hr (nar_z2 (iw (il 0) (by decide) (by decide))).1 (iw (il 0) (by decide) (by decide)) ⟨O193, (((((Fx.rf (wr := wr_k_readFact_3)).call F124 rfl).call F145 rfl).call F168 rfl).call F194 rfl), (iw (il 0) (by decide) (by decide)), (by unfold RInv; rw [e197, e199, e203, e206]; exact ⟨e212, p196.2.1, p207, p208⟩)⟩ (by decide) (by decide) dX3_readFact_179
                      · have f213 : (1 : Int) ≤ r189 ∧ r189 ≤ (1 : Int) := r_nl f195 q210
                        refine g_iconst C dX3_readFact_174 ?_
                        refine g_goto C 179 (by decide) dX3_readFact_175 ?_
                        have e214 : Tg h190 v1 = 2006 := (fxT F194 e188)
                        exact g_iret C hr (nar_z2 (iw (il 1) (by decide) (by decide))).1 (iw (il 1) (by decide) (by decide)) ⟨O193, (((((Fx.rf (wr := wr_k_readFact_3)).call F124 rfl).call F145 rfl).call F168 rfl).call F194 rfl), (iw (il 1) (by decide) (by decide)), (by unfold RInv; rw [e197, e199, e203, e206]; exact ⟨e214, p196.2.1, p207, p208⟩)⟩ (by decide) (by decide) dX3_readFact_179
                  · exact (no_ne (il 0) (il 0) q160 (by decide)).elim
                · exact (no_ne (il 0) (il 0) q132 (by decide)).elim
              · exact (no_le (il 4) fa1 q130 (by decide)).elim
            · have f215 : (0 : Int) ≤ r119 ∧ r119 ≤ (0 : Int) := ii f125 (r_eq (il 0) q127) (by decide) (by decide)
              refine g_aload_n C rfl 2 rfl dX3_readFact_65 ?_
              refine g_iconst C dX3_readFact_66 ?_
              have e216 : Tg h120 a0 = 4 := (fxT F124 ta0)
              refine g_callI (st := []) (gc_V C lk_LandSurvey_Reader_99 (k_X3_wrong l D cy w z0 O123 e216 (iw (il 1) (by decide) (by decide))) e216 rfl rfl rfl ⟨by decide, by decide⟩ (Nat.le_of_ble_eq_true rfl) dX3_readFact_67 ⟨(by decide), (by decide)⟩) (fun r217 h218 f220 K219 => ?_)
              obtain ⟨O221, F222, f223⟩ := K219
              have e224 : Rv h218 a0 13 = v1 := ((fxR F222 e216 rfl).trans ((fxR F124 ta0 rfl).trans e2))
              have e225 : Iv h218 a0 4 = v4 := ((fxI F222 e216 rfl).trans ((fxI F124 ta0 rfl).trans e5))
              have e226 : Jv h218 a0 5 = v7 := ((fxJ F222 e216 rfl).trans ((fxJ F124 ta0 rfl).trans e8))
              have e227 : Rv h218 a0 6 = v10 := ((fxR F222 e216 rfl).trans ((fxR F124 ta0 rfl).trans e11))
              have e228 : Tg h218 v1 = 2006 := (fxT F222 (fxT F124 t3))
              have e229 : Rv h120 a0 13 = v1 := ((fxR F124 ta0 rfl).trans e2)
              have e230 : Tg h120 v1 = 2006 := (fxT F124 t3)
              have p231 := (DOk_fx O123 F222 e216 (by rw [e229]; exact e230) rfl (DOk_fx O F124 ta0 (by rw [e2]; exact t3) rfl P_RInv.2.1))
              exact g_iret C hr (nar_z2 (iw f223 (by decide) (by decide))).1 (iw f223 (by decide) (by decide)) ⟨O221, (((Fx.rf (wr := wr_k_readFact_3)).call F124 rfl).call F222 rfl), (iw f223 (by decide) (by decide)), (by unfold RInv; rw [e224, e225, e226, e227]; exact ⟨e228, p231, p12, p13⟩)⟩ (by decide) (by decide) dX3_readFact_70
      · refine g_iconst C dX3_readFact_42 ?_
        refine g_goto C 47 (by decide) dX3_readFact_43 ?_
        refine g_istore_n C [(3, .inl 1), (2, .inl 0), (0, .inr (.inr a0)), (1, .inl a1)] rfl (by decide) rfl dX3_readFact_47 ?_
        refine g_iload_n C rfl 1 rfl dX3_readFact_48 ?_
        refine g_if_ne C (iw (il 0) (by decide) (by decide)) 71 (by decide) dX3_readFact_49 (fun q232 => ?_) (fun q233 => ?_)
        · exact (no_ne (il 0) (il 0) q232 (by decide)).elim
        · refine g_iload_n C rfl 0 rfl dX3_readFact_52 ?_
          refine g_if_ne C (iw (il 1) (by decide) (by decide)) 71 (by decide) dX3_readFact_53 (fun q234 => ?_) (fun q235 => ?_)
          · refine g_iload_n C rfl 3 rfl dX3_readFact_71 ?_
            refine g_iconst C dX3_readFact_72 ?_
            refine g_icmp_lt C (iw fa1 (by decide) (by decide)) (iw (il 4) (by decide) (by decide)) 82 (by decide) dX3_readFact_73 (fun q236 => ?_) (fun q237 => ?_)
            · refine g_iload_n C rfl 1 rfl dX3_readFact_82 ?_
              refine g_if_eq C (iw (il 0) (by decide) (by decide)) 122 (by decide) dX3_readFact_83 (fun q238 => ?_) (fun q239 => ?_)
              · refine g_aload_n C rfl 2 rfl dX3_readFact_122 ?_
                refine g_callV (st := []) (gc_V C lk_LandSurvey_Reader_46 (k_X3_advance l D cy w z0 O ta0 (by unfold RInv; rw [e2, e5, e8, e11]; exact ⟨t3, P_RInv.2.1, p12, p13⟩)) ta0 rfl rfl rfl ⟨by decide, by decide⟩ (Nat.le_of_ble_eq_true rfl) dX3_readFact_123 ⟨(by decide), (by decide)⟩) (fun h241 K242 => ?_)
                obtain ⟨O244, F245, p246⟩ := K242
                have e247 : Rv h241 a0 13 = v1 := ((fxR F245 ta0 rfl).trans e2)
                obtain ⟨v248, e249⟩ : ∃ z, Iv h241 a0 4 = z := ⟨_, rfl⟩
                have e250 : Tg h241 a0 = 4 := (fxT F245 ta0)
                have f251 := ok_I O244 e250 rI_4_4 e249
                obtain ⟨v252, e253⟩ : ∃ z, Jv h241 a0 5 = z := ⟨_, rfl⟩
                have f254 := inL_J O244 e253
                obtain ⟨v255, e256⟩ : ∃ z, Rv h241 a0 6 = z := ⟨_, rfl⟩
                have p257 := p246.2.2.1
                rw [e249, e253] at p257
                have p258 := p246.2.2.2
                rw [e256] at p258
                refine g_iload_n C rfl 0 rfl dX3_readFact_126 ?_
                refine g_if_eq C (iw (il 1) (by decide) (by decide)) 155 (by decide) dX3_readFact_127 (fun q259 => ?_) (fun q260 => ?_)
                · exact (no_eq (il 1) (il 0) q259 (by decide)).elim
                · refine g_aload_n C rfl 2 rfl dX3_readFact_130 ?_
                  refine g_iload_n C rfl 3 rfl dX3_readFact_131 ?_
                  refine g_iconst C dX3_readFact_132 ?_
                  have f261 : (4 : Int) ≤ (a1 + 1) ∧ (a1 + 1) ≤ (4 : Int) := ia_add fa1 (il 1) (by decide) (by decide)
                  refine g_iadd C dX3_readFact_133 ?_
                  have e262 : Tg h241 v1 = 2006 := (fxT F245 t3)
                  refine g_callI (st := []) (gc_V C lk_LandSurvey_Reader_250 (k_readFact_4 l D cy w z0 O244 e250 f261 (by unfold RInv; rw [e247, e249, e253, e256]; exact ⟨e262, p246.2.1, p257, p258⟩)) e250 rfl rfl rfl ⟨by decide, by decide⟩ (Nat.le_of_ble_eq_true rfl) dX3_readFact_134 ⟨(by decide), (by decide)⟩) (fun r263 h264 f266 K265 => ?_)
                  obtain ⟨O267, F268, f269, p270⟩ := K265
                  have e271 : Rv h264 a0 13 = v1 := ((fxR F268 e250 rfl).trans e247)
                  obtain ⟨v272, e273⟩ : ∃ z, Iv h264 a0 4 = z := ⟨_, rfl⟩
                  have e274 : Tg h264 a0 = 4 := (fxT F268 e250)
                  have f275 := ok_I O267 e274 rI_4_4 e273
                  obtain ⟨v276, e277⟩ : ∃ z, Jv h264 a0 5 = z := ⟨_, rfl⟩
                  have f278 := inL_J O267 e277
                  obtain ⟨v279, e280⟩ : ∃ z, Rv h264 a0 6 = z := ⟨_, rfl⟩
                  have p281 := p270.2.2.1
                  rw [e273, e277] at p281
                  have p282 := p270.2.2.2
                  rw [e280] at p282
                  refine g_if_eq C (iw f269 (by decide) (by decide)) 153 (by decide) dX3_readFact_137 (fun q283 => ?_) (fun q284 => ?_)
                  · have f285 : (0 : Int) ≤ r263 ∧ r263 ≤ (0 : Int) := ii f269 (r_eq (il 0) q283) (by decide) (by decide)
                    refine g_iconst C dX3_readFact_153 ?_
                    have e286 : Tg h264 v1 = 2006 := (fxT F268 e262)
                    exact g_iret C hr (nar_z2 (iw (il 0) (by decide) (by decide))).1 (iw (il 0) (by decide) (by decide)) ⟨O267, (((Fx.rf (wr := wr_k_readFact_3)).call F245 rfl).call F268 rfl), (iw (il 0) (by decide) (by decide)), (by unfold RInv; rw [e271, e273, e277, e280]; exact ⟨e286, p270.2.1, p281, p282⟩)⟩ (by decide) (by decide) dX3_readFact_154
                  · have f287 : (1 : Int) ≤ r263 ∧ r263 ≤ (1 : Int) := r_nl f269 q284
                    refine g_aload_n C rfl 2 rfl dX3_readFact_140 ?_
                    refine g_bipush C (by decide) dX3_readFact_141 ?_
                    have e288 : Tg h264 v1 = 2006 := (fxT F268 e262)
                    refine g_callI (st := []) (gc_V C lk_LandSurvey_Reader_244 (k_X3_emit l D cy w z0 O267 e274 (iw (il (-27)) (by decide) (by decide)) (by unfold RInv; rw [e271, e273, e277, e280]; exact ⟨e288, p270.2.1, p281, p282⟩) (by omega)) e274 rfl rfl rfl ⟨by decide, by decide⟩ (Nat.le_of_ble_eq_true rfl) dX3_readFact_143 ⟨(by decide), (by decide)⟩) (fun r289 h290 f292 K291 => ?_)
                    obtain ⟨O293, F294, f295, p296⟩ := K291
                    have e297 : Rv h290 a0 13 = v1 := ((fxR F294 e274 rfl).trans e271)
                    have e298 : Iv h290 a0 4 = v272 := ((fxI F294 e274 rfl).trans e273)
                    have e299 : Jv h290 a0 5 = v276 := ((fxJ F294 e274 rfl).trans e277)
                    have e300 : Rv h290 a0 6 = v279 := ((fxR F294 e274 rfl).trans e280)
                    have p301 := p296.2.2.1
                    rw [e298, e299] at p301
                    have p302 := p296.2.2.2
                    rw [e300] at p302
                    refine g_if_eq C (iw f295 (by decide) (by decide)) 153 (by decide) dX3_readFact_146 (fun q303 => ?_) (fun q304 => ?_)
                    · exact (no_eq f295 (il 0) q303 (by decide)).elim
                    · refine g_iconst C dX3_readFact_149 ?_
                      refine g_goto C 154 (by decide) dX3_readFact_150 ?_
                      have e305 : Tg h290 v1 = 2006 := (fxT F294 e288)
                      exact g_iret C hr (nar_z2 (iw (il 1) (by decide) (by decide))).1 (iw (il 1) (by decide) (by decide)) ⟨O293, ((((Fx.rf (wr := wr_k_readFact_3)).call F245 rfl).call F268 rfl).call F294 rfl), (iw (il 1) (by decide) (by decide)), (by unfold RInv; rw [e297, e298, e299, e300]; exact ⟨e305, p296.2.1, p301, p302⟩)⟩ (by decide) (by decide) dX3_readFact_154
              · exact (no_ne (il 0) (il 0) q239 (by decide)).elim
            · exact (no_le (il 4) fa1 q237 (by decide)).elim
          · exact (no_eq (il 1) (il 0) q235 (by decide)).elim
    · refine g_aload_n C rfl 0 rfl dX3_readFact_15 ?_
      refine gf_R C fk_LandSurvey_Reader_69 rfl ta0 e11 dX3_readFact_16 ?_
      obtain ⟨i306, q307, e308⟩ := WOk.get p13 q112
      refine g_getf2 (x := .inl (wFa.getD i306 0)) C e308 (C.2.2.2.2.2.2.1.1 i306 q307).2.2 kw_2284 dX3_readFact_19 ?_
      have f309 : (-1 : Int) ≤ (wFa.getD i306 0) ∧ (wFa.getD i306 0) ≤ (11 : Int) := wFa_rng _
      refine g_iconst C dX3_readFact_22 ?_
      refine g_icmp_eq C (iw f309 (by decide) (by decide)) (iw (il (-1)) (by decide) (by decide)) 30 (by decide) dX3_readFact_23 (fun q310 => ?_) (fun q311 => ?_)
      · have f312 : (-1 : Int) ≤ (wFa.getD i306 0) ∧ (wFa.getD i306 0) ≤ (-1 : Int) := ii f309 (r_eq (il (-1)) q310) (by decide) (by decide)
        refine g_iconst C dX3_readFact_30 ?_
        refine g_istore_n C [(2, .inl 0), (0, .inr (.inr a0)), (1, .inl a1)] rfl (by decide) rfl dX3_readFact_31 ?_
        refine g_aload_n C rfl 1 rfl dX3_readFact_32 ?_
        refine gf_R C fk_LandSurvey_Reader_69 rfl ta0 e11 dX3_readFact_33 ?_
        refine g_gets (x := .inr (.inr (w 17 + 1))) C (C.2.2.2.2.2.2.1.1 17 (by decide)).1 kw_839 dX3_readFact_36 ?_
        refine g_acmp_ne C 46 (by decide) dX3_readFact_39 (fun q313 => ?_) (fun q314 => ?_)
        · refine g_iconst C dX3_readFact_46 ?_
          refine g_istore_n C [(3, .inl 0), (2, .inl 0), (0, .inr (.inr a0)), (1, .inl a1)] rfl (by decide) rfl dX3_readFact_47 ?_
          refine g_iload_n C rfl 1 rfl dX3_readFact_48 ?_
          refine g_if_ne C (iw (il 0) (by decide) (by decide)) 71 (by decide) dX3_readFact_49 (fun q315 => ?_) (fun q316 => ?_)
          · exact (no_ne (il 0) (il 0) q315 (by decide)).elim
          · refine g_iload_n C rfl 0 rfl dX3_readFact_52 ?_
            refine g_if_ne C (iw (il 0) (by decide) (by decide)) 71 (by decide) dX3_readFact_53 (fun q317 => ?_) (fun q318 => ?_)
            · exact (no_ne (il 0) (il 0) q317 (by decide)).elim
            · refine g_aload_n C rfl 2 rfl dX3_readFact_56 ?_
              refine g_bipush C (by decide) dX3_readFact_57 ?_
              refine g_callI (st := []) (gc_V C lk_LandSurvey_Reader_95 (k_X3_isNext l D cy w z0 O ta0 (iw (il 40) (by decide) (by decide))) ta0 rfl rfl rfl ⟨by decide, by decide⟩ (Nat.le_of_ble_eq_true rfl) dX3_readFact_59 ⟨(by decide), (by decide)⟩) (fun r319 h320 f322 K321 => ?_)
              obtain ⟨O323, F324, f325⟩ := K321
              refine g_if_ne C (iw f325 (by decide) (by decide)) 71 (by decide) dX3_readFact_62 (fun q326 => ?_) (fun q327 => ?_)
              · have f328 : (1 : Int) ≤ r319 ∧ r319 ≤ (1 : Int) := r_nl f325 q326
                refine g_iload_n C rfl 3 rfl dX3_readFact_71 ?_
                refine g_iconst C dX3_readFact_72 ?_
                refine g_icmp_lt C (iw fa1 (by decide) (by decide)) (iw (il 4) (by decide) (by decide)) 82 (by decide) dX3_readFact_73 (fun q329 => ?_) (fun q330 => ?_)
                · refine g_iload_n C rfl 1 rfl dX3_readFact_82 ?_
                  refine g_if_eq C (iw (il 0) (by decide) (by decide)) 122 (by decide) dX3_readFact_83 (fun q331 => ?_) (fun q332 => ?_)
                  · refine g_aload_n C rfl 2 rfl dX3_readFact_122 ?_
                    have e333 : Tg h320 a0 = 4 := (fxT F324 ta0)
                    have e334 : Rv h320 a0 13 = v1 := ((fxR F324 ta0 rfl).trans e2)
                    have e335 : Iv h320 a0 4 = v4 := ((fxI F324 ta0 rfl).trans e5)
                    have e336 : Jv h320 a0 5 = v7 := ((fxJ F324 ta0 rfl).trans e8)
                    have e337 : Rv h320 a0 6 = v10 := ((fxR F324 ta0 rfl).trans e11)
                    have e338 : Tg h320 v1 = 2006 := (fxT F324 t3)
                    have p339 := (DOk_fx O F324 ta0 (by rw [e2]; exact t3) rfl P_RInv.2.1)
                    refine g_callV (st := []) (gc_V C lk_LandSurvey_Reader_46 (k_X3_advance l D cy w z0 O323 e333 (by unfold RInv; rw [e334, e335, e336, e337]; exact ⟨e338, p339, p12, p13⟩)) e333 rfl rfl rfl ⟨by decide, by decide⟩ (Nat.le_of_ble_eq_true rfl) dX3_readFact_123 ⟨(by decide), (by decide)⟩) (fun h341 K342 => ?_)
                    obtain ⟨O344, F345, p346⟩ := K342
                    have e347 : Rv h341 a0 13 = v1 := ((fxR F345 e333 rfl).trans e334)
                    obtain ⟨v348, e349⟩ : ∃ z, Iv h341 a0 4 = z := ⟨_, rfl⟩
                    have e350 : Tg h341 a0 = 4 := (fxT F345 e333)
                    have f351 := ok_I O344 e350 rI_4_4 e349
                    obtain ⟨v352, e353⟩ : ∃ z, Jv h341 a0 5 = z := ⟨_, rfl⟩
                    have f354 := inL_J O344 e353
                    obtain ⟨v355, e356⟩ : ∃ z, Rv h341 a0 6 = z := ⟨_, rfl⟩
                    have p357 := p346.2.2.1
                    rw [e349, e353] at p357
                    have p358 := p346.2.2.2
                    rw [e356] at p358
                    refine g_iload_n C rfl 0 rfl dX3_readFact_126 ?_
                    refine g_if_eq C (iw (il 0) (by decide) (by decide)) 155 (by decide) dX3_readFact_127 (fun q359 => ?_) (fun q360 => ?_)
                    · refine g_aload_n C rfl 2 rfl dX3_readFact_155 ?_
                      refine g_iload_n C rfl 3 rfl dX3_readFact_156 ?_
                      refine g_iconst C dX3_readFact_157 ?_
                      have f361 : (4 : Int) ≤ (a1 + 1) ∧ (a1 + 1) ≤ (4 : Int) := ia_add fa1 (il 1) (by decide) (by decide)
                      refine g_iadd C dX3_readFact_158 ?_
                      have e362 : Tg h341 v1 = 2006 := (fxT F345 e338)
                      refine g_callI (st := []) (gc_V C lk_LandSurvey_Reader_196 (k_readTests_4 l D cy w z0 O344 e350 f361 (by unfold RInv; rw [e347, e349, e353, e356]; exact ⟨e362, p346.2.1, p357, p358⟩)) e350 rfl rfl rfl ⟨by decide, by decide⟩ (Nat.le_of_ble_eq_true rfl) dX3_readFact_159 ⟨(by decide), (by decide)⟩) (fun r363 h364 f366 K365 => ?_)
                      obtain ⟨O367, F368, f369, p370⟩ := K365
                      have e371 : Rv h364 a0 13 = v1 := ((fxR F368 e350 rfl).trans e347)
                      obtain ⟨v372, e373⟩ : ∃ z, Iv h364 a0 4 = z := ⟨_, rfl⟩
                      have e374 : Tg h364 a0 = 4 := (fxT F368 e350)
                      have f375 := ok_I O367 e374 rI_4_4 e373
                      obtain ⟨v376, e377⟩ : ∃ z, Jv h364 a0 5 = z := ⟨_, rfl⟩
                      have f378 := inL_J O367 e377
                      obtain ⟨v379, e380⟩ : ∃ z, Rv h364 a0 6 = z := ⟨_, rfl⟩
                      have p381 := p370.2.2.1
                      rw [e373, e377] at p381
                      have p382 := p370.2.2.2
                      rw [e380] at p382
                      refine g_if_eq C (iw f369 (by decide) (by decide)) 178 (by decide) dX3_readFact_162 (fun q383 => ?_) (fun q384 => ?_)
                      · have f385 : (0 : Int) ≤ r363 ∧ r363 ≤ (0 : Int) := ii f369 (r_eq (il 0) q383) (by decide) (by decide)
                        refine g_iconst C dX3_readFact_178 ?_
                        have e386 : Tg h364 v1 = 2006 := (fxT F368 e362)
                        exact g_iret C hr (nar_z2 (iw (il 0) (by decide) (by decide))).1 (iw (il 0) (by decide) (by decide)) ⟨O367, ((((Fx.rf (wr := wr_k_readFact_3)).call F324 rfl).call F345 rfl).call F368 rfl), (iw (il 0) (by decide) (by decide)), (by unfold RInv; rw [e371, e373, e377, e380]; exact ⟨e386, p370.2.1, p381, p382⟩)⟩ (by decide) (by decide) dX3_readFact_179
                      · have f387 : (1 : Int) ≤ r363 ∧ r363 ≤ (1 : Int) := r_nl f369 q384
                        refine g_aload_n C rfl 2 rfl dX3_readFact_165 ?_
                        refine g_bipush C (by decide) dX3_readFact_166 ?_
                        have e388 : Tg h364 v1 = 2006 := (fxT F368 e362)
                        refine g_callI (st := []) (gc_V C lk_LandSurvey_Reader_169 (k_X3_takeOnly l D cy w z0 O367 e374 (iw (il 41) (by decide) (by decide)) (by unfold RInv; rw [e371, e373, e377, e380]; exact ⟨e388, p370.2.1, p381, p382⟩)) e374 rfl rfl rfl ⟨by decide, by decide⟩ (Nat.le_of_ble_eq_true rfl) dX3_readFact_168 ⟨(by decide), (by decide)⟩) (fun r389 h390 f392 K391 => ?_)
                        obtain ⟨O393, F394, f395, p396⟩ := K391
                        have e397 : Rv h390 a0 13 = v1 := ((fxR F394 e374 rfl).trans e371)
                        obtain ⟨v398, e399⟩ : ∃ z, Iv h390 a0 4 = z := ⟨_, rfl⟩
                        have e400 : Tg h390 a0 = 4 := (fxT F394 e374)
                        have f401 := ok_I O393 e400 rI_4_4 e399
                        obtain ⟨v402, e403⟩ : ∃ z, Jv h390 a0 5 = z := ⟨_, rfl⟩
                        have f404 := inL_J O393 e403
                        obtain ⟨v405, e406⟩ : ∃ z, Rv h390 a0 6 = z := ⟨_, rfl⟩
                        have p407 := p396.2.2.1
                        rw [e399, e403] at p407
                        have p408 := p396.2.2.2
                        rw [e406] at p408
                        refine g_if_eq C (iw f395 (by decide) (by decide)) 178 (by decide) dX3_readFact_171 (fun q409 => ?_) (fun q410 => ?_)
                        · have f411 : (0 : Int) ≤ r389 ∧ r389 ≤ (0 : Int) := ii f395 (r_eq (il 0) q409) (by decide) (by decide)
                          refine g_iconst C dX3_readFact_178 ?_
                          have e412 : Tg h390 v1 = 2006 := (fxT F394 e388)
                          exact g_iret C hr (nar_z2 (iw (il 0) (by decide) (by decide))).1 (iw (il 0) (by decide) (by decide)) ⟨O393, (((((Fx.rf (wr := wr_k_readFact_3)).call F324 rfl).call F345 rfl).call F368 rfl).call F394 rfl), (iw (il 0) (by decide) (by decide)), (by unfold RInv; rw [e397, e399, e403, e406]; exact ⟨e412, p396.2.1, p407, p408⟩)⟩ (by decide) (by decide) dX3_readFact_179
                        · have f413 : (1 : Int) ≤ r389 ∧ r389 ≤ (1 : Int) := r_nl f395 q410
                          refine g_iconst C dX3_readFact_174 ?_
                          refine g_goto C 179 (by decide) dX3_readFact_175 ?_
                          have e414 : Tg h390 v1 = 2006 := (fxT F394 e388)
                          exact g_iret C hr (nar_z2 (iw (il 1) (by decide) (by decide))).1 (iw (il 1) (by decide) (by decide)) ⟨O393, (((((Fx.rf (wr := wr_k_readFact_3)).call F324 rfl).call F345 rfl).call F368 rfl).call F394 rfl), (iw (il 1) (by decide) (by decide)), (by unfold RInv; rw [e397, e399, e403, e406]; exact ⟨e414, p396.2.1, p407, p408⟩)⟩ (by decide) (by decide) dX3_readFact_179
                    · exact (no_ne (il 0) (il 0) q360 (by decide)).elim
                  · exact (no_ne (il 0) (il 0) q332 (by decide)).elim
                · exact (no_le (il 4) fa1 q330 (by decide)).elim
              · have f415 : (0 : Int) ≤ r319 ∧ r319 ≤ (0 : Int) := ii f325 (r_eq (il 0) q327) (by decide) (by decide)
                refine g_aload_n C rfl 2 rfl dX3_readFact_65 ?_
                refine g_iconst C dX3_readFact_66 ?_
                have e416 : Tg h320 a0 = 4 := (fxT F324 ta0)
                refine g_callI (st := []) (gc_V C lk_LandSurvey_Reader_99 (k_X3_wrong l D cy w z0 O323 e416 (iw (il 1) (by decide) (by decide))) e416 rfl rfl rfl ⟨by decide, by decide⟩ (Nat.le_of_ble_eq_true rfl) dX3_readFact_67 ⟨(by decide), (by decide)⟩) (fun r417 h418 f420 K419 => ?_)
                obtain ⟨O421, F422, f423⟩ := K419
                have e424 : Rv h418 a0 13 = v1 := ((fxR F422 e416 rfl).trans ((fxR F324 ta0 rfl).trans e2))
                have e425 : Iv h418 a0 4 = v4 := ((fxI F422 e416 rfl).trans ((fxI F324 ta0 rfl).trans e5))
                have e426 : Jv h418 a0 5 = v7 := ((fxJ F422 e416 rfl).trans ((fxJ F324 ta0 rfl).trans e8))
                have e427 : Rv h418 a0 6 = v10 := ((fxR F422 e416 rfl).trans ((fxR F324 ta0 rfl).trans e11))
                have e428 : Tg h418 v1 = 2006 := (fxT F422 (fxT F324 t3))
                have e429 : Rv h320 a0 13 = v1 := ((fxR F324 ta0 rfl).trans e2)
                have e430 : Tg h320 v1 = 2006 := (fxT F324 t3)
                have p431 := (DOk_fx O323 F422 e416 (by rw [e429]; exact e430) rfl (DOk_fx O F324 ta0 (by rw [e2]; exact t3) rfl P_RInv.2.1))
                exact g_iret C hr (nar_z2 (iw f423 (by decide) (by decide))).1 (iw f423 (by decide) (by decide)) ⟨O421, (((Fx.rf (wr := wr_k_readFact_3)).call F324 rfl).call F422 rfl), (iw f423 (by decide) (by decide)), (by unfold RInv; rw [e424, e425, e426, e427]; exact ⟨e428, p431, p12, p13⟩)⟩ (by decide) (by decide) dX3_readFact_70
        · refine g_iconst C dX3_readFact_42 ?_
          refine g_goto C 47 (by decide) dX3_readFact_43 ?_
          refine g_istore_n C [(3, .inl 1), (2, .inl 0), (0, .inr (.inr a0)), (1, .inl a1)] rfl (by decide) rfl dX3_readFact_47 ?_
          refine g_iload_n C rfl 1 rfl dX3_readFact_48 ?_
          refine g_if_ne C (iw (il 0) (by decide) (by decide)) 71 (by decide) dX3_readFact_49 (fun q432 => ?_) (fun q433 => ?_)
          · exact (no_ne (il 0) (il 0) q432 (by decide)).elim
          · refine g_iload_n C rfl 0 rfl dX3_readFact_52 ?_
            refine g_if_ne C (iw (il 1) (by decide) (by decide)) 71 (by decide) dX3_readFact_53 (fun q434 => ?_) (fun q435 => ?_)
            · refine g_iload_n C rfl 3 rfl dX3_readFact_71 ?_
              refine g_iconst C dX3_readFact_72 ?_
              refine g_icmp_lt C (iw fa1 (by decide) (by decide)) (iw (il 4) (by decide) (by decide)) 82 (by decide) dX3_readFact_73 (fun q436 => ?_) (fun q437 => ?_)
              · refine g_iload_n C rfl 1 rfl dX3_readFact_82 ?_
                refine g_if_eq C (iw (il 0) (by decide) (by decide)) 122 (by decide) dX3_readFact_83 (fun q438 => ?_) (fun q439 => ?_)
                · refine g_aload_n C rfl 2 rfl dX3_readFact_122 ?_
                  refine g_callV (st := []) (gc_V C lk_LandSurvey_Reader_46 (k_X3_advance l D cy w z0 O ta0 (by unfold RInv; rw [e2, e5, e8, e11]; exact ⟨t3, P_RInv.2.1, p12, p13⟩)) ta0 rfl rfl rfl ⟨by decide, by decide⟩ (Nat.le_of_ble_eq_true rfl) dX3_readFact_123 ⟨(by decide), (by decide)⟩) (fun h441 K442 => ?_)
                  obtain ⟨O444, F445, p446⟩ := K442
                  have e447 : Rv h441 a0 13 = v1 := ((fxR F445 ta0 rfl).trans e2)
                  obtain ⟨v448, e449⟩ : ∃ z, Iv h441 a0 4 = z := ⟨_, rfl⟩
                  have e450 : Tg h441 a0 = 4 := (fxT F445 ta0)
                  have f451 := ok_I O444 e450 rI_4_4 e449
                  obtain ⟨v452, e453⟩ : ∃ z, Jv h441 a0 5 = z := ⟨_, rfl⟩
                  have f454 := inL_J O444 e453
                  obtain ⟨v455, e456⟩ : ∃ z, Rv h441 a0 6 = z := ⟨_, rfl⟩
                  have p457 := p446.2.2.1
                  rw [e449, e453] at p457
                  have p458 := p446.2.2.2
                  rw [e456] at p458
                  refine g_iload_n C rfl 0 rfl dX3_readFact_126 ?_
                  refine g_if_eq C (iw (il 1) (by decide) (by decide)) 155 (by decide) dX3_readFact_127 (fun q459 => ?_) (fun q460 => ?_)
                  · exact (no_eq (il 1) (il 0) q459 (by decide)).elim
                  · refine g_aload_n C rfl 2 rfl dX3_readFact_130 ?_
                    refine g_iload_n C rfl 3 rfl dX3_readFact_131 ?_
                    refine g_iconst C dX3_readFact_132 ?_
                    have f461 : (4 : Int) ≤ (a1 + 1) ∧ (a1 + 1) ≤ (4 : Int) := ia_add fa1 (il 1) (by decide) (by decide)
                    refine g_iadd C dX3_readFact_133 ?_
                    have e462 : Tg h441 v1 = 2006 := (fxT F445 t3)
                    refine g_callI (st := []) (gc_V C lk_LandSurvey_Reader_250 (k_readFact_4 l D cy w z0 O444 e450 f461 (by unfold RInv; rw [e447, e449, e453, e456]; exact ⟨e462, p446.2.1, p457, p458⟩)) e450 rfl rfl rfl ⟨by decide, by decide⟩ (Nat.le_of_ble_eq_true rfl) dX3_readFact_134 ⟨(by decide), (by decide)⟩) (fun r463 h464 f466 K465 => ?_)
                    obtain ⟨O467, F468, f469, p470⟩ := K465
                    have e471 : Rv h464 a0 13 = v1 := ((fxR F468 e450 rfl).trans e447)
                    obtain ⟨v472, e473⟩ : ∃ z, Iv h464 a0 4 = z := ⟨_, rfl⟩
                    have e474 : Tg h464 a0 = 4 := (fxT F468 e450)
                    have f475 := ok_I O467 e474 rI_4_4 e473
                    obtain ⟨v476, e477⟩ : ∃ z, Jv h464 a0 5 = z := ⟨_, rfl⟩
                    have f478 := inL_J O467 e477
                    obtain ⟨v479, e480⟩ : ∃ z, Rv h464 a0 6 = z := ⟨_, rfl⟩
                    have p481 := p470.2.2.1
                    rw [e473, e477] at p481
                    have p482 := p470.2.2.2
                    rw [e480] at p482
                    refine g_if_eq C (iw f469 (by decide) (by decide)) 153 (by decide) dX3_readFact_137 (fun q483 => ?_) (fun q484 => ?_)
                    · have f485 : (0 : Int) ≤ r463 ∧ r463 ≤ (0 : Int) := ii f469 (r_eq (il 0) q483) (by decide) (by decide)
                      refine g_iconst C dX3_readFact_153 ?_
                      have e486 : Tg h464 v1 = 2006 := (fxT F468 e462)
                      exact g_iret C hr (nar_z2 (iw (il 0) (by decide) (by decide))).1 (iw (il 0) (by decide) (by decide)) ⟨O467, (((Fx.rf (wr := wr_k_readFact_3)).call F445 rfl).call F468 rfl), (iw (il 0) (by decide) (by decide)), (by unfold RInv; rw [e471, e473, e477, e480]; exact ⟨e486, p470.2.1, p481, p482⟩)⟩ (by decide) (by decide) dX3_readFact_154
                    · have f487 : (1 : Int) ≤ r463 ∧ r463 ≤ (1 : Int) := r_nl f469 q484
                      refine g_aload_n C rfl 2 rfl dX3_readFact_140 ?_
                      refine g_bipush C (by decide) dX3_readFact_141 ?_
                      have e488 : Tg h464 v1 = 2006 := (fxT F468 e462)
                      refine g_callI (st := []) (gc_V C lk_LandSurvey_Reader_244 (k_X3_emit l D cy w z0 O467 e474 (iw (il (-27)) (by decide) (by decide)) (by unfold RInv; rw [e471, e473, e477, e480]; exact ⟨e488, p470.2.1, p481, p482⟩) (by omega)) e474 rfl rfl rfl ⟨by decide, by decide⟩ (Nat.le_of_ble_eq_true rfl) dX3_readFact_143 ⟨(by decide), (by decide)⟩) (fun r489 h490 f492 K491 => ?_)
                      obtain ⟨O493, F494, f495, p496⟩ := K491
                      have e497 : Rv h490 a0 13 = v1 := ((fxR F494 e474 rfl).trans e471)
                      have e498 : Iv h490 a0 4 = v472 := ((fxI F494 e474 rfl).trans e473)
                      have e499 : Jv h490 a0 5 = v476 := ((fxJ F494 e474 rfl).trans e477)
                      have e500 : Rv h490 a0 6 = v479 := ((fxR F494 e474 rfl).trans e480)
                      have p501 := p496.2.2.1
                      rw [e498, e499] at p501
                      have p502 := p496.2.2.2
                      rw [e500] at p502
                      refine g_if_eq C (iw f495 (by decide) (by decide)) 153 (by decide) dX3_readFact_146 (fun q503 => ?_) (fun q504 => ?_)
                      · exact (no_eq f495 (il 0) q503 (by decide)).elim
                      · refine g_iconst C dX3_readFact_149 ?_
                        refine g_goto C 154 (by decide) dX3_readFact_150 ?_
                        have e505 : Tg h490 v1 = 2006 := (fxT F494 e488)
                        exact g_iret C hr (nar_z2 (iw (il 1) (by decide) (by decide))).1 (iw (il 1) (by decide) (by decide)) ⟨O493, ((((Fx.rf (wr := wr_k_readFact_3)).call F445 rfl).call F468 rfl).call F494 rfl), (iw (il 1) (by decide) (by decide)), (by unfold RInv; rw [e497, e498, e499, e500]; exact ⟨e505, p496.2.1, p501, p502⟩)⟩ (by decide) (by decide) dX3_readFact_154
                · exact (no_ne (il 0) (il 0) q439 (by decide)).elim
              · exact (no_le (il 4) fa1 q437 (by decide)).elim
            · exact (no_eq (il 1) (il 0) q435 (by decide)).elim
      · have f506 : (0 : Int) ≤ (wFa.getD i306 0) ∧ (wFa.getD i306 0) ≤ (11 : Int) := r_nl f309 q311
        refine g_iconst C dX3_readFact_26 ?_
        refine g_goto C 31 (by decide) dX3_readFact_27 ?_
        refine g_istore_n C [(2, .inl 1), (0, .inr (.inr a0)), (1, .inl a1)] rfl (by decide) rfl dX3_readFact_31 ?_
        refine g_aload_n C rfl 1 rfl dX3_readFact_32 ?_
        refine gf_R C fk_LandSurvey_Reader_69 rfl ta0 e11 dX3_readFact_33 ?_
        refine g_gets (x := .inr (.inr (w 17 + 1))) C (C.2.2.2.2.2.2.1.1 17 (by decide)).1 kw_839 dX3_readFact_36 ?_
        refine g_acmp_ne C 46 (by decide) dX3_readFact_39 (fun q507 => ?_) (fun q508 => ?_)
        · refine g_iconst C dX3_readFact_46 ?_
          refine g_istore_n C [(3, .inl 0), (2, .inl 1), (0, .inr (.inr a0)), (1, .inl a1)] rfl (by decide) rfl dX3_readFact_47 ?_
          refine g_iload_n C rfl 1 rfl dX3_readFact_48 ?_
          refine g_if_ne C (iw (il 1) (by decide) (by decide)) 71 (by decide) dX3_readFact_49 (fun q509 => ?_) (fun q510 => ?_)
          · refine g_iload_n C rfl 3 rfl dX3_readFact_71 ?_
            refine g_iconst C dX3_readFact_72 ?_
            refine g_icmp_lt C (iw fa1 (by decide) (by decide)) (iw (il 4) (by decide) (by decide)) 82 (by decide) dX3_readFact_73 (fun q511 => ?_) (fun q512 => ?_)
            · refine g_iload_n C rfl 1 rfl dX3_readFact_82 ?_
              refine g_if_eq C (iw (il 1) (by decide) (by decide)) 122 (by decide) dX3_readFact_83 (fun q513 => ?_) (fun q514 => ?_)
              · exact (no_eq (il 1) (il 0) q513 (by decide)).elim
              · refine g_aload_n C rfl 2 rfl dX3_readFact_86 ?_
                refine g_aload_n C rfl 2 rfl dX3_readFact_87 ?_
                refine gf_I C fk_LandSurvey_Reader_49 rfl ta0 e5 dX3_readFact_88 ?_
                refine g_iconst C dX3_readFact_91 ?_
                refine g_icmp_ne C (iw f6 (by decide) (by decide)) (iw (il 2) (by decide) (by decide)) 103 (by decide) dX3_readFact_92 (fun q515 => ?_) (fun q516 => ?_)
                · refine g_iconst C dX3_readFact_103 ?_
                  refine g_aload_n C rfl 2 rfl dX3_readFact_104 ?_
                  refine gf_R C fk_LandSurvey_Reader_69 rfl ta0 e11 dX3_readFact_105 ?_
                  refine g_getf2 (x := .inl (wFa.getD i306 0)) C e308 (C.2.2.2.2.2.2.1.1 i306 q307).2.2 kw_2284 dX3_readFact_108 ?_
                  have f517 : (-12 : Int) ≤ ((-1) - (wFa.getD i306 0)) ∧ ((-1) - (wFa.getD i306 0)) ≤ (-1 : Int) := ia_sub (il (-1)) f506 (by decide) (by decide)
                  refine g_isub C dX3_readFact_111 ?_
                  refine g_callI (st := []) (gc_V C lk_LandSurvey_Reader_244 (k_X3_emit l D cy w z0 O ta0 (iw f517 (by decide) (by decide)) (by unfold RInv; rw [e2, e5, e8, e11]; exact ⟨t3, P_RInv.2.1, p12, p13⟩) (by omega)) ta0 rfl rfl rfl ⟨by decide, by decide⟩ (Nat.le_of_ble_eq_true rfl) dX3_readFact_112 ⟨(by decide), (by decide)⟩) (fun r518 h519 f521 K520 => ?_)
                  obtain ⟨O522, F523, f524, p525⟩ := K520
                  have e526 : Rv h519 a0 13 = v1 := ((fxR F523 ta0 rfl).trans e2)
                  have e527 : Iv h519 a0 4 = v4 := ((fxI F523 ta0 rfl).trans e5)
                  have e528 : Jv h519 a0 5 = v7 := ((fxJ F523 ta0 rfl).trans e8)
                  have e529 : Rv h519 a0 6 = v10 := ((fxR F523 ta0 rfl).trans e11)
                  have p530 := p525.2.2.1
                  rw [e527, e528] at p530
                  have p531 := p525.2.2.2
                  rw [e529] at p531
                  refine g_pop C rfl dX3_readFact_115 ?_
                  refine g_aload_n C rfl 2 rfl dX3_readFact_116 ?_
                  have e532 : Tg h519 a0 = 4 := (fxT F523 ta0)
                  have e533 : Tg h519 v1 = 2006 := (fxT F523 t3)
                  refine g_callV (st := []) (gc_V C lk_LandSurvey_Reader_46 (k_X3_advance l D cy w z0 O522 e532 (by unfold RInv; rw [e526, e527, e528, e529]; exact ⟨e533, p525.2.1, p530, p531⟩)) e532 rfl rfl rfl ⟨by decide, by decide⟩ (Nat.le_of_ble_eq_true rfl) dX3_readFact_117 ⟨(by decide), (by decide)⟩) (fun h535 K536 => ?_)
                  obtain ⟨O538, F539, p540⟩ := K536
                  have e541 : Rv h535 a0 13 = v1 := ((fxR F539 e532 rfl).trans e526)
                  obtain ⟨v542, e543⟩ : ∃ z, Iv h535 a0 4 = z := ⟨_, rfl⟩
                  have e544 : Tg h535 a0 = 4 := (fxT F539 e532)
                  have f545 := ok_I O538 e544 rI_4_4 e543
                  obtain ⟨v546, e547⟩ : ∃ z, Jv h535 a0 5 = z := ⟨_, rfl⟩
                  have f548 := inL_J O538 e547
                  obtain ⟨v549, e550⟩ : ∃ z, Rv h535 a0 6 = z := ⟨_, rfl⟩
                  have p551 := p540.2.2.1
                  rw [e543, e547] at p551
                  have p552 := p540.2.2.2
                  rw [e550] at p552
                  refine g_iconst C dX3_readFact_120 ?_
                  have e553 : Tg h535 v1 = 2006 := (fxT F539 e533)
                  exact g_iret C hr (nar_z2 (iw (il 1) (by decide) (by decide))).1 (iw (il 1) (by decide) (by decide)) ⟨O538, (((Fx.rf (wr := wr_k_readFact_3)).call F523 rfl).call F539 rfl), (iw (il 1) (by decide) (by decide)), (by unfold RInv; rw [e541, e543, e547, e550]; exact ⟨e553, p540.2.1, p551, p552⟩)⟩ (by decide) (by decide) dX3_readFact_121
                · have f554 : (2 : Int) ≤ v4 ∧ v4 ≤ (2 : Int) := ii f6 (r_eq (il 2) q516) (by decide) (by decide)
                  have f555 : (0 : Int) ≤ v7 ∧ v7 ≤ (9999 : Int) := by omega
                  refine g_aload_n C rfl 2 rfl dX3_readFact_95 ?_
                  refine gf_J C fk_LandSurvey_Reader_73 rfl ta0 e8 dX3_readFact_96 ?_
                  refine g_l2i C dX3_readFact_99 ?_
                  have f556 : (0 : Int) ≤ (l2w v7) ∧ (l2w v7) ≤ (9999 : Int) := l2w_in f555 (by decide) (by decide)
                  refine g_goto C 112 (by decide) dX3_readFact_100 ?_
                  refine g_callI (st := []) (gc_V C lk_LandSurvey_Reader_244 (k_X3_emit l D cy w z0 O ta0 (iw f556 (by decide) (by decide)) (by unfold RInv; rw [e2, e5, e8, e11]; exact ⟨t3, P_RInv.2.1, p12, p13⟩) (by omega)) ta0 rfl rfl rfl ⟨by decide, by decide⟩ (Nat.le_of_ble_eq_true rfl) dX3_readFact_112 ⟨(by decide), (by decide)⟩) (fun r557 h558 f560 K559 => ?_)
                  obtain ⟨O561, F562, f563, p564⟩ := K559
                  have e565 : Rv h558 a0 13 = v1 := ((fxR F562 ta0 rfl).trans e2)
                  have e566 : Iv h558 a0 4 = v4 := ((fxI F562 ta0 rfl).trans e5)
                  have e567 : Jv h558 a0 5 = v7 := ((fxJ F562 ta0 rfl).trans e8)
                  have e568 : Rv h558 a0 6 = v10 := ((fxR F562 ta0 rfl).trans e11)
                  have p569 := p564.2.2.1
                  rw [e566, e567] at p569
                  have p570 := p564.2.2.2
                  rw [e568] at p570
                  refine g_pop C rfl dX3_readFact_115 ?_
                  refine g_aload_n C rfl 2 rfl dX3_readFact_116 ?_
                  have e571 : Tg h558 a0 = 4 := (fxT F562 ta0)
                  have e572 : Tg h558 v1 = 2006 := (fxT F562 t3)
                  refine g_callV (st := []) (gc_V C lk_LandSurvey_Reader_46 (k_X3_advance l D cy w z0 O561 e571 (by unfold RInv; rw [e565, e566, e567, e568]; exact ⟨e572, p564.2.1, p569, p570⟩)) e571 rfl rfl rfl ⟨by decide, by decide⟩ (Nat.le_of_ble_eq_true rfl) dX3_readFact_117 ⟨(by decide), (by decide)⟩) (fun h574 K575 => ?_)
                  obtain ⟨O577, F578, p579⟩ := K575
                  have e580 : Rv h574 a0 13 = v1 := ((fxR F578 e571 rfl).trans e565)
                  obtain ⟨v581, e582⟩ : ∃ z, Iv h574 a0 4 = z := ⟨_, rfl⟩
                  have e583 : Tg h574 a0 = 4 := (fxT F578 e571)
                  have f584 := ok_I O577 e583 rI_4_4 e582
                  obtain ⟨v585, e586⟩ : ∃ z, Jv h574 a0 5 = z := ⟨_, rfl⟩
                  have f587 := inL_J O577 e586
                  obtain ⟨v588, e589⟩ : ∃ z, Rv h574 a0 6 = z := ⟨_, rfl⟩
                  have p590 := p579.2.2.1
                  rw [e582, e586] at p590
                  have p591 := p579.2.2.2
                  rw [e589] at p591
                  refine g_iconst C dX3_readFact_120 ?_
                  have e592 : Tg h574 v1 = 2006 := (fxT F578 e572)
                  exact g_iret C hr (nar_z2 (iw (il 1) (by decide) (by decide))).1 (iw (il 1) (by decide) (by decide)) ⟨O577, (((Fx.rf (wr := wr_k_readFact_3)).call F562 rfl).call F578 rfl), (iw (il 1) (by decide) (by decide)), (by unfold RInv; rw [e580, e582, e586, e589]; exact ⟨e592, p579.2.1, p590, p591⟩)⟩ (by decide) (by decide) dX3_readFact_121
            · exact (no_le (il 4) fa1 q512 (by decide)).elim
          · exact (no_eq (il 1) (il 0) q510 (by decide)).elim
        · refine g_iconst C dX3_readFact_42 ?_
          refine g_goto C 47 (by decide) dX3_readFact_43 ?_
          refine g_istore_n C [(3, .inl 1), (2, .inl 1), (0, .inr (.inr a0)), (1, .inl a1)] rfl (by decide) rfl dX3_readFact_47 ?_
          refine g_iload_n C rfl 1 rfl dX3_readFact_48 ?_
          refine g_if_ne C (iw (il 1) (by decide) (by decide)) 71 (by decide) dX3_readFact_49 (fun q593 => ?_) (fun q594 => ?_)
          · refine g_iload_n C rfl 3 rfl dX3_readFact_71 ?_
            refine g_iconst C dX3_readFact_72 ?_
            refine g_icmp_lt C (iw fa1 (by decide) (by decide)) (iw (il 4) (by decide) (by decide)) 82 (by decide) dX3_readFact_73 (fun q595 => ?_) (fun q596 => ?_)
            · refine g_iload_n C rfl 1 rfl dX3_readFact_82 ?_
              refine g_if_eq C (iw (il 1) (by decide) (by decide)) 122 (by decide) dX3_readFact_83 (fun q597 => ?_) (fun q598 => ?_)
              · exact (no_eq (il 1) (il 0) q597 (by decide)).elim
              · refine g_aload_n C rfl 2 rfl dX3_readFact_86 ?_
                refine g_aload_n C rfl 2 rfl dX3_readFact_87 ?_
                refine gf_I C fk_LandSurvey_Reader_49 rfl ta0 e5 dX3_readFact_88 ?_
                refine g_iconst C dX3_readFact_91 ?_
                refine g_icmp_ne C (iw f6 (by decide) (by decide)) (iw (il 2) (by decide) (by decide)) 103 (by decide) dX3_readFact_92 (fun q599 => ?_) (fun q600 => ?_)
                · refine g_iconst C dX3_readFact_103 ?_
                  refine g_aload_n C rfl 2 rfl dX3_readFact_104 ?_
                  refine gf_R C fk_LandSurvey_Reader_69 rfl ta0 e11 dX3_readFact_105 ?_
                  refine g_getf2 (x := .inl (wFa.getD i306 0)) C e308 (C.2.2.2.2.2.2.1.1 i306 q307).2.2 kw_2284 dX3_readFact_108 ?_
                  have f601 : (-12 : Int) ≤ ((-1) - (wFa.getD i306 0)) ∧ ((-1) - (wFa.getD i306 0)) ≤ (-1 : Int) := ia_sub (il (-1)) f506 (by decide) (by decide)
                  refine g_isub C dX3_readFact_111 ?_
                  refine g_callI (st := []) (gc_V C lk_LandSurvey_Reader_244 (k_X3_emit l D cy w z0 O ta0 (iw f601 (by decide) (by decide)) (by unfold RInv; rw [e2, e5, e8, e11]; exact ⟨t3, P_RInv.2.1, p12, p13⟩) (by omega)) ta0 rfl rfl rfl ⟨by decide, by decide⟩ (Nat.le_of_ble_eq_true rfl) dX3_readFact_112 ⟨(by decide), (by decide)⟩) (fun r602 h603 f605 K604 => ?_)
                  obtain ⟨O606, F607, f608, p609⟩ := K604
                  have e610 : Rv h603 a0 13 = v1 := ((fxR F607 ta0 rfl).trans e2)
                  have e611 : Iv h603 a0 4 = v4 := ((fxI F607 ta0 rfl).trans e5)
                  have e612 : Jv h603 a0 5 = v7 := ((fxJ F607 ta0 rfl).trans e8)
                  have e613 : Rv h603 a0 6 = v10 := ((fxR F607 ta0 rfl).trans e11)
                  have p614 := p609.2.2.1
                  rw [e611, e612] at p614
                  have p615 := p609.2.2.2
                  rw [e613] at p615
                  refine g_pop C rfl dX3_readFact_115 ?_
                  refine g_aload_n C rfl 2 rfl dX3_readFact_116 ?_
                  have e616 : Tg h603 a0 = 4 := (fxT F607 ta0)
                  have e617 : Tg h603 v1 = 2006 := (fxT F607 t3)
                  refine g_callV (st := []) (gc_V C lk_LandSurvey_Reader_46 (k_X3_advance l D cy w z0 O606 e616 (by unfold RInv; rw [e610, e611, e612, e613]; exact ⟨e617, p609.2.1, p614, p615⟩)) e616 rfl rfl rfl ⟨by decide, by decide⟩ (Nat.le_of_ble_eq_true rfl) dX3_readFact_117 ⟨(by decide), (by decide)⟩) (fun h619 K620 => ?_)
                  obtain ⟨O622, F623, p624⟩ := K620
                  have e625 : Rv h619 a0 13 = v1 := ((fxR F623 e616 rfl).trans e610)
                  obtain ⟨v626, e627⟩ : ∃ z, Iv h619 a0 4 = z := ⟨_, rfl⟩
                  have e628 : Tg h619 a0 = 4 := (fxT F623 e616)
                  have f629 := ok_I O622 e628 rI_4_4 e627
                  obtain ⟨v630, e631⟩ : ∃ z, Jv h619 a0 5 = z := ⟨_, rfl⟩
                  have f632 := inL_J O622 e631
                  obtain ⟨v633, e634⟩ : ∃ z, Rv h619 a0 6 = z := ⟨_, rfl⟩
                  have p635 := p624.2.2.1
                  rw [e627, e631] at p635
                  have p636 := p624.2.2.2
                  rw [e634] at p636
                  refine g_iconst C dX3_readFact_120 ?_
                  have e637 : Tg h619 v1 = 2006 := (fxT F623 e617)
                  exact g_iret C hr (nar_z2 (iw (il 1) (by decide) (by decide))).1 (iw (il 1) (by decide) (by decide)) ⟨O622, (((Fx.rf (wr := wr_k_readFact_3)).call F607 rfl).call F623 rfl), (iw (il 1) (by decide) (by decide)), (by unfold RInv; rw [e625, e627, e631, e634]; exact ⟨e637, p624.2.1, p635, p636⟩)⟩ (by decide) (by decide) dX3_readFact_121
                · have f638 : (2 : Int) ≤ v4 ∧ v4 ≤ (2 : Int) := ii f6 (r_eq (il 2) q600) (by decide) (by decide)
                  have f639 : (0 : Int) ≤ v7 ∧ v7 ≤ (9999 : Int) := by omega
                  refine g_aload_n C rfl 2 rfl dX3_readFact_95 ?_
                  refine gf_J C fk_LandSurvey_Reader_73 rfl ta0 e8 dX3_readFact_96 ?_
                  refine g_l2i C dX3_readFact_99 ?_
                  have f640 : (0 : Int) ≤ (l2w v7) ∧ (l2w v7) ≤ (9999 : Int) := l2w_in f639 (by decide) (by decide)
                  refine g_goto C 112 (by decide) dX3_readFact_100 ?_
                  refine g_callI (st := []) (gc_V C lk_LandSurvey_Reader_244 (k_X3_emit l D cy w z0 O ta0 (iw f640 (by decide) (by decide)) (by unfold RInv; rw [e2, e5, e8, e11]; exact ⟨t3, P_RInv.2.1, p12, p13⟩) (by omega)) ta0 rfl rfl rfl ⟨by decide, by decide⟩ (Nat.le_of_ble_eq_true rfl) dX3_readFact_112 ⟨(by decide), (by decide)⟩) (fun r641 h642 f644 K643 => ?_)
                  obtain ⟨O645, F646, f647, p648⟩ := K643
                  have e649 : Rv h642 a0 13 = v1 := ((fxR F646 ta0 rfl).trans e2)
                  have e650 : Iv h642 a0 4 = v4 := ((fxI F646 ta0 rfl).trans e5)
                  have e651 : Jv h642 a0 5 = v7 := ((fxJ F646 ta0 rfl).trans e8)
                  have e652 : Rv h642 a0 6 = v10 := ((fxR F646 ta0 rfl).trans e11)
                  have p653 := p648.2.2.1
                  rw [e650, e651] at p653
                  have p654 := p648.2.2.2
                  rw [e652] at p654
                  refine g_pop C rfl dX3_readFact_115 ?_
                  refine g_aload_n C rfl 2 rfl dX3_readFact_116 ?_
                  have e655 : Tg h642 a0 = 4 := (fxT F646 ta0)
                  have e656 : Tg h642 v1 = 2006 := (fxT F646 t3)
                  refine g_callV (st := []) (gc_V C lk_LandSurvey_Reader_46 (k_X3_advance l D cy w z0 O645 e655 (by unfold RInv; rw [e649, e650, e651, e652]; exact ⟨e656, p648.2.1, p653, p654⟩)) e655 rfl rfl rfl ⟨by decide, by decide⟩ (Nat.le_of_ble_eq_true rfl) dX3_readFact_117 ⟨(by decide), (by decide)⟩) (fun h658 K659 => ?_)
                  obtain ⟨O661, F662, p663⟩ := K659
                  have e664 : Rv h658 a0 13 = v1 := ((fxR F662 e655 rfl).trans e649)
                  obtain ⟨v665, e666⟩ : ∃ z, Iv h658 a0 4 = z := ⟨_, rfl⟩
                  have e667 : Tg h658 a0 = 4 := (fxT F662 e655)
                  have f668 := ok_I O661 e667 rI_4_4 e666
                  obtain ⟨v669, e670⟩ : ∃ z, Jv h658 a0 5 = z := ⟨_, rfl⟩
                  have f671 := inL_J O661 e670
                  obtain ⟨v672, e673⟩ : ∃ z, Rv h658 a0 6 = z := ⟨_, rfl⟩
                  have p674 := p663.2.2.1
                  rw [e666, e670] at p674
                  have p675 := p663.2.2.2
                  rw [e673] at p675
                  refine g_iconst C dX3_readFact_120 ?_
                  have e676 : Tg h658 v1 = 2006 := (fxT F662 e656)
                  exact g_iret C hr (nar_z2 (iw (il 1) (by decide) (by decide))).1 (iw (il 1) (by decide) (by decide)) ⟨O661, (((Fx.rf (wr := wr_k_readFact_3)).call F646 rfl).call F662 rfl), (iw (il 1) (by decide) (by decide)), (by unfold RInv; rw [e664, e666, e670, e673]; exact ⟨e676, p663.2.1, p674, p675⟩)⟩ (by decide) (by decide) dX3_readFact_121
            · exact (no_le (il 4) fa1 q596 (by decide)).elim
          · exact (no_eq (il 1) (il 0) q594 (by decide)).elim
def wr_k_readSum_3 : List Nat := [802, 803, 804, 805, 806, 807, 812, 4020000]
set_option maxRecDepth 100000 in
set_option maxHeartbeats 4000000 in
theorem k_readSum_3 (l : Launch) (D : va_G) (cy : Nat → ClassId) (w : Nat → Nat) (z0 : Nat)  {h : Hp} {a0 : Nat} {a1 : Int}  (O : Okh h) (ta0 : Tg h a0 = 4) (fa1 : 3 ≤ a1 ∧ a1 ≤ 3) (P_RInv : RInv w h a0) : MI l D cy w z0 yX3_readSum cX3_readSum 4 (some .boolean) 11 247 0 0 [.inr (.inr a0), .inl a1] h (fun v h1 => Okh h1 ∧ Fx wr_k_readSum_3 h h1 ∧ (0 ≤ v ∧ v ≤ 1) ∧ (RInv w h1 a0)) := by
  obtain ⟨v1, e2⟩ : ∃ z, Rv h a0 13 = z := ⟨_, rfl⟩
  have t3 := P_RInv.1
  rw [e2] at t3
  obtain ⟨v4, e5⟩ : ∃ z, Iv h a0 4 = z := ⟨_, rfl⟩
  have f6 := ok_I O ta0 rI_4_4 e5
  obtain ⟨v7, e8⟩ : ∃ z, Jv h a0 5 = z := ⟨_, rfl⟩
  have f9 := inL_J O e8
  obtain ⟨v10, e11⟩ : ∃ z, Rv h a0 6 = z := ⟨_, rfl⟩
  have p12 := P_RInv.2.2.1
  rw [e5, e8] at p12
  have p13 := P_RInv.2.2.2
  rw [e11] at p13
  refine hm_go (by decide +kernel) (Nat.le_of_ble_eq_true rfl) (fun p e s m below meth c C hr hn => ?_)
  refine g_aload_n C rfl 0 rfl dX3_readSum_0 ?_
  refine g_iload_n C rfl 1 rfl dX3_readSum_1 ?_
  refine g_callI (st := []) (gc_V C lk_LandSurvey_Reader_250 (k_readFact_3 l D cy w z0 O ta0 fa1 (by unfold RInv; rw [e2, e5, e8, e11]; exact ⟨t3, P_RInv.2.1, p12, p13⟩)) ta0 rfl rfl rfl ⟨by decide, by decide⟩ (Nat.le_of_ble_eq_true rfl) dX3_readSum_2 ⟨(by decide), (by decide)⟩) (fun r14 h15 f17 K16 => ?_)
  obtain ⟨O18, F19, f20, p21⟩ := K16
  have e22 : Rv h15 a0 13 = v1 := ((fxR F19 ta0 rfl).trans e2)
  obtain ⟨v23, e24⟩ : ∃ z, Iv h15 a0 4 = z := ⟨_, rfl⟩
  have e25 : Tg h15 a0 = 4 := (fxT F19 ta0)
  have f26 := ok_I O18 e25 rI_4_4 e24
  obtain ⟨v27, e28⟩ : ∃ z, Jv h15 a0 5 = z := ⟨_, rfl⟩
  have f29 := inL_J O18 e28
  obtain ⟨v30, e31⟩ : ∃ z, Rv h15 a0 6 = z := ⟨_, rfl⟩
  have p32 := p21.2.2.1
  rw [e24, e28] at p32
  have p33 := p21.2.2.2
  rw [e31] at p33
  refine g_if_ne C (iw f20 (by decide) (by decide)) 10 (by decide) dX3_readSum_5 (fun q34 => ?_) (fun q35 => ?_)
  · have f36 : (1 : Int) ≤ r14 ∧ r14 ≤ (1 : Int) := r_nl f20 q34
    refine g_iconst C dX3_readSum_10 ?_
    refine g_istore_n C [(2, .inl 0), (0, .inr (.inr a0)), (1, .inl a1)] rfl (by decide) rfl dX3_readSum_11 ?_
    refine GW.sub [1, 2, 0] rfl ?_
    -- loop at 12
    have L39 : ∀ (μ : Nat) (x37 : Int) (h38 : Hp), (1501 - x37).toNat = μ → Okh h38 → Fx [802, 803, 804, 805, 806, 807, 812, 4020000] h15 h38 → ((0 : Int) ≤ x37 ∧ x37 ≤ (1501 : Int)) → (RInv w h38 a0) → GW p l e (rmm 11 247 0 0) s m (List.map toV [.inr (.inr a0), .inl a1]).toArray below meth c D cy z0 4 (MQ below (QI D cy z0 (fun v h1 => Okh h1 ∧ Fx wr_k_readSum_3 h h1 ∧ (0 ≤ v ∧ v ≤ 1) ∧ (RInv w h1 a0))) (List.map toV [.inr (.inr a0), .inl a1]).toArray s 0 0 (Aof z0)) 12 [(0, .inr (.inr a0)), (1, .inl a1), (2, .inl x37)] [] h38 0 0 := by
      intro μ
      induction μ using Nat.strongRecOn with
      | ind μ ih40 =>
        intro x37 h38 hm41 O42 F43 f44 p45
        have e46 : Rv h38 a0 13 = v1 := ((fxR F43 e25 rfl).trans e22)
        obtain ⟨v47, e48⟩ : ∃ z, Iv h38 a0 4 = z := ⟨_, rfl⟩
        have e49 : Tg h38 a0 = 4 := (fxT F43 e25)
        have f50 := ok_I O42 e49 rI_4_4 e48
        obtain ⟨v51, e52⟩ : ∃ z, Jv h38 a0 5 = z := ⟨_, rfl⟩
        have f53 := inL_J O42 e52
        obtain ⟨v54, e55⟩ : ∃ z, Rv h38 a0 6 = z := ⟨_, rfl⟩
        have p56 := p45.2.2.1
        rw [e48, e52] at p56
        have p57 := p45.2.2.2
        rw [e55] at p57
        refine g_iload_n C rfl 2 rfl dX3_readSum_12 ?_
        refine g_sipush C (by decide) dX3_readSum_13 ?_
        refine g_icmp_gt C (iw f44 (by decide) (by decide)) (iw (il 1500) (by decide) (by decide)) 82 (by decide) dX3_readSum_16 (fun q58 => ?_) (fun q59 => ?_)
        · have f60 : (1501 : Int) ≤ x37 ∧ x37 ≤ (1501 : Int) := r_gt f44 (il 1500) q58 (by decide) (by decide)
          refine g_iconst C dX3_readSum_82 ?_
          have e61 : Tg h38 v1 = 2006 := (fxT F43 (fxT F19 t3))
          exact g_iret C hr (nar_z2 (iw (il 1) (by decide) (by decide))).1 (iw (il 1) (by decide) (by decide)) ⟨O42, (((Fx.rf (wr := wr_k_readSum_3)).call F19 rfl).call F43 rfl), (iw (il 1) (by decide) (by decide)), (by unfold RInv; rw [e46, e48, e52, e55]; exact ⟨e61, p45.2.1, p56, p57⟩)⟩ (by decide) (by decide) dX3_readSum_83
        · have f62 : (0 : Int) ≤ x37 ∧ x37 ≤ (1500 : Int) := r_le f44 (il 1500) q59 (by decide) (by decide)
          refine g_aload_n C rfl 0 rfl dX3_readSum_19 ?_
          refine g_bipush C (by decide) dX3_readSum_20 ?_
          refine g_callI (st := []) (gc_V C lk_LandSurvey_Reader_95 (k_X3_isNext l D cy w z0 O42 e49 (iw (il 43) (by decide) (by decide))) e49 rfl rfl rfl ⟨by decide, by decide⟩ (Nat.le_of_ble_eq_true rfl) dX3_readSum_22 ⟨(by decide), (by decide)⟩) (fun r63 h64 f66 K65 => ?_)
          obtain ⟨O67, F68, f69⟩ := K65
          refine g_if_ne C (iw f69 (by decide) (by decide)) 37 (by decide) dX3_readSum_25 (fun q70 => ?_) (fun q71 => ?_)
          · have f72 : (1 : Int) ≤ r63 ∧ r63 ≤ (1 : Int) := r_nl f69 q70
            refine g_aload_n C rfl 0 rfl dX3_readSum_37 ?_
            refine g_bipush C (by decide) dX3_readSum_38 ?_
            have e73 : Tg h64 a0 = 4 := (fxT F68 e49)
            refine g_callI (st := []) (gc_V C lk_LandSurvey_Reader_95 (k_X3_isNext l D cy w z0 O67 e73 (iw (il 43) (by decide) (by decide))) e73 rfl rfl rfl ⟨by decide, by decide⟩ (Nat.le_of_ble_eq_true rfl) dX3_readSum_40 ⟨(by decide), (by decide)⟩) (fun r74 h75 f77 K76 => ?_)
            obtain ⟨O78, F79, f80⟩ := K76
            refine g_if_eq C (iw f80 (by decide) (by decide)) 51 (by decide) dX3_readSum_43 (fun q81 => ?_) (fun q82 => ?_)
            · have f83 : (0 : Int) ≤ r74 ∧ r74 ≤ (0 : Int) := ii f80 (r_eq (il 0) q81) (by decide) (by decide)
              refine g_bipush C (by decide) dX3_readSum_51 ?_
              refine g_istore_n C [(3, .inl (-22)), (0, .inr (.inr a0)), (1, .inl a1), (2, .inl x37)] rfl (by decide) rfl dX3_readSum_53 ?_
              refine g_aload_n C rfl 1 rfl dX3_readSum_54 ?_
              have e84 : Tg h75 a0 = 4 := (fxT F79 e73)
              have e85 : Rv h75 a0 13 = v1 := ((fxR F79 e73 rfl).trans ((fxR F68 e49 rfl).trans e46))
              have e86 : Iv h75 a0 4 = v47 := ((fxI F79 e73 rfl).trans ((fxI F68 e49 rfl).trans e48))
              have e87 : Jv h75 a0 5 = v51 := ((fxJ F79 e73 rfl).trans ((fxJ F68 e49 rfl).trans e52))
              have e88 : Rv h75 a0 6 = v54 := ((fxR F79 e73 rfl).trans ((fxR F68 e49 rfl).trans e55))
              have e89 : Tg h75 v1 = 2006 := (fxT F79 (fxT F68 (fxT F43 (fxT F19 t3))))
              have e90 : Tg h38 v1 = 2006 := (fxT F43 (fxT F19 t3))
              have e91 : Rv h64 a0 13 = v1 := ((fxR F68 e49 rfl).trans e46)
              have e92 : Tg h64 v1 = 2006 := (fxT F68 e90)
              have p93 := (DOk_fx O67 F79 e73 (by rw [e91]; exact e92) rfl (DOk_fx O42 F68 e49 (by rw [e46]; exact e90) rfl p45.2.1))
              refine g_callV (st := []) (gc_V C lk_LandSurvey_Reader_46 (k_X3_advance l D cy w z0 O78 e84 (by unfold RInv; rw [e85, e86, e87, e88]; exact ⟨e89, p93, p56, p57⟩)) e84 rfl rfl rfl ⟨by decide, by decide⟩ (Nat.le_of_ble_eq_true rfl) dX3_readSum_55 ⟨(by decide), (by decide)⟩) (fun h95 K96 => ?_)
              obtain ⟨O98, F99, p100⟩ := K96
              have e101 : Rv h95 a0 13 = v1 := ((fxR F99 e84 rfl).trans e85)
              obtain ⟨v102, e103⟩ : ∃ z, Iv h95 a0 4 = z := ⟨_, rfl⟩
              have e104 : Tg h95 a0 = 4 := (fxT F99 e84)
              have f105 := ok_I O98 e104 rI_4_4 e103
              obtain ⟨v106, e107⟩ : ∃ z, Jv h95 a0 5 = z := ⟨_, rfl⟩
              have f108 := inL_J O98 e107
              obtain ⟨v109, e110⟩ : ∃ z, Rv h95 a0 6 = z := ⟨_, rfl⟩
              have p111 := p100.2.2.1
              rw [e103, e107] at p111
              have p112 := p100.2.2.2
              rw [e110] at p112
              refine g_aload_n C rfl 1 rfl dX3_readSum_58 ?_
              refine g_iload_n C rfl 2 rfl dX3_readSum_59 ?_
              have e113 : Tg h95 v1 = 2006 := (fxT F99 e89)
              refine g_callI (st := []) (gc_V C lk_LandSurvey_Reader_250 (k_readFact_3 l D cy w z0 O98 e104 fa1 (by unfold RInv; rw [e101, e103, e107, e110]; exact ⟨e113, p100.2.1, p111, p112⟩)) e104 rfl rfl rfl ⟨by decide, by decide⟩ (Nat.le_of_ble_eq_true rfl) dX3_readSum_60 ⟨(by decide), (by decide)⟩) (fun r114 h115 f117 K116 => ?_)
              obtain ⟨O118, F119, f120, p121⟩ := K116
              have e122 : Rv h115 a0 13 = v1 := ((fxR F119 e104 rfl).trans e101)
              obtain ⟨v123, e124⟩ : ∃ z, Iv h115 a0 4 = z := ⟨_, rfl⟩
              have e125 : Tg h115 a0 = 4 := (fxT F119 e104)
              have f126 := ok_I O118 e125 rI_4_4 e124
              obtain ⟨v127, e128⟩ : ∃ z, Jv h115 a0 5 = z := ⟨_, rfl⟩
              have f129 := inL_J O118 e128
              obtain ⟨v130, e131⟩ : ∃ z, Rv h115 a0 6 = z := ⟨_, rfl⟩
              have p132 := p121.2.2.1
              rw [e124, e128] at p132
              have p133 := p121.2.2.2
              rw [e131] at p133
              refine g_if_eq C (iw f120 (by decide) (by decide)) 74 (by decide) dX3_readSum_63 (fun q134 => ?_) (fun q135 => ?_)
              · have f136 : (0 : Int) ≤ r114 ∧ r114 ≤ (0 : Int) := ii f120 (r_eq (il 0) q134) (by decide) (by decide)
                refine g_iconst C dX3_readSum_74 ?_
                have e137 : Tg h115 v1 = 2006 := (fxT F119 e113)
                exact g_iret C hr (nar_z2 (iw (il 0) (by decide) (by decide))).1 (iw (il 0) (by decide) (by decide)) ⟨O118, (((((((Fx.rf (wr := wr_k_readSum_3)).call F19 rfl).call F43 rfl).call F68 rfl).call F79 rfl).call F99 rfl).call F119 rfl), (iw (il 0) (by decide) (by decide)), (by unfold RInv; rw [e122, e124, e128, e131]; exact ⟨e137, p121.2.1, p132, p133⟩)⟩ (by decide) (by decide) dX3_readSum_75
              · have f138 : (1 : Int) ≤ r114 ∧ r114 ≤ (1 : Int) := r_nl f120 q135
                refine g_aload_n C rfl 1 rfl dX3_readSum_66 ?_
                refine g_iload_n C rfl 0 rfl dX3_readSum_67 ?_
                have e139 : Tg h115 v1 = 2006 := (fxT F119 e113)
                refine g_callI (st := []) (gc_V C lk_LandSurvey_Reader_244 (k_X3_emit l D cy w z0 O118 e125 (iw (il (-22)) (by decide) (by decide)) (by unfold RInv; rw [e122, e124, e128, e131]; exact ⟨e139, p121.2.1, p132, p133⟩) (by omega)) e125 rfl rfl rfl ⟨by decide, by decide⟩ (Nat.le_of_ble_eq_true rfl) dX3_readSum_68 ⟨(by decide), (by decide)⟩) (fun r140 h141 f143 K142 => ?_)
                obtain ⟨O144, F145, f146, p147⟩ := K142
                have e148 : Rv h141 a0 13 = v1 := ((fxR F145 e125 rfl).trans e122)
                have e149 : Iv h141 a0 4 = v123 := ((fxI F145 e125 rfl).trans e124)
                have e150 : Jv h141 a0 5 = v127 := ((fxJ F145 e125 rfl).trans e128)
                have e151 : Rv h141 a0 6 = v130 := ((fxR F145 e125 rfl).trans e131)
                have p152 := p147.2.2.1
                rw [e149, e150] at p152
                have p153 := p147.2.2.2
                rw [e151] at p153
                refine g_if_ne C (iw f146 (by decide) (by decide)) 76 (by decide) dX3_readSum_71 (fun q154 => ?_) (fun q155 => ?_)
                · have f156 : (1 : Int) ≤ (x37 + 1) ∧ (x37 + 1) ≤ (1501 : Int) := ia_add f62 (il 1) (by decide) (by decide)
                  refine g_iinc C [(2, .inl (x37 + 1)), (3, .inl (-22)), (0, .inr (.inr a0)), (1, .inl a1)] 3 rfl (by decide) rfl dX3_readSum_76 ?_
                  refine g_goto C 12 (by decide) dX3_readSum_79 ?_
                  refine GW.sub [2, 3, 0] rfl ?_
                  have e157 : Tg h141 v1 = 2006 := (fxT F145 e139)
                  exact ih40 _ (by omega) (x37 + 1) h141 rfl O144 (((((F43.call F68 rfl).call F79 rfl).call F99 rfl).call F119 rfl).call F145 rfl) (iw f156 (by decide) (by decide)) (by unfold RInv; rw [e148, e149, e150, e151]; exact ⟨e157, p147.2.1, p152, p153⟩)
                · exact (no_eq f146 (il 0) q155 (by decide)).elim
            · have f158 : (1 : Int) ≤ r74 ∧ r74 ≤ (1 : Int) := r_nl f80 q82
              refine g_bipush C (by decide) dX3_readSum_46 ?_
              refine g_goto C 53 (by decide) dX3_readSum_48 ?_
              refine g_istore_n C [(3, .inl (-21)), (0, .inr (.inr a0)), (1, .inl a1), (2, .inl x37)] rfl (by decide) rfl dX3_readSum_53 ?_
              refine g_aload_n C rfl 1 rfl dX3_readSum_54 ?_
              have e159 : Tg h75 a0 = 4 := (fxT F79 e73)
              have e160 : Rv h75 a0 13 = v1 := ((fxR F79 e73 rfl).trans ((fxR F68 e49 rfl).trans e46))
              have e161 : Iv h75 a0 4 = v47 := ((fxI F79 e73 rfl).trans ((fxI F68 e49 rfl).trans e48))
              have e162 : Jv h75 a0 5 = v51 := ((fxJ F79 e73 rfl).trans ((fxJ F68 e49 rfl).trans e52))
              have e163 : Rv h75 a0 6 = v54 := ((fxR F79 e73 rfl).trans ((fxR F68 e49 rfl).trans e55))
              have e164 : Tg h75 v1 = 2006 := (fxT F79 (fxT F68 (fxT F43 (fxT F19 t3))))
              have e165 : Tg h38 v1 = 2006 := (fxT F43 (fxT F19 t3))
              have e166 : Rv h64 a0 13 = v1 := ((fxR F68 e49 rfl).trans e46)
              have e167 : Tg h64 v1 = 2006 := (fxT F68 e165)
              have p168 := (DOk_fx O67 F79 e73 (by rw [e166]; exact e167) rfl (DOk_fx O42 F68 e49 (by rw [e46]; exact e165) rfl p45.2.1))
              refine g_callV (st := []) (gc_V C lk_LandSurvey_Reader_46 (k_X3_advance l D cy w z0 O78 e159 (by unfold RInv; rw [e160, e161, e162, e163]; exact ⟨e164, p168, p56, p57⟩)) e159 rfl rfl rfl ⟨by decide, by decide⟩ (Nat.le_of_ble_eq_true rfl) dX3_readSum_55 ⟨(by decide), (by decide)⟩) (fun h170 K171 => ?_)
              obtain ⟨O173, F174, p175⟩ := K171
              have e176 : Rv h170 a0 13 = v1 := ((fxR F174 e159 rfl).trans e160)
              obtain ⟨v177, e178⟩ : ∃ z, Iv h170 a0 4 = z := ⟨_, rfl⟩
              have e179 : Tg h170 a0 = 4 := (fxT F174 e159)
              have f180 := ok_I O173 e179 rI_4_4 e178
              obtain ⟨v181, e182⟩ : ∃ z, Jv h170 a0 5 = z := ⟨_, rfl⟩
              have f183 := inL_J O173 e182
              obtain ⟨v184, e185⟩ : ∃ z, Rv h170 a0 6 = z := ⟨_, rfl⟩
              have p186 := p175.2.2.1
              rw [e178, e182] at p186
              have p187 := p175.2.2.2
              rw [e185] at p187
              refine g_aload_n C rfl 1 rfl dX3_readSum_58 ?_
              refine g_iload_n C rfl 2 rfl dX3_readSum_59 ?_
              have e188 : Tg h170 v1 = 2006 := (fxT F174 e164)
              refine g_callI (st := []) (gc_V C lk_LandSurvey_Reader_250 (k_readFact_3 l D cy w z0 O173 e179 fa1 (by unfold RInv; rw [e176, e178, e182, e185]; exact ⟨e188, p175.2.1, p186, p187⟩)) e179 rfl rfl rfl ⟨by decide, by decide⟩ (Nat.le_of_ble_eq_true rfl) dX3_readSum_60 ⟨(by decide), (by decide)⟩) (fun r189 h190 f192 K191 => ?_)
              obtain ⟨O193, F194, f195, p196⟩ := K191
              have e197 : Rv h190 a0 13 = v1 := ((fxR F194 e179 rfl).trans e176)
              obtain ⟨v198, e199⟩ : ∃ z, Iv h190 a0 4 = z := ⟨_, rfl⟩
              have e200 : Tg h190 a0 = 4 := (fxT F194 e179)
              have f201 := ok_I O193 e200 rI_4_4 e199
              obtain ⟨v202, e203⟩ : ∃ z, Jv h190 a0 5 = z := ⟨_, rfl⟩
              have f204 := inL_J O193 e203
              obtain ⟨v205, e206⟩ : ∃ z, Rv h190 a0 6 = z := ⟨_, rfl⟩
              have p207 := p196.2.2.1
              rw [e199, e203] at p207
              have p208 := p196.2.2.2
              rw [e206] at p208
              refine g_if_eq C (iw f195 (by decide) (by decide)) 74 (by decide) dX3_readSum_63 (fun q209 => ?_) (fun q210 => ?_)
              · have f211 : (0 : Int) ≤ r189 ∧ r189 ≤ (0 : Int) := ii f195 (r_eq (il 0) q209) (by decide) (by decide)
                refine g_iconst C dX3_readSum_74 ?_
                have e212 : Tg h190 v1 = 2006 := (fxT F194 e188)
                exact g_iret C hr (nar_z2 (iw (il 0) (by decide) (by decide))).1 (iw (il 0) (by decide) (by decide)) ⟨O193, (((((((Fx.rf (wr := wr_k_readSum_3)).call F19 rfl).call F43 rfl).call F68 rfl).call F79 rfl).call F174 rfl).call F194 rfl), (iw (il 0) (by decide) (by decide)), (by unfold RInv; rw [e197, e199, e203, e206]; exact ⟨e212, p196.2.1, p207, p208⟩)⟩ (by decide) (by decide) dX3_readSum_75
              · have f213 : (1 : Int) ≤ r189 ∧ r189 ≤ (1 : Int) := r_nl f195 q210
                refine g_aload_n C rfl 1 rfl dX3_readSum_66 ?_
                refine g_iload_n C rfl 0 rfl dX3_readSum_67 ?_
                have e214 : Tg h190 v1 = 2006 := (fxT F194 e188)
                refine g_callI (st := []) (gc_V C lk_LandSurvey_Reader_244 (k_X3_emit l D cy w z0 O193 e200 (iw (il (-21)) (by decide) (by decide)) (by unfold RInv; rw [e197, e199, e203, e206]; exact ⟨e214, p196.2.1, p207, p208⟩) (by omega)) e200 rfl rfl rfl ⟨by decide, by decide⟩ (Nat.le_of_ble_eq_true rfl) dX3_readSum_68 ⟨(by decide), (by decide)⟩) (fun r215 h216 f218 K217 => ?_)
                obtain ⟨O219, F220, f221, p222⟩ := K217
                have e223 : Rv h216 a0 13 = v1 := ((fxR F220 e200 rfl).trans e197)
                have e224 : Iv h216 a0 4 = v198 := ((fxI F220 e200 rfl).trans e199)
                have e225 : Jv h216 a0 5 = v202 := ((fxJ F220 e200 rfl).trans e203)
                have e226 : Rv h216 a0 6 = v205 := ((fxR F220 e200 rfl).trans e206)
                have p227 := p222.2.2.1
                rw [e224, e225] at p227
                have p228 := p222.2.2.2
                rw [e226] at p228
                refine g_if_ne C (iw f221 (by decide) (by decide)) 76 (by decide) dX3_readSum_71 (fun q229 => ?_) (fun q230 => ?_)
                · have f231 : (1 : Int) ≤ (x37 + 1) ∧ (x37 + 1) ≤ (1501 : Int) := ia_add f62 (il 1) (by decide) (by decide)
                  refine g_iinc C [(2, .inl (x37 + 1)), (3, .inl (-21)), (0, .inr (.inr a0)), (1, .inl a1)] 3 rfl (by decide) rfl dX3_readSum_76 ?_
                  refine g_goto C 12 (by decide) dX3_readSum_79 ?_
                  refine GW.sub [2, 3, 0] rfl ?_
                  have e232 : Tg h216 v1 = 2006 := (fxT F220 e214)
                  exact ih40 _ (by omega) (x37 + 1) h216 rfl O219 (((((F43.call F68 rfl).call F79 rfl).call F174 rfl).call F194 rfl).call F220 rfl) (iw f231 (by decide) (by decide)) (by unfold RInv; rw [e223, e224, e225, e226]; exact ⟨e232, p222.2.1, p227, p228⟩)
                · exact (no_eq f221 (il 0) q230 (by decide)).elim
          · have f233 : (0 : Int) ≤ r63 ∧ r63 ≤ (0 : Int) := ii f69 (r_eq (il 0) q71) (by decide) (by decide)
            refine g_aload_n C rfl 0 rfl dX3_readSum_28 ?_
            refine g_bipush C (by decide) dX3_readSum_29 ?_
            have e234 : Tg h64 a0 = 4 := (fxT F68 e49)
            refine g_callI (st := []) (gc_V C lk_LandSurvey_Reader_95 (k_X3_isNext l D cy w z0 O67 e234 (iw (il 45) (by decide) (by decide))) e234 rfl rfl rfl ⟨by decide, by decide⟩ (Nat.le_of_ble_eq_true rfl) dX3_readSum_31 ⟨(by decide), (by decide)⟩) (fun r235 h236 f238 K237 => ?_)
            obtain ⟨O239, F240, f241⟩ := K237
            refine g_if_eq C (iw f241 (by decide) (by decide)) 82 (by decide) dX3_readSum_34 (fun q242 => ?_) (fun q243 => ?_)
            · have f244 : (0 : Int) ≤ r235 ∧ r235 ≤ (0 : Int) := ii f241 (r_eq (il 0) q242) (by decide) (by decide)
              refine g_iconst C dX3_readSum_82 ?_
              have e245 : Rv h236 a0 13 = v1 := ((fxR F240 e234 rfl).trans ((fxR F68 e49 rfl).trans e46))
              have e246 : Iv h236 a0 4 = v47 := ((fxI F240 e234 rfl).trans ((fxI F68 e49 rfl).trans e48))
              have e247 : Jv h236 a0 5 = v51 := ((fxJ F240 e234 rfl).trans ((fxJ F68 e49 rfl).trans e52))
              have e248 : Rv h236 a0 6 = v54 := ((fxR F240 e234 rfl).trans ((fxR F68 e49 rfl).trans e55))
              have e249 : Tg h236 v1 = 2006 := (fxT F240 (fxT F68 (fxT F43 (fxT F19 t3))))
              have e250 : Tg h38 v1 = 2006 := (fxT F43 (fxT F19 t3))
              have e251 : Rv h64 a0 13 = v1 := ((fxR F68 e49 rfl).trans e46)
              have e252 : Tg h64 v1 = 2006 := (fxT F68 e250)
              have p253 := (DOk_fx O67 F240 e234 (by rw [e251]; exact e252) rfl (DOk_fx O42 F68 e49 (by rw [e46]; exact e250) rfl p45.2.1))
              exact g_iret C hr (nar_z2 (iw (il 1) (by decide) (by decide))).1 (iw (il 1) (by decide) (by decide)) ⟨O239, (((((Fx.rf (wr := wr_k_readSum_3)).call F19 rfl).call F43 rfl).call F68 rfl).call F240 rfl), (iw (il 1) (by decide) (by decide)), (by unfold RInv; rw [e245, e246, e247, e248]; exact ⟨e249, p253, p56, p57⟩)⟩ (by decide) (by decide) dX3_readSum_83
            · have f254 : (1 : Int) ≤ r235 ∧ r235 ≤ (1 : Int) := r_nl f241 q243
              refine g_aload_n C rfl 0 rfl dX3_readSum_37 ?_
              refine g_bipush C (by decide) dX3_readSum_38 ?_
              have e255 : Tg h236 a0 = 4 := (fxT F240 e234)
              refine g_callI (st := []) (gc_V C lk_LandSurvey_Reader_95 (k_X3_isNext l D cy w z0 O239 e255 (iw (il 43) (by decide) (by decide))) e255 rfl rfl rfl ⟨by decide, by decide⟩ (Nat.le_of_ble_eq_true rfl) dX3_readSum_40 ⟨(by decide), (by decide)⟩) (fun r256 h257 f259 K258 => ?_)
              obtain ⟨O260, F261, f262⟩ := K258
              refine g_if_eq C (iw f262 (by decide) (by decide)) 51 (by decide) dX3_readSum_43 (fun q263 => ?_) (fun q264 => ?_)
              · have f265 : (0 : Int) ≤ r256 ∧ r256 ≤ (0 : Int) := ii f262 (r_eq (il 0) q263) (by decide) (by decide)
                refine g_bipush C (by decide) dX3_readSum_51 ?_
                refine g_istore_n C [(3, .inl (-22)), (0, .inr (.inr a0)), (1, .inl a1), (2, .inl x37)] rfl (by decide) rfl dX3_readSum_53 ?_
                refine g_aload_n C rfl 1 rfl dX3_readSum_54 ?_
                have e266 : Tg h257 a0 = 4 := (fxT F261 e255)
                have e267 : Rv h257 a0 13 = v1 := ((fxR F261 e255 rfl).trans ((fxR F240 e234 rfl).trans ((fxR F68 e49 rfl).trans e46)))
                have e268 : Iv h257 a0 4 = v47 := ((fxI F261 e255 rfl).trans ((fxI F240 e234 rfl).trans ((fxI F68 e49 rfl).trans e48)))
                have e269 : Jv h257 a0 5 = v51 := ((fxJ F261 e255 rfl).trans ((fxJ F240 e234 rfl).trans ((fxJ F68 e49 rfl).trans e52)))
                have e270 : Rv h257 a0 6 = v54 := ((fxR F261 e255 rfl).trans ((fxR F240 e234 rfl).trans ((fxR F68 e49 rfl).trans e55)))
                have e271 : Tg h257 v1 = 2006 := (fxT F261 (fxT F240 (fxT F68 (fxT F43 (fxT F19 t3)))))
                have e272 : Tg h38 v1 = 2006 := (fxT F43 (fxT F19 t3))
                have e273 : Rv h64 a0 13 = v1 := ((fxR F68 e49 rfl).trans e46)
                have e274 : Tg h64 v1 = 2006 := (fxT F68 e272)
                have e275 : Rv h236 a0 13 = v1 := ((fxR F240 e234 rfl).trans e273)
                have e276 : Tg h236 v1 = 2006 := (fxT F240 e274)
                have p277 := (DOk_fx O239 F261 e255 (by rw [e275]; exact e276) rfl (DOk_fx O67 F240 e234 (by rw [e273]; exact e274) rfl (DOk_fx O42 F68 e49 (by rw [e46]; exact e272) rfl p45.2.1)))
                refine g_callV (st := []) (gc_V C lk_LandSurvey_Reader_46 (k_X3_advance l D cy w z0 O260 e266 (by unfold RInv; rw [e267, e268, e269, e270]; exact ⟨e271, p277, p56, p57⟩)) e266 rfl rfl rfl ⟨by decide, by decide⟩ (Nat.le_of_ble_eq_true rfl) dX3_readSum_55 ⟨(by decide), (by decide)⟩) (fun h279 K280 => ?_)
                obtain ⟨O282, F283, p284⟩ := K280
                have e285 : Rv h279 a0 13 = v1 := ((fxR F283 e266 rfl).trans e267)
                obtain ⟨v286, e287⟩ : ∃ z, Iv h279 a0 4 = z := ⟨_, rfl⟩
                have e288 : Tg h279 a0 = 4 := (fxT F283 e266)
                have f289 := ok_I O282 e288 rI_4_4 e287
                obtain ⟨v290, e291⟩ : ∃ z, Jv h279 a0 5 = z := ⟨_, rfl⟩
                have f292 := inL_J O282 e291
                obtain ⟨v293, e294⟩ : ∃ z, Rv h279 a0 6 = z := ⟨_, rfl⟩
                have p295 := p284.2.2.1
                rw [e287, e291] at p295
                have p296 := p284.2.2.2
                rw [e294] at p296
                refine g_aload_n C rfl 1 rfl dX3_readSum_58 ?_
                refine g_iload_n C rfl 2 rfl dX3_readSum_59 ?_
                have e297 : Tg h279 v1 = 2006 := (fxT F283 e271)
                refine g_callI (st := []) (gc_V C lk_LandSurvey_Reader_250 (k_readFact_3 l D cy w z0 O282 e288 fa1 (by unfold RInv; rw [e285, e287, e291, e294]; exact ⟨e297, p284.2.1, p295, p296⟩)) e288 rfl rfl rfl ⟨by decide, by decide⟩ (Nat.le_of_ble_eq_true rfl) dX3_readSum_60 ⟨(by decide), (by decide)⟩) (fun r298 h299 f301 K300 => ?_)
                obtain ⟨O302, F303, f304, p305⟩ := K300
                have e306 : Rv h299 a0 13 = v1 := ((fxR F303 e288 rfl).trans e285)
                obtain ⟨v307, e308⟩ : ∃ z, Iv h299 a0 4 = z := ⟨_, rfl⟩
                have e309 : Tg h299 a0 = 4 := (fxT F303 e288)
                have f310 := ok_I O302 e309 rI_4_4 e308
                obtain ⟨v311, e312⟩ : ∃ z, Jv h299 a0 5 = z := ⟨_, rfl⟩
                have f313 := inL_J O302 e312
                obtain ⟨v314, e315⟩ : ∃ z, Rv h299 a0 6 = z := ⟨_, rfl⟩
                have p316 := p305.2.2.1
                rw [e308, e312] at p316
                have p317 := p305.2.2.2
                rw [e315] at p317
                refine g_if_eq C (iw f304 (by decide) (by decide)) 74 (by decide) dX3_readSum_63 (fun q318 => ?_) (fun q319 => ?_)
                · have f320 : (0 : Int) ≤ r298 ∧ r298 ≤ (0 : Int) := ii f304 (r_eq (il 0) q318) (by decide) (by decide)
                  refine g_iconst C dX3_readSum_74 ?_
                  have e321 : Tg h299 v1 = 2006 := (fxT F303 e297)
                  exact g_iret C hr (nar_z2 (iw (il 0) (by decide) (by decide))).1 (iw (il 0) (by decide) (by decide)) ⟨O302, ((((((((Fx.rf (wr := wr_k_readSum_3)).call F19 rfl).call F43 rfl).call F68 rfl).call F240 rfl).call F261 rfl).call F283 rfl).call F303 rfl), (iw (il 0) (by decide) (by decide)), (by unfold RInv; rw [e306, e308, e312, e315]; exact ⟨e321, p305.2.1, p316, p317⟩)⟩ (by decide) (by decide) dX3_readSum_75
                · have f322 : (1 : Int) ≤ r298 ∧ r298 ≤ (1 : Int) := r_nl f304 q319
                  refine g_aload_n C rfl 1 rfl dX3_readSum_66 ?_
                  refine g_iload_n C rfl 0 rfl dX3_readSum_67 ?_
                  have e323 : Tg h299 v1 = 2006 := (fxT F303 e297)
                  refine g_callI (st := []) (gc_V C lk_LandSurvey_Reader_244 (k_X3_emit l D cy w z0 O302 e309 (iw (il (-22)) (by decide) (by decide)) (by unfold RInv; rw [e306, e308, e312, e315]; exact ⟨e323, p305.2.1, p316, p317⟩) (by omega)) e309 rfl rfl rfl ⟨by decide, by decide⟩ (Nat.le_of_ble_eq_true rfl) dX3_readSum_68 ⟨(by decide), (by decide)⟩) (fun r324 h325 f327 K326 => ?_)
                  obtain ⟨O328, F329, f330, p331⟩ := K326
                  have e332 : Rv h325 a0 13 = v1 := ((fxR F329 e309 rfl).trans e306)
                  have e333 : Iv h325 a0 4 = v307 := ((fxI F329 e309 rfl).trans e308)
                  have e334 : Jv h325 a0 5 = v311 := ((fxJ F329 e309 rfl).trans e312)
                  have e335 : Rv h325 a0 6 = v314 := ((fxR F329 e309 rfl).trans e315)
                  have p336 := p331.2.2.1
                  rw [e333, e334] at p336
                  have p337 := p331.2.2.2
                  rw [e335] at p337
                  refine g_if_ne C (iw f330 (by decide) (by decide)) 76 (by decide) dX3_readSum_71 (fun q338 => ?_) (fun q339 => ?_)
                  · have f340 : (1 : Int) ≤ (x37 + 1) ∧ (x37 + 1) ≤ (1501 : Int) := ia_add f62 (il 1) (by decide) (by decide)
                    refine g_iinc C [(2, .inl (x37 + 1)), (3, .inl (-22)), (0, .inr (.inr a0)), (1, .inl a1)] 3 rfl (by decide) rfl dX3_readSum_76 ?_
                    refine g_goto C 12 (by decide) dX3_readSum_79 ?_
                    refine GW.sub [2, 3, 0] rfl ?_
                    have e341 : Tg h325 v1 = 2006 := (fxT F329 e323)
                    exact ih40 _ (by omega) (x37 + 1) h325 rfl O328 ((((((F43.call F68 rfl).call F240 rfl).call F261 rfl).call F283 rfl).call F303 rfl).call F329 rfl) (iw f340 (by decide) (by decide)) (by unfold RInv; rw [e332, e333, e334, e335]; exact ⟨e341, p331.2.1, p336, p337⟩)
                  · exact (no_eq f330 (il 0) q339 (by decide)).elim
              · have f342 : (1 : Int) ≤ r256 ∧ r256 ≤ (1 : Int) := r_nl f262 q264
                refine g_bipush C (by decide) dX3_readSum_46 ?_
                refine g_goto C 53 (by decide) dX3_readSum_48 ?_
                refine g_istore_n C [(3, .inl (-21)), (0, .inr (.inr a0)), (1, .inl a1), (2, .inl x37)] rfl (by decide) rfl dX3_readSum_53 ?_
                refine g_aload_n C rfl 1 rfl dX3_readSum_54 ?_
                have e343 : Tg h257 a0 = 4 := (fxT F261 e255)
                have e344 : Rv h257 a0 13 = v1 := ((fxR F261 e255 rfl).trans ((fxR F240 e234 rfl).trans ((fxR F68 e49 rfl).trans e46)))
                have e345 : Iv h257 a0 4 = v47 := ((fxI F261 e255 rfl).trans ((fxI F240 e234 rfl).trans ((fxI F68 e49 rfl).trans e48)))
                have e346 : Jv h257 a0 5 = v51 := ((fxJ F261 e255 rfl).trans ((fxJ F240 e234 rfl).trans ((fxJ F68 e49 rfl).trans e52)))
                have e347 : Rv h257 a0 6 = v54 := ((fxR F261 e255 rfl).trans ((fxR F240 e234 rfl).trans ((fxR F68 e49 rfl).trans e55)))
                have e348 : Tg h257 v1 = 2006 := (fxT F261 (fxT F240 (fxT F68 (fxT F43 (fxT F19 t3)))))
                have e349 : Tg h38 v1 = 2006 := (fxT F43 (fxT F19 t3))
                have e350 : Rv h64 a0 13 = v1 := ((fxR F68 e49 rfl).trans e46)
                have e351 : Tg h64 v1 = 2006 := (fxT F68 e349)
                have e352 : Rv h236 a0 13 = v1 := ((fxR F240 e234 rfl).trans e350)
                have e353 : Tg h236 v1 = 2006 := (fxT F240 e351)
                have p354 := (DOk_fx O239 F261 e255 (by rw [e352]; exact e353) rfl (DOk_fx O67 F240 e234 (by rw [e350]; exact e351) rfl (DOk_fx O42 F68 e49 (by rw [e46]; exact e349) rfl p45.2.1)))
                refine g_callV (st := []) (gc_V C lk_LandSurvey_Reader_46 (k_X3_advance l D cy w z0 O260 e343 (by unfold RInv; rw [e344, e345, e346, e347]; exact ⟨e348, p354, p56, p57⟩)) e343 rfl rfl rfl ⟨by decide, by decide⟩ (Nat.le_of_ble_eq_true rfl) dX3_readSum_55 ⟨(by decide), (by decide)⟩) (fun h356 K357 => ?_)
                obtain ⟨O359, F360, p361⟩ := K357
                have e362 : Rv h356 a0 13 = v1 := ((fxR F360 e343 rfl).trans e344)
                obtain ⟨v363, e364⟩ : ∃ z, Iv h356 a0 4 = z := ⟨_, rfl⟩
                have e365 : Tg h356 a0 = 4 := (fxT F360 e343)
                have f366 := ok_I O359 e365 rI_4_4 e364
                obtain ⟨v367, e368⟩ : ∃ z, Jv h356 a0 5 = z := ⟨_, rfl⟩
                have f369 := inL_J O359 e368
                obtain ⟨v370, e371⟩ : ∃ z, Rv h356 a0 6 = z := ⟨_, rfl⟩
                have p372 := p361.2.2.1
                rw [e364, e368] at p372
                have p373 := p361.2.2.2
                rw [e371] at p373
                refine g_aload_n C rfl 1 rfl dX3_readSum_58 ?_
                refine g_iload_n C rfl 2 rfl dX3_readSum_59 ?_
                have e374 : Tg h356 v1 = 2006 := (fxT F360 e348)
                refine g_callI (st := []) (gc_V C lk_LandSurvey_Reader_250 (k_readFact_3 l D cy w z0 O359 e365 fa1 (by unfold RInv; rw [e362, e364, e368, e371]; exact ⟨e374, p361.2.1, p372, p373⟩)) e365 rfl rfl rfl ⟨by decide, by decide⟩ (Nat.le_of_ble_eq_true rfl) dX3_readSum_60 ⟨(by decide), (by decide)⟩) (fun r375 h376 f378 K377 => ?_)
                obtain ⟨O379, F380, f381, p382⟩ := K377
                have e383 : Rv h376 a0 13 = v1 := ((fxR F380 e365 rfl).trans e362)
                obtain ⟨v384, e385⟩ : ∃ z, Iv h376 a0 4 = z := ⟨_, rfl⟩
                have e386 : Tg h376 a0 = 4 := (fxT F380 e365)
                have f387 := ok_I O379 e386 rI_4_4 e385
                obtain ⟨v388, e389⟩ : ∃ z, Jv h376 a0 5 = z := ⟨_, rfl⟩
                have f390 := inL_J O379 e389
                obtain ⟨v391, e392⟩ : ∃ z, Rv h376 a0 6 = z := ⟨_, rfl⟩
                have p393 := p382.2.2.1
                rw [e385, e389] at p393
                have p394 := p382.2.2.2
                rw [e392] at p394
                refine g_if_eq C (iw f381 (by decide) (by decide)) 74 (by decide) dX3_readSum_63 (fun q395 => ?_) (fun q396 => ?_)
                · have f397 : (0 : Int) ≤ r375 ∧ r375 ≤ (0 : Int) := ii f381 (r_eq (il 0) q395) (by decide) (by decide)
                  refine g_iconst C dX3_readSum_74 ?_
                  have e398 : Tg h376 v1 = 2006 := (fxT F380 e374)
                  exact g_iret C hr (nar_z2 (iw (il 0) (by decide) (by decide))).1 (iw (il 0) (by decide) (by decide)) ⟨O379, ((((((((Fx.rf (wr := wr_k_readSum_3)).call F19 rfl).call F43 rfl).call F68 rfl).call F240 rfl).call F261 rfl).call F360 rfl).call F380 rfl), (iw (il 0) (by decide) (by decide)), (by unfold RInv; rw [e383, e385, e389, e392]; exact ⟨e398, p382.2.1, p393, p394⟩)⟩ (by decide) (by decide) dX3_readSum_75
                · have f399 : (1 : Int) ≤ r375 ∧ r375 ≤ (1 : Int) := r_nl f381 q396
                  refine g_aload_n C rfl 1 rfl dX3_readSum_66 ?_
                  refine g_iload_n C rfl 0 rfl dX3_readSum_67 ?_
                  have e400 : Tg h376 v1 = 2006 := (fxT F380 e374)
                  refine g_callI (st := []) (gc_V C lk_LandSurvey_Reader_244 (k_X3_emit l D cy w z0 O379 e386 (iw (il (-21)) (by decide) (by decide)) (by unfold RInv; rw [e383, e385, e389, e392]; exact ⟨e400, p382.2.1, p393, p394⟩) (by omega)) e386 rfl rfl rfl ⟨by decide, by decide⟩ (Nat.le_of_ble_eq_true rfl) dX3_readSum_68 ⟨(by decide), (by decide)⟩) (fun r401 h402 f404 K403 => ?_)
                  obtain ⟨O405, F406, f407, p408⟩ := K403
                  have e409 : Rv h402 a0 13 = v1 := ((fxR F406 e386 rfl).trans e383)
                  have e410 : Iv h402 a0 4 = v384 := ((fxI F406 e386 rfl).trans e385)
                  have e411 : Jv h402 a0 5 = v388 := ((fxJ F406 e386 rfl).trans e389)
                  have e412 : Rv h402 a0 6 = v391 := ((fxR F406 e386 rfl).trans e392)
                  have p413 := p408.2.2.1
                  rw [e410, e411] at p413
                  have p414 := p408.2.2.2
                  rw [e412] at p414
                  refine g_if_ne C (iw f407 (by decide) (by decide)) 76 (by decide) dX3_readSum_71 (fun q415 => ?_) (fun q416 => ?_)
                  · have f417 : (1 : Int) ≤ (x37 + 1) ∧ (x37 + 1) ≤ (1501 : Int) := ia_add f62 (il 1) (by decide) (by decide)
                    refine g_iinc C [(2, .inl (x37 + 1)), (3, .inl (-21)), (0, .inr (.inr a0)), (1, .inl a1)] 3 rfl (by decide) rfl dX3_readSum_76 ?_
                    refine g_goto C 12 (by decide) dX3_readSum_79 ?_
                    refine GW.sub [2, 3, 0] rfl ?_
                    have e418 : Tg h402 v1 = 2006 := (fxT F406 e400)
                    exact ih40 _ (by omega) (x37 + 1) h402 rfl O405 ((((((F43.call F68 rfl).call F240 rfl).call F261 rfl).call F360 rfl).call F380 rfl).call F406 rfl) (iw f417 (by decide) (by decide)) (by unfold RInv; rw [e409, e410, e411, e412]; exact ⟨e418, p408.2.1, p413, p414⟩)
                  · exact (no_eq f407 (il 0) q416 (by decide)).elim
    have e419 : Tg h15 v1 = 2006 := (fxT F19 t3)
    exact L39 _ 0 h15 rfl O18 Fx.rf (iw (il 0) (by decide) (by decide)) (by unfold RInv; rw [e22, e24, e28, e31]; exact ⟨e419, p21.2.1, p32, p33⟩)
  · have f420 : (0 : Int) ≤ r14 ∧ r14 ≤ (0 : Int) := ii f20 (r_eq (il 0) q35) (by decide) (by decide)
    refine g_iconst C dX3_readSum_8 ?_
    have e421 : Tg h15 v1 = 2006 := (fxT F19 t3)
    exact g_iret C hr (nar_z2 (iw (il 0) (by decide) (by decide))).1 (iw (il 0) (by decide) (by decide)) ⟨O18, ((Fx.rf (wr := wr_k_readSum_3)).call F19 rfl), (iw (il 0) (by decide) (by decide)), (by unfold RInv; rw [e22, e24, e28, e31]; exact ⟨e421, p21.2.1, p32, p33⟩)⟩ (by decide) (by decide) dX3_readSum_9
def wr_k_readTest_3 : List Nat := [802, 803, 804, 805, 806, 807, 812, 4020000]
set_option maxRecDepth 100000 in
set_option maxHeartbeats 4000000 in
theorem k_readTest_3 (l : Launch) (D : va_G) (cy : Nat → ClassId) (w : Nat → Nat) (z0 : Nat)  {h : Hp} {a0 : Nat} {a1 : Int}  (O : Okh h) (ta0 : Tg h a0 = 4) (fa1 : 3 ≤ a1 ∧ a1 ≤ 3) (P_RInv : RInv w h a0) : MI l D cy w z0 yX3_readTest cX3_readTest 3 (some .boolean) 12 270 0 0 [.inr (.inr a0), .inl a1] h (fun v h1 => Okh h1 ∧ Fx wr_k_readTest_3 h h1 ∧ (0 ≤ v ∧ v ≤ 1) ∧ (RInv w h1 a0)) := by
  obtain ⟨v1, e2⟩ : ∃ z, Rv h a0 13 = z := ⟨_, rfl⟩
  have t3 := P_RInv.1
  rw [e2] at t3
  obtain ⟨v4, e5⟩ : ∃ z, Iv h a0 4 = z := ⟨_, rfl⟩
  have f6 := ok_I O ta0 rI_4_4 e5
  obtain ⟨v7, e8⟩ : ∃ z, Jv h a0 5 = z := ⟨_, rfl⟩
  have f9 := inL_J O e8
  obtain ⟨v10, e11⟩ : ∃ z, Rv h a0 6 = z := ⟨_, rfl⟩
  have p12 := P_RInv.2.2.1
  rw [e5, e8] at p12
  have p13 := P_RInv.2.2.2
  rw [e11] at p13
  refine hm_go (by decide +kernel) (Nat.le_of_ble_eq_true rfl) (fun p e s m below meth c C hr hn => ?_)
  refine g_aload_n C rfl 0 rfl dX3_readTest_0 ?_
  refine g_iload_n C rfl 1 rfl dX3_readTest_1 ?_
  refine g_callI (st := []) (gc_V C lk_LandSurvey_Reader_247 (k_readSum_3 l D cy w z0 O ta0 fa1 (by unfold RInv; rw [e2, e5, e8, e11]; exact ⟨t3, P_RInv.2.1, p12, p13⟩)) ta0 rfl rfl rfl ⟨by decide, by decide⟩ (Nat.le_of_ble_eq_true rfl) dX3_readTest_2 ⟨(by decide), (by decide)⟩) (fun r14 h15 f17 K16 => ?_)
  obtain ⟨O18, F19, f20, p21⟩ := K16
  have e22 : Rv h15 a0 13 = v1 := ((fxR F19 ta0 rfl).trans e2)
  obtain ⟨v23, e24⟩ : ∃ z, Iv h15 a0 4 = z := ⟨_, rfl⟩
  have e25 : Tg h15 a0 = 4 := (fxT F19 ta0)
  have f26 := ok_I O18 e25 rI_4_4 e24
  obtain ⟨v27, e28⟩ : ∃ z, Jv h15 a0 5 = z := ⟨_, rfl⟩
  have f29 := inL_J O18 e28
  obtain ⟨v30, e31⟩ : ∃ z, Rv h15 a0 6 = z := ⟨_, rfl⟩
  have p32 := p21.2.2.1
  rw [e24, e28] at p32
  have p33 := p21.2.2.2
  rw [e31] at p33
  refine g_if_ne C (iw f20 (by decide) (by decide)) 10 (by decide) dX3_readTest_5 (fun q34 => ?_) (fun q35 => ?_)
  · have f36 : (1 : Int) ≤ r14 ∧ r14 ≤ (1 : Int) := r_nl f20 q34
    refine g_aload_n C rfl 0 rfl dX3_readTest_10 ?_
    refine g_bipush C (by decide) dX3_readTest_11 ?_
    refine g_callI (st := []) (gc_V C lk_LandSurvey_Reader_95 (k_X3_isNext l D cy w z0 O18 e25 (iw (il 60) (by decide) (by decide))) e25 rfl rfl rfl ⟨by decide, by decide⟩ (Nat.le_of_ble_eq_true rfl) dX3_readTest_13 ⟨(by decide), (by decide)⟩) (fun r37 h38 f40 K39 => ?_)
    obtain ⟨O41, F42, f43⟩ := K39
    refine g_if_ne C (iw f43 (by decide) (by decide)) 30 (by decide) dX3_readTest_16 (fun q44 => ?_) (fun q45 => ?_)
    · have f46 : (1 : Int) ≤ r37 ∧ r37 ≤ (1 : Int) := r_nl f43 q44
      refine g_aload_n C rfl 0 rfl dX3_readTest_30 ?_
      refine g_bipush C (by decide) dX3_readTest_31 ?_
      have e47 : Tg h38 a0 = 4 := (fxT F42 e25)
      refine g_callI (st := []) (gc_V C lk_LandSurvey_Reader_95 (k_X3_isNext l D cy w z0 O41 e47 (iw (il 60) (by decide) (by decide))) e47 rfl rfl rfl ⟨by decide, by decide⟩ (Nat.le_of_ble_eq_true rfl) dX3_readTest_33 ⟨(by decide), (by decide)⟩) (fun r48 h49 f51 K50 => ?_)
      obtain ⟨O52, F53, f54⟩ := K50
      refine g_if_eq C (iw f54 (by decide) (by decide)) 44 (by decide) dX3_readTest_36 (fun q55 => ?_) (fun q56 => ?_)
      · have f57 : (0 : Int) ≤ r48 ∧ r48 ≤ (0 : Int) := ii f54 (r_eq (il 0) q55) (by decide) (by decide)
        refine g_bipush C (by decide) dX3_readTest_44 ?_
        refine g_istore_n C [(2, .inl (-24)), (0, .inr (.inr a0)), (1, .inl a1)] rfl (by decide) rfl dX3_readTest_46 ?_
        refine g_aload_n C rfl 1 rfl dX3_readTest_47 ?_
        have e58 : Tg h49 a0 = 4 := (fxT F53 e47)
        have e59 : Rv h49 a0 13 = v1 := ((fxR F53 e47 rfl).trans ((fxR F42 e25 rfl).trans e22))
        have e60 : Iv h49 a0 4 = v23 := ((fxI F53 e47 rfl).trans ((fxI F42 e25 rfl).trans e24))
        have e61 : Jv h49 a0 5 = v27 := ((fxJ F53 e47 rfl).trans ((fxJ F42 e25 rfl).trans e28))
        have e62 : Rv h49 a0 6 = v30 := ((fxR F53 e47 rfl).trans ((fxR F42 e25 rfl).trans e31))
        have e63 : Tg h49 v1 = 2006 := (fxT F53 (fxT F42 (fxT F19 t3)))
        have e64 : Tg h15 v1 = 2006 := (fxT F19 t3)
        have e65 : Rv h38 a0 13 = v1 := ((fxR F42 e25 rfl).trans e22)
        have e66 : Tg h38 v1 = 2006 := (fxT F42 e64)
        have p67 := (DOk_fx O41 F53 e47 (by rw [e65]; exact e66) rfl (DOk_fx O18 F42 e25 (by rw [e22]; exact e64) rfl p21.2.1))
        refine g_callV (st := []) (gc_V C lk_LandSurvey_Reader_46 (k_X3_advance l D cy w z0 O52 e58 (by unfold RInv; rw [e59, e60, e61, e62]; exact ⟨e63, p67, p32, p33⟩)) e58 rfl rfl rfl ⟨by decide, by decide⟩ (Nat.le_of_ble_eq_true rfl) dX3_readTest_48 ⟨(by decide), (by decide)⟩) (fun h69 K70 => ?_)
        obtain ⟨O72, F73, p74⟩ := K70
        have e75 : Rv h69 a0 13 = v1 := ((fxR F73 e58 rfl).trans e59)
        obtain ⟨v76, e77⟩ : ∃ z, Iv h69 a0 4 = z := ⟨_, rfl⟩
        have e78 : Tg h69 a0 = 4 := (fxT F73 e58)
        have f79 := ok_I O72 e78 rI_4_4 e77
        obtain ⟨v80, e81⟩ : ∃ z, Jv h69 a0 5 = z := ⟨_, rfl⟩
        have f82 := inL_J O72 e81
        obtain ⟨v83, e84⟩ : ∃ z, Rv h69 a0 6 = z := ⟨_, rfl⟩
        have p85 := p74.2.2.1
        rw [e77, e81] at p85
        have p86 := p74.2.2.2
        rw [e84] at p86
        refine g_aload_n C rfl 1 rfl dX3_readTest_51 ?_
        refine g_iload_n C rfl 2 rfl dX3_readTest_52 ?_
        have e87 : Tg h69 v1 = 2006 := (fxT F73 e63)
        refine g_callI (st := []) (gc_V C lk_LandSurvey_Reader_247 (k_readSum_3 l D cy w z0 O72 e78 fa1 (by unfold RInv; rw [e75, e77, e81, e84]; exact ⟨e87, p74.2.1, p85, p86⟩)) e78 rfl rfl rfl ⟨by decide, by decide⟩ (Nat.le_of_ble_eq_true rfl) dX3_readTest_53 ⟨(by decide), (by decide)⟩) (fun r88 h89 f91 K90 => ?_)
        obtain ⟨O92, F93, f94, p95⟩ := K90
        have e96 : Rv h89 a0 13 = v1 := ((fxR F93 e78 rfl).trans e75)
        obtain ⟨v97, e98⟩ : ∃ z, Iv h89 a0 4 = z := ⟨_, rfl⟩
        have e99 : Tg h89 a0 = 4 := (fxT F93 e78)
        have f100 := ok_I O92 e99 rI_4_4 e98
        obtain ⟨v101, e102⟩ : ∃ z, Jv h89 a0 5 = z := ⟨_, rfl⟩
        have f103 := inL_J O92 e102
        obtain ⟨v104, e105⟩ : ∃ z, Rv h89 a0 6 = z := ⟨_, rfl⟩
        have p106 := p95.2.2.1
        rw [e98, e102] at p106
        have p107 := p95.2.2.2
        rw [e105] at p107
        refine g_if_eq C (iw f94 (by decide) (by decide)) 71 (by decide) dX3_readTest_56 (fun q108 => ?_) (fun q109 => ?_)
        · have f110 : (0 : Int) ≤ r88 ∧ r88 ≤ (0 : Int) := ii f94 (r_eq (il 0) q108) (by decide) (by decide)
          refine g_iconst C dX3_readTest_71 ?_
          have e111 : Tg h89 v1 = 2006 := (fxT F93 e87)
          exact g_iret C hr (nar_z2 (iw (il 0) (by decide) (by decide))).1 (iw (il 0) (by decide) (by decide)) ⟨O92, ((((((Fx.rf (wr := wr_k_readTest_3)).call F19 rfl).call F42 rfl).call F53 rfl).call F73 rfl).call F93 rfl), (iw (il 0) (by decide) (by decide)), (by unfold RInv; rw [e96, e98, e102, e105]; exact ⟨e111, p95.2.1, p106, p107⟩)⟩ (by decide) (by decide) dX3_readTest_72
        · have f112 : (1 : Int) ≤ r88 ∧ r88 ≤ (1 : Int) := r_nl f94 q109
          refine g_aload_n C rfl 1 rfl dX3_readTest_59 ?_
          refine g_iload_n C rfl 0 rfl dX3_readTest_60 ?_
          have e113 : Tg h89 v1 = 2006 := (fxT F93 e87)
          refine g_callI (st := []) (gc_V C lk_LandSurvey_Reader_244 (k_X3_emit l D cy w z0 O92 e99 (iw (il (-24)) (by decide) (by decide)) (by unfold RInv; rw [e96, e98, e102, e105]; exact ⟨e113, p95.2.1, p106, p107⟩) (by omega)) e99 rfl rfl rfl ⟨by decide, by decide⟩ (Nat.le_of_ble_eq_true rfl) dX3_readTest_61 ⟨(by decide), (by decide)⟩) (fun r114 h115 f117 K116 => ?_)
          obtain ⟨O118, F119, f120, p121⟩ := K116
          have e122 : Rv h115 a0 13 = v1 := ((fxR F119 e99 rfl).trans e96)
          have e123 : Iv h115 a0 4 = v97 := ((fxI F119 e99 rfl).trans e98)
          have e124 : Jv h115 a0 5 = v101 := ((fxJ F119 e99 rfl).trans e102)
          have e125 : Rv h115 a0 6 = v104 := ((fxR F119 e99 rfl).trans e105)
          have p126 := p121.2.2.1
          rw [e123, e124] at p126
          have p127 := p121.2.2.2
          rw [e125] at p127
          refine g_if_eq C (iw f120 (by decide) (by decide)) 71 (by decide) dX3_readTest_64 (fun q128 => ?_) (fun q129 => ?_)
          · exact (no_eq f120 (il 0) q128 (by decide)).elim
          · refine g_iconst C dX3_readTest_67 ?_
            refine g_goto C 72 (by decide) dX3_readTest_68 ?_
            have e130 : Tg h115 v1 = 2006 := (fxT F119 e113)
            exact g_iret C hr (nar_z2 (iw (il 1) (by decide) (by decide))).1 (iw (il 1) (by decide) (by decide)) ⟨O118, (((((((Fx.rf (wr := wr_k_readTest_3)).call F19 rfl).call F42 rfl).call F53 rfl).call F73 rfl).call F93 rfl).call F119 rfl), (iw (il 1) (by decide) (by decide)), (by unfold RInv; rw [e122, e123, e124, e125]; exact ⟨e130, p121.2.1, p126, p127⟩)⟩ (by decide) (by decide) dX3_readTest_72
      · have f131 : (1 : Int) ≤ r48 ∧ r48 ≤ (1 : Int) := r_nl f54 q56
        refine g_bipush C (by decide) dX3_readTest_39 ?_
        refine g_goto C 46 (by decide) dX3_readTest_41 ?_
        refine g_istore_n C [(2, .inl (-23)), (0, .inr (.inr a0)), (1, .inl a1)] rfl (by decide) rfl dX3_readTest_46 ?_
        refine g_aload_n C rfl 1 rfl dX3_readTest_47 ?_
        have e132 : Tg h49 a0 = 4 := (fxT F53 e47)
        have e133 : Rv h49 a0 13 = v1 := ((fxR F53 e47 rfl).trans ((fxR F42 e25 rfl).trans e22))
        have e134 : Iv h49 a0 4 = v23 := ((fxI F53 e47 rfl).trans ((fxI F42 e25 rfl).trans e24))
        have e135 : Jv h49 a0 5 = v27 := ((fxJ F53 e47 rfl).trans ((fxJ F42 e25 rfl).trans e28))
        have e136 : Rv h49 a0 6 = v30 := ((fxR F53 e47 rfl).trans ((fxR F42 e25 rfl).trans e31))
        have e137 : Tg h49 v1 = 2006 := (fxT F53 (fxT F42 (fxT F19 t3)))
        have e138 : Tg h15 v1 = 2006 := (fxT F19 t3)
        have e139 : Rv h38 a0 13 = v1 := ((fxR F42 e25 rfl).trans e22)
        have e140 : Tg h38 v1 = 2006 := (fxT F42 e138)
        have p141 := (DOk_fx O41 F53 e47 (by rw [e139]; exact e140) rfl (DOk_fx O18 F42 e25 (by rw [e22]; exact e138) rfl p21.2.1))
        refine g_callV (st := []) (gc_V C lk_LandSurvey_Reader_46 (k_X3_advance l D cy w z0 O52 e132 (by unfold RInv; rw [e133, e134, e135, e136]; exact ⟨e137, p141, p32, p33⟩)) e132 rfl rfl rfl ⟨by decide, by decide⟩ (Nat.le_of_ble_eq_true rfl) dX3_readTest_48 ⟨(by decide), (by decide)⟩) (fun h143 K144 => ?_)
        obtain ⟨O146, F147, p148⟩ := K144
        have e149 : Rv h143 a0 13 = v1 := ((fxR F147 e132 rfl).trans e133)
        obtain ⟨v150, e151⟩ : ∃ z, Iv h143 a0 4 = z := ⟨_, rfl⟩
        have e152 : Tg h143 a0 = 4 := (fxT F147 e132)
        have f153 := ok_I O146 e152 rI_4_4 e151
        obtain ⟨v154, e155⟩ : ∃ z, Jv h143 a0 5 = z := ⟨_, rfl⟩
        have f156 := inL_J O146 e155
        obtain ⟨v157, e158⟩ : ∃ z, Rv h143 a0 6 = z := ⟨_, rfl⟩
        have p159 := p148.2.2.1
        rw [e151, e155] at p159
        have p160 := p148.2.2.2
        rw [e158] at p160
        refine g_aload_n C rfl 1 rfl dX3_readTest_51 ?_
        refine g_iload_n C rfl 2 rfl dX3_readTest_52 ?_
        have e161 : Tg h143 v1 = 2006 := (fxT F147 e137)
        refine g_callI (st := []) (gc_V C lk_LandSurvey_Reader_247 (k_readSum_3 l D cy w z0 O146 e152 fa1 (by unfold RInv; rw [e149, e151, e155, e158]; exact ⟨e161, p148.2.1, p159, p160⟩)) e152 rfl rfl rfl ⟨by decide, by decide⟩ (Nat.le_of_ble_eq_true rfl) dX3_readTest_53 ⟨(by decide), (by decide)⟩) (fun r162 h163 f165 K164 => ?_)
        obtain ⟨O166, F167, f168, p169⟩ := K164
        have e170 : Rv h163 a0 13 = v1 := ((fxR F167 e152 rfl).trans e149)
        obtain ⟨v171, e172⟩ : ∃ z, Iv h163 a0 4 = z := ⟨_, rfl⟩
        have e173 : Tg h163 a0 = 4 := (fxT F167 e152)
        have f174 := ok_I O166 e173 rI_4_4 e172
        obtain ⟨v175, e176⟩ : ∃ z, Jv h163 a0 5 = z := ⟨_, rfl⟩
        have f177 := inL_J O166 e176
        obtain ⟨v178, e179⟩ : ∃ z, Rv h163 a0 6 = z := ⟨_, rfl⟩
        have p180 := p169.2.2.1
        rw [e172, e176] at p180
        have p181 := p169.2.2.2
        rw [e179] at p181
        refine g_if_eq C (iw f168 (by decide) (by decide)) 71 (by decide) dX3_readTest_56 (fun q182 => ?_) (fun q183 => ?_)
        · have f184 : (0 : Int) ≤ r162 ∧ r162 ≤ (0 : Int) := ii f168 (r_eq (il 0) q182) (by decide) (by decide)
          refine g_iconst C dX3_readTest_71 ?_
          have e185 : Tg h163 v1 = 2006 := (fxT F167 e161)
          exact g_iret C hr (nar_z2 (iw (il 0) (by decide) (by decide))).1 (iw (il 0) (by decide) (by decide)) ⟨O166, ((((((Fx.rf (wr := wr_k_readTest_3)).call F19 rfl).call F42 rfl).call F53 rfl).call F147 rfl).call F167 rfl), (iw (il 0) (by decide) (by decide)), (by unfold RInv; rw [e170, e172, e176, e179]; exact ⟨e185, p169.2.1, p180, p181⟩)⟩ (by decide) (by decide) dX3_readTest_72
        · have f186 : (1 : Int) ≤ r162 ∧ r162 ≤ (1 : Int) := r_nl f168 q183
          refine g_aload_n C rfl 1 rfl dX3_readTest_59 ?_
          refine g_iload_n C rfl 0 rfl dX3_readTest_60 ?_
          have e187 : Tg h163 v1 = 2006 := (fxT F167 e161)
          refine g_callI (st := []) (gc_V C lk_LandSurvey_Reader_244 (k_X3_emit l D cy w z0 O166 e173 (iw (il (-23)) (by decide) (by decide)) (by unfold RInv; rw [e170, e172, e176, e179]; exact ⟨e187, p169.2.1, p180, p181⟩) (by omega)) e173 rfl rfl rfl ⟨by decide, by decide⟩ (Nat.le_of_ble_eq_true rfl) dX3_readTest_61 ⟨(by decide), (by decide)⟩) (fun r188 h189 f191 K190 => ?_)
          obtain ⟨O192, F193, f194, p195⟩ := K190
          have e196 : Rv h189 a0 13 = v1 := ((fxR F193 e173 rfl).trans e170)
          have e197 : Iv h189 a0 4 = v171 := ((fxI F193 e173 rfl).trans e172)
          have e198 : Jv h189 a0 5 = v175 := ((fxJ F193 e173 rfl).trans e176)
          have e199 : Rv h189 a0 6 = v178 := ((fxR F193 e173 rfl).trans e179)
          have p200 := p195.2.2.1
          rw [e197, e198] at p200
          have p201 := p195.2.2.2
          rw [e199] at p201
          refine g_if_eq C (iw f194 (by decide) (by decide)) 71 (by decide) dX3_readTest_64 (fun q202 => ?_) (fun q203 => ?_)
          · exact (no_eq f194 (il 0) q202 (by decide)).elim
          · refine g_iconst C dX3_readTest_67 ?_
            refine g_goto C 72 (by decide) dX3_readTest_68 ?_
            have e204 : Tg h189 v1 = 2006 := (fxT F193 e187)
            exact g_iret C hr (nar_z2 (iw (il 1) (by decide) (by decide))).1 (iw (il 1) (by decide) (by decide)) ⟨O192, (((((((Fx.rf (wr := wr_k_readTest_3)).call F19 rfl).call F42 rfl).call F53 rfl).call F147 rfl).call F167 rfl).call F193 rfl), (iw (il 1) (by decide) (by decide)), (by unfold RInv; rw [e196, e197, e198, e199]; exact ⟨e204, p195.2.1, p200, p201⟩)⟩ (by decide) (by decide) dX3_readTest_72
    · have f205 : (0 : Int) ≤ r37 ∧ r37 ≤ (0 : Int) := ii f43 (r_eq (il 0) q45) (by decide) (by decide)
      refine g_aload_n C rfl 0 rfl dX3_readTest_19 ?_
      refine g_bipush C (by decide) dX3_readTest_20 ?_
      have e206 : Tg h38 a0 = 4 := (fxT F42 e25)
      refine g_callI (st := []) (gc_V C lk_LandSurvey_Reader_95 (k_X3_isNext l D cy w z0 O41 e206 (iw (il 61) (by decide) (by decide))) e206 rfl rfl rfl ⟨by decide, by decide⟩ (Nat.le_of_ble_eq_true rfl) dX3_readTest_22 ⟨(by decide), (by decide)⟩) (fun r207 h208 f210 K209 => ?_)
      obtain ⟨O211, F212, f213⟩ := K209
      refine g_if_ne C (iw f213 (by decide) (by decide)) 30 (by decide) dX3_readTest_25 (fun q214 => ?_) (fun q215 => ?_)
      · have f216 : (1 : Int) ≤ r207 ∧ r207 ≤ (1 : Int) := r_nl f213 q214
        refine g_aload_n C rfl 0 rfl dX3_readTest_30 ?_
        refine g_bipush C (by decide) dX3_readTest_31 ?_
        have e217 : Tg h208 a0 = 4 := (fxT F212 e206)
        refine g_callI (st := []) (gc_V C lk_LandSurvey_Reader_95 (k_X3_isNext l D cy w z0 O211 e217 (iw (il 60) (by decide) (by decide))) e217 rfl rfl rfl ⟨by decide, by decide⟩ (Nat.le_of_ble_eq_true rfl) dX3_readTest_33 ⟨(by decide), (by decide)⟩) (fun r218 h219 f221 K220 => ?_)
        obtain ⟨O222, F223, f224⟩ := K220
        refine g_if_eq C (iw f224 (by decide) (by decide)) 44 (by decide) dX3_readTest_36 (fun q225 => ?_) (fun q226 => ?_)
        · have f227 : (0 : Int) ≤ r218 ∧ r218 ≤ (0 : Int) := ii f224 (r_eq (il 0) q225) (by decide) (by decide)
          refine g_bipush C (by decide) dX3_readTest_44 ?_
          refine g_istore_n C [(2, .inl (-24)), (0, .inr (.inr a0)), (1, .inl a1)] rfl (by decide) rfl dX3_readTest_46 ?_
          refine g_aload_n C rfl 1 rfl dX3_readTest_47 ?_
          have e228 : Tg h219 a0 = 4 := (fxT F223 e217)
          have e229 : Rv h219 a0 13 = v1 := ((fxR F223 e217 rfl).trans ((fxR F212 e206 rfl).trans ((fxR F42 e25 rfl).trans e22)))
          have e230 : Iv h219 a0 4 = v23 := ((fxI F223 e217 rfl).trans ((fxI F212 e206 rfl).trans ((fxI F42 e25 rfl).trans e24)))
          have e231 : Jv h219 a0 5 = v27 := ((fxJ F223 e217 rfl).trans ((fxJ F212 e206 rfl).trans ((fxJ F42 e25 rfl).trans e28)))
          have e232 : Rv h219 a0 6 = v30 := ((fxR F223 e217 rfl).trans ((fxR F212 e206 rfl).trans ((fxR F42 e25 rfl).trans e31)))
          have e233 : Tg h219 v1 = 2006 := (fxT F223 (fxT F212 (fxT F42 (fxT F19 t3))))
          have e234 : Tg h15 v1 = 2006 := (fxT F19 t3)
          have e235 : Rv h38 a0 13 = v1 := ((fxR F42 e25 rfl).trans e22)
          have e236 : Tg h38 v1 = 2006 := (fxT F42 e234)
          have e237 : Rv h208 a0 13 = v1 := ((fxR F212 e206 rfl).trans e235)
          have e238 : Tg h208 v1 = 2006 := (fxT F212 e236)
          have p239 := (DOk_fx O211 F223 e217 (by rw [e237]; exact e238) rfl (DOk_fx O41 F212 e206 (by rw [e235]; exact e236) rfl (DOk_fx O18 F42 e25 (by rw [e22]; exact e234) rfl p21.2.1)))
          refine g_callV (st := []) (gc_V C lk_LandSurvey_Reader_46 (k_X3_advance l D cy w z0 O222 e228 (by unfold RInv; rw [e229, e230, e231, e232]; exact ⟨e233, p239, p32, p33⟩)) e228 rfl rfl rfl ⟨by decide, by decide⟩ (Nat.le_of_ble_eq_true rfl) dX3_readTest_48 ⟨(by decide), (by decide)⟩) (fun h241 K242 => ?_)
          obtain ⟨O244, F245, p246⟩ := K242
          have e247 : Rv h241 a0 13 = v1 := ((fxR F245 e228 rfl).trans e229)
          obtain ⟨v248, e249⟩ : ∃ z, Iv h241 a0 4 = z := ⟨_, rfl⟩
          have e250 : Tg h241 a0 = 4 := (fxT F245 e228)
          have f251 := ok_I O244 e250 rI_4_4 e249
          obtain ⟨v252, e253⟩ : ∃ z, Jv h241 a0 5 = z := ⟨_, rfl⟩
          have f254 := inL_J O244 e253
          obtain ⟨v255, e256⟩ : ∃ z, Rv h241 a0 6 = z := ⟨_, rfl⟩
          have p257 := p246.2.2.1
          rw [e249, e253] at p257
          have p258 := p246.2.2.2
          rw [e256] at p258
          refine g_aload_n C rfl 1 rfl dX3_readTest_51 ?_
          refine g_iload_n C rfl 2 rfl dX3_readTest_52 ?_
          have e259 : Tg h241 v1 = 2006 := (fxT F245 e233)
          refine g_callI (st := []) (gc_V C lk_LandSurvey_Reader_247 (k_readSum_3 l D cy w z0 O244 e250 fa1 (by unfold RInv; rw [e247, e249, e253, e256]; exact ⟨e259, p246.2.1, p257, p258⟩)) e250 rfl rfl rfl ⟨by decide, by decide⟩ (Nat.le_of_ble_eq_true rfl) dX3_readTest_53 ⟨(by decide), (by decide)⟩) (fun r260 h261 f263 K262 => ?_)
          obtain ⟨O264, F265, f266, p267⟩ := K262
          have e268 : Rv h261 a0 13 = v1 := ((fxR F265 e250 rfl).trans e247)
          obtain ⟨v269, e270⟩ : ∃ z, Iv h261 a0 4 = z := ⟨_, rfl⟩
          have e271 : Tg h261 a0 = 4 := (fxT F265 e250)
          have f272 := ok_I O264 e271 rI_4_4 e270
          obtain ⟨v273, e274⟩ : ∃ z, Jv h261 a0 5 = z := ⟨_, rfl⟩
          have f275 := inL_J O264 e274
          obtain ⟨v276, e277⟩ : ∃ z, Rv h261 a0 6 = z := ⟨_, rfl⟩
          have p278 := p267.2.2.1
          rw [e270, e274] at p278
          have p279 := p267.2.2.2
          rw [e277] at p279
          refine g_if_eq C (iw f266 (by decide) (by decide)) 71 (by decide) dX3_readTest_56 (fun q280 => ?_) (fun q281 => ?_)
          · have f282 : (0 : Int) ≤ r260 ∧ r260 ≤ (0 : Int) := ii f266 (r_eq (il 0) q280) (by decide) (by decide)
            refine g_iconst C dX3_readTest_71 ?_
            have e283 : Tg h261 v1 = 2006 := (fxT F265 e259)
            exact g_iret C hr (nar_z2 (iw (il 0) (by decide) (by decide))).1 (iw (il 0) (by decide) (by decide)) ⟨O264, (((((((Fx.rf (wr := wr_k_readTest_3)).call F19 rfl).call F42 rfl).call F212 rfl).call F223 rfl).call F245 rfl).call F265 rfl), (iw (il 0) (by decide) (by decide)), (by unfold RInv; rw [e268, e270, e274, e277]; exact ⟨e283, p267.2.1, p278, p279⟩)⟩ (by decide) (by decide) dX3_readTest_72
          · have f284 : (1 : Int) ≤ r260 ∧ r260 ≤ (1 : Int) := r_nl f266 q281
            refine g_aload_n C rfl 1 rfl dX3_readTest_59 ?_
            refine g_iload_n C rfl 0 rfl dX3_readTest_60 ?_
            have e285 : Tg h261 v1 = 2006 := (fxT F265 e259)
            refine g_callI (st := []) (gc_V C lk_LandSurvey_Reader_244 (k_X3_emit l D cy w z0 O264 e271 (iw (il (-24)) (by decide) (by decide)) (by unfold RInv; rw [e268, e270, e274, e277]; exact ⟨e285, p267.2.1, p278, p279⟩) (by omega)) e271 rfl rfl rfl ⟨by decide, by decide⟩ (Nat.le_of_ble_eq_true rfl) dX3_readTest_61 ⟨(by decide), (by decide)⟩) (fun r286 h287 f289 K288 => ?_)
            obtain ⟨O290, F291, f292, p293⟩ := K288
            have e294 : Rv h287 a0 13 = v1 := ((fxR F291 e271 rfl).trans e268)
            have e295 : Iv h287 a0 4 = v269 := ((fxI F291 e271 rfl).trans e270)
            have e296 : Jv h287 a0 5 = v273 := ((fxJ F291 e271 rfl).trans e274)
            have e297 : Rv h287 a0 6 = v276 := ((fxR F291 e271 rfl).trans e277)
            have p298 := p293.2.2.1
            rw [e295, e296] at p298
            have p299 := p293.2.2.2
            rw [e297] at p299
            refine g_if_eq C (iw f292 (by decide) (by decide)) 71 (by decide) dX3_readTest_64 (fun q300 => ?_) (fun q301 => ?_)
            · exact (no_eq f292 (il 0) q300 (by decide)).elim
            · refine g_iconst C dX3_readTest_67 ?_
              refine g_goto C 72 (by decide) dX3_readTest_68 ?_
              have e302 : Tg h287 v1 = 2006 := (fxT F291 e285)
              exact g_iret C hr (nar_z2 (iw (il 1) (by decide) (by decide))).1 (iw (il 1) (by decide) (by decide)) ⟨O290, ((((((((Fx.rf (wr := wr_k_readTest_3)).call F19 rfl).call F42 rfl).call F212 rfl).call F223 rfl).call F245 rfl).call F265 rfl).call F291 rfl), (iw (il 1) (by decide) (by decide)), (by unfold RInv; rw [e294, e295, e296, e297]; exact ⟨e302, p293.2.1, p298, p299⟩)⟩ (by decide) (by decide) dX3_readTest_72
        · have f303 : (1 : Int) ≤ r218 ∧ r218 ≤ (1 : Int) := r_nl f224 q226
          refine g_bipush C (by decide) dX3_readTest_39 ?_
          refine g_goto C 46 (by decide) dX3_readTest_41 ?_
          refine g_istore_n C [(2, .inl (-23)), (0, .inr (.inr a0)), (1, .inl a1)] rfl (by decide) rfl dX3_readTest_46 ?_
          refine g_aload_n C rfl 1 rfl dX3_readTest_47 ?_
          have e304 : Tg h219 a0 = 4 := (fxT F223 e217)
          have e305 : Rv h219 a0 13 = v1 := ((fxR F223 e217 rfl).trans ((fxR F212 e206 rfl).trans ((fxR F42 e25 rfl).trans e22)))
          have e306 : Iv h219 a0 4 = v23 := ((fxI F223 e217 rfl).trans ((fxI F212 e206 rfl).trans ((fxI F42 e25 rfl).trans e24)))
          have e307 : Jv h219 a0 5 = v27 := ((fxJ F223 e217 rfl).trans ((fxJ F212 e206 rfl).trans ((fxJ F42 e25 rfl).trans e28)))
          have e308 : Rv h219 a0 6 = v30 := ((fxR F223 e217 rfl).trans ((fxR F212 e206 rfl).trans ((fxR F42 e25 rfl).trans e31)))
          have e309 : Tg h219 v1 = 2006 := (fxT F223 (fxT F212 (fxT F42 (fxT F19 t3))))
          have e310 : Tg h15 v1 = 2006 := (fxT F19 t3)
          have e311 : Rv h38 a0 13 = v1 := ((fxR F42 e25 rfl).trans e22)
          have e312 : Tg h38 v1 = 2006 := (fxT F42 e310)
          have e313 : Rv h208 a0 13 = v1 := ((fxR F212 e206 rfl).trans e311)
          have e314 : Tg h208 v1 = 2006 := (fxT F212 e312)
          have p315 := (DOk_fx O211 F223 e217 (by rw [e313]; exact e314) rfl (DOk_fx O41 F212 e206 (by rw [e311]; exact e312) rfl (DOk_fx O18 F42 e25 (by rw [e22]; exact e310) rfl p21.2.1)))
          refine g_callV (st := []) (gc_V C lk_LandSurvey_Reader_46 (k_X3_advance l D cy w z0 O222 e304 (by unfold RInv; rw [e305, e306, e307, e308]; exact ⟨e309, p315, p32, p33⟩)) e304 rfl rfl rfl ⟨by decide, by decide⟩ (Nat.le_of_ble_eq_true rfl) dX3_readTest_48 ⟨(by decide), (by decide)⟩) (fun h317 K318 => ?_)
          obtain ⟨O320, F321, p322⟩ := K318
          have e323 : Rv h317 a0 13 = v1 := ((fxR F321 e304 rfl).trans e305)
          obtain ⟨v324, e325⟩ : ∃ z, Iv h317 a0 4 = z := ⟨_, rfl⟩
          have e326 : Tg h317 a0 = 4 := (fxT F321 e304)
          have f327 := ok_I O320 e326 rI_4_4 e325
          obtain ⟨v328, e329⟩ : ∃ z, Jv h317 a0 5 = z := ⟨_, rfl⟩
          have f330 := inL_J O320 e329
          obtain ⟨v331, e332⟩ : ∃ z, Rv h317 a0 6 = z := ⟨_, rfl⟩
          have p333 := p322.2.2.1
          rw [e325, e329] at p333
          have p334 := p322.2.2.2
          rw [e332] at p334
          refine g_aload_n C rfl 1 rfl dX3_readTest_51 ?_
          refine g_iload_n C rfl 2 rfl dX3_readTest_52 ?_
          have e335 : Tg h317 v1 = 2006 := (fxT F321 e309)
          refine g_callI (st := []) (gc_V C lk_LandSurvey_Reader_247 (k_readSum_3 l D cy w z0 O320 e326 fa1 (by unfold RInv; rw [e323, e325, e329, e332]; exact ⟨e335, p322.2.1, p333, p334⟩)) e326 rfl rfl rfl ⟨by decide, by decide⟩ (Nat.le_of_ble_eq_true rfl) dX3_readTest_53 ⟨(by decide), (by decide)⟩) (fun r336 h337 f339 K338 => ?_)
          obtain ⟨O340, F341, f342, p343⟩ := K338
          have e344 : Rv h337 a0 13 = v1 := ((fxR F341 e326 rfl).trans e323)
          obtain ⟨v345, e346⟩ : ∃ z, Iv h337 a0 4 = z := ⟨_, rfl⟩
          have e347 : Tg h337 a0 = 4 := (fxT F341 e326)
          have f348 := ok_I O340 e347 rI_4_4 e346
          obtain ⟨v349, e350⟩ : ∃ z, Jv h337 a0 5 = z := ⟨_, rfl⟩
          have f351 := inL_J O340 e350
          obtain ⟨v352, e353⟩ : ∃ z, Rv h337 a0 6 = z := ⟨_, rfl⟩
          have p354 := p343.2.2.1
          rw [e346, e350] at p354
          have p355 := p343.2.2.2
          rw [e353] at p355
          refine g_if_eq C (iw f342 (by decide) (by decide)) 71 (by decide) dX3_readTest_56 (fun q356 => ?_) (fun q357 => ?_)
          · have f358 : (0 : Int) ≤ r336 ∧ r336 ≤ (0 : Int) := ii f342 (r_eq (il 0) q356) (by decide) (by decide)
            refine g_iconst C dX3_readTest_71 ?_
            have e359 : Tg h337 v1 = 2006 := (fxT F341 e335)
            exact g_iret C hr (nar_z2 (iw (il 0) (by decide) (by decide))).1 (iw (il 0) (by decide) (by decide)) ⟨O340, (((((((Fx.rf (wr := wr_k_readTest_3)).call F19 rfl).call F42 rfl).call F212 rfl).call F223 rfl).call F321 rfl).call F341 rfl), (iw (il 0) (by decide) (by decide)), (by unfold RInv; rw [e344, e346, e350, e353]; exact ⟨e359, p343.2.1, p354, p355⟩)⟩ (by decide) (by decide) dX3_readTest_72
          · have f360 : (1 : Int) ≤ r336 ∧ r336 ≤ (1 : Int) := r_nl f342 q357
            refine g_aload_n C rfl 1 rfl dX3_readTest_59 ?_
            refine g_iload_n C rfl 0 rfl dX3_readTest_60 ?_
            have e361 : Tg h337 v1 = 2006 := (fxT F341 e335)
            refine g_callI (st := []) (gc_V C lk_LandSurvey_Reader_244 (k_X3_emit l D cy w z0 O340 e347 (iw (il (-23)) (by decide) (by decide)) (by unfold RInv; rw [e344, e346, e350, e353]; exact ⟨e361, p343.2.1, p354, p355⟩) (by omega)) e347 rfl rfl rfl ⟨by decide, by decide⟩ (Nat.le_of_ble_eq_true rfl) dX3_readTest_61 ⟨(by decide), (by decide)⟩) (fun r362 h363 f365 K364 => ?_)
            obtain ⟨O366, F367, f368, p369⟩ := K364
            have e370 : Rv h363 a0 13 = v1 := ((fxR F367 e347 rfl).trans e344)
            have e371 : Iv h363 a0 4 = v345 := ((fxI F367 e347 rfl).trans e346)
            have e372 : Jv h363 a0 5 = v349 := ((fxJ F367 e347 rfl).trans e350)
            have e373 : Rv h363 a0 6 = v352 := ((fxR F367 e347 rfl).trans e353)
            have p374 := p369.2.2.1
            rw [e371, e372] at p374
            have p375 := p369.2.2.2
            rw [e373] at p375
            refine g_if_eq C (iw f368 (by decide) (by decide)) 71 (by decide) dX3_readTest_64 (fun q376 => ?_) (fun q377 => ?_)
            · exact (no_eq f368 (il 0) q376 (by decide)).elim
            · refine g_iconst C dX3_readTest_67 ?_
              refine g_goto C 72 (by decide) dX3_readTest_68 ?_
              have e378 : Tg h363 v1 = 2006 := (fxT F367 e361)
              exact g_iret C hr (nar_z2 (iw (il 1) (by decide) (by decide))).1 (iw (il 1) (by decide) (by decide)) ⟨O366, ((((((((Fx.rf (wr := wr_k_readTest_3)).call F19 rfl).call F42 rfl).call F212 rfl).call F223 rfl).call F321 rfl).call F341 rfl).call F367 rfl), (iw (il 1) (by decide) (by decide)), (by unfold RInv; rw [e370, e371, e372, e373]; exact ⟨e378, p369.2.1, p374, p375⟩)⟩ (by decide) (by decide) dX3_readTest_72
      · have f379 : (0 : Int) ≤ r207 ∧ r207 ≤ (0 : Int) := ii f213 (r_eq (il 0) q215) (by decide) (by decide)
        refine g_iconst C dX3_readTest_28 ?_
        have e380 : Rv h208 a0 13 = v1 := ((fxR F212 e206 rfl).trans ((fxR F42 e25 rfl).trans e22))
        have e381 : Iv h208 a0 4 = v23 := ((fxI F212 e206 rfl).trans ((fxI F42 e25 rfl).trans e24))
        have e382 : Jv h208 a0 5 = v27 := ((fxJ F212 e206 rfl).trans ((fxJ F42 e25 rfl).trans e28))
        have e383 : Rv h208 a0 6 = v30 := ((fxR F212 e206 rfl).trans ((fxR F42 e25 rfl).trans e31))
        have e384 : Tg h208 v1 = 2006 := (fxT F212 (fxT F42 (fxT F19 t3)))
        have e385 : Tg h15 v1 = 2006 := (fxT F19 t3)
        have e386 : Rv h38 a0 13 = v1 := ((fxR F42 e25 rfl).trans e22)
        have e387 : Tg h38 v1 = 2006 := (fxT F42 e385)
        have p388 := (DOk_fx O41 F212 e206 (by rw [e386]; exact e387) rfl (DOk_fx O18 F42 e25 (by rw [e22]; exact e385) rfl p21.2.1))
        exact g_iret C hr (nar_z2 (iw (il 1) (by decide) (by decide))).1 (iw (il 1) (by decide) (by decide)) ⟨O211, ((((Fx.rf (wr := wr_k_readTest_3)).call F19 rfl).call F42 rfl).call F212 rfl), (iw (il 1) (by decide) (by decide)), (by unfold RInv; rw [e380, e381, e382, e383]; exact ⟨e384, p388, p32, p33⟩)⟩ (by decide) (by decide) dX3_readTest_29
  · have f389 : (0 : Int) ≤ r14 ∧ r14 ≤ (0 : Int) := ii f20 (r_eq (il 0) q35) (by decide) (by decide)
    refine g_iconst C dX3_readTest_8 ?_
    have e390 : Tg h15 v1 = 2006 := (fxT F19 t3)
    exact g_iret C hr (nar_z2 (iw (il 0) (by decide) (by decide))).1 (iw (il 0) (by decide) (by decide)) ⟨O18, ((Fx.rf (wr := wr_k_readTest_3)).call F19 rfl), (iw (il 0) (by decide) (by decide)), (by unfold RInv; rw [e22, e24, e28, e31]; exact ⟨e390, p21.2.1, p32, p33⟩)⟩ (by decide) (by decide) dX3_readTest_9
def wr_k_readTests_3 : List Nat := [802, 803, 804, 805, 806, 807, 812, 4020000]
set_option maxRecDepth 100000 in
set_option maxHeartbeats 4000000 in
theorem k_readTests_3 (l : Launch) (D : va_G) (cy : Nat → ClassId) (w : Nat → Nat) (z0 : Nat)  {h : Hp} {a0 : Nat} {a1 : Int}  (O : Okh h) (ta0 : Tg h a0 = 4) (fa1 : 3 ≤ a1 ∧ a1 ≤ 3) (P_RInv : RInv w h a0) : MI l D cy w z0 yX3_readTests cX3_readTests 4 (some .boolean) 13 292 0 0 [.inr (.inr a0), .inl a1] h (fun v h1 => Okh h1 ∧ Fx wr_k_readTests_3 h h1 ∧ (0 ≤ v ∧ v ≤ 1) ∧ (RInv w h1 a0)) := by
  obtain ⟨v1, e2⟩ : ∃ z, Rv h a0 13 = z := ⟨_, rfl⟩
  have t3 := P_RInv.1
  rw [e2] at t3
  obtain ⟨v4, e5⟩ : ∃ z, Iv h a0 4 = z := ⟨_, rfl⟩
  have f6 := ok_I O ta0 rI_4_4 e5
  obtain ⟨v7, e8⟩ : ∃ z, Jv h a0 5 = z := ⟨_, rfl⟩
  have f9 := inL_J O e8
  obtain ⟨v10, e11⟩ : ∃ z, Rv h a0 6 = z := ⟨_, rfl⟩
  have p12 := P_RInv.2.2.1
  rw [e5, e8] at p12
  have p13 := P_RInv.2.2.2
  rw [e11] at p13
  refine hm_go (by decide +kernel) (Nat.le_of_ble_eq_true rfl) (fun p e s m below meth c C hr hn => ?_)
  refine g_aload_n C rfl 0 rfl dX3_readTests_0 ?_
  refine g_iload_n C rfl 1 rfl dX3_readTests_1 ?_
  refine g_callI (st := []) (gc_V C lk_LandSurvey_Reader_235 (k_readTest_3 l D cy w z0 O ta0 fa1 (by unfold RInv; rw [e2, e5, e8, e11]; exact ⟨t3, P_RInv.2.1, p12, p13⟩)) ta0 rfl rfl rfl ⟨by decide, by decide⟩ (Nat.le_of_ble_eq_true rfl) dX3_readTests_2 ⟨(by decide), (by decide)⟩) (fun r14 h15 f17 K16 => ?_)
  obtain ⟨O18, F19, f20, p21⟩ := K16
  have e22 : Rv h15 a0 13 = v1 := ((fxR F19 ta0 rfl).trans e2)
  obtain ⟨v23, e24⟩ : ∃ z, Iv h15 a0 4 = z := ⟨_, rfl⟩
  have e25 : Tg h15 a0 = 4 := (fxT F19 ta0)
  have f26 := ok_I O18 e25 rI_4_4 e24
  obtain ⟨v27, e28⟩ : ∃ z, Jv h15 a0 5 = z := ⟨_, rfl⟩
  have f29 := inL_J O18 e28
  obtain ⟨v30, e31⟩ : ∃ z, Rv h15 a0 6 = z := ⟨_, rfl⟩
  have p32 := p21.2.2.1
  rw [e24, e28] at p32
  have p33 := p21.2.2.2
  rw [e31] at p33
  refine g_if_ne C (iw f20 (by decide) (by decide)) 10 (by decide) dX3_readTests_5 (fun q34 => ?_) (fun q35 => ?_)
  · have f36 : (1 : Int) ≤ r14 ∧ r14 ≤ (1 : Int) := r_nl f20 q34
    refine g_iconst C dX3_readTests_10 ?_
    refine g_istore_n C [(2, .inl 0), (0, .inr (.inr a0)), (1, .inl a1)] rfl (by decide) rfl dX3_readTests_11 ?_
    refine GW.sub [1, 2, 0] rfl ?_
    -- loop at 12
    have L39 : ∀ (μ : Nat) (x37 : Int) (h38 : Hp), (1501 - x37).toNat = μ → Okh h38 → Fx [802, 803, 804, 805, 806, 807, 812, 4020000] h15 h38 → ((0 : Int) ≤ x37 ∧ x37 ≤ (1501 : Int)) → (RInv w h38 a0) → GW p l e (rmm 13 292 0 0) s m (List.map toV [.inr (.inr a0), .inl a1]).toArray below meth c D cy z0 4 (MQ below (QI D cy z0 (fun v h1 => Okh h1 ∧ Fx wr_k_readTests_3 h h1 ∧ (0 ≤ v ∧ v ≤ 1) ∧ (RInv w h1 a0))) (List.map toV [.inr (.inr a0), .inl a1]).toArray s 0 0 (Aof z0)) 12 [(0, .inr (.inr a0)), (1, .inl a1), (2, .inl x37)] [] h38 0 0 := by
      intro μ
      induction μ using Nat.strongRecOn with
      | ind μ ih40 =>
        intro x37 h38 hm41 O42 F43 f44 p45
        have e46 : Rv h38 a0 13 = v1 := ((fxR F43 e25 rfl).trans e22)
        obtain ⟨v47, e48⟩ : ∃ z, Iv h38 a0 4 = z := ⟨_, rfl⟩
        have e49 : Tg h38 a0 = 4 := (fxT F43 e25)
        have f50 := ok_I O42 e49 rI_4_4 e48
        obtain ⟨v51, e52⟩ : ∃ z, Jv h38 a0 5 = z := ⟨_, rfl⟩
        have f53 := inL_J O42 e52
        obtain ⟨v54, e55⟩ : ∃ z, Rv h38 a0 6 = z := ⟨_, rfl⟩
        have p56 := p45.2.2.1
        rw [e48, e52] at p56
        have p57 := p45.2.2.2
        rw [e55] at p57
        refine g_iload_n C rfl 2 rfl dX3_readTests_12 ?_
        refine g_sipush C (by decide) dX3_readTests_13 ?_
        refine g_icmp_gt C (iw f44 (by decide) (by decide)) (iw (il 1500) (by decide) (by decide)) 85 (by decide) dX3_readTests_16 (fun q58 => ?_) (fun q59 => ?_)
        · have f60 : (1501 : Int) ≤ x37 ∧ x37 ≤ (1501 : Int) := r_gt f44 (il 1500) q58 (by decide) (by decide)
          refine g_iconst C dX3_readTests_85 ?_
          have e61 : Tg h38 v1 = 2006 := (fxT F43 (fxT F19 t3))
          exact g_iret C hr (nar_z2 (iw (il 1) (by decide) (by decide))).1 (iw (il 1) (by decide) (by decide)) ⟨O42, (((Fx.rf (wr := wr_k_readTests_3)).call F19 rfl).call F43 rfl), (iw (il 1) (by decide) (by decide)), (by unfold RInv; rw [e46, e48, e52, e55]; exact ⟨e61, p45.2.1, p56, p57⟩)⟩ (by decide) (by decide) dX3_readTests_86
        · have f62 : (0 : Int) ≤ x37 ∧ x37 ≤ (1500 : Int) := r_le f44 (il 1500) q59 (by decide) (by decide)
          refine g_aload_n C rfl 0 rfl dX3_readTests_19 ?_
          refine gf_R C fk_LandSurvey_Reader_69 rfl e49 e55 dX3_readTests_20 ?_
          refine g_gets (x := .inr (.inr (w 15 + 1))) C (C.2.2.2.2.2.2.1.1 15 (by decide)).1 kw_845 dX3_readTests_23 ?_
          refine g_acmp_eq C 39 (by decide) dX3_readTests_26 (fun q63 => ?_) (fun q64 => ?_)
          · refine g_aload_n C rfl 0 rfl dX3_readTests_39 ?_
            refine gf_R C fk_LandSurvey_Reader_69 rfl e49 e55 dX3_readTests_40 ?_
            refine g_gets (x := .inr (.inr (w 15 + 1))) C (C.2.2.2.2.2.2.1.1 15 (by decide)).1 kw_845 dX3_readTests_43 ?_
            refine g_acmp_ne C 54 (by decide) dX3_readTests_46 (fun q65 => ?_) (fun q66 => ?_)
            · refine g_bipush C (by decide) dX3_readTests_54 ?_
              refine g_istore_n C [(3, .inl (-26)), (0, .inr (.inr a0)), (1, .inl a1), (2, .inl x37)] rfl (by decide) rfl dX3_readTests_56 ?_
              refine g_aload_n C rfl 1 rfl dX3_readTests_57 ?_
              have e67 : Tg h38 v1 = 2006 := (fxT F43 (fxT F19 t3))
              refine g_callV (st := []) (gc_V C lk_LandSurvey_Reader_46 (k_X3_advance l D cy w z0 O42 e49 (by unfold RInv; rw [e46, e48, e52, e55]; exact ⟨e67, p45.2.1, p56, p57⟩)) e49 rfl rfl rfl ⟨by decide, by decide⟩ (Nat.le_of_ble_eq_true rfl) dX3_readTests_58 ⟨(by decide), (by decide)⟩) (fun h69 K70 => ?_)
              obtain ⟨O72, F73, p74⟩ := K70
              have e75 : Rv h69 a0 13 = v1 := ((fxR F73 e49 rfl).trans e46)
              obtain ⟨v76, e77⟩ : ∃ z, Iv h69 a0 4 = z := ⟨_, rfl⟩
              have e78 : Tg h69 a0 = 4 := (fxT F73 e49)
              have f79 := ok_I O72 e78 rI_4_4 e77
              obtain ⟨v80, e81⟩ : ∃ z, Jv h69 a0 5 = z := ⟨_, rfl⟩
              have f82 := inL_J O72 e81
              obtain ⟨v83, e84⟩ : ∃ z, Rv h69 a0 6 = z := ⟨_, rfl⟩
              have p85 := p74.2.2.1
              rw [e77, e81] at p85
              have p86 := p74.2.2.2
              rw [e84] at p86
              refine g_aload_n C rfl 1 rfl dX3_readTests_61 ?_
              refine g_iload_n C rfl 2 rfl dX3_readTests_62 ?_
              have e87 : Tg h69 v1 = 2006 := (fxT F73 e67)
              refine g_callI (st := []) (gc_V C lk_LandSurvey_Reader_235 (k_readTest_3 l D cy w z0 O72 e78 fa1 (by unfold RInv; rw [e75, e77, e81, e84]; exact ⟨e87, p74.2.1, p85, p86⟩)) e78 rfl rfl rfl ⟨by decide, by decide⟩ (Nat.le_of_ble_eq_true rfl) dX3_readTests_63 ⟨(by decide), (by decide)⟩) (fun r88 h89 f91 K90 => ?_)
              obtain ⟨O92, F93, f94, p95⟩ := K90
              have e96 : Rv h89 a0 13 = v1 := ((fxR F93 e78 rfl).trans e75)
              obtain ⟨v97, e98⟩ : ∃ z, Iv h89 a0 4 = z := ⟨_, rfl⟩
              have e99 : Tg h89 a0 = 4 := (fxT F93 e78)
              have f100 := ok_I O92 e99 rI_4_4 e98
              obtain ⟨v101, e102⟩ : ∃ z, Jv h89 a0 5 = z := ⟨_, rfl⟩
              have f103 := inL_J O92 e102
              obtain ⟨v104, e105⟩ : ∃ z, Rv h89 a0 6 = z := ⟨_, rfl⟩
              have p106 := p95.2.2.1
              rw [e98, e102] at p106
              have p107 := p95.2.2.2
              rw [e105] at p107
              refine g_if_eq C (iw f94 (by decide) (by decide)) 77 (by decide) dX3_readTests_66 (fun q108 => ?_) (fun q109 => ?_)
              · have f110 : (0 : Int) ≤ r88 ∧ r88 ≤ (0 : Int) := ii f94 (r_eq (il 0) q108) (by decide) (by decide)
                refine g_iconst C dX3_readTests_77 ?_
                have e111 : Tg h89 v1 = 2006 := (fxT F93 e87)
                exact g_iret C hr (nar_z2 (iw (il 0) (by decide) (by decide))).1 (iw (il 0) (by decide) (by decide)) ⟨O92, (((((Fx.rf (wr := wr_k_readTests_3)).call F19 rfl).call F43 rfl).call F73 rfl).call F93 rfl), (iw (il 0) (by decide) (by decide)), (by unfold RInv; rw [e96, e98, e102, e105]; exact ⟨e111, p95.2.1, p106, p107⟩)⟩ (by decide) (by decide) dX3_readTests_78
              · have f112 : (1 : Int) ≤ r88 ∧ r88 ≤ (1 : Int) := r_nl f94 q109
                refine g_aload_n C rfl 1 rfl dX3_readTests_69 ?_
                refine g_iload_n C rfl 0 rfl dX3_readTests_70 ?_
                have e113 : Tg h89 v1 = 2006 := (fxT F93 e87)
                refine g_callI (st := []) (gc_V C lk_LandSurvey_Reader_244 (k_X3_emit l D cy w z0 O92 e99 (iw (il (-26)) (by decide) (by decide)) (by unfold RInv; rw [e96, e98, e102, e105]; exact ⟨e113, p95.2.1, p106, p107⟩) (by omega)) e99 rfl rfl rfl ⟨by decide, by decide⟩ (Nat.le_of_ble_eq_true rfl) dX3_readTests_71 ⟨(by decide), (by decide)⟩) (fun r114 h115 f117 K116 => ?_)
                obtain ⟨O118, F119, f120, p121⟩ := K116
                have e122 : Rv h115 a0 13 = v1 := ((fxR F119 e99 rfl).trans e96)
                have e123 : Iv h115 a0 4 = v97 := ((fxI F119 e99 rfl).trans e98)
                have e124 : Jv h115 a0 5 = v101 := ((fxJ F119 e99 rfl).trans e102)
                have e125 : Rv h115 a0 6 = v104 := ((fxR F119 e99 rfl).trans e105)
                have p126 := p121.2.2.1
                rw [e123, e124] at p126
                have p127 := p121.2.2.2
                rw [e125] at p127
                refine g_if_ne C (iw f120 (by decide) (by decide)) 79 (by decide) dX3_readTests_74 (fun q128 => ?_) (fun q129 => ?_)
                · have f130 : (1 : Int) ≤ (x37 + 1) ∧ (x37 + 1) ≤ (1501 : Int) := ia_add f62 (il 1) (by decide) (by decide)
                  refine g_iinc C [(2, .inl (x37 + 1)), (3, .inl (-26)), (0, .inr (.inr a0)), (1, .inl a1)] 3 rfl (by decide) rfl dX3_readTests_79 ?_
                  refine g_goto C 12 (by decide) dX3_readTests_82 ?_
                  refine GW.sub [2, 3, 0] rfl ?_
                  have e131 : Tg h115 v1 = 2006 := (fxT F119 e113)
                  exact ih40 _ (by omega) (x37 + 1) h115 rfl O118 (((F43.call F73 rfl).call F93 rfl).call F119 rfl) (iw f130 (by decide) (by decide)) (by unfold RInv; rw [e122, e123, e124, e125]; exact ⟨e131, p121.2.1, p126, p127⟩)
                · exact (no_eq f120 (il 0) q129 (by decide)).elim
            · refine g_bipush C (by decide) dX3_readTests_49 ?_
              refine g_goto C 56 (by decide) dX3_readTests_51 ?_
              refine g_istore_n C [(3, .inl (-25)), (0, .inr (.inr a0)), (1, .inl a1), (2, .inl x37)] rfl (by decide) rfl dX3_readTests_56 ?_
              refine g_aload_n C rfl 1 rfl dX3_readTests_57 ?_
              have e132 : Tg h38 v1 = 2006 := (fxT F43 (fxT F19 t3))
              refine g_callV (st := []) (gc_V C lk_LandSurvey_Reader_46 (k_X3_advance l D cy w z0 O42 e49 (by unfold RInv; rw [e46, e48, e52, e55]; exact ⟨e132, p45.2.1, p56, p57⟩)) e49 rfl rfl rfl ⟨by decide, by decide⟩ (Nat.le_of_ble_eq_true rfl) dX3_readTests_58 ⟨(by decide), (by decide)⟩) (fun h134 K135 => ?_)
              obtain ⟨O137, F138, p139⟩ := K135
              have e140 : Rv h134 a0 13 = v1 := ((fxR F138 e49 rfl).trans e46)
              obtain ⟨v141, e142⟩ : ∃ z, Iv h134 a0 4 = z := ⟨_, rfl⟩
              have e143 : Tg h134 a0 = 4 := (fxT F138 e49)
              have f144 := ok_I O137 e143 rI_4_4 e142
              obtain ⟨v145, e146⟩ : ∃ z, Jv h134 a0 5 = z := ⟨_, rfl⟩
              have f147 := inL_J O137 e146
              obtain ⟨v148, e149⟩ : ∃ z, Rv h134 a0 6 = z := ⟨_, rfl⟩
              have p150 := p139.2.2.1
              rw [e142, e146] at p150
              have p151 := p139.2.2.2
              rw [e149] at p151
              refine g_aload_n C rfl 1 rfl dX3_readTests_61 ?_
              refine g_iload_n C rfl 2 rfl dX3_readTests_62 ?_
              have e152 : Tg h134 v1 = 2006 := (fxT F138 e132)
              refine g_callI (st := []) (gc_V C lk_LandSurvey_Reader_235 (k_readTest_3 l D cy w z0 O137 e143 fa1 (by unfold RInv; rw [e140, e142, e146, e149]; exact ⟨e152, p139.2.1, p150, p151⟩)) e143 rfl rfl rfl ⟨by decide, by decide⟩ (Nat.le_of_ble_eq_true rfl) dX3_readTests_63 ⟨(by decide), (by decide)⟩) (fun r153 h154 f156 K155 => ?_)
              obtain ⟨O157, F158, f159, p160⟩ := K155
              have e161 : Rv h154 a0 13 = v1 := ((fxR F158 e143 rfl).trans e140)
              obtain ⟨v162, e163⟩ : ∃ z, Iv h154 a0 4 = z := ⟨_, rfl⟩
              have e164 : Tg h154 a0 = 4 := (fxT F158 e143)
              have f165 := ok_I O157 e164 rI_4_4 e163
              obtain ⟨v166, e167⟩ : ∃ z, Jv h154 a0 5 = z := ⟨_, rfl⟩
              have f168 := inL_J O157 e167
              obtain ⟨v169, e170⟩ : ∃ z, Rv h154 a0 6 = z := ⟨_, rfl⟩
              have p171 := p160.2.2.1
              rw [e163, e167] at p171
              have p172 := p160.2.2.2
              rw [e170] at p172
              refine g_if_eq C (iw f159 (by decide) (by decide)) 77 (by decide) dX3_readTests_66 (fun q173 => ?_) (fun q174 => ?_)
              · have f175 : (0 : Int) ≤ r153 ∧ r153 ≤ (0 : Int) := ii f159 (r_eq (il 0) q173) (by decide) (by decide)
                refine g_iconst C dX3_readTests_77 ?_
                have e176 : Tg h154 v1 = 2006 := (fxT F158 e152)
                exact g_iret C hr (nar_z2 (iw (il 0) (by decide) (by decide))).1 (iw (il 0) (by decide) (by decide)) ⟨O157, (((((Fx.rf (wr := wr_k_readTests_3)).call F19 rfl).call F43 rfl).call F138 rfl).call F158 rfl), (iw (il 0) (by decide) (by decide)), (by unfold RInv; rw [e161, e163, e167, e170]; exact ⟨e176, p160.2.1, p171, p172⟩)⟩ (by decide) (by decide) dX3_readTests_78
              · have f177 : (1 : Int) ≤ r153 ∧ r153 ≤ (1 : Int) := r_nl f159 q174
                refine g_aload_n C rfl 1 rfl dX3_readTests_69 ?_
                refine g_iload_n C rfl 0 rfl dX3_readTests_70 ?_
                have e178 : Tg h154 v1 = 2006 := (fxT F158 e152)
                refine g_callI (st := []) (gc_V C lk_LandSurvey_Reader_244 (k_X3_emit l D cy w z0 O157 e164 (iw (il (-25)) (by decide) (by decide)) (by unfold RInv; rw [e161, e163, e167, e170]; exact ⟨e178, p160.2.1, p171, p172⟩) (by omega)) e164 rfl rfl rfl ⟨by decide, by decide⟩ (Nat.le_of_ble_eq_true rfl) dX3_readTests_71 ⟨(by decide), (by decide)⟩) (fun r179 h180 f182 K181 => ?_)
                obtain ⟨O183, F184, f185, p186⟩ := K181
                have e187 : Rv h180 a0 13 = v1 := ((fxR F184 e164 rfl).trans e161)
                have e188 : Iv h180 a0 4 = v162 := ((fxI F184 e164 rfl).trans e163)
                have e189 : Jv h180 a0 5 = v166 := ((fxJ F184 e164 rfl).trans e167)
                have e190 : Rv h180 a0 6 = v169 := ((fxR F184 e164 rfl).trans e170)
                have p191 := p186.2.2.1
                rw [e188, e189] at p191
                have p192 := p186.2.2.2
                rw [e190] at p192
                refine g_if_ne C (iw f185 (by decide) (by decide)) 79 (by decide) dX3_readTests_74 (fun q193 => ?_) (fun q194 => ?_)
                · have f195 : (1 : Int) ≤ (x37 + 1) ∧ (x37 + 1) ≤ (1501 : Int) := ia_add f62 (il 1) (by decide) (by decide)
                  refine g_iinc C [(2, .inl (x37 + 1)), (3, .inl (-25)), (0, .inr (.inr a0)), (1, .inl a1)] 3 rfl (by decide) rfl dX3_readTests_79 ?_
                  refine g_goto C 12 (by decide) dX3_readTests_82 ?_
                  refine GW.sub [2, 3, 0] rfl ?_
                  have e196 : Tg h180 v1 = 2006 := (fxT F184 e178)
                  exact ih40 _ (by omega) (x37 + 1) h180 rfl O183 (((F43.call F138 rfl).call F158 rfl).call F184 rfl) (iw f195 (by decide) (by decide)) (by unfold RInv; rw [e187, e188, e189, e190]; exact ⟨e196, p186.2.1, p191, p192⟩)
                · exact (no_eq f185 (il 0) q194 (by decide)).elim
          · refine g_aload_n C rfl 0 rfl dX3_readTests_29 ?_
            refine gf_R C fk_LandSurvey_Reader_69 rfl e49 e55 dX3_readTests_30 ?_
            refine g_gets (x := .inr (.inr (w 16 + 1))) C (C.2.2.2.2.2.2.1.1 16 (by decide)).1 kw_847 dX3_readTests_33 ?_
            refine g_acmp_ne C 85 (by decide) dX3_readTests_36 (fun q197 => ?_) (fun q198 => ?_)
            · refine g_iconst C dX3_readTests_85 ?_
              have e199 : Tg h38 v1 = 2006 := (fxT F43 (fxT F19 t3))
              exact g_iret C hr (nar_z2 (iw (il 1) (by decide) (by decide))).1 (iw (il 1) (by decide) (by decide)) ⟨O42, (((Fx.rf (wr := wr_k_readTests_3)).call F19 rfl).call F43 rfl), (iw (il 1) (by decide) (by decide)), (by unfold RInv; rw [e46, e48, e52, e55]; exact ⟨e199, p45.2.1, p56, p57⟩)⟩ (by decide) (by decide) dX3_readTests_86
            · refine g_aload_n C rfl 0 rfl dX3_readTests_39 ?_
              refine gf_R C fk_LandSurvey_Reader_69 rfl e49 e55 dX3_readTests_40 ?_
              refine g_gets (x := .inr (.inr (w 15 + 1))) C (C.2.2.2.2.2.2.1.1 15 (by decide)).1 kw_845 dX3_readTests_43 ?_
              refine g_acmp_ne C 54 (by decide) dX3_readTests_46 (fun q200 => ?_) (fun q201 => ?_)
              · refine g_bipush C (by decide) dX3_readTests_54 ?_
                refine g_istore_n C [(3, .inl (-26)), (0, .inr (.inr a0)), (1, .inl a1), (2, .inl x37)] rfl (by decide) rfl dX3_readTests_56 ?_
                refine g_aload_n C rfl 1 rfl dX3_readTests_57 ?_
                have e202 : Tg h38 v1 = 2006 := (fxT F43 (fxT F19 t3))
                refine g_callV (st := []) (gc_V C lk_LandSurvey_Reader_46 (k_X3_advance l D cy w z0 O42 e49 (by unfold RInv; rw [e46, e48, e52, e55]; exact ⟨e202, p45.2.1, p56, p57⟩)) e49 rfl rfl rfl ⟨by decide, by decide⟩ (Nat.le_of_ble_eq_true rfl) dX3_readTests_58 ⟨(by decide), (by decide)⟩) (fun h204 K205 => ?_)
                obtain ⟨O207, F208, p209⟩ := K205
                have e210 : Rv h204 a0 13 = v1 := ((fxR F208 e49 rfl).trans e46)
                obtain ⟨v211, e212⟩ : ∃ z, Iv h204 a0 4 = z := ⟨_, rfl⟩
                have e213 : Tg h204 a0 = 4 := (fxT F208 e49)
                have f214 := ok_I O207 e213 rI_4_4 e212
                obtain ⟨v215, e216⟩ : ∃ z, Jv h204 a0 5 = z := ⟨_, rfl⟩
                have f217 := inL_J O207 e216
                obtain ⟨v218, e219⟩ : ∃ z, Rv h204 a0 6 = z := ⟨_, rfl⟩
                have p220 := p209.2.2.1
                rw [e212, e216] at p220
                have p221 := p209.2.2.2
                rw [e219] at p221
                refine g_aload_n C rfl 1 rfl dX3_readTests_61 ?_
                refine g_iload_n C rfl 2 rfl dX3_readTests_62 ?_
                have e222 : Tg h204 v1 = 2006 := (fxT F208 e202)
                refine g_callI (st := []) (gc_V C lk_LandSurvey_Reader_235 (k_readTest_3 l D cy w z0 O207 e213 fa1 (by unfold RInv; rw [e210, e212, e216, e219]; exact ⟨e222, p209.2.1, p220, p221⟩)) e213 rfl rfl rfl ⟨by decide, by decide⟩ (Nat.le_of_ble_eq_true rfl) dX3_readTests_63 ⟨(by decide), (by decide)⟩) (fun r223 h224 f226 K225 => ?_)
                obtain ⟨O227, F228, f229, p230⟩ := K225
                have e231 : Rv h224 a0 13 = v1 := ((fxR F228 e213 rfl).trans e210)
                obtain ⟨v232, e233⟩ : ∃ z, Iv h224 a0 4 = z := ⟨_, rfl⟩
                have e234 : Tg h224 a0 = 4 := (fxT F228 e213)
                have f235 := ok_I O227 e234 rI_4_4 e233
                obtain ⟨v236, e237⟩ : ∃ z, Jv h224 a0 5 = z := ⟨_, rfl⟩
                have f238 := inL_J O227 e237
                obtain ⟨v239, e240⟩ : ∃ z, Rv h224 a0 6 = z := ⟨_, rfl⟩
                have p241 := p230.2.2.1
                rw [e233, e237] at p241
                have p242 := p230.2.2.2
                rw [e240] at p242
                refine g_if_eq C (iw f229 (by decide) (by decide)) 77 (by decide) dX3_readTests_66 (fun q243 => ?_) (fun q244 => ?_)
                · have f245 : (0 : Int) ≤ r223 ∧ r223 ≤ (0 : Int) := ii f229 (r_eq (il 0) q243) (by decide) (by decide)
                  refine g_iconst C dX3_readTests_77 ?_
                  have e246 : Tg h224 v1 = 2006 := (fxT F228 e222)
                  exact g_iret C hr (nar_z2 (iw (il 0) (by decide) (by decide))).1 (iw (il 0) (by decide) (by decide)) ⟨O227, (((((Fx.rf (wr := wr_k_readTests_3)).call F19 rfl).call F43 rfl).call F208 rfl).call F228 rfl), (iw (il 0) (by decide) (by decide)), (by unfold RInv; rw [e231, e233, e237, e240]; exact ⟨e246, p230.2.1, p241, p242⟩)⟩ (by decide) (by decide) dX3_readTests_78
                · have f247 : (1 : Int) ≤ r223 ∧ r223 ≤ (1 : Int) := r_nl f229 q244
                  refine g_aload_n C rfl 1 rfl dX3_readTests_69 ?_
                  refine g_iload_n C rfl 0 rfl dX3_readTests_70 ?_
                  have e248 : Tg h224 v1 = 2006 := (fxT F228 e222)
                  refine g_callI (st := []) (gc_V C lk_LandSurvey_Reader_244 (k_X3_emit l D cy w z0 O227 e234 (iw (il (-26)) (by decide) (by decide)) (by unfold RInv; rw [e231, e233, e237, e240]; exact ⟨e248, p230.2.1, p241, p242⟩) (by omega)) e234 rfl rfl rfl ⟨by decide, by decide⟩ (Nat.le_of_ble_eq_true rfl) dX3_readTests_71 ⟨(by decide), (by decide)⟩) (fun r249 h250 f252 K251 => ?_)
                  obtain ⟨O253, F254, f255, p256⟩ := K251
                  have e257 : Rv h250 a0 13 = v1 := ((fxR F254 e234 rfl).trans e231)
                  have e258 : Iv h250 a0 4 = v232 := ((fxI F254 e234 rfl).trans e233)
                  have e259 : Jv h250 a0 5 = v236 := ((fxJ F254 e234 rfl).trans e237)
                  have e260 : Rv h250 a0 6 = v239 := ((fxR F254 e234 rfl).trans e240)
                  have p261 := p256.2.2.1
                  rw [e258, e259] at p261
                  have p262 := p256.2.2.2
                  rw [e260] at p262
                  refine g_if_ne C (iw f255 (by decide) (by decide)) 79 (by decide) dX3_readTests_74 (fun q263 => ?_) (fun q264 => ?_)
                  · have f265 : (1 : Int) ≤ (x37 + 1) ∧ (x37 + 1) ≤ (1501 : Int) := ia_add f62 (il 1) (by decide) (by decide)
                    refine g_iinc C [(2, .inl (x37 + 1)), (3, .inl (-26)), (0, .inr (.inr a0)), (1, .inl a1)] 3 rfl (by decide) rfl dX3_readTests_79 ?_
                    refine g_goto C 12 (by decide) dX3_readTests_82 ?_
                    refine GW.sub [2, 3, 0] rfl ?_
                    have e266 : Tg h250 v1 = 2006 := (fxT F254 e248)
                    exact ih40 _ (by omega) (x37 + 1) h250 rfl O253 (((F43.call F208 rfl).call F228 rfl).call F254 rfl) (iw f265 (by decide) (by decide)) (by unfold RInv; rw [e257, e258, e259, e260]; exact ⟨e266, p256.2.1, p261, p262⟩)
                  · exact (no_eq f255 (il 0) q264 (by decide)).elim
              · refine g_bipush C (by decide) dX3_readTests_49 ?_
                refine g_goto C 56 (by decide) dX3_readTests_51 ?_
                refine g_istore_n C [(3, .inl (-25)), (0, .inr (.inr a0)), (1, .inl a1), (2, .inl x37)] rfl (by decide) rfl dX3_readTests_56 ?_
                refine g_aload_n C rfl 1 rfl dX3_readTests_57 ?_
                have e267 : Tg h38 v1 = 2006 := (fxT F43 (fxT F19 t3))
                refine g_callV (st := []) (gc_V C lk_LandSurvey_Reader_46 (k_X3_advance l D cy w z0 O42 e49 (by unfold RInv; rw [e46, e48, e52, e55]; exact ⟨e267, p45.2.1, p56, p57⟩)) e49 rfl rfl rfl ⟨by decide, by decide⟩ (Nat.le_of_ble_eq_true rfl) dX3_readTests_58 ⟨(by decide), (by decide)⟩) (fun h269 K270 => ?_)
                obtain ⟨O272, F273, p274⟩ := K270
                have e275 : Rv h269 a0 13 = v1 := ((fxR F273 e49 rfl).trans e46)
                obtain ⟨v276, e277⟩ : ∃ z, Iv h269 a0 4 = z := ⟨_, rfl⟩
                have e278 : Tg h269 a0 = 4 := (fxT F273 e49)
                have f279 := ok_I O272 e278 rI_4_4 e277
                obtain ⟨v280, e281⟩ : ∃ z, Jv h269 a0 5 = z := ⟨_, rfl⟩
                have f282 := inL_J O272 e281
                obtain ⟨v283, e284⟩ : ∃ z, Rv h269 a0 6 = z := ⟨_, rfl⟩
                have p285 := p274.2.2.1
                rw [e277, e281] at p285
                have p286 := p274.2.2.2
                rw [e284] at p286
                refine g_aload_n C rfl 1 rfl dX3_readTests_61 ?_
                refine g_iload_n C rfl 2 rfl dX3_readTests_62 ?_
                have e287 : Tg h269 v1 = 2006 := (fxT F273 e267)
                refine g_callI (st := []) (gc_V C lk_LandSurvey_Reader_235 (k_readTest_3 l D cy w z0 O272 e278 fa1 (by unfold RInv; rw [e275, e277, e281, e284]; exact ⟨e287, p274.2.1, p285, p286⟩)) e278 rfl rfl rfl ⟨by decide, by decide⟩ (Nat.le_of_ble_eq_true rfl) dX3_readTests_63 ⟨(by decide), (by decide)⟩) (fun r288 h289 f291 K290 => ?_)
                obtain ⟨O292, F293, f294, p295⟩ := K290
                have e296 : Rv h289 a0 13 = v1 := ((fxR F293 e278 rfl).trans e275)
                obtain ⟨v297, e298⟩ : ∃ z, Iv h289 a0 4 = z := ⟨_, rfl⟩
                have e299 : Tg h289 a0 = 4 := (fxT F293 e278)
                have f300 := ok_I O292 e299 rI_4_4 e298
                obtain ⟨v301, e302⟩ : ∃ z, Jv h289 a0 5 = z := ⟨_, rfl⟩
                have f303 := inL_J O292 e302
                obtain ⟨v304, e305⟩ : ∃ z, Rv h289 a0 6 = z := ⟨_, rfl⟩
                have p306 := p295.2.2.1
                rw [e298, e302] at p306
                have p307 := p295.2.2.2
                rw [e305] at p307
                refine g_if_eq C (iw f294 (by decide) (by decide)) 77 (by decide) dX3_readTests_66 (fun q308 => ?_) (fun q309 => ?_)
                · have f310 : (0 : Int) ≤ r288 ∧ r288 ≤ (0 : Int) := ii f294 (r_eq (il 0) q308) (by decide) (by decide)
                  refine g_iconst C dX3_readTests_77 ?_
                  have e311 : Tg h289 v1 = 2006 := (fxT F293 e287)
                  exact g_iret C hr (nar_z2 (iw (il 0) (by decide) (by decide))).1 (iw (il 0) (by decide) (by decide)) ⟨O292, (((((Fx.rf (wr := wr_k_readTests_3)).call F19 rfl).call F43 rfl).call F273 rfl).call F293 rfl), (iw (il 0) (by decide) (by decide)), (by unfold RInv; rw [e296, e298, e302, e305]; exact ⟨e311, p295.2.1, p306, p307⟩)⟩ (by decide) (by decide) dX3_readTests_78
                · have f312 : (1 : Int) ≤ r288 ∧ r288 ≤ (1 : Int) := r_nl f294 q309
                  refine g_aload_n C rfl 1 rfl dX3_readTests_69 ?_
                  refine g_iload_n C rfl 0 rfl dX3_readTests_70 ?_
                  have e313 : Tg h289 v1 = 2006 := (fxT F293 e287)
                  refine g_callI (st := []) (gc_V C lk_LandSurvey_Reader_244 (k_X3_emit l D cy w z0 O292 e299 (iw (il (-25)) (by decide) (by decide)) (by unfold RInv; rw [e296, e298, e302, e305]; exact ⟨e313, p295.2.1, p306, p307⟩) (by omega)) e299 rfl rfl rfl ⟨by decide, by decide⟩ (Nat.le_of_ble_eq_true rfl) dX3_readTests_71 ⟨(by decide), (by decide)⟩) (fun r314 h315 f317 K316 => ?_)
                  obtain ⟨O318, F319, f320, p321⟩ := K316
                  have e322 : Rv h315 a0 13 = v1 := ((fxR F319 e299 rfl).trans e296)
                  have e323 : Iv h315 a0 4 = v297 := ((fxI F319 e299 rfl).trans e298)
                  have e324 : Jv h315 a0 5 = v301 := ((fxJ F319 e299 rfl).trans e302)
                  have e325 : Rv h315 a0 6 = v304 := ((fxR F319 e299 rfl).trans e305)
                  have p326 := p321.2.2.1
                  rw [e323, e324] at p326
                  have p327 := p321.2.2.2
                  rw [e325] at p327
                  refine g_if_ne C (iw f320 (by decide) (by decide)) 79 (by decide) dX3_readTests_74 (fun q328 => ?_) (fun q329 => ?_)
                  · have f330 : (1 : Int) ≤ (x37 + 1) ∧ (x37 + 1) ≤ (1501 : Int) := ia_add f62 (il 1) (by decide) (by decide)
                    refine g_iinc C [(2, .inl (x37 + 1)), (3, .inl (-25)), (0, .inr (.inr a0)), (1, .inl a1)] 3 rfl (by decide) rfl dX3_readTests_79 ?_
                    refine g_goto C 12 (by decide) dX3_readTests_82 ?_
                    refine GW.sub [2, 3, 0] rfl ?_
                    have e331 : Tg h315 v1 = 2006 := (fxT F319 e313)
                    exact ih40 _ (by omega) (x37 + 1) h315 rfl O318 (((F43.call F273 rfl).call F293 rfl).call F319 rfl) (iw f330 (by decide) (by decide)) (by unfold RInv; rw [e322, e323, e324, e325]; exact ⟨e331, p321.2.1, p326, p327⟩)
                  · exact (no_eq f320 (il 0) q329 (by decide)).elim
    have e332 : Tg h15 v1 = 2006 := (fxT F19 t3)
    exact L39 _ 0 h15 rfl O18 Fx.rf (iw (il 0) (by decide) (by decide)) (by unfold RInv; rw [e22, e24, e28, e31]; exact ⟨e332, p21.2.1, p32, p33⟩)
  · have f333 : (0 : Int) ≤ r14 ∧ r14 ≤ (0 : Int) := ii f20 (r_eq (il 0) q35) (by decide) (by decide)
    refine g_iconst C dX3_readTests_8 ?_
    have e334 : Tg h15 v1 = 2006 := (fxT F19 t3)
    exact g_iret C hr (nar_z2 (iw (il 0) (by decide) (by decide))).1 (iw (il 0) (by decide) (by decide)) ⟨O18, ((Fx.rf (wr := wr_k_readTests_3)).call F19 rfl), (iw (il 0) (by decide) (by decide)), (by unfold RInv; rw [e22, e24, e28, e31]; exact ⟨e334, p21.2.1, p32, p33⟩)⟩ (by decide) (by decide) dX3_readTests_9
def wr_k_readFact_2 : List Nat := [802, 803, 804, 805, 806, 807, 812, 4020000]
set_option maxRecDepth 100000 in
set_option maxHeartbeats 4000000 in
theorem k_readFact_2 (l : Launch) (D : va_G) (cy : Nat → ClassId) (w : Nat → Nat) (z0 : Nat)  {h : Hp} {a0 : Nat} {a1 : Int}  (O : Okh h) (ta0 : Tg h a0 = 4) (fa1 : 2 ≤ a1 ∧ a1 ≤ 2) (P_RInv : RInv w h a0) : MI l D cy w z0 yX3_readFact cX3_readFact 4 (some .boolean) 14 315 0 0 [.inr (.inr a0), .inl a1] h (fun v h1 => Okh h1 ∧ Fx wr_k_readFact_2 h h1 ∧ (0 ≤ v ∧ v ≤ 1) ∧ (RInv w h1 a0)) := by
  obtain ⟨v1, e2⟩ : ∃ z, Rv h a0 13 = z := ⟨_, rfl⟩
  have t3 := P_RInv.1
  rw [e2] at t3
  obtain ⟨v4, e5⟩ : ∃ z, Iv h a0 4 = z := ⟨_, rfl⟩
  have f6 := ok_I O ta0 rI_4_4 e5
  obtain ⟨v7, e8⟩ : ∃ z, Jv h a0 5 = z := ⟨_, rfl⟩
  have f9 := inL_J O e8
  obtain ⟨v10, e11⟩ : ∃ z, Rv h a0 6 = z := ⟨_, rfl⟩
  have p12 := P_RInv.2.2.1
  rw [e5, e8] at p12
  have p13 := P_RInv.2.2.2
  rw [e11] at p13
  refine hm_go (by decide +kernel) (Nat.le_of_ble_eq_true rfl) (fun p e s m below meth c C hr hn => ?_)
  refine g_aload_n C rfl 0 rfl dX3_readFact_0 ?_
  refine gf_I C fk_LandSurvey_Reader_49 rfl ta0 e5 dX3_readFact_1 ?_
  refine g_iconst C dX3_readFact_4 ?_
  refine g_icmp_eq C (iw f6 (by decide) (by decide)) (iw (il 2) (by decide) (by decide)) 26 (by decide) dX3_readFact_5 (fun q14 => ?_) (fun q15 => ?_)
  · have f16 : (2 : Int) ≤ v4 ∧ v4 ≤ (2 : Int) := ii f6 (r_eq (il 2) q14) (by decide) (by decide)
    refine g_iconst C dX3_readFact_26 ?_
    refine g_goto C 31 (by decide) dX3_readFact_27 ?_
    refine g_istore_n C [(2, .inl 1), (0, .inr (.inr a0)), (1, .inl a1)] rfl (by decide) rfl dX3_readFact_31 ?_
    refine g_aload_n C rfl 1 rfl dX3_readFact_32 ?_
    refine gf_R C fk_LandSurvey_Reader_69 rfl ta0 e11 dX3_readFact_33 ?_
    refine g_gets (x := .inr (.inr (w 17 + 1))) C (C.2.2.2.2.2.2.1.1 17 (by decide)).1 kw_839 dX3_readFact_36 ?_
    refine g_acmp_ne C 46 (by decide) dX3_readFact_39 (fun q17 => ?_) (fun q18 => ?_)
    · refine g_iconst C dX3_readFact_46 ?_
      refine g_istore_n C [(3, .inl 0), (2, .inl 1), (0, .inr (.inr a0)), (1, .inl a1)] rfl (by decide) rfl dX3_readFact_47 ?_
      refine g_iload_n C rfl 1 rfl dX3_readFact_48 ?_
      refine g_if_ne C (iw (il 1) (by decide) (by decide)) 71 (by decide) dX3_readFact_49 (fun q19 => ?_) (fun q20 => ?_)
      · refine g_iload_n C rfl 3 rfl dX3_readFact_71 ?_
        refine g_iconst C dX3_readFact_72 ?_
        refine g_icmp_lt C (iw fa1 (by decide) (by decide)) (iw (il 4) (by decide) (by decide)) 82 (by decide) dX3_readFact_73 (fun q21 => ?_) (fun q22 => ?_)
        · refine g_iload_n C rfl 1 rfl dX3_readFact_82 ?_
          refine g_if_eq C (iw (il 1) (by decide) (by decide)) 122 (by decide) dX3_readFact_83 (fun q23 => ?_) (fun q24 => ?_)
          · exact (no_eq (il 1) (il 0) q23 (by decide)).elim
          · refine g_aload_n C rfl 2 rfl dX3_readFact_86 ?_
            refine g_aload_n C rfl 2 rfl dX3_readFact_87 ?_
            refine gf_I C fk_LandSurvey_Reader_49 rfl ta0 e5 dX3_readFact_88 ?_
            refine g_iconst C dX3_readFact_91 ?_
            refine g_icmp_ne C (iw f16 (by decide) (by decide)) (iw (il 2) (by decide) (by decide)) 103 (by decide) dX3_readFact_92 (fun q25 => ?_) (fun q26 => ?_)
            · exact (no_ne f16 (il 2) q25 (by decide)).elim
            · have f27 : (0 : Int) ≤ v7 ∧ v7 ≤ (9999 : Int) := by omega
              refine g_aload_n C rfl 2 rfl dX3_readFact_95 ?_
              refine gf_J C fk_LandSurvey_Reader_73 rfl ta0 e8 dX3_readFact_96 ?_
              refine g_l2i C dX3_readFact_99 ?_
              have f28 : (0 : Int) ≤ (l2w v7) ∧ (l2w v7) ≤ (9999 : Int) := l2w_in f27 (by decide) (by decide)
              refine g_goto C 112 (by decide) dX3_readFact_100 ?_
              refine g_callI (st := []) (gc_V C lk_LandSurvey_Reader_244 (k_X3_emit l D cy w z0 O ta0 (iw f28 (by decide) (by decide)) (by unfold RInv; rw [e2, e5, e8, e11]; exact ⟨t3, P_RInv.2.1, p12, p13⟩) (by omega)) ta0 rfl rfl rfl ⟨by decide, by decide⟩ (Nat.le_of_ble_eq_true rfl) dX3_readFact_112 ⟨(by decide), (by decide)⟩) (fun r29 h30 f32 K31 => ?_)
              obtain ⟨O33, F34, f35, p36⟩ := K31
              have e37 : Rv h30 a0 13 = v1 := ((fxR F34 ta0 rfl).trans e2)
              have e38 : Iv h30 a0 4 = v4 := ((fxI F34 ta0 rfl).trans e5)
              have e39 : Jv h30 a0 5 = v7 := ((fxJ F34 ta0 rfl).trans e8)
              have e40 : Rv h30 a0 6 = v10 := ((fxR F34 ta0 rfl).trans e11)
              have p41 := p36.2.2.1
              rw [e38, e39] at p41
              have p42 := p36.2.2.2
              rw [e40] at p42
              refine g_pop C rfl dX3_readFact_115 ?_
              refine g_aload_n C rfl 2 rfl dX3_readFact_116 ?_
              have e43 : Tg h30 a0 = 4 := (fxT F34 ta0)
              have e44 : Tg h30 v1 = 2006 := (fxT F34 t3)
              refine g_callV (st := []) (gc_V C lk_LandSurvey_Reader_46 (k_X3_advance l D cy w z0 O33 e43 (by unfold RInv; rw [e37, e38, e39, e40]; exact ⟨e44, p36.2.1, p41, p42⟩)) e43 rfl rfl rfl ⟨by decide, by decide⟩ (Nat.le_of_ble_eq_true rfl) dX3_readFact_117 ⟨(by decide), (by decide)⟩) (fun h46 K47 => ?_)
              obtain ⟨O49, F50, p51⟩ := K47
              have e52 : Rv h46 a0 13 = v1 := ((fxR F50 e43 rfl).trans e37)
              obtain ⟨v53, e54⟩ : ∃ z, Iv h46 a0 4 = z := ⟨_, rfl⟩
              have e55 : Tg h46 a0 = 4 := (fxT F50 e43)
              have f56 := ok_I O49 e55 rI_4_4 e54
              obtain ⟨v57, e58⟩ : ∃ z, Jv h46 a0 5 = z := ⟨_, rfl⟩
              have f59 := inL_J O49 e58
              obtain ⟨v60, e61⟩ : ∃ z, Rv h46 a0 6 = z := ⟨_, rfl⟩
              have p62 := p51.2.2.1
              rw [e54, e58] at p62
              have p63 := p51.2.2.2
              rw [e61] at p63
              refine g_iconst C dX3_readFact_120 ?_
              have e64 : Tg h46 v1 = 2006 := (fxT F50 e44)
              exact g_iret C hr (nar_z2 (iw (il 1) (by decide) (by decide))).1 (iw (il 1) (by decide) (by decide)) ⟨O49, (((Fx.rf (wr := wr_k_readFact_2)).call F34 rfl).call F50 rfl), (iw (il 1) (by decide) (by decide)), (by unfold RInv; rw [e52, e54, e58, e61]; exact ⟨e64, p51.2.1, p62, p63⟩)⟩ (by decide) (by decide) dX3_readFact_121
        · exact (no_le (il 4) fa1 q22 (by decide)).elim
      · exact (no_eq (il 1) (il 0) q20 (by decide)).elim
    · refine g_iconst C dX3_readFact_42 ?_
      refine g_goto C 47 (by decide) dX3_readFact_43 ?_
      refine g_istore_n C [(3, .inl 1), (2, .inl 1), (0, .inr (.inr a0)), (1, .inl a1)] rfl (by decide) rfl dX3_readFact_47 ?_
      refine g_iload_n C rfl 1 rfl dX3_readFact_48 ?_
      refine g_if_ne C (iw (il 1) (by decide) (by decide)) 71 (by decide) dX3_readFact_49 (fun q65 => ?_) (fun q66 => ?_)
      · refine g_iload_n C rfl 3 rfl dX3_readFact_71 ?_
        refine g_iconst C dX3_readFact_72 ?_
        refine g_icmp_lt C (iw fa1 (by decide) (by decide)) (iw (il 4) (by decide) (by decide)) 82 (by decide) dX3_readFact_73 (fun q67 => ?_) (fun q68 => ?_)
        · refine g_iload_n C rfl 1 rfl dX3_readFact_82 ?_
          refine g_if_eq C (iw (il 1) (by decide) (by decide)) 122 (by decide) dX3_readFact_83 (fun q69 => ?_) (fun q70 => ?_)
          · exact (no_eq (il 1) (il 0) q69 (by decide)).elim
          · refine g_aload_n C rfl 2 rfl dX3_readFact_86 ?_
            refine g_aload_n C rfl 2 rfl dX3_readFact_87 ?_
            refine gf_I C fk_LandSurvey_Reader_49 rfl ta0 e5 dX3_readFact_88 ?_
            refine g_iconst C dX3_readFact_91 ?_
            refine g_icmp_ne C (iw f16 (by decide) (by decide)) (iw (il 2) (by decide) (by decide)) 103 (by decide) dX3_readFact_92 (fun q71 => ?_) (fun q72 => ?_)
            · exact (no_ne f16 (il 2) q71 (by decide)).elim
            · have f73 : (0 : Int) ≤ v7 ∧ v7 ≤ (9999 : Int) := by omega
              refine g_aload_n C rfl 2 rfl dX3_readFact_95 ?_
              refine gf_J C fk_LandSurvey_Reader_73 rfl ta0 e8 dX3_readFact_96 ?_
              refine g_l2i C dX3_readFact_99 ?_
              have f74 : (0 : Int) ≤ (l2w v7) ∧ (l2w v7) ≤ (9999 : Int) := l2w_in f73 (by decide) (by decide)
              refine g_goto C 112 (by decide) dX3_readFact_100 ?_
              refine g_callI (st := []) (gc_V C lk_LandSurvey_Reader_244 (k_X3_emit l D cy w z0 O ta0 (iw f74 (by decide) (by decide)) (by unfold RInv; rw [e2, e5, e8, e11]; exact ⟨t3, P_RInv.2.1, p12, p13⟩) (by omega)) ta0 rfl rfl rfl ⟨by decide, by decide⟩ (Nat.le_of_ble_eq_true rfl) dX3_readFact_112 ⟨(by decide), (by decide)⟩) (fun r75 h76 f78 K77 => ?_)
              obtain ⟨O79, F80, f81, p82⟩ := K77
              have e83 : Rv h76 a0 13 = v1 := ((fxR F80 ta0 rfl).trans e2)
              have e84 : Iv h76 a0 4 = v4 := ((fxI F80 ta0 rfl).trans e5)
              have e85 : Jv h76 a0 5 = v7 := ((fxJ F80 ta0 rfl).trans e8)
              have e86 : Rv h76 a0 6 = v10 := ((fxR F80 ta0 rfl).trans e11)
              have p87 := p82.2.2.1
              rw [e84, e85] at p87
              have p88 := p82.2.2.2
              rw [e86] at p88
              refine g_pop C rfl dX3_readFact_115 ?_
              refine g_aload_n C rfl 2 rfl dX3_readFact_116 ?_
              have e89 : Tg h76 a0 = 4 := (fxT F80 ta0)
              have e90 : Tg h76 v1 = 2006 := (fxT F80 t3)
              refine g_callV (st := []) (gc_V C lk_LandSurvey_Reader_46 (k_X3_advance l D cy w z0 O79 e89 (by unfold RInv; rw [e83, e84, e85, e86]; exact ⟨e90, p82.2.1, p87, p88⟩)) e89 rfl rfl rfl ⟨by decide, by decide⟩ (Nat.le_of_ble_eq_true rfl) dX3_readFact_117 ⟨(by decide), (by decide)⟩) (fun h92 K93 => ?_)
              obtain ⟨O95, F96, p97⟩ := K93
              have e98 : Rv h92 a0 13 = v1 := ((fxR F96 e89 rfl).trans e83)
              obtain ⟨v99, e100⟩ : ∃ z, Iv h92 a0 4 = z := ⟨_, rfl⟩
              have e101 : Tg h92 a0 = 4 := (fxT F96 e89)
              have f102 := ok_I O95 e101 rI_4_4 e100
              obtain ⟨v103, e104⟩ : ∃ z, Jv h92 a0 5 = z := ⟨_, rfl⟩
              have f105 := inL_J O95 e104
              obtain ⟨v106, e107⟩ : ∃ z, Rv h92 a0 6 = z := ⟨_, rfl⟩
              have p108 := p97.2.2.1
              rw [e100, e104] at p108
              have p109 := p97.2.2.2
              rw [e107] at p109
              refine g_iconst C dX3_readFact_120 ?_
              have e110 : Tg h92 v1 = 2006 := (fxT F96 e90)
              exact g_iret C hr (nar_z2 (iw (il 1) (by decide) (by decide))).1 (iw (il 1) (by decide) (by decide)) ⟨O95, (((Fx.rf (wr := wr_k_readFact_2)).call F80 rfl).call F96 rfl), (iw (il 1) (by decide) (by decide)), (by unfold RInv; rw [e98, e100, e104, e107]; exact ⟨e110, p97.2.1, p108, p109⟩)⟩ (by decide) (by decide) dX3_readFact_121
        · exact (no_le (il 4) fa1 q68 (by decide)).elim
      · exact (no_eq (il 1) (il 0) q66 (by decide)).elim
  · refine g_aload_n C rfl 0 rfl dX3_readFact_8 ?_
    refine gf_R C fk_LandSurvey_Reader_69 rfl ta0 e11 dX3_readFact_9 ?_
    refine g_ifnull C 30 (by decide) dX3_readFact_12 (fun q111 => ?_) (fun q112 => ?_)
    · refine g_iconst C dX3_readFact_30 ?_
      refine g_istore_n C [(2, .inl 0), (0, .inr (.inr a0)), (1, .inl a1)] rfl (by decide) rfl dX3_readFact_31 ?_
      refine g_aload_n C rfl 1 rfl dX3_readFact_32 ?_
      refine gf_R C fk_LandSurvey_Reader_69 rfl ta0 e11 dX3_readFact_33 ?_
      refine g_gets (x := .inr (.inr (w 17 + 1))) C (C.2.2.2.2.2.2.1.1 17 (by decide)).1 kw_839 dX3_readFact_36 ?_
      refine g_acmp_ne C 46 (by decide) dX3_readFact_39 (fun q113 => ?_) (fun q114 => ?_)
      · refine g_iconst C dX3_readFact_46 ?_
        refine g_istore_n C [(3, .inl 0), (2, .inl 0), (0, .inr (.inr a0)), (1, .inl a1)] rfl (by decide) rfl dX3_readFact_47 ?_
        refine g_iload_n C rfl 1 rfl dX3_readFact_48 ?_
        refine g_if_ne C (iw (il 0) (by decide) (by decide)) 71 (by decide) dX3_readFact_49 (fun q115 => ?_) (fun q116 => ?_)
        · exact (no_ne (il 0) (il 0) q115 (by decide)).elim
        · refine g_iload_n C rfl 0 rfl dX3_readFact_52 ?_
          refine g_if_ne C (iw (il 0) (by decide) (by decide)) 71 (by decide) dX3_readFact_53 (fun q117 => ?_) (fun q118 => ?_)
          · exact (no_ne (il 0) (il 0) q117 (by decide)).elim
          · refine g_aload_n C rfl 2 rfl dX3_readFact_56 ?_
            refine g_bipush C (by decide) dX3_readFact_57 ?_
            refine g_callI (st := []) (gc_V C lk_LandSurvey_Reader_95 (k_X3_isNext l D cy w z0 O ta0 (iw (il 40) (by decide) (by decide))) ta0 rfl rfl rfl ⟨by decide, by decide⟩ (Nat.le_of_ble_eq_true rfl) dX3_readFact_59 ⟨(by decide), (by decide)⟩) (fun r119 h120 f122 K121 => ?_)
            obtain ⟨O123, F124, f125⟩ := K121
            refine g_if_ne C (iw f125 (by decide) (by decide)) 71 (by decide) dX3_readFact_62 (fun q126 => ?_) (fun q127 => ?_)
            · have f128 : (1 : Int) ≤ r119 ∧ r119 ≤ (1 : Int) := r_nl f125 q126
              refine g_iload_n C rfl 3 rfl dX3_readFact_71 ?_
              refine g_iconst C dX3_readFact_72 ?_
              refine g_icmp_lt C (iw fa1 (by decide) (by decide)) (iw (il 4) (by decide) (by decide)) 82 (by decide) dX3_readFact_73 (fun q129 => ?_) (fun q130 => ?_)
              · refine g_iload_n C rfl 1 rfl dX3_readFact_82 ?_
                refine g_if_eq C (iw (il 0) (by decide) (by decide)) 122 (by decide) dX3_readFact_83 (fun q131 => ?_) (fun q132 => ?_)
                · refine g_aload_n C rfl 2 rfl dX3_readFact_122 ?_
                  have e133 : Tg h120 a0 = 4 := (fxT F124 ta0)
                  have e134 : Rv h120 a0 13 = v1 := ((fxR F124 ta0 rfl).trans e2)
                  have e135 : Iv h120 a0 4 = v4 := ((fxI F124 ta0 rfl).trans e5)
                  have e136 : Jv h120 a0 5 = v7 := ((fxJ F124 ta0 rfl).trans e8)
                  have e137 : Rv h120 a0 6 = v10 := ((fxR F124 ta0 rfl).trans e11)
                  have e138 : Tg h120 v1 = 2006 := (fxT F124 t3)
                  have p139 := (DOk_fx O F124 ta0 (by rw [e2]; exact t3) rfl P_RInv.2.1)
                  refine g_callV (st := []) (gc_V C lk_LandSurvey_Reader_46 (k_X3_advance l D cy w z0 O123 e133 (by unfold RInv; rw [e134, e135, e136, e137]; exact ⟨e138, p139, p12, p13⟩)) e133 rfl rfl rfl ⟨by decide, by decide⟩ (Nat.le_of_ble_eq_true rfl) dX3_readFact_123 ⟨(by decide), (by decide)⟩) (fun h141 K142 => ?_)
                  obtain ⟨O144, F145, p146⟩ := K142
                  have e147 : Rv h141 a0 13 = v1 := ((fxR F145 e133 rfl).trans e134)
                  obtain ⟨v148, e149⟩ : ∃ z, Iv h141 a0 4 = z := ⟨_, rfl⟩
                  have e150 : Tg h141 a0 = 4 := (fxT F145 e133)
                  have f151 := ok_I O144 e150 rI_4_4 e149
                  obtain ⟨v152, e153⟩ : ∃ z, Jv h141 a0 5 = z := ⟨_, rfl⟩
                  have f154 := inL_J O144 e153
                  obtain ⟨v155, e156⟩ : ∃ z, Rv h141 a0 6 = z := ⟨_, rfl⟩
                  have p157 := p146.2.2.1
                  rw [e149, e153] at p157
                  have p158 := p146.2.2.2
                  rw [e156] at p158
                  refine g_iload_n C rfl 0 rfl dX3_readFact_126 ?_
                  refine g_if_eq C (iw (il 0) (by decide) (by decide)) 155 (by decide) dX3_readFact_127 (fun q159 => ?_) (fun q160 => ?_)
                  · refine g_aload_n C rfl 2 rfl dX3_readFact_155 ?_
                    refine g_iload_n C rfl 3 rfl dX3_readFact_156 ?_
                    refine g_iconst C dX3_readFact_157 ?_
                    have f161 : (3 : Int) ≤ (a1 + 1) ∧ (a1 + 1) ≤ (3 : Int) := ia_add fa1 (il 1) (by decide) (by decide)
                    refine g_iadd C dX3_readFact_158 ?_
                    have e162 : Tg h141 v1 = 2006 := (fxT F145 e138)
                    refine g_callI (st := []) (gc_V C lk_LandSurvey_Reader_196 (k_readTests_3 l D cy w z0 O144 e150 f161 (by unfold RInv; rw [e147, e149, e153, e156]; exact ⟨e162, p146.2.1, p157, p158⟩)) e150 rfl rfl rfl ⟨by decide, by decide⟩ (Nat.le_of_ble_eq_true rfl) dX3_readFact_159 ⟨(by decide), (by decide)⟩) (fun r163 h164 f166 K165 => ?_)
                    obtain ⟨O167, F168, f169, p170⟩ := K165
                    have e171 : Rv h164 a0 13 = v1 := ((fxR F168 e150 rfl).trans e147)
                    obtain ⟨v172, e173⟩ : ∃ z, Iv h164 a0 4 = z := ⟨_, rfl⟩
                    have e174 : Tg h164 a0 = 4 := (fxT F168 e150)
                    have f175 := ok_I O167 e174 rI_4_4 e173
                    obtain ⟨v176, e177⟩ : ∃ z, Jv h164 a0 5 = z := ⟨_, rfl⟩
                    have f178 := inL_J O167 e177
                    obtain ⟨v179, e180⟩ : ∃ z, Rv h164 a0 6 = z := ⟨_, rfl⟩
                    have p181 := p170.2.2.1
                    rw [e173, e177] at p181
                    have p182 := p170.2.2.2
                    rw [e180] at p182
                    refine g_if_eq C (iw f169 (by decide) (by decide)) 178 (by decide) dX3_readFact_162 (fun q183 => ?_) (fun q184 => ?_)
                    · have f185 : (0 : Int) ≤ r163 ∧ r163 ≤ (0 : Int) := ii f169 (r_eq (il 0) q183) (by decide) (by decide)
                      refine g_iconst C dX3_readFact_178 ?_
                      have e186 : Tg h164 v1 = 2006 := (fxT F168 e162)
                      exact g_iret C hr (nar_z2 (iw (il 0) (by decide) (by decide))).1 (iw (il 0) (by decide) (by decide)) ⟨O167, ((((Fx.rf (wr := wr_k_readFact_2)).call F124 rfl).call F145 rfl).call F168 rfl), (iw (il 0) (by decide) (by decide)), (by unfold RInv; rw [e171, e173, e177, e180]; exact ⟨e186, p170.2.1, p181, p182⟩)⟩ (by decide) (by decide) dX3_readFact_179
                    · have f187 : (1 : Int) ≤ r163 ∧ r163 ≤ (1 : Int) := r_nl f169 q184
                      refine g_aload_n C rfl 2 rfl dX3_readFact_165 ?_
                      refine g_bipush C (by decide) dX3_readFact_166 ?_
                      have e188 : Tg h164 v1 = 2006 := (fxT F168 e162)
                      refine g_callI (st := []) (gc_V C lk_LandSurvey_Reader_169 (k_X3_takeOnly l D cy w z0 O167 e174 (iw (il 41) (by decide) (by decide)) (by unfold RInv; rw [e171, e173, e177, e180]; exact ⟨e188, p170.2.1, p181, p182⟩)) e174 rfl rfl rfl ⟨by decide, by decide⟩ (Nat.le_of_ble_eq_true rfl) dX3_readFact_168 ⟨(by decide), (by decide)⟩) (fun r189 h190 f192 K191 => ?_)
                      obtain ⟨O193, F194, f195, p196⟩ := K191
                      have e197 : Rv h190 a0 13 = v1 := ((fxR F194 e174 rfl).trans e171)
                      obtain ⟨v198, e199⟩ : ∃ z, Iv h190 a0 4 = z := ⟨_, rfl⟩
                      have e200 : Tg h190 a0 = 4 := (fxT F194 e174)
                      have f201 := ok_I O193 e200 rI_4_4 e199
                      obtain ⟨v202, e203⟩ : ∃ z, Jv h190 a0 5 = z := ⟨_, rfl⟩
                      have f204 := inL_J O193 e203
                      obtain ⟨v205, e206⟩ : ∃ z, Rv h190 a0 6 = z := ⟨_, rfl⟩
                      have p207 := p196.2.2.1
                      rw [e199, e203] at p207
                      have p208 := p196.2.2.2
                      rw [e206] at p208
                      refine g_if_eq C (iw f195 (by decide) (by decide)) 178 (by decide) dX3_readFact_171 (fun q209 => ?_) (fun q210 => ?_)
                      · have f211 : (0 : Int) ≤ r189 ∧ r189 ≤ (0 : Int) := ii f195 (r_eq (il 0) q209) (by decide) (by decide)
                        refine g_iconst C dX3_readFact_178 ?_
                        have e212 : Tg h190 v1 = 2006 := (fxT F194 e188)
                        exact g_iret C hr (nar_z2 (iw (il 0) (by decide) (by decide))).1 (iw (il 0) (by decide) (by decide)) ⟨O193, (((((Fx.rf (wr := wr_k_readFact_2)).call F124 rfl).call F145 rfl).call F168 rfl).call F194 rfl), (iw (il 0) (by decide) (by decide)), (by unfold RInv; rw [e197, e199, e203, e206]; exact ⟨e212, p196.2.1, p207, p208⟩)⟩ (by decide) (by decide) dX3_readFact_179
                      · have f213 : (1 : Int) ≤ r189 ∧ r189 ≤ (1 : Int) := r_nl f195 q210
                        refine g_iconst C dX3_readFact_174 ?_
                        refine g_goto C 179 (by decide) dX3_readFact_175 ?_
                        have e214 : Tg h190 v1 = 2006 := (fxT F194 e188)
                        exact g_iret C hr (nar_z2 (iw (il 1) (by decide) (by decide))).1 (iw (il 1) (by decide) (by decide)) ⟨O193, (((((Fx.rf (wr := wr_k_readFact_2)).call F124 rfl).call F145 rfl).call F168 rfl).call F194 rfl), (iw (il 1) (by decide) (by decide)), (by unfold RInv; rw [e197, e199, e203, e206]; exact ⟨e214, p196.2.1, p207, p208⟩)⟩ (by decide) (by decide) dX3_readFact_179
                  · exact (no_ne (il 0) (il 0) q160 (by decide)).elim
                · exact (no_ne (il 0) (il 0) q132 (by decide)).elim
              · exact (no_le (il 4) fa1 q130 (by decide)).elim
            · have f215 : (0 : Int) ≤ r119 ∧ r119 ≤ (0 : Int) := ii f125 (r_eq (il 0) q127) (by decide) (by decide)
              refine g_aload_n C rfl 2 rfl dX3_readFact_65 ?_
              refine g_iconst C dX3_readFact_66 ?_
              have e216 : Tg h120 a0 = 4 := (fxT F124 ta0)
              refine g_callI (st := []) (gc_V C lk_LandSurvey_Reader_99 (k_X3_wrong l D cy w z0 O123 e216 (iw (il 1) (by decide) (by decide))) e216 rfl rfl rfl ⟨by decide, by decide⟩ (Nat.le_of_ble_eq_true rfl) dX3_readFact_67 ⟨(by decide), (by decide)⟩) (fun r217 h218 f220 K219 => ?_)
              obtain ⟨O221, F222, f223⟩ := K219
              have e224 : Rv h218 a0 13 = v1 := ((fxR F222 e216 rfl).trans ((fxR F124 ta0 rfl).trans e2))
              have e225 : Iv h218 a0 4 = v4 := ((fxI F222 e216 rfl).trans ((fxI F124 ta0 rfl).trans e5))
              have e226 : Jv h218 a0 5 = v7 := ((fxJ F222 e216 rfl).trans ((fxJ F124 ta0 rfl).trans e8))
              have e227 : Rv h218 a0 6 = v10 := ((fxR F222 e216 rfl).trans ((fxR F124 ta0 rfl).trans e11))
              have e228 : Tg h218 v1 = 2006 := (fxT F222 (fxT F124 t3))
              have e229 : Rv h120 a0 13 = v1 := ((fxR F124 ta0 rfl).trans e2)
              have e230 : Tg h120 v1 = 2006 := (fxT F124 t3)
              have p231 := (DOk_fx O123 F222 e216 (by rw [e229]; exact e230) rfl (DOk_fx O F124 ta0 (by rw [e2]; exact t3) rfl P_RInv.2.1))
              exact g_iret C hr (nar_z2 (iw f223 (by decide) (by decide))).1 (iw f223 (by decide) (by decide)) ⟨O221, (((Fx.rf (wr := wr_k_readFact_2)).call F124 rfl).call F222 rfl), (iw f223 (by decide) (by decide)), (by unfold RInv; rw [e224, e225, e226, e227]; exact ⟨e228, p231, p12, p13⟩)⟩ (by decide) (by decide) dX3_readFact_70
      · refine g_iconst C dX3_readFact_42 ?_
        refine g_goto C 47 (by decide) dX3_readFact_43 ?_
        refine g_istore_n C [(3, .inl 1), (2, .inl 0), (0, .inr (.inr a0)), (1, .inl a1)] rfl (by decide) rfl dX3_readFact_47 ?_
        refine g_iload_n C rfl 1 rfl dX3_readFact_48 ?_
        refine g_if_ne C (iw (il 0) (by decide) (by decide)) 71 (by decide) dX3_readFact_49 (fun q232 => ?_) (fun q233 => ?_)
        · exact (no_ne (il 0) (il 0) q232 (by decide)).elim
        · refine g_iload_n C rfl 0 rfl dX3_readFact_52 ?_
          refine g_if_ne C (iw (il 1) (by decide) (by decide)) 71 (by decide) dX3_readFact_53 (fun q234 => ?_) (fun q235 => ?_)
          · refine g_iload_n C rfl 3 rfl dX3_readFact_71 ?_
            refine g_iconst C dX3_readFact_72 ?_
            refine g_icmp_lt C (iw fa1 (by decide) (by decide)) (iw (il 4) (by decide) (by decide)) 82 (by decide) dX3_readFact_73 (fun q236 => ?_) (fun q237 => ?_)
            · refine g_iload_n C rfl 1 rfl dX3_readFact_82 ?_
              refine g_if_eq C (iw (il 0) (by decide) (by decide)) 122 (by decide) dX3_readFact_83 (fun q238 => ?_) (fun q239 => ?_)
              · refine g_aload_n C rfl 2 rfl dX3_readFact_122 ?_
                refine g_callV (st := []) (gc_V C lk_LandSurvey_Reader_46 (k_X3_advance l D cy w z0 O ta0 (by unfold RInv; rw [e2, e5, e8, e11]; exact ⟨t3, P_RInv.2.1, p12, p13⟩)) ta0 rfl rfl rfl ⟨by decide, by decide⟩ (Nat.le_of_ble_eq_true rfl) dX3_readFact_123 ⟨(by decide), (by decide)⟩) (fun h241 K242 => ?_)
                obtain ⟨O244, F245, p246⟩ := K242
                have e247 : Rv h241 a0 13 = v1 := ((fxR F245 ta0 rfl).trans e2)
                obtain ⟨v248, e249⟩ : ∃ z, Iv h241 a0 4 = z := ⟨_, rfl⟩
                have e250 : Tg h241 a0 = 4 := (fxT F245 ta0)
                have f251 := ok_I O244 e250 rI_4_4 e249
                obtain ⟨v252, e253⟩ : ∃ z, Jv h241 a0 5 = z := ⟨_, rfl⟩
                have f254 := inL_J O244 e253
                obtain ⟨v255, e256⟩ : ∃ z, Rv h241 a0 6 = z := ⟨_, rfl⟩
                have p257 := p246.2.2.1
                rw [e249, e253] at p257
                have p258 := p246.2.2.2
                rw [e256] at p258
                refine g_iload_n C rfl 0 rfl dX3_readFact_126 ?_
                refine g_if_eq C (iw (il 1) (by decide) (by decide)) 155 (by decide) dX3_readFact_127 (fun q259 => ?_) (fun q260 => ?_)
                · exact (no_eq (il 1) (il 0) q259 (by decide)).elim
                · refine g_aload_n C rfl 2 rfl dX3_readFact_130 ?_
                  refine g_iload_n C rfl 3 rfl dX3_readFact_131 ?_
                  refine g_iconst C dX3_readFact_132 ?_
                  have f261 : (3 : Int) ≤ (a1 + 1) ∧ (a1 + 1) ≤ (3 : Int) := ia_add fa1 (il 1) (by decide) (by decide)
                  refine g_iadd C dX3_readFact_133 ?_
                  have e262 : Tg h241 v1 = 2006 := (fxT F245 t3)
                  refine g_callI (st := []) (gc_V C lk_LandSurvey_Reader_250 (k_readFact_3 l D cy w z0 O244 e250 f261 (by unfold RInv; rw [e247, e249, e253, e256]; exact ⟨e262, p246.2.1, p257, p258⟩)) e250 rfl rfl rfl ⟨by decide, by decide⟩ (Nat.le_of_ble_eq_true rfl) dX3_readFact_134 ⟨(by decide), (by decide)⟩) (fun r263 h264 f266 K265 => ?_)
                  obtain ⟨O267, F268, f269, p270⟩ := K265
                  have e271 : Rv h264 a0 13 = v1 := ((fxR F268 e250 rfl).trans e247)
                  obtain ⟨v272, e273⟩ : ∃ z, Iv h264 a0 4 = z := ⟨_, rfl⟩
                  have e274 : Tg h264 a0 = 4 := (fxT F268 e250)
                  have f275 := ok_I O267 e274 rI_4_4 e273
                  obtain ⟨v276, e277⟩ : ∃ z, Jv h264 a0 5 = z := ⟨_, rfl⟩
                  have f278 := inL_J O267 e277
                  obtain ⟨v279, e280⟩ : ∃ z, Rv h264 a0 6 = z := ⟨_, rfl⟩
                  have p281 := p270.2.2.1
                  rw [e273, e277] at p281
                  have p282 := p270.2.2.2
                  rw [e280] at p282
                  refine g_if_eq C (iw f269 (by decide) (by decide)) 153 (by decide) dX3_readFact_137 (fun q283 => ?_) (fun q284 => ?_)
                  · have f285 : (0 : Int) ≤ r263 ∧ r263 ≤ (0 : Int) := ii f269 (r_eq (il 0) q283) (by decide) (by decide)
                    refine g_iconst C dX3_readFact_153 ?_
                    have e286 : Tg h264 v1 = 2006 := (fxT F268 e262)
                    exact g_iret C hr (nar_z2 (iw (il 0) (by decide) (by decide))).1 (iw (il 0) (by decide) (by decide)) ⟨O267, (((Fx.rf (wr := wr_k_readFact_2)).call F245 rfl).call F268 rfl), (iw (il 0) (by decide) (by decide)), (by unfold RInv; rw [e271, e273, e277, e280]; exact ⟨e286, p270.2.1, p281, p282⟩)⟩ (by decide) (by decide) dX3_readFact_154
                  · have f287 : (1 : Int) ≤ r263 ∧ r263 ≤ (1 : Int) := r_nl f269 q284
                    refine g_aload_n C rfl 2 rfl dX3_readFact_140 ?_
                    refine g_bipush C (by decide) dX3_readFact_141 ?_
                    have e288 : Tg h264 v1 = 2006 := (fxT F268 e262)
                    refine g_callI (st := []) (gc_V C lk_LandSurvey_Reader_244 (k_X3_emit l D cy w z0 O267 e274 (iw (il (-27)) (by decide) (by decide)) (by unfold RInv; rw [e271, e273, e277, e280]; exact ⟨e288, p270.2.1, p281, p282⟩) (by omega)) e274 rfl rfl rfl ⟨by decide, by decide⟩ (Nat.le_of_ble_eq_true rfl) dX3_readFact_143 ⟨(by decide), (by decide)⟩) (fun r289 h290 f292 K291 => ?_)
                    obtain ⟨O293, F294, f295, p296⟩ := K291
                    have e297 : Rv h290 a0 13 = v1 := ((fxR F294 e274 rfl).trans e271)
                    have e298 : Iv h290 a0 4 = v272 := ((fxI F294 e274 rfl).trans e273)
                    have e299 : Jv h290 a0 5 = v276 := ((fxJ F294 e274 rfl).trans e277)
                    have e300 : Rv h290 a0 6 = v279 := ((fxR F294 e274 rfl).trans e280)
                    have p301 := p296.2.2.1
                    rw [e298, e299] at p301
                    have p302 := p296.2.2.2
                    rw [e300] at p302
                    refine g_if_eq C (iw f295 (by decide) (by decide)) 153 (by decide) dX3_readFact_146 (fun q303 => ?_) (fun q304 => ?_)
                    · exact (no_eq f295 (il 0) q303 (by decide)).elim
                    · refine g_iconst C dX3_readFact_149 ?_
                      refine g_goto C 154 (by decide) dX3_readFact_150 ?_
                      have e305 : Tg h290 v1 = 2006 := (fxT F294 e288)
                      exact g_iret C hr (nar_z2 (iw (il 1) (by decide) (by decide))).1 (iw (il 1) (by decide) (by decide)) ⟨O293, ((((Fx.rf (wr := wr_k_readFact_2)).call F245 rfl).call F268 rfl).call F294 rfl), (iw (il 1) (by decide) (by decide)), (by unfold RInv; rw [e297, e298, e299, e300]; exact ⟨e305, p296.2.1, p301, p302⟩)⟩ (by decide) (by decide) dX3_readFact_154
              · exact (no_ne (il 0) (il 0) q239 (by decide)).elim
            · exact (no_le (il 4) fa1 q237 (by decide)).elim
          · exact (no_eq (il 1) (il 0) q235 (by decide)).elim
    · refine g_aload_n C rfl 0 rfl dX3_readFact_15 ?_
      refine gf_R C fk_LandSurvey_Reader_69 rfl ta0 e11 dX3_readFact_16 ?_
      obtain ⟨i306, q307, e308⟩ := WOk.get p13 q112
      refine g_getf2 (x := .inl (wFa.getD i306 0)) C e308 (C.2.2.2.2.2.2.1.1 i306 q307).2.2 kw_2284 dX3_readFact_19 ?_
      have f309 : (-1 : Int) ≤ (wFa.getD i306 0) ∧ (wFa.getD i306 0) ≤ (11 : Int) := wFa_rng _
      refine g_iconst C dX3_readFact_22 ?_
      refine g_icmp_eq C (iw f309 (by decide) (by decide)) (iw (il (-1)) (by decide) (by decide)) 30 (by decide) dX3_readFact_23 (fun q310 => ?_) (fun q311 => ?_)
      · have f312 : (-1 : Int) ≤ (wFa.getD i306 0) ∧ (wFa.getD i306 0) ≤ (-1 : Int) := ii f309 (r_eq (il (-1)) q310) (by decide) (by decide)
        refine g_iconst C dX3_readFact_30 ?_
        refine g_istore_n C [(2, .inl 0), (0, .inr (.inr a0)), (1, .inl a1)] rfl (by decide) rfl dX3_readFact_31 ?_
        refine g_aload_n C rfl 1 rfl dX3_readFact_32 ?_
        refine gf_R C fk_LandSurvey_Reader_69 rfl ta0 e11 dX3_readFact_33 ?_
        refine g_gets (x := .inr (.inr (w 17 + 1))) C (C.2.2.2.2.2.2.1.1 17 (by decide)).1 kw_839 dX3_readFact_36 ?_
        refine g_acmp_ne C 46 (by decide) dX3_readFact_39 (fun q313 => ?_) (fun q314 => ?_)
        · refine g_iconst C dX3_readFact_46 ?_
          refine g_istore_n C [(3, .inl 0), (2, .inl 0), (0, .inr (.inr a0)), (1, .inl a1)] rfl (by decide) rfl dX3_readFact_47 ?_
          refine g_iload_n C rfl 1 rfl dX3_readFact_48 ?_
          refine g_if_ne C (iw (il 0) (by decide) (by decide)) 71 (by decide) dX3_readFact_49 (fun q315 => ?_) (fun q316 => ?_)
          · exact (no_ne (il 0) (il 0) q315 (by decide)).elim
          · refine g_iload_n C rfl 0 rfl dX3_readFact_52 ?_
            refine g_if_ne C (iw (il 0) (by decide) (by decide)) 71 (by decide) dX3_readFact_53 (fun q317 => ?_) (fun q318 => ?_)
            · exact (no_ne (il 0) (il 0) q317 (by decide)).elim
            · refine g_aload_n C rfl 2 rfl dX3_readFact_56 ?_
              refine g_bipush C (by decide) dX3_readFact_57 ?_
              refine g_callI (st := []) (gc_V C lk_LandSurvey_Reader_95 (k_X3_isNext l D cy w z0 O ta0 (iw (il 40) (by decide) (by decide))) ta0 rfl rfl rfl ⟨by decide, by decide⟩ (Nat.le_of_ble_eq_true rfl) dX3_readFact_59 ⟨(by decide), (by decide)⟩) (fun r319 h320 f322 K321 => ?_)
              obtain ⟨O323, F324, f325⟩ := K321
              refine g_if_ne C (iw f325 (by decide) (by decide)) 71 (by decide) dX3_readFact_62 (fun q326 => ?_) (fun q327 => ?_)
              · have f328 : (1 : Int) ≤ r319 ∧ r319 ≤ (1 : Int) := r_nl f325 q326
                refine g_iload_n C rfl 3 rfl dX3_readFact_71 ?_
                refine g_iconst C dX3_readFact_72 ?_
                refine g_icmp_lt C (iw fa1 (by decide) (by decide)) (iw (il 4) (by decide) (by decide)) 82 (by decide) dX3_readFact_73 (fun q329 => ?_) (fun q330 => ?_)
                · refine g_iload_n C rfl 1 rfl dX3_readFact_82 ?_
                  refine g_if_eq C (iw (il 0) (by decide) (by decide)) 122 (by decide) dX3_readFact_83 (fun q331 => ?_) (fun q332 => ?_)
                  · refine g_aload_n C rfl 2 rfl dX3_readFact_122 ?_
                    have e333 : Tg h320 a0 = 4 := (fxT F324 ta0)
                    have e334 : Rv h320 a0 13 = v1 := ((fxR F324 ta0 rfl).trans e2)
                    have e335 : Iv h320 a0 4 = v4 := ((fxI F324 ta0 rfl).trans e5)
                    have e336 : Jv h320 a0 5 = v7 := ((fxJ F324 ta0 rfl).trans e8)
                    have e337 : Rv h320 a0 6 = v10 := ((fxR F324 ta0 rfl).trans e11)
                    have e338 : Tg h320 v1 = 2006 := (fxT F324 t3)
                    have p339 := (DOk_fx O F324 ta0 (by rw [e2]; exact t3) rfl P_RInv.2.1)
                    refine g_callV (st := []) (gc_V C lk_LandSurvey_Reader_46 (k_X3_advance l D cy w z0 O323 e333 (by unfold RInv; rw [e334, e335, e336, e337]; exact ⟨e338, p339, p12, p13⟩)) e333 rfl rfl rfl ⟨by decide, by decide⟩ (Nat.le_of_ble_eq_true rfl) dX3_readFact_123 ⟨(by decide), (by decide)⟩) (fun h341 K342 => ?_)
                    obtain ⟨O344, F345, p346⟩ := K342
                    have e347 : Rv h341 a0 13 = v1 := ((fxR F345 e333 rfl).trans e334)
                    obtain ⟨v348, e349⟩ : ∃ z, Iv h341 a0 4 = z := ⟨_, rfl⟩
                    have e350 : Tg h341 a0 = 4 := (fxT F345 e333)
                    have f351 := ok_I O344 e350 rI_4_4 e349
                    obtain ⟨v352, e353⟩ : ∃ z, Jv h341 a0 5 = z := ⟨_, rfl⟩
                    have f354 := inL_J O344 e353
                    obtain ⟨v355, e356⟩ : ∃ z, Rv h341 a0 6 = z := ⟨_, rfl⟩
                    have p357 := p346.2.2.1
                    rw [e349, e353] at p357
                    have p358 := p346.2.2.2
                    rw [e356] at p358
                    refine g_iload_n C rfl 0 rfl dX3_readFact_126 ?_
                    refine g_if_eq C (iw (il 0) (by decide) (by decide)) 155 (by decide) dX3_readFact_127 (fun q359 => ?_) (fun q360 => ?_)
                    · refine g_aload_n C rfl 2 rfl dX3_readFact_155 ?_
                      refine g_iload_n C rfl 3 rfl dX3_readFact_156 ?_
                      refine g_iconst C dX3_readFact_157 ?_
                      have f361 : (3 : Int) ≤ (a1 + 1) ∧ (a1 + 1) ≤ (3 : Int) := ia_add fa1 (il 1) (by decide) (by decide)
                      refine g_iadd C dX3_readFact_158 ?_
                      have e362 : Tg h341 v1 = 2006 := (fxT F345 e338)
                      refine g_callI (st := []) (gc_V C lk_LandSurvey_Reader_196 (k_readTests_3 l D cy w z0 O344 e350 f361 (by unfold RInv; rw [e347, e349, e353, e356]; exact ⟨e362, p346.2.1, p357, p358⟩)) e350 rfl rfl rfl ⟨by decide, by decide⟩ (Nat.le_of_ble_eq_true rfl) dX3_readFact_159 ⟨(by decide), (by decide)⟩) (fun r363 h364 f366 K365 => ?_)
                      obtain ⟨O367, F368, f369, p370⟩ := K365
                      have e371 : Rv h364 a0 13 = v1 := ((fxR F368 e350 rfl).trans e347)
                      obtain ⟨v372, e373⟩ : ∃ z, Iv h364 a0 4 = z := ⟨_, rfl⟩
                      have e374 : Tg h364 a0 = 4 := (fxT F368 e350)
                      have f375 := ok_I O367 e374 rI_4_4 e373
                      obtain ⟨v376, e377⟩ : ∃ z, Jv h364 a0 5 = z := ⟨_, rfl⟩
                      have f378 := inL_J O367 e377
                      obtain ⟨v379, e380⟩ : ∃ z, Rv h364 a0 6 = z := ⟨_, rfl⟩
                      have p381 := p370.2.2.1
                      rw [e373, e377] at p381
                      have p382 := p370.2.2.2
                      rw [e380] at p382
                      refine g_if_eq C (iw f369 (by decide) (by decide)) 178 (by decide) dX3_readFact_162 (fun q383 => ?_) (fun q384 => ?_)
                      · have f385 : (0 : Int) ≤ r363 ∧ r363 ≤ (0 : Int) := ii f369 (r_eq (il 0) q383) (by decide) (by decide)
                        refine g_iconst C dX3_readFact_178 ?_
                        have e386 : Tg h364 v1 = 2006 := (fxT F368 e362)
                        exact g_iret C hr (nar_z2 (iw (il 0) (by decide) (by decide))).1 (iw (il 0) (by decide) (by decide)) ⟨O367, ((((Fx.rf (wr := wr_k_readFact_2)).call F324 rfl).call F345 rfl).call F368 rfl), (iw (il 0) (by decide) (by decide)), (by unfold RInv; rw [e371, e373, e377, e380]; exact ⟨e386, p370.2.1, p381, p382⟩)⟩ (by decide) (by decide) dX3_readFact_179
                      · have f387 : (1 : Int) ≤ r363 ∧ r363 ≤ (1 : Int) := r_nl f369 q384
                        refine g_aload_n C rfl 2 rfl dX3_readFact_165 ?_
                        refine g_bipush C (by decide) dX3_readFact_166 ?_
                        have e388 : Tg h364 v1 = 2006 := (fxT F368 e362)
                        refine g_callI (st := []) (gc_V C lk_LandSurvey_Reader_169 (k_X3_takeOnly l D cy w z0 O367 e374 (iw (il 41) (by decide) (by decide)) (by unfold RInv; rw [e371, e373, e377, e380]; exact ⟨e388, p370.2.1, p381, p382⟩)) e374 rfl rfl rfl ⟨by decide, by decide⟩ (Nat.le_of_ble_eq_true rfl) dX3_readFact_168 ⟨(by decide), (by decide)⟩) (fun r389 h390 f392 K391 => ?_)
                        obtain ⟨O393, F394, f395, p396⟩ := K391
                        have e397 : Rv h390 a0 13 = v1 := ((fxR F394 e374 rfl).trans e371)
                        obtain ⟨v398, e399⟩ : ∃ z, Iv h390 a0 4 = z := ⟨_, rfl⟩
                        have e400 : Tg h390 a0 = 4 := (fxT F394 e374)
                        have f401 := ok_I O393 e400 rI_4_4 e399
                        obtain ⟨v402, e403⟩ : ∃ z, Jv h390 a0 5 = z := ⟨_, rfl⟩
                        have f404 := inL_J O393 e403
                        obtain ⟨v405, e406⟩ : ∃ z, Rv h390 a0 6 = z := ⟨_, rfl⟩
                        have p407 := p396.2.2.1
                        rw [e399, e403] at p407
                        have p408 := p396.2.2.2
                        rw [e406] at p408
                        refine g_if_eq C (iw f395 (by decide) (by decide)) 178 (by decide) dX3_readFact_171 (fun q409 => ?_) (fun q410 => ?_)
                        · have f411 : (0 : Int) ≤ r389 ∧ r389 ≤ (0 : Int) := ii f395 (r_eq (il 0) q409) (by decide) (by decide)
                          refine g_iconst C dX3_readFact_178 ?_
                          have e412 : Tg h390 v1 = 2006 := (fxT F394 e388)
                          exact g_iret C hr (nar_z2 (iw (il 0) (by decide) (by decide))).1 (iw (il 0) (by decide) (by decide)) ⟨O393, (((((Fx.rf (wr := wr_k_readFact_2)).call F324 rfl).call F345 rfl).call F368 rfl).call F394 rfl), (iw (il 0) (by decide) (by decide)), (by unfold RInv; rw [e397, e399, e403, e406]; exact ⟨e412, p396.2.1, p407, p408⟩)⟩ (by decide) (by decide) dX3_readFact_179
                        · have f413 : (1 : Int) ≤ r389 ∧ r389 ≤ (1 : Int) := r_nl f395 q410
                          refine g_iconst C dX3_readFact_174 ?_
                          refine g_goto C 179 (by decide) dX3_readFact_175 ?_
                          have e414 : Tg h390 v1 = 2006 := (fxT F394 e388)
                          exact g_iret C hr (nar_z2 (iw (il 1) (by decide) (by decide))).1 (iw (il 1) (by decide) (by decide)) ⟨O393, (((((Fx.rf (wr := wr_k_readFact_2)).call F324 rfl).call F345 rfl).call F368 rfl).call F394 rfl), (iw (il 1) (by decide) (by decide)), (by unfold RInv; rw [e397, e399, e403, e406]; exact ⟨e414, p396.2.1, p407, p408⟩)⟩ (by decide) (by decide) dX3_readFact_179
                    · exact (no_ne (il 0) (il 0) q360 (by decide)).elim
                  · exact (no_ne (il 0) (il 0) q332 (by decide)).elim
                · exact (no_le (il 4) fa1 q330 (by decide)).elim
              · have f415 : (0 : Int) ≤ r319 ∧ r319 ≤ (0 : Int) := ii f325 (r_eq (il 0) q327) (by decide) (by decide)
                refine g_aload_n C rfl 2 rfl dX3_readFact_65 ?_
                refine g_iconst C dX3_readFact_66 ?_
                have e416 : Tg h320 a0 = 4 := (fxT F324 ta0)
                refine g_callI (st := []) (gc_V C lk_LandSurvey_Reader_99 (k_X3_wrong l D cy w z0 O323 e416 (iw (il 1) (by decide) (by decide))) e416 rfl rfl rfl ⟨by decide, by decide⟩ (Nat.le_of_ble_eq_true rfl) dX3_readFact_67 ⟨(by decide), (by decide)⟩) (fun r417 h418 f420 K419 => ?_)
                obtain ⟨O421, F422, f423⟩ := K419
                have e424 : Rv h418 a0 13 = v1 := ((fxR F422 e416 rfl).trans ((fxR F324 ta0 rfl).trans e2))
                have e425 : Iv h418 a0 4 = v4 := ((fxI F422 e416 rfl).trans ((fxI F324 ta0 rfl).trans e5))
                have e426 : Jv h418 a0 5 = v7 := ((fxJ F422 e416 rfl).trans ((fxJ F324 ta0 rfl).trans e8))
                have e427 : Rv h418 a0 6 = v10 := ((fxR F422 e416 rfl).trans ((fxR F324 ta0 rfl).trans e11))
                have e428 : Tg h418 v1 = 2006 := (fxT F422 (fxT F324 t3))
                have e429 : Rv h320 a0 13 = v1 := ((fxR F324 ta0 rfl).trans e2)
                have e430 : Tg h320 v1 = 2006 := (fxT F324 t3)
                have p431 := (DOk_fx O323 F422 e416 (by rw [e429]; exact e430) rfl (DOk_fx O F324 ta0 (by rw [e2]; exact t3) rfl P_RInv.2.1))
                exact g_iret C hr (nar_z2 (iw f423 (by decide) (by decide))).1 (iw f423 (by decide) (by decide)) ⟨O421, (((Fx.rf (wr := wr_k_readFact_2)).call F324 rfl).call F422 rfl), (iw f423 (by decide) (by decide)), (by unfold RInv; rw [e424, e425, e426, e427]; exact ⟨e428, p431, p12, p13⟩)⟩ (by decide) (by decide) dX3_readFact_70
        · refine g_iconst C dX3_readFact_42 ?_
          refine g_goto C 47 (by decide) dX3_readFact_43 ?_
          refine g_istore_n C [(3, .inl 1), (2, .inl 0), (0, .inr (.inr a0)), (1, .inl a1)] rfl (by decide) rfl dX3_readFact_47 ?_
          refine g_iload_n C rfl 1 rfl dX3_readFact_48 ?_
          refine g_if_ne C (iw (il 0) (by decide) (by decide)) 71 (by decide) dX3_readFact_49 (fun q432 => ?_) (fun q433 => ?_)
          · exact (no_ne (il 0) (il 0) q432 (by decide)).elim
          · refine g_iload_n C rfl 0 rfl dX3_readFact_52 ?_
            refine g_if_ne C (iw (il 1) (by decide) (by decide)) 71 (by decide) dX3_readFact_53 (fun q434 => ?_) (fun q435 => ?_)
            · refine g_iload_n C rfl 3 rfl dX3_readFact_71 ?_
              refine g_iconst C dX3_readFact_72 ?_
              refine g_icmp_lt C (iw fa1 (by decide) (by decide)) (iw (il 4) (by decide) (by decide)) 82 (by decide) dX3_readFact_73 (fun q436 => ?_) (fun q437 => ?_)
              · refine g_iload_n C rfl 1 rfl dX3_readFact_82 ?_
                refine g_if_eq C (iw (il 0) (by decide) (by decide)) 122 (by decide) dX3_readFact_83 (fun q438 => ?_) (fun q439 => ?_)
                · refine g_aload_n C rfl 2 rfl dX3_readFact_122 ?_
                  refine g_callV (st := []) (gc_V C lk_LandSurvey_Reader_46 (k_X3_advance l D cy w z0 O ta0 (by unfold RInv; rw [e2, e5, e8, e11]; exact ⟨t3, P_RInv.2.1, p12, p13⟩)) ta0 rfl rfl rfl ⟨by decide, by decide⟩ (Nat.le_of_ble_eq_true rfl) dX3_readFact_123 ⟨(by decide), (by decide)⟩) (fun h441 K442 => ?_)
                  obtain ⟨O444, F445, p446⟩ := K442
                  have e447 : Rv h441 a0 13 = v1 := ((fxR F445 ta0 rfl).trans e2)
                  obtain ⟨v448, e449⟩ : ∃ z, Iv h441 a0 4 = z := ⟨_, rfl⟩
                  have e450 : Tg h441 a0 = 4 := (fxT F445 ta0)
                  have f451 := ok_I O444 e450 rI_4_4 e449
                  obtain ⟨v452, e453⟩ : ∃ z, Jv h441 a0 5 = z := ⟨_, rfl⟩
                  have f454 := inL_J O444 e453
                  obtain ⟨v455, e456⟩ : ∃ z, Rv h441 a0 6 = z := ⟨_, rfl⟩
                  have p457 := p446.2.2.1
                  rw [e449, e453] at p457
                  have p458 := p446.2.2.2
                  rw [e456] at p458
                  refine g_iload_n C rfl 0 rfl dX3_readFact_126 ?_
                  refine g_if_eq C (iw (il 1) (by decide) (by decide)) 155 (by decide) dX3_readFact_127 (fun q459 => ?_) (fun q460 => ?_)
                  · exact (no_eq (il 1) (il 0) q459 (by decide)).elim
                  · refine g_aload_n C rfl 2 rfl dX3_readFact_130 ?_
                    refine g_iload_n C rfl 3 rfl dX3_readFact_131 ?_
                    refine g_iconst C dX3_readFact_132 ?_
                    have f461 : (3 : Int) ≤ (a1 + 1) ∧ (a1 + 1) ≤ (3 : Int) := ia_add fa1 (il 1) (by decide) (by decide)
                    refine g_iadd C dX3_readFact_133 ?_
                    have e462 : Tg h441 v1 = 2006 := (fxT F445 t3)
                    refine g_callI (st := []) (gc_V C lk_LandSurvey_Reader_250 (k_readFact_3 l D cy w z0 O444 e450 f461 (by unfold RInv; rw [e447, e449, e453, e456]; exact ⟨e462, p446.2.1, p457, p458⟩)) e450 rfl rfl rfl ⟨by decide, by decide⟩ (Nat.le_of_ble_eq_true rfl) dX3_readFact_134 ⟨(by decide), (by decide)⟩) (fun r463 h464 f466 K465 => ?_)
                    obtain ⟨O467, F468, f469, p470⟩ := K465
                    have e471 : Rv h464 a0 13 = v1 := ((fxR F468 e450 rfl).trans e447)
                    obtain ⟨v472, e473⟩ : ∃ z, Iv h464 a0 4 = z := ⟨_, rfl⟩
                    have e474 : Tg h464 a0 = 4 := (fxT F468 e450)
                    have f475 := ok_I O467 e474 rI_4_4 e473
                    obtain ⟨v476, e477⟩ : ∃ z, Jv h464 a0 5 = z := ⟨_, rfl⟩
                    have f478 := inL_J O467 e477
                    obtain ⟨v479, e480⟩ : ∃ z, Rv h464 a0 6 = z := ⟨_, rfl⟩
                    have p481 := p470.2.2.1
                    rw [e473, e477] at p481
                    have p482 := p470.2.2.2
                    rw [e480] at p482
                    refine g_if_eq C (iw f469 (by decide) (by decide)) 153 (by decide) dX3_readFact_137 (fun q483 => ?_) (fun q484 => ?_)
                    · have f485 : (0 : Int) ≤ r463 ∧ r463 ≤ (0 : Int) := ii f469 (r_eq (il 0) q483) (by decide) (by decide)
                      refine g_iconst C dX3_readFact_153 ?_
                      have e486 : Tg h464 v1 = 2006 := (fxT F468 e462)
                      exact g_iret C hr (nar_z2 (iw (il 0) (by decide) (by decide))).1 (iw (il 0) (by decide) (by decide)) ⟨O467, (((Fx.rf (wr := wr_k_readFact_2)).call F445 rfl).call F468 rfl), (iw (il 0) (by decide) (by decide)), (by unfold RInv; rw [e471, e473, e477, e480]; exact ⟨e486, p470.2.1, p481, p482⟩)⟩ (by decide) (by decide) dX3_readFact_154
                    · have f487 : (1 : Int) ≤ r463 ∧ r463 ≤ (1 : Int) := r_nl f469 q484
                      refine g_aload_n C rfl 2 rfl dX3_readFact_140 ?_
                      refine g_bipush C (by decide) dX3_readFact_141 ?_
                      have e488 : Tg h464 v1 = 2006 := (fxT F468 e462)
                      refine g_callI (st := []) (gc_V C lk_LandSurvey_Reader_244 (k_X3_emit l D cy w z0 O467 e474 (iw (il (-27)) (by decide) (by decide)) (by unfold RInv; rw [e471, e473, e477, e480]; exact ⟨e488, p470.2.1, p481, p482⟩) (by omega)) e474 rfl rfl rfl ⟨by decide, by decide⟩ (Nat.le_of_ble_eq_true rfl) dX3_readFact_143 ⟨(by decide), (by decide)⟩) (fun r489 h490 f492 K491 => ?_)
                      obtain ⟨O493, F494, f495, p496⟩ := K491
                      have e497 : Rv h490 a0 13 = v1 := ((fxR F494 e474 rfl).trans e471)
                      have e498 : Iv h490 a0 4 = v472 := ((fxI F494 e474 rfl).trans e473)
                      have e499 : Jv h490 a0 5 = v476 := ((fxJ F494 e474 rfl).trans e477)
                      have e500 : Rv h490 a0 6 = v479 := ((fxR F494 e474 rfl).trans e480)
                      have p501 := p496.2.2.1
                      rw [e498, e499] at p501
                      have p502 := p496.2.2.2
                      rw [e500] at p502
                      refine g_if_eq C (iw f495 (by decide) (by decide)) 153 (by decide) dX3_readFact_146 (fun q503 => ?_) (fun q504 => ?_)
                      · exact (no_eq f495 (il 0) q503 (by decide)).elim
                      · refine g_iconst C dX3_readFact_149 ?_
                        refine g_goto C 154 (by decide) dX3_readFact_150 ?_
                        have e505 : Tg h490 v1 = 2006 := (fxT F494 e488)
                        exact g_iret C hr (nar_z2 (iw (il 1) (by decide) (by decide))).1 (iw (il 1) (by decide) (by decide)) ⟨O493, ((((Fx.rf (wr := wr_k_readFact_2)).call F445 rfl).call F468 rfl).call F494 rfl), (iw (il 1) (by decide) (by decide)), (by unfold RInv; rw [e497, e498, e499, e500]; exact ⟨e505, p496.2.1, p501, p502⟩)⟩ (by decide) (by decide) dX3_readFact_154
                · exact (no_ne (il 0) (il 0) q439 (by decide)).elim
              · exact (no_le (il 4) fa1 q437 (by decide)).elim
            · exact (no_eq (il 1) (il 0) q435 (by decide)).elim
      · have f506 : (0 : Int) ≤ (wFa.getD i306 0) ∧ (wFa.getD i306 0) ≤ (11 : Int) := r_nl f309 q311
        refine g_iconst C dX3_readFact_26 ?_
        refine g_goto C 31 (by decide) dX3_readFact_27 ?_
        refine g_istore_n C [(2, .inl 1), (0, .inr (.inr a0)), (1, .inl a1)] rfl (by decide) rfl dX3_readFact_31 ?_
        refine g_aload_n C rfl 1 rfl dX3_readFact_32 ?_
        refine gf_R C fk_LandSurvey_Reader_69 rfl ta0 e11 dX3_readFact_33 ?_
        refine g_gets (x := .inr (.inr (w 17 + 1))) C (C.2.2.2.2.2.2.1.1 17 (by decide)).1 kw_839 dX3_readFact_36 ?_
        refine g_acmp_ne C 46 (by decide) dX3_readFact_39 (fun q507 => ?_) (fun q508 => ?_)
        · refine g_iconst C dX3_readFact_46 ?_
          refine g_istore_n C [(3, .inl 0), (2, .inl 1), (0, .inr (.inr a0)), (1, .inl a1)] rfl (by decide) rfl dX3_readFact_47 ?_
          refine g_iload_n C rfl 1 rfl dX3_readFact_48 ?_
          refine g_if_ne C (iw (il 1) (by decide) (by decide)) 71 (by decide) dX3_readFact_49 (fun q509 => ?_) (fun q510 => ?_)
          · refine g_iload_n C rfl 3 rfl dX3_readFact_71 ?_
            refine g_iconst C dX3_readFact_72 ?_
            refine g_icmp_lt C (iw fa1 (by decide) (by decide)) (iw (il 4) (by decide) (by decide)) 82 (by decide) dX3_readFact_73 (fun q511 => ?_) (fun q512 => ?_)
            · refine g_iload_n C rfl 1 rfl dX3_readFact_82 ?_
              refine g_if_eq C (iw (il 1) (by decide) (by decide)) 122 (by decide) dX3_readFact_83 (fun q513 => ?_) (fun q514 => ?_)
              · exact (no_eq (il 1) (il 0) q513 (by decide)).elim
              · refine g_aload_n C rfl 2 rfl dX3_readFact_86 ?_
                refine g_aload_n C rfl 2 rfl dX3_readFact_87 ?_
                refine gf_I C fk_LandSurvey_Reader_49 rfl ta0 e5 dX3_readFact_88 ?_
                refine g_iconst C dX3_readFact_91 ?_
                refine g_icmp_ne C (iw f6 (by decide) (by decide)) (iw (il 2) (by decide) (by decide)) 103 (by decide) dX3_readFact_92 (fun q515 => ?_) (fun q516 => ?_)
                · refine g_iconst C dX3_readFact_103 ?_
                  refine g_aload_n C rfl 2 rfl dX3_readFact_104 ?_
                  refine gf_R C fk_LandSurvey_Reader_69 rfl ta0 e11 dX3_readFact_105 ?_
                  refine g_getf2 (x := .inl (wFa.getD i306 0)) C e308 (C.2.2.2.2.2.2.1.1 i306 q307).2.2 kw_2284 dX3_readFact_108 ?_
                  have f517 : (-12 : Int) ≤ ((-1) - (wFa.getD i306 0)) ∧ ((-1) - (wFa.getD i306 0)) ≤ (-1 : Int) := ia_sub (il (-1)) f506 (by decide) (by decide)
                  refine g_isub C dX3_readFact_111 ?_
                  refine g_callI (st := []) (gc_V C lk_LandSurvey_Reader_244 (k_X3_emit l D cy w z0 O ta0 (iw f517 (by decide) (by decide)) (by unfold RInv; rw [e2, e5, e8, e11]; exact ⟨t3, P_RInv.2.1, p12, p13⟩) (by omega)) ta0 rfl rfl rfl ⟨by decide, by decide⟩ (Nat.le_of_ble_eq_true rfl) dX3_readFact_112 ⟨(by decide), (by decide)⟩) (fun r518 h519 f521 K520 => ?_)
                  obtain ⟨O522, F523, f524, p525⟩ := K520
                  have e526 : Rv h519 a0 13 = v1 := ((fxR F523 ta0 rfl).trans e2)
                  have e527 : Iv h519 a0 4 = v4 := ((fxI F523 ta0 rfl).trans e5)
                  have e528 : Jv h519 a0 5 = v7 := ((fxJ F523 ta0 rfl).trans e8)
                  have e529 : Rv h519 a0 6 = v10 := ((fxR F523 ta0 rfl).trans e11)
                  have p530 := p525.2.2.1
                  rw [e527, e528] at p530
                  have p531 := p525.2.2.2
                  rw [e529] at p531
                  refine g_pop C rfl dX3_readFact_115 ?_
                  refine g_aload_n C rfl 2 rfl dX3_readFact_116 ?_
                  have e532 : Tg h519 a0 = 4 := (fxT F523 ta0)
                  have e533 : Tg h519 v1 = 2006 := (fxT F523 t3)
                  refine g_callV (st := []) (gc_V C lk_LandSurvey_Reader_46 (k_X3_advance l D cy w z0 O522 e532 (by unfold RInv; rw [e526, e527, e528, e529]; exact ⟨e533, p525.2.1, p530, p531⟩)) e532 rfl rfl rfl ⟨by decide, by decide⟩ (Nat.le_of_ble_eq_true rfl) dX3_readFact_117 ⟨(by decide), (by decide)⟩) (fun h535 K536 => ?_)
                  obtain ⟨O538, F539, p540⟩ := K536
                  have e541 : Rv h535 a0 13 = v1 := ((fxR F539 e532 rfl).trans e526)
                  obtain ⟨v542, e543⟩ : ∃ z, Iv h535 a0 4 = z := ⟨_, rfl⟩
                  have e544 : Tg h535 a0 = 4 := (fxT F539 e532)
                  have f545 := ok_I O538 e544 rI_4_4 e543
                  obtain ⟨v546, e547⟩ : ∃ z, Jv h535 a0 5 = z := ⟨_, rfl⟩
                  have f548 := inL_J O538 e547
                  obtain ⟨v549, e550⟩ : ∃ z, Rv h535 a0 6 = z := ⟨_, rfl⟩
                  have p551 := p540.2.2.1
                  rw [e543, e547] at p551
                  have p552 := p540.2.2.2
                  rw [e550] at p552
                  refine g_iconst C dX3_readFact_120 ?_
                  have e553 : Tg h535 v1 = 2006 := (fxT F539 e533)
                  exact g_iret C hr (nar_z2 (iw (il 1) (by decide) (by decide))).1 (iw (il 1) (by decide) (by decide)) ⟨O538, (((Fx.rf (wr := wr_k_readFact_2)).call F523 rfl).call F539 rfl), (iw (il 1) (by decide) (by decide)), (by unfold RInv; rw [e541, e543, e547, e550]; exact ⟨e553, p540.2.1, p551, p552⟩)⟩ (by decide) (by decide) dX3_readFact_121
                · have f554 : (2 : Int) ≤ v4 ∧ v4 ≤ (2 : Int) := ii f6 (r_eq (il 2) q516) (by decide) (by decide)
                  have f555 : (0 : Int) ≤ v7 ∧ v7 ≤ (9999 : Int) := by omega
                  refine g_aload_n C rfl 2 rfl dX3_readFact_95 ?_
                  refine gf_J C fk_LandSurvey_Reader_73 rfl ta0 e8 dX3_readFact_96 ?_
                  refine g_l2i C dX3_readFact_99 ?_
                  have f556 : (0 : Int) ≤ (l2w v7) ∧ (l2w v7) ≤ (9999 : Int) := l2w_in f555 (by decide) (by decide)
                  refine g_goto C 112 (by decide) dX3_readFact_100 ?_
                  refine g_callI (st := []) (gc_V C lk_LandSurvey_Reader_244 (k_X3_emit l D cy w z0 O ta0 (iw f556 (by decide) (by decide)) (by unfold RInv; rw [e2, e5, e8, e11]; exact ⟨t3, P_RInv.2.1, p12, p13⟩) (by omega)) ta0 rfl rfl rfl ⟨by decide, by decide⟩ (Nat.le_of_ble_eq_true rfl) dX3_readFact_112 ⟨(by decide), (by decide)⟩) (fun r557 h558 f560 K559 => ?_)
                  obtain ⟨O561, F562, f563, p564⟩ := K559
                  have e565 : Rv h558 a0 13 = v1 := ((fxR F562 ta0 rfl).trans e2)
                  have e566 : Iv h558 a0 4 = v4 := ((fxI F562 ta0 rfl).trans e5)
                  have e567 : Jv h558 a0 5 = v7 := ((fxJ F562 ta0 rfl).trans e8)
                  have e568 : Rv h558 a0 6 = v10 := ((fxR F562 ta0 rfl).trans e11)
                  have p569 := p564.2.2.1
                  rw [e566, e567] at p569
                  have p570 := p564.2.2.2
                  rw [e568] at p570
                  refine g_pop C rfl dX3_readFact_115 ?_
                  refine g_aload_n C rfl 2 rfl dX3_readFact_116 ?_
                  have e571 : Tg h558 a0 = 4 := (fxT F562 ta0)
                  have e572 : Tg h558 v1 = 2006 := (fxT F562 t3)
                  refine g_callV (st := []) (gc_V C lk_LandSurvey_Reader_46 (k_X3_advance l D cy w z0 O561 e571 (by unfold RInv; rw [e565, e566, e567, e568]; exact ⟨e572, p564.2.1, p569, p570⟩)) e571 rfl rfl rfl ⟨by decide, by decide⟩ (Nat.le_of_ble_eq_true rfl) dX3_readFact_117 ⟨(by decide), (by decide)⟩) (fun h574 K575 => ?_)
                  obtain ⟨O577, F578, p579⟩ := K575
                  have e580 : Rv h574 a0 13 = v1 := ((fxR F578 e571 rfl).trans e565)
                  obtain ⟨v581, e582⟩ : ∃ z, Iv h574 a0 4 = z := ⟨_, rfl⟩
                  have e583 : Tg h574 a0 = 4 := (fxT F578 e571)
                  have f584 := ok_I O577 e583 rI_4_4 e582
                  obtain ⟨v585, e586⟩ : ∃ z, Jv h574 a0 5 = z := ⟨_, rfl⟩
                  have f587 := inL_J O577 e586
                  obtain ⟨v588, e589⟩ : ∃ z, Rv h574 a0 6 = z := ⟨_, rfl⟩
                  have p590 := p579.2.2.1
                  rw [e582, e586] at p590
                  have p591 := p579.2.2.2
                  rw [e589] at p591
                  refine g_iconst C dX3_readFact_120 ?_
                  have e592 : Tg h574 v1 = 2006 := (fxT F578 e572)
                  exact g_iret C hr (nar_z2 (iw (il 1) (by decide) (by decide))).1 (iw (il 1) (by decide) (by decide)) ⟨O577, (((Fx.rf (wr := wr_k_readFact_2)).call F562 rfl).call F578 rfl), (iw (il 1) (by decide) (by decide)), (by unfold RInv; rw [e580, e582, e586, e589]; exact ⟨e592, p579.2.1, p590, p591⟩)⟩ (by decide) (by decide) dX3_readFact_121
            · exact (no_le (il 4) fa1 q512 (by decide)).elim
          · exact (no_eq (il 1) (il 0) q510 (by decide)).elim
        · refine g_iconst C dX3_readFact_42 ?_
          refine g_goto C 47 (by decide) dX3_readFact_43 ?_
          refine g_istore_n C [(3, .inl 1), (2, .inl 1), (0, .inr (.inr a0)), (1, .inl a1)] rfl (by decide) rfl dX3_readFact_47 ?_
          refine g_iload_n C rfl 1 rfl dX3_readFact_48 ?_
          refine g_if_ne C (iw (il 1) (by decide) (by decide)) 71 (by decide) dX3_readFact_49 (fun q593 => ?_) (fun q594 => ?_)
          · refine g_iload_n C rfl 3 rfl dX3_readFact_71 ?_
            refine g_iconst C dX3_readFact_72 ?_
            refine g_icmp_lt C (iw fa1 (by decide) (by decide)) (iw (il 4) (by decide) (by decide)) 82 (by decide) dX3_readFact_73 (fun q595 => ?_) (fun q596 => ?_)
            · refine g_iload_n C rfl 1 rfl dX3_readFact_82 ?_
              refine g_if_eq C (iw (il 1) (by decide) (by decide)) 122 (by decide) dX3_readFact_83 (fun q597 => ?_) (fun q598 => ?_)
              · exact (no_eq (il 1) (il 0) q597 (by decide)).elim
              · refine g_aload_n C rfl 2 rfl dX3_readFact_86 ?_
                refine g_aload_n C rfl 2 rfl dX3_readFact_87 ?_
                refine gf_I C fk_LandSurvey_Reader_49 rfl ta0 e5 dX3_readFact_88 ?_
                refine g_iconst C dX3_readFact_91 ?_
                refine g_icmp_ne C (iw f6 (by decide) (by decide)) (iw (il 2) (by decide) (by decide)) 103 (by decide) dX3_readFact_92 (fun q599 => ?_) (fun q600 => ?_)
                · refine g_iconst C dX3_readFact_103 ?_
                  refine g_aload_n C rfl 2 rfl dX3_readFact_104 ?_
                  refine gf_R C fk_LandSurvey_Reader_69 rfl ta0 e11 dX3_readFact_105 ?_
                  refine g_getf2 (x := .inl (wFa.getD i306 0)) C e308 (C.2.2.2.2.2.2.1.1 i306 q307).2.2 kw_2284 dX3_readFact_108 ?_
                  have f601 : (-12 : Int) ≤ ((-1) - (wFa.getD i306 0)) ∧ ((-1) - (wFa.getD i306 0)) ≤ (-1 : Int) := ia_sub (il (-1)) f506 (by decide) (by decide)
                  refine g_isub C dX3_readFact_111 ?_
                  refine g_callI (st := []) (gc_V C lk_LandSurvey_Reader_244 (k_X3_emit l D cy w z0 O ta0 (iw f601 (by decide) (by decide)) (by unfold RInv; rw [e2, e5, e8, e11]; exact ⟨t3, P_RInv.2.1, p12, p13⟩) (by omega)) ta0 rfl rfl rfl ⟨by decide, by decide⟩ (Nat.le_of_ble_eq_true rfl) dX3_readFact_112 ⟨(by decide), (by decide)⟩) (fun r602 h603 f605 K604 => ?_)
                  obtain ⟨O606, F607, f608, p609⟩ := K604
                  have e610 : Rv h603 a0 13 = v1 := ((fxR F607 ta0 rfl).trans e2)
                  have e611 : Iv h603 a0 4 = v4 := ((fxI F607 ta0 rfl).trans e5)
                  have e612 : Jv h603 a0 5 = v7 := ((fxJ F607 ta0 rfl).trans e8)
                  have e613 : Rv h603 a0 6 = v10 := ((fxR F607 ta0 rfl).trans e11)
                  have p614 := p609.2.2.1
                  rw [e611, e612] at p614
                  have p615 := p609.2.2.2
                  rw [e613] at p615
                  refine g_pop C rfl dX3_readFact_115 ?_
                  refine g_aload_n C rfl 2 rfl dX3_readFact_116 ?_
                  have e616 : Tg h603 a0 = 4 := (fxT F607 ta0)
                  have e617 : Tg h603 v1 = 2006 := (fxT F607 t3)
                  refine g_callV (st := []) (gc_V C lk_LandSurvey_Reader_46 (k_X3_advance l D cy w z0 O606 e616 (by unfold RInv; rw [e610, e611, e612, e613]; exact ⟨e617, p609.2.1, p614, p615⟩)) e616 rfl rfl rfl ⟨by decide, by decide⟩ (Nat.le_of_ble_eq_true rfl) dX3_readFact_117 ⟨(by decide), (by decide)⟩) (fun h619 K620 => ?_)
                  obtain ⟨O622, F623, p624⟩ := K620
                  have e625 : Rv h619 a0 13 = v1 := ((fxR F623 e616 rfl).trans e610)
                  obtain ⟨v626, e627⟩ : ∃ z, Iv h619 a0 4 = z := ⟨_, rfl⟩
                  have e628 : Tg h619 a0 = 4 := (fxT F623 e616)
                  have f629 := ok_I O622 e628 rI_4_4 e627
                  obtain ⟨v630, e631⟩ : ∃ z, Jv h619 a0 5 = z := ⟨_, rfl⟩
                  have f632 := inL_J O622 e631
                  obtain ⟨v633, e634⟩ : ∃ z, Rv h619 a0 6 = z := ⟨_, rfl⟩
                  have p635 := p624.2.2.1
                  rw [e627, e631] at p635
                  have p636 := p624.2.2.2
                  rw [e634] at p636
                  refine g_iconst C dX3_readFact_120 ?_
                  have e637 : Tg h619 v1 = 2006 := (fxT F623 e617)
                  exact g_iret C hr (nar_z2 (iw (il 1) (by decide) (by decide))).1 (iw (il 1) (by decide) (by decide)) ⟨O622, (((Fx.rf (wr := wr_k_readFact_2)).call F607 rfl).call F623 rfl), (iw (il 1) (by decide) (by decide)), (by unfold RInv; rw [e625, e627, e631, e634]; exact ⟨e637, p624.2.1, p635, p636⟩)⟩ (by decide) (by decide) dX3_readFact_121
                · have f638 : (2 : Int) ≤ v4 ∧ v4 ≤ (2 : Int) := ii f6 (r_eq (il 2) q600) (by decide) (by decide)
                  have f639 : (0 : Int) ≤ v7 ∧ v7 ≤ (9999 : Int) := by omega
                  refine g_aload_n C rfl 2 rfl dX3_readFact_95 ?_
                  refine gf_J C fk_LandSurvey_Reader_73 rfl ta0 e8 dX3_readFact_96 ?_
                  refine g_l2i C dX3_readFact_99 ?_
                  have f640 : (0 : Int) ≤ (l2w v7) ∧ (l2w v7) ≤ (9999 : Int) := l2w_in f639 (by decide) (by decide)
                  refine g_goto C 112 (by decide) dX3_readFact_100 ?_
                  refine g_callI (st := []) (gc_V C lk_LandSurvey_Reader_244 (k_X3_emit l D cy w z0 O ta0 (iw f640 (by decide) (by decide)) (by unfold RInv; rw [e2, e5, e8, e11]; exact ⟨t3, P_RInv.2.1, p12, p13⟩) (by omega)) ta0 rfl rfl rfl ⟨by decide, by decide⟩ (Nat.le_of_ble_eq_true rfl) dX3_readFact_112 ⟨(by decide), (by decide)⟩) (fun r641 h642 f644 K643 => ?_)
                  obtain ⟨O645, F646, f647, p648⟩ := K643
                  have e649 : Rv h642 a0 13 = v1 := ((fxR F646 ta0 rfl).trans e2)
                  have e650 : Iv h642 a0 4 = v4 := ((fxI F646 ta0 rfl).trans e5)
                  have e651 : Jv h642 a0 5 = v7 := ((fxJ F646 ta0 rfl).trans e8)
                  have e652 : Rv h642 a0 6 = v10 := ((fxR F646 ta0 rfl).trans e11)
                  have p653 := p648.2.2.1
                  rw [e650, e651] at p653
                  have p654 := p648.2.2.2
                  rw [e652] at p654
                  refine g_pop C rfl dX3_readFact_115 ?_
                  refine g_aload_n C rfl 2 rfl dX3_readFact_116 ?_
                  have e655 : Tg h642 a0 = 4 := (fxT F646 ta0)
                  have e656 : Tg h642 v1 = 2006 := (fxT F646 t3)
                  refine g_callV (st := []) (gc_V C lk_LandSurvey_Reader_46 (k_X3_advance l D cy w z0 O645 e655 (by unfold RInv; rw [e649, e650, e651, e652]; exact ⟨e656, p648.2.1, p653, p654⟩)) e655 rfl rfl rfl ⟨by decide, by decide⟩ (Nat.le_of_ble_eq_true rfl) dX3_readFact_117 ⟨(by decide), (by decide)⟩) (fun h658 K659 => ?_)
                  obtain ⟨O661, F662, p663⟩ := K659
                  have e664 : Rv h658 a0 13 = v1 := ((fxR F662 e655 rfl).trans e649)
                  obtain ⟨v665, e666⟩ : ∃ z, Iv h658 a0 4 = z := ⟨_, rfl⟩
                  have e667 : Tg h658 a0 = 4 := (fxT F662 e655)
                  have f668 := ok_I O661 e667 rI_4_4 e666
                  obtain ⟨v669, e670⟩ : ∃ z, Jv h658 a0 5 = z := ⟨_, rfl⟩
                  have f671 := inL_J O661 e670
                  obtain ⟨v672, e673⟩ : ∃ z, Rv h658 a0 6 = z := ⟨_, rfl⟩
                  have p674 := p663.2.2.1
                  rw [e666, e670] at p674
                  have p675 := p663.2.2.2
                  rw [e673] at p675
                  refine g_iconst C dX3_readFact_120 ?_
                  have e676 : Tg h658 v1 = 2006 := (fxT F662 e656)
                  exact g_iret C hr (nar_z2 (iw (il 1) (by decide) (by decide))).1 (iw (il 1) (by decide) (by decide)) ⟨O661, (((Fx.rf (wr := wr_k_readFact_2)).call F646 rfl).call F662 rfl), (iw (il 1) (by decide) (by decide)), (by unfold RInv; rw [e664, e666, e670, e673]; exact ⟨e676, p663.2.1, p674, p675⟩)⟩ (by decide) (by decide) dX3_readFact_121
            · exact (no_le (il 4) fa1 q596 (by decide)).elim
          · exact (no_eq (il 1) (il 0) q594 (by decide)).elim
def wr_k_readSum_2 : List Nat := [802, 803, 804, 805, 806, 807, 812, 4020000]
set_option maxRecDepth 100000 in
set_option maxHeartbeats 4000000 in
theorem k_readSum_2 (l : Launch) (D : va_G) (cy : Nat → ClassId) (w : Nat → Nat) (z0 : Nat)  {h : Hp} {a0 : Nat} {a1 : Int}  (O : Okh h) (ta0 : Tg h a0 = 4) (fa1 : 2 ≤ a1 ∧ a1 ≤ 2) (P_RInv : RInv w h a0) : MI l D cy w z0 yX3_readSum cX3_readSum 4 (some .boolean) 15 338 0 0 [.inr (.inr a0), .inl a1] h (fun v h1 => Okh h1 ∧ Fx wr_k_readSum_2 h h1 ∧ (0 ≤ v ∧ v ≤ 1) ∧ (RInv w h1 a0)) := by
  obtain ⟨v1, e2⟩ : ∃ z, Rv h a0 13 = z := ⟨_, rfl⟩
  have t3 := P_RInv.1
  rw [e2] at t3
  obtain ⟨v4, e5⟩ : ∃ z, Iv h a0 4 = z := ⟨_, rfl⟩
  have f6 := ok_I O ta0 rI_4_4 e5
  obtain ⟨v7, e8⟩ : ∃ z, Jv h a0 5 = z := ⟨_, rfl⟩
  have f9 := inL_J O e8
  obtain ⟨v10, e11⟩ : ∃ z, Rv h a0 6 = z := ⟨_, rfl⟩
  have p12 := P_RInv.2.2.1
  rw [e5, e8] at p12
  have p13 := P_RInv.2.2.2
  rw [e11] at p13
  refine hm_go (by decide +kernel) (Nat.le_of_ble_eq_true rfl) (fun p e s m below meth c C hr hn => ?_)
  refine g_aload_n C rfl 0 rfl dX3_readSum_0 ?_
  refine g_iload_n C rfl 1 rfl dX3_readSum_1 ?_
  refine g_callI (st := []) (gc_V C lk_LandSurvey_Reader_250 (k_readFact_2 l D cy w z0 O ta0 fa1 (by unfold RInv; rw [e2, e5, e8, e11]; exact ⟨t3, P_RInv.2.1, p12, p13⟩)) ta0 rfl rfl rfl ⟨by decide, by decide⟩ (Nat.le_of_ble_eq_true rfl) dX3_readSum_2 ⟨(by decide), (by decide)⟩) (fun r14 h15 f17 K16 => ?_)
  obtain ⟨O18, F19, f20, p21⟩ := K16
  have e22 : Rv h15 a0 13 = v1 := ((fxR F19 ta0 rfl).trans e2)
  obtain ⟨v23, e24⟩ : ∃ z, Iv h15 a0 4 = z := ⟨_, rfl⟩
  have e25 : Tg h15 a0 = 4 := (fxT F19 ta0)
  have f26 := ok_I O18 e25 rI_4_4 e24
  obtain ⟨v27, e28⟩ : ∃ z, Jv h15 a0 5 = z := ⟨_, rfl⟩
  have f29 := inL_J O18 e28
  obtain ⟨v30, e31⟩ : ∃ z, Rv h15 a0 6 = z := ⟨_, rfl⟩
  have p32 := p21.2.2.1
  rw [e24, e28] at p32
  have p33 := p21.2.2.2
  rw [e31] at p33
  refine g_if_ne C (iw f20 (by decide) (by decide)) 10 (by decide) dX3_readSum_5 (fun q34 => ?_) (fun q35 => ?_)
  · have f36 : (1 : Int) ≤ r14 ∧ r14 ≤ (1 : Int) := r_nl f20 q34
    refine g_iconst C dX3_readSum_10 ?_
    refine g_istore_n C [(2, .inl 0), (0, .inr (.inr a0)), (1, .inl a1)] rfl (by decide) rfl dX3_readSum_11 ?_
    refine GW.sub [1, 2, 0] rfl ?_
    -- loop at 12
    have L39 : ∀ (μ : Nat) (x37 : Int) (h38 : Hp), (1501 - x37).toNat = μ → Okh h38 → Fx [802, 803, 804, 805, 806, 807, 812, 4020000] h15 h38 → ((0 : Int) ≤ x37 ∧ x37 ≤ (1501 : Int)) → (RInv w h38 a0) → GW p l e (rmm 15 338 0 0) s m (List.map toV [.inr (.inr a0), .inl a1]).toArray below meth c D cy z0 4 (MQ below (QI D cy z0 (fun v h1 => Okh h1 ∧ Fx wr_k_readSum_2 h h1 ∧ (0 ≤ v ∧ v ≤ 1) ∧ (RInv w h1 a0))) (List.map toV [.inr (.inr a0), .inl a1]).toArray s 0 0 (Aof z0)) 12 [(0, .inr (.inr a0)), (1, .inl a1), (2, .inl x37)] [] h38 0 0 := by
      intro μ
      induction μ using Nat.strongRecOn with
      | ind μ ih40 =>
        intro x37 h38 hm41 O42 F43 f44 p45
        have e46 : Rv h38 a0 13 = v1 := ((fxR F43 e25 rfl).trans e22)
        obtain ⟨v47, e48⟩ : ∃ z, Iv h38 a0 4 = z := ⟨_, rfl⟩
        have e49 : Tg h38 a0 = 4 := (fxT F43 e25)
        have f50 := ok_I O42 e49 rI_4_4 e48
        obtain ⟨v51, e52⟩ : ∃ z, Jv h38 a0 5 = z := ⟨_, rfl⟩
        have f53 := inL_J O42 e52
        obtain ⟨v54, e55⟩ : ∃ z, Rv h38 a0 6 = z := ⟨_, rfl⟩
        have p56 := p45.2.2.1
        rw [e48, e52] at p56
        have p57 := p45.2.2.2
        rw [e55] at p57
        refine g_iload_n C rfl 2 rfl dX3_readSum_12 ?_
        refine g_sipush C (by decide) dX3_readSum_13 ?_
        refine g_icmp_gt C (iw f44 (by decide) (by decide)) (iw (il 1500) (by decide) (by decide)) 82 (by decide) dX3_readSum_16 (fun q58 => ?_) (fun q59 => ?_)
        · have f60 : (1501 : Int) ≤ x37 ∧ x37 ≤ (1501 : Int) := r_gt f44 (il 1500) q58 (by decide) (by decide)
          refine g_iconst C dX3_readSum_82 ?_
          have e61 : Tg h38 v1 = 2006 := (fxT F43 (fxT F19 t3))
          exact g_iret C hr (nar_z2 (iw (il 1) (by decide) (by decide))).1 (iw (il 1) (by decide) (by decide)) ⟨O42, (((Fx.rf (wr := wr_k_readSum_2)).call F19 rfl).call F43 rfl), (iw (il 1) (by decide) (by decide)), (by unfold RInv; rw [e46, e48, e52, e55]; exact ⟨e61, p45.2.1, p56, p57⟩)⟩ (by decide) (by decide) dX3_readSum_83
        · have f62 : (0 : Int) ≤ x37 ∧ x37 ≤ (1500 : Int) := r_le f44 (il 1500) q59 (by decide) (by decide)
          refine g_aload_n C rfl 0 rfl dX3_readSum_19 ?_
          refine g_bipush C (by decide) dX3_readSum_20 ?_
          refine g_callI (st := []) (gc_V C lk_LandSurvey_Reader_95 (k_X3_isNext l D cy w z0 O42 e49 (iw (il 43) (by decide) (by decide))) e49 rfl rfl rfl ⟨by decide, by decide⟩ (Nat.le_of_ble_eq_true rfl) dX3_readSum_22 ⟨(by decide), (by decide)⟩) (fun r63 h64 f66 K65 => ?_)
          obtain ⟨O67, F68, f69⟩ := K65
          refine g_if_ne C (iw f69 (by decide) (by decide)) 37 (by decide) dX3_readSum_25 (fun q70 => ?_) (fun q71 => ?_)
          · have f72 : (1 : Int) ≤ r63 ∧ r63 ≤ (1 : Int) := r_nl f69 q70
            refine g_aload_n C rfl 0 rfl dX3_readSum_37 ?_
            refine g_bipush C (by decide) dX3_readSum_38 ?_
            have e73 : Tg h64 a0 = 4 := (fxT F68 e49)
            refine g_callI (st := []) (gc_V C lk_LandSurvey_Reader_95 (k_X3_isNext l D cy w z0 O67 e73 (iw (il 43) (by decide) (by decide))) e73 rfl rfl rfl ⟨by decide, by decide⟩ (Nat.le_of_ble_eq_true rfl) dX3_readSum_40 ⟨(by decide), (by decide)⟩) (fun r74 h75 f77 K76 => ?_)
            obtain ⟨O78, F79, f80⟩ := K76
            refine g_if_eq C (iw f80 (by decide) (by decide)) 51 (by decide) dX3_readSum_43 (fun q81 => ?_) (fun q82 => ?_)
            · have f83 : (0 : Int) ≤ r74 ∧ r74 ≤ (0 : Int) := ii f80 (r_eq (il 0) q81) (by decide) (by decide)
              refine g_bipush C (by decide) dX3_readSum_51 ?_
              refine g_istore_n C [(3, .inl (-22)), (0, .inr (.inr a0)), (1, .inl a1), (2, .inl x37)] rfl (by decide) rfl dX3_readSum_53 ?_
              refine g_aload_n C rfl 1 rfl dX3_readSum_54 ?_
              have e84 : Tg h75 a0 = 4 := (fxT F79 e73)
              have e85 : Rv h75 a0 13 = v1 := ((fxR F79 e73 rfl).trans ((fxR F68 e49 rfl).trans e46))
              have e86 : Iv h75 a0 4 = v47 := ((fxI F79 e73 rfl).trans ((fxI F68 e49 rfl).trans e48))
              have e87 : Jv h75 a0 5 = v51 := ((fxJ F79 e73 rfl).trans ((fxJ F68 e49 rfl).trans e52))
              have e88 : Rv h75 a0 6 = v54 := ((fxR F79 e73 rfl).trans ((fxR F68 e49 rfl).trans e55))
              have e89 : Tg h75 v1 = 2006 := (fxT F79 (fxT F68 (fxT F43 (fxT F19 t3))))
              have e90 : Tg h38 v1 = 2006 := (fxT F43 (fxT F19 t3))
              have e91 : Rv h64 a0 13 = v1 := ((fxR F68 e49 rfl).trans e46)
              have e92 : Tg h64 v1 = 2006 := (fxT F68 e90)
              have p93 := (DOk_fx O67 F79 e73 (by rw [e91]; exact e92) rfl (DOk_fx O42 F68 e49 (by rw [e46]; exact e90) rfl p45.2.1))
              refine g_callV (st := []) (gc_V C lk_LandSurvey_Reader_46 (k_X3_advance l D cy w z0 O78 e84 (by unfold RInv; rw [e85, e86, e87, e88]; exact ⟨e89, p93, p56, p57⟩)) e84 rfl rfl rfl ⟨by decide, by decide⟩ (Nat.le_of_ble_eq_true rfl) dX3_readSum_55 ⟨(by decide), (by decide)⟩) (fun h95 K96 => ?_)
              obtain ⟨O98, F99, p100⟩ := K96
              have e101 : Rv h95 a0 13 = v1 := ((fxR F99 e84 rfl).trans e85)
              obtain ⟨v102, e103⟩ : ∃ z, Iv h95 a0 4 = z := ⟨_, rfl⟩
              have e104 : Tg h95 a0 = 4 := (fxT F99 e84)
              have f105 := ok_I O98 e104 rI_4_4 e103
              obtain ⟨v106, e107⟩ : ∃ z, Jv h95 a0 5 = z := ⟨_, rfl⟩
              have f108 := inL_J O98 e107
              obtain ⟨v109, e110⟩ : ∃ z, Rv h95 a0 6 = z := ⟨_, rfl⟩
              have p111 := p100.2.2.1
              rw [e103, e107] at p111
              have p112 := p100.2.2.2
              rw [e110] at p112
              refine g_aload_n C rfl 1 rfl dX3_readSum_58 ?_
              refine g_iload_n C rfl 2 rfl dX3_readSum_59 ?_
              have e113 : Tg h95 v1 = 2006 := (fxT F99 e89)
              refine g_callI (st := []) (gc_V C lk_LandSurvey_Reader_250 (k_readFact_2 l D cy w z0 O98 e104 fa1 (by unfold RInv; rw [e101, e103, e107, e110]; exact ⟨e113, p100.2.1, p111, p112⟩)) e104 rfl rfl rfl ⟨by decide, by decide⟩ (Nat.le_of_ble_eq_true rfl) dX3_readSum_60 ⟨(by decide), (by decide)⟩) (fun r114 h115 f117 K116 => ?_)
              obtain ⟨O118, F119, f120, p121⟩ := K116
              have e122 : Rv h115 a0 13 = v1 := ((fxR F119 e104 rfl).trans e101)
              obtain ⟨v123, e124⟩ : ∃ z, Iv h115 a0 4 = z := ⟨_, rfl⟩
              have e125 : Tg h115 a0 = 4 := (fxT F119 e104)
              have f126 := ok_I O118 e125 rI_4_4 e124
              obtain ⟨v127, e128⟩ : ∃ z, Jv h115 a0 5 = z := ⟨_, rfl⟩
              have f129 := inL_J O118 e128
              obtain ⟨v130, e131⟩ : ∃ z, Rv h115 a0 6 = z := ⟨_, rfl⟩
              have p132 := p121.2.2.1
              rw [e124, e128] at p132
              have p133 := p121.2.2.2
              rw [e131] at p133
              refine g_if_eq C (iw f120 (by decide) (by decide)) 74 (by decide) dX3_readSum_63 (fun q134 => ?_) (fun q135 => ?_)
              · have f136 : (0 : Int) ≤ r114 ∧ r114 ≤ (0 : Int) := ii f120 (r_eq (il 0) q134) (by decide) (by decide)
                refine g_iconst C dX3_readSum_74 ?_
                have e137 : Tg h115 v1 = 2006 := (fxT F119 e113)
                exact g_iret C hr (nar_z2 (iw (il 0) (by decide) (by decide))).1 (iw (il 0) (by decide) (by decide)) ⟨O118, (((((((Fx.rf (wr := wr_k_readSum_2)).call F19 rfl).call F43 rfl).call F68 rfl).call F79 rfl).call F99 rfl).call F119 rfl), (iw (il 0) (by decide) (by decide)), (by unfold RInv; rw [e122, e124, e128, e131]; exact ⟨e137, p121.2.1, p132, p133⟩)⟩ (by decide) (by decide) dX3_readSum_75
              · have f138 : (1 : Int) ≤ r114 ∧ r114 ≤ (1 : Int) := r_nl f120 q135
                refine g_aload_n C rfl 1 rfl dX3_readSum_66 ?_
                refine g_iload_n C rfl 0 rfl dX3_readSum_67 ?_
                have e139 : Tg h115 v1 = 2006 := (fxT F119 e113)
                refine g_callI (st := []) (gc_V C lk_LandSurvey_Reader_244 (k_X3_emit l D cy w z0 O118 e125 (iw (il (-22)) (by decide) (by decide)) (by unfold RInv; rw [e122, e124, e128, e131]; exact ⟨e139, p121.2.1, p132, p133⟩) (by omega)) e125 rfl rfl rfl ⟨by decide, by decide⟩ (Nat.le_of_ble_eq_true rfl) dX3_readSum_68 ⟨(by decide), (by decide)⟩) (fun r140 h141 f143 K142 => ?_)
                obtain ⟨O144, F145, f146, p147⟩ := K142
                have e148 : Rv h141 a0 13 = v1 := ((fxR F145 e125 rfl).trans e122)
                have e149 : Iv h141 a0 4 = v123 := ((fxI F145 e125 rfl).trans e124)
                have e150 : Jv h141 a0 5 = v127 := ((fxJ F145 e125 rfl).trans e128)
                have e151 : Rv h141 a0 6 = v130 := ((fxR F145 e125 rfl).trans e131)
                have p152 := p147.2.2.1
                rw [e149, e150] at p152
                have p153 := p147.2.2.2
                rw [e151] at p153
                refine g_if_ne C (iw f146 (by decide) (by decide)) 76 (by decide) dX3_readSum_71 (fun q154 => ?_) (fun q155 => ?_)
                · have f156 : (1 : Int) ≤ (x37 + 1) ∧ (x37 + 1) ≤ (1501 : Int) := ia_add f62 (il 1) (by decide) (by decide)
                  refine g_iinc C [(2, .inl (x37 + 1)), (3, .inl (-22)), (0, .inr (.inr a0)), (1, .inl a1)] 3 rfl (by decide) rfl dX3_readSum_76 ?_
                  refine g_goto C 12 (by decide) dX3_readSum_79 ?_
                  refine GW.sub [2, 3, 0] rfl ?_
                  have e157 : Tg h141 v1 = 2006 := (fxT F145 e139)
                  exact ih40 _ (by omega) (x37 + 1) h141 rfl O144 (((((F43.call F68 rfl).call F79 rfl).call F99 rfl).call F119 rfl).call F145 rfl) (iw f156 (by decide) (by decide)) (by unfold RInv; rw [e148, e149, e150, e151]; exact ⟨e157, p147.2.1, p152, p153⟩)
                · exact (no_eq f146 (il 0) q155 (by decide)).elim
            · have f158 : (1 : Int) ≤ r74 ∧ r74 ≤ (1 : Int) := r_nl f80 q82
              refine g_bipush C (by decide) dX3_readSum_46 ?_
              refine g_goto C 53 (by decide) dX3_readSum_48 ?_
              refine g_istore_n C [(3, .inl (-21)), (0, .inr (.inr a0)), (1, .inl a1), (2, .inl x37)] rfl (by decide) rfl dX3_readSum_53 ?_
              refine g_aload_n C rfl 1 rfl dX3_readSum_54 ?_
              have e159 : Tg h75 a0 = 4 := (fxT F79 e73)
              have e160 : Rv h75 a0 13 = v1 := ((fxR F79 e73 rfl).trans ((fxR F68 e49 rfl).trans e46))
              have e161 : Iv h75 a0 4 = v47 := ((fxI F79 e73 rfl).trans ((fxI F68 e49 rfl).trans e48))
              have e162 : Jv h75 a0 5 = v51 := ((fxJ F79 e73 rfl).trans ((fxJ F68 e49 rfl).trans e52))
              have e163 : Rv h75 a0 6 = v54 := ((fxR F79 e73 rfl).trans ((fxR F68 e49 rfl).trans e55))
              have e164 : Tg h75 v1 = 2006 := (fxT F79 (fxT F68 (fxT F43 (fxT F19 t3))))
              have e165 : Tg h38 v1 = 2006 := (fxT F43 (fxT F19 t3))
              have e166 : Rv h64 a0 13 = v1 := ((fxR F68 e49 rfl).trans e46)
              have e167 : Tg h64 v1 = 2006 := (fxT F68 e165)
              have p168 := (DOk_fx O67 F79 e73 (by rw [e166]; exact e167) rfl (DOk_fx O42 F68 e49 (by rw [e46]; exact e165) rfl p45.2.1))
              refine g_callV (st := []) (gc_V C lk_LandSurvey_Reader_46 (k_X3_advance l D cy w z0 O78 e159 (by unfold RInv; rw [e160, e161, e162, e163]; exact ⟨e164, p168, p56, p57⟩)) e159 rfl rfl rfl ⟨by decide, by decide⟩ (Nat.le_of_ble_eq_true rfl) dX3_readSum_55 ⟨(by decide), (by decide)⟩) (fun h170 K171 => ?_)
              obtain ⟨O173, F174, p175⟩ := K171
              have e176 : Rv h170 a0 13 = v1 := ((fxR F174 e159 rfl).trans e160)
              obtain ⟨v177, e178⟩ : ∃ z, Iv h170 a0 4 = z := ⟨_, rfl⟩
              have e179 : Tg h170 a0 = 4 := (fxT F174 e159)
              have f180 := ok_I O173 e179 rI_4_4 e178
              obtain ⟨v181, e182⟩ : ∃ z, Jv h170 a0 5 = z := ⟨_, rfl⟩
              have f183 := inL_J O173 e182
              obtain ⟨v184, e185⟩ : ∃ z, Rv h170 a0 6 = z := ⟨_, rfl⟩
              have p186 := p175.2.2.1
              rw [e178, e182] at p186
              have p187 := p175.2.2.2
              rw [e185] at p187
              refine g_aload_n C rfl 1 rfl dX3_readSum_58 ?_
              refine g_iload_n C rfl 2 rfl dX3_readSum_59 ?_
              have e188 : Tg h170 v1 = 2006 := (fxT F174 e164)
              refine g_callI (st := []) (gc_V C lk_LandSurvey_Reader_250 (k_readFact_2 l D cy w z0 O173 e179 fa1 (by unfold RInv; rw [e176, e178, e182, e185]; exact ⟨e188, p175.2.1, p186, p187⟩)) e179 rfl rfl rfl ⟨by decide, by decide⟩ (Nat.le_of_ble_eq_true rfl) dX3_readSum_60 ⟨(by decide), (by decide)⟩) (fun r189 h190 f192 K191 => ?_)
              obtain ⟨O193, F194, f195, p196⟩ := K191
              have e197 : Rv h190 a0 13 = v1 := ((fxR F194 e179 rfl).trans e176)
              obtain ⟨v198, e199⟩ : ∃ z, Iv h190 a0 4 = z := ⟨_, rfl⟩
              have e200 : Tg h190 a0 = 4 := (fxT F194 e179)
              have f201 := ok_I O193 e200 rI_4_4 e199
              obtain ⟨v202, e203⟩ : ∃ z, Jv h190 a0 5 = z := ⟨_, rfl⟩
              have f204 := inL_J O193 e203
              obtain ⟨v205, e206⟩ : ∃ z, Rv h190 a0 6 = z := ⟨_, rfl⟩
              have p207 := p196.2.2.1
              rw [e199, e203] at p207
              have p208 := p196.2.2.2
              rw [e206] at p208
              refine g_if_eq C (iw f195 (by decide) (by decide)) 74 (by decide) dX3_readSum_63 (fun q209 => ?_) (fun q210 => ?_)
              · have f211 : (0 : Int) ≤ r189 ∧ r189 ≤ (0 : Int) := ii f195 (r_eq (il 0) q209) (by decide) (by decide)
                refine g_iconst C dX3_readSum_74 ?_
                have e212 : Tg h190 v1 = 2006 := (fxT F194 e188)
                exact g_iret C hr (nar_z2 (iw (il 0) (by decide) (by decide))).1 (iw (il 0) (by decide) (by decide)) ⟨O193, (((((((Fx.rf (wr := wr_k_readSum_2)).call F19 rfl).call F43 rfl).call F68 rfl).call F79 rfl).call F174 rfl).call F194 rfl), (iw (il 0) (by decide) (by decide)), (by unfold RInv; rw [e197, e199, e203, e206]; exact ⟨e212, p196.2.1, p207, p208⟩)⟩ (by decide) (by decide) dX3_readSum_75
              · have f213 : (1 : Int) ≤ r189 ∧ r189 ≤ (1 : Int) := r_nl f195 q210
                refine g_aload_n C rfl 1 rfl dX3_readSum_66 ?_
                refine g_iload_n C rfl 0 rfl dX3_readSum_67 ?_
                have e214 : Tg h190 v1 = 2006 := (fxT F194 e188)
                refine g_callI (st := []) (gc_V C lk_LandSurvey_Reader_244 (k_X3_emit l D cy w z0 O193 e200 (iw (il (-21)) (by decide) (by decide)) (by unfold RInv; rw [e197, e199, e203, e206]; exact ⟨e214, p196.2.1, p207, p208⟩) (by omega)) e200 rfl rfl rfl ⟨by decide, by decide⟩ (Nat.le_of_ble_eq_true rfl) dX3_readSum_68 ⟨(by decide), (by decide)⟩) (fun r215 h216 f218 K217 => ?_)
                obtain ⟨O219, F220, f221, p222⟩ := K217
                have e223 : Rv h216 a0 13 = v1 := ((fxR F220 e200 rfl).trans e197)
                have e224 : Iv h216 a0 4 = v198 := ((fxI F220 e200 rfl).trans e199)
                have e225 : Jv h216 a0 5 = v202 := ((fxJ F220 e200 rfl).trans e203)
                have e226 : Rv h216 a0 6 = v205 := ((fxR F220 e200 rfl).trans e206)
                have p227 := p222.2.2.1
                rw [e224, e225] at p227
                have p228 := p222.2.2.2
                rw [e226] at p228
                refine g_if_ne C (iw f221 (by decide) (by decide)) 76 (by decide) dX3_readSum_71 (fun q229 => ?_) (fun q230 => ?_)
                · have f231 : (1 : Int) ≤ (x37 + 1) ∧ (x37 + 1) ≤ (1501 : Int) := ia_add f62 (il 1) (by decide) (by decide)
                  refine g_iinc C [(2, .inl (x37 + 1)), (3, .inl (-21)), (0, .inr (.inr a0)), (1, .inl a1)] 3 rfl (by decide) rfl dX3_readSum_76 ?_
                  refine g_goto C 12 (by decide) dX3_readSum_79 ?_
                  refine GW.sub [2, 3, 0] rfl ?_
                  have e232 : Tg h216 v1 = 2006 := (fxT F220 e214)
                  exact ih40 _ (by omega) (x37 + 1) h216 rfl O219 (((((F43.call F68 rfl).call F79 rfl).call F174 rfl).call F194 rfl).call F220 rfl) (iw f231 (by decide) (by decide)) (by unfold RInv; rw [e223, e224, e225, e226]; exact ⟨e232, p222.2.1, p227, p228⟩)
                · exact (no_eq f221 (il 0) q230 (by decide)).elim
          · have f233 : (0 : Int) ≤ r63 ∧ r63 ≤ (0 : Int) := ii f69 (r_eq (il 0) q71) (by decide) (by decide)
            refine g_aload_n C rfl 0 rfl dX3_readSum_28 ?_
            refine g_bipush C (by decide) dX3_readSum_29 ?_
            have e234 : Tg h64 a0 = 4 := (fxT F68 e49)
            refine g_callI (st := []) (gc_V C lk_LandSurvey_Reader_95 (k_X3_isNext l D cy w z0 O67 e234 (iw (il 45) (by decide) (by decide))) e234 rfl rfl rfl ⟨by decide, by decide⟩ (Nat.le_of_ble_eq_true rfl) dX3_readSum_31 ⟨(by decide), (by decide)⟩) (fun r235 h236 f238 K237 => ?_)
            obtain ⟨O239, F240, f241⟩ := K237
            refine g_if_eq C (iw f241 (by decide) (by decide)) 82 (by decide) dX3_readSum_34 (fun q242 => ?_) (fun q243 => ?_)
            · have f244 : (0 : Int) ≤ r235 ∧ r235 ≤ (0 : Int) := ii f241 (r_eq (il 0) q242) (by decide) (by decide)
              refine g_iconst C dX3_readSum_82 ?_
              have e245 : Rv h236 a0 13 = v1 := ((fxR F240 e234 rfl).trans ((fxR F68 e49 rfl).trans e46))
              have e246 : Iv h236 a0 4 = v47 := ((fxI F240 e234 rfl).trans ((fxI F68 e49 rfl).trans e48))
              have e247 : Jv h236 a0 5 = v51 := ((fxJ F240 e234 rfl).trans ((fxJ F68 e49 rfl).trans e52))
              have e248 : Rv h236 a0 6 = v54 := ((fxR F240 e234 rfl).trans ((fxR F68 e49 rfl).trans e55))
              have e249 : Tg h236 v1 = 2006 := (fxT F240 (fxT F68 (fxT F43 (fxT F19 t3))))
              have e250 : Tg h38 v1 = 2006 := (fxT F43 (fxT F19 t3))
              have e251 : Rv h64 a0 13 = v1 := ((fxR F68 e49 rfl).trans e46)
              have e252 : Tg h64 v1 = 2006 := (fxT F68 e250)
              have p253 := (DOk_fx O67 F240 e234 (by rw [e251]; exact e252) rfl (DOk_fx O42 F68 e49 (by rw [e46]; exact e250) rfl p45.2.1))
              exact g_iret C hr (nar_z2 (iw (il 1) (by decide) (by decide))).1 (iw (il 1) (by decide) (by decide)) ⟨O239, (((((Fx.rf (wr := wr_k_readSum_2)).call F19 rfl).call F43 rfl).call F68 rfl).call F240 rfl), (iw (il 1) (by decide) (by decide)), (by unfold RInv; rw [e245, e246, e247, e248]; exact ⟨e249, p253, p56, p57⟩)⟩ (by decide) (by decide) dX3_readSum_83
            · have f254 : (1 : Int) ≤ r235 ∧ r235 ≤ (1 : Int) := r_nl f241 q243
              refine g_aload_n C rfl 0 rfl dX3_readSum_37 ?_
              refine g_bipush C (by decide) dX3_readSum_38 ?_
              have e255 : Tg h236 a0 = 4 := (fxT F240 e234)
              refine g_callI (st := []) (gc_V C lk_LandSurvey_Reader_95 (k_X3_isNext l D cy w z0 O239 e255 (iw (il 43) (by decide) (by decide))) e255 rfl rfl rfl ⟨by decide, by decide⟩ (Nat.le_of_ble_eq_true rfl) dX3_readSum_40 ⟨(by decide), (by decide)⟩) (fun r256 h257 f259 K258 => ?_)
              obtain ⟨O260, F261, f262⟩ := K258
              refine g_if_eq C (iw f262 (by decide) (by decide)) 51 (by decide) dX3_readSum_43 (fun q263 => ?_) (fun q264 => ?_)
              · have f265 : (0 : Int) ≤ r256 ∧ r256 ≤ (0 : Int) := ii f262 (r_eq (il 0) q263) (by decide) (by decide)
                refine g_bipush C (by decide) dX3_readSum_51 ?_
                refine g_istore_n C [(3, .inl (-22)), (0, .inr (.inr a0)), (1, .inl a1), (2, .inl x37)] rfl (by decide) rfl dX3_readSum_53 ?_
                refine g_aload_n C rfl 1 rfl dX3_readSum_54 ?_
                have e266 : Tg h257 a0 = 4 := (fxT F261 e255)
                have e267 : Rv h257 a0 13 = v1 := ((fxR F261 e255 rfl).trans ((fxR F240 e234 rfl).trans ((fxR F68 e49 rfl).trans e46)))
                have e268 : Iv h257 a0 4 = v47 := ((fxI F261 e255 rfl).trans ((fxI F240 e234 rfl).trans ((fxI F68 e49 rfl).trans e48)))
                have e269 : Jv h257 a0 5 = v51 := ((fxJ F261 e255 rfl).trans ((fxJ F240 e234 rfl).trans ((fxJ F68 e49 rfl).trans e52)))
                have e270 : Rv h257 a0 6 = v54 := ((fxR F261 e255 rfl).trans ((fxR F240 e234 rfl).trans ((fxR F68 e49 rfl).trans e55)))
                have e271 : Tg h257 v1 = 2006 := (fxT F261 (fxT F240 (fxT F68 (fxT F43 (fxT F19 t3)))))
                have e272 : Tg h38 v1 = 2006 := (fxT F43 (fxT F19 t3))
                have e273 : Rv h64 a0 13 = v1 := ((fxR F68 e49 rfl).trans e46)
                have e274 : Tg h64 v1 = 2006 := (fxT F68 e272)
                have e275 : Rv h236 a0 13 = v1 := ((fxR F240 e234 rfl).trans e273)
                have e276 : Tg h236 v1 = 2006 := (fxT F240 e274)
                have p277 := (DOk_fx O239 F261 e255 (by rw [e275]; exact e276) rfl (DOk_fx O67 F240 e234 (by rw [e273]; exact e274) rfl (DOk_fx O42 F68 e49 (by rw [e46]; exact e272) rfl p45.2.1)))
                refine g_callV (st := []) (gc_V C lk_LandSurvey_Reader_46 (k_X3_advance l D cy w z0 O260 e266 (by unfold RInv; rw [e267, e268, e269, e270]; exact ⟨e271, p277, p56, p57⟩)) e266 rfl rfl rfl ⟨by decide, by decide⟩ (Nat.le_of_ble_eq_true rfl) dX3_readSum_55 ⟨(by decide), (by decide)⟩) (fun h279 K280 => ?_)
                obtain ⟨O282, F283, p284⟩ := K280
                have e285 : Rv h279 a0 13 = v1 := ((fxR F283 e266 rfl).trans e267)
                obtain ⟨v286, e287⟩ : ∃ z, Iv h279 a0 4 = z := ⟨_, rfl⟩
                have e288 : Tg h279 a0 = 4 := (fxT F283 e266)
                have f289 := ok_I O282 e288 rI_4_4 e287
                obtain ⟨v290, e291⟩ : ∃ z, Jv h279 a0 5 = z := ⟨_, rfl⟩
                have f292 := inL_J O282 e291
                obtain ⟨v293, e294⟩ : ∃ z, Rv h279 a0 6 = z := ⟨_, rfl⟩
                have p295 := p284.2.2.1
                rw [e287, e291] at p295
                have p296 := p284.2.2.2
                rw [e294] at p296
                refine g_aload_n C rfl 1 rfl dX3_readSum_58 ?_
                refine g_iload_n C rfl 2 rfl dX3_readSum_59 ?_
                have e297 : Tg h279 v1 = 2006 := (fxT F283 e271)
                refine g_callI (st := []) (gc_V C lk_LandSurvey_Reader_250 (k_readFact_2 l D cy w z0 O282 e288 fa1 (by unfold RInv; rw [e285, e287, e291, e294]; exact ⟨e297, p284.2.1, p295, p296⟩)) e288 rfl rfl rfl ⟨by decide, by decide⟩ (Nat.le_of_ble_eq_true rfl) dX3_readSum_60 ⟨(by decide), (by decide)⟩) (fun r298 h299 f301 K300 => ?_)
                obtain ⟨O302, F303, f304, p305⟩ := K300
                have e306 : Rv h299 a0 13 = v1 := ((fxR F303 e288 rfl).trans e285)
                obtain ⟨v307, e308⟩ : ∃ z, Iv h299 a0 4 = z := ⟨_, rfl⟩
                have e309 : Tg h299 a0 = 4 := (fxT F303 e288)
                have f310 := ok_I O302 e309 rI_4_4 e308
                obtain ⟨v311, e312⟩ : ∃ z, Jv h299 a0 5 = z := ⟨_, rfl⟩
                have f313 := inL_J O302 e312
                obtain ⟨v314, e315⟩ : ∃ z, Rv h299 a0 6 = z := ⟨_, rfl⟩
                have p316 := p305.2.2.1
                rw [e308, e312] at p316
                have p317 := p305.2.2.2
                rw [e315] at p317
                refine g_if_eq C (iw f304 (by decide) (by decide)) 74 (by decide) dX3_readSum_63 (fun q318 => ?_) (fun q319 => ?_)
                · have f320 : (0 : Int) ≤ r298 ∧ r298 ≤ (0 : Int) := ii f304 (r_eq (il 0) q318) (by decide) (by decide)
                  refine g_iconst C dX3_readSum_74 ?_
                  have e321 : Tg h299 v1 = 2006 := (fxT F303 e297)
                  exact g_iret C hr (nar_z2 (iw (il 0) (by decide) (by decide))).1 (iw (il 0) (by decide) (by decide)) ⟨O302, ((((((((Fx.rf (wr := wr_k_readSum_2)).call F19 rfl).call F43 rfl).call F68 rfl).call F240 rfl).call F261 rfl).call F283 rfl).call F303 rfl), (iw (il 0) (by decide) (by decide)), (by unfold RInv; rw [e306, e308, e312, e315]; exact ⟨e321, p305.2.1, p316, p317⟩)⟩ (by decide) (by decide) dX3_readSum_75
                · have f322 : (1 : Int) ≤ r298 ∧ r298 ≤ (1 : Int) := r_nl f304 q319
                  refine g_aload_n C rfl 1 rfl dX3_readSum_66 ?_
                  refine g_iload_n C rfl 0 rfl dX3_readSum_67 ?_
                  have e323 : Tg h299 v1 = 2006 := (fxT F303 e297)
                  refine g_callI (st := []) (gc_V C lk_LandSurvey_Reader_244 (k_X3_emit l D cy w z0 O302 e309 (iw (il (-22)) (by decide) (by decide)) (by unfold RInv; rw [e306, e308, e312, e315]; exact ⟨e323, p305.2.1, p316, p317⟩) (by omega)) e309 rfl rfl rfl ⟨by decide, by decide⟩ (Nat.le_of_ble_eq_true rfl) dX3_readSum_68 ⟨(by decide), (by decide)⟩) (fun r324 h325 f327 K326 => ?_)
                  obtain ⟨O328, F329, f330, p331⟩ := K326
                  have e332 : Rv h325 a0 13 = v1 := ((fxR F329 e309 rfl).trans e306)
                  have e333 : Iv h325 a0 4 = v307 := ((fxI F329 e309 rfl).trans e308)
                  have e334 : Jv h325 a0 5 = v311 := ((fxJ F329 e309 rfl).trans e312)
                  have e335 : Rv h325 a0 6 = v314 := ((fxR F329 e309 rfl).trans e315)
                  have p336 := p331.2.2.1
                  rw [e333, e334] at p336
                  have p337 := p331.2.2.2
                  rw [e335] at p337
                  refine g_if_ne C (iw f330 (by decide) (by decide)) 76 (by decide) dX3_readSum_71 (fun q338 => ?_) (fun q339 => ?_)
                  · have f340 : (1 : Int) ≤ (x37 + 1) ∧ (x37 + 1) ≤ (1501 : Int) := ia_add f62 (il 1) (by decide) (by decide)
                    refine g_iinc C [(2, .inl (x37 + 1)), (3, .inl (-22)), (0, .inr (.inr a0)), (1, .inl a1)] 3 rfl (by decide) rfl dX3_readSum_76 ?_
                    refine g_goto C 12 (by decide) dX3_readSum_79 ?_
                    refine GW.sub [2, 3, 0] rfl ?_
                    have e341 : Tg h325 v1 = 2006 := (fxT F329 e323)
                    exact ih40 _ (by omega) (x37 + 1) h325 rfl O328 ((((((F43.call F68 rfl).call F240 rfl).call F261 rfl).call F283 rfl).call F303 rfl).call F329 rfl) (iw f340 (by decide) (by decide)) (by unfold RInv; rw [e332, e333, e334, e335]; exact ⟨e341, p331.2.1, p336, p337⟩)
                  · exact (no_eq f330 (il 0) q339 (by decide)).elim
              · have f342 : (1 : Int) ≤ r256 ∧ r256 ≤ (1 : Int) := r_nl f262 q264
                refine g_bipush C (by decide) dX3_readSum_46 ?_
                refine g_goto C 53 (by decide) dX3_readSum_48 ?_
                refine g_istore_n C [(3, .inl (-21)), (0, .inr (.inr a0)), (1, .inl a1), (2, .inl x37)] rfl (by decide) rfl dX3_readSum_53 ?_
                refine g_aload_n C rfl 1 rfl dX3_readSum_54 ?_
                have e343 : Tg h257 a0 = 4 := (fxT F261 e255)
                have e344 : Rv h257 a0 13 = v1 := ((fxR F261 e255 rfl).trans ((fxR F240 e234 rfl).trans ((fxR F68 e49 rfl).trans e46)))
                have e345 : Iv h257 a0 4 = v47 := ((fxI F261 e255 rfl).trans ((fxI F240 e234 rfl).trans ((fxI F68 e49 rfl).trans e48)))
                have e346 : Jv h257 a0 5 = v51 := ((fxJ F261 e255 rfl).trans ((fxJ F240 e234 rfl).trans ((fxJ F68 e49 rfl).trans e52)))
                have e347 : Rv h257 a0 6 = v54 := ((fxR F261 e255 rfl).trans ((fxR F240 e234 rfl).trans ((fxR F68 e49 rfl).trans e55)))
                have e348 : Tg h257 v1 = 2006 := (fxT F261 (fxT F240 (fxT F68 (fxT F43 (fxT F19 t3)))))
                have e349 : Tg h38 v1 = 2006 := (fxT F43 (fxT F19 t3))
                have e350 : Rv h64 a0 13 = v1 := ((fxR F68 e49 rfl).trans e46)
                have e351 : Tg h64 v1 = 2006 := (fxT F68 e349)
                have e352 : Rv h236 a0 13 = v1 := ((fxR F240 e234 rfl).trans e350)
                have e353 : Tg h236 v1 = 2006 := (fxT F240 e351)
                have p354 := (DOk_fx O239 F261 e255 (by rw [e352]; exact e353) rfl (DOk_fx O67 F240 e234 (by rw [e350]; exact e351) rfl (DOk_fx O42 F68 e49 (by rw [e46]; exact e349) rfl p45.2.1)))
                refine g_callV (st := []) (gc_V C lk_LandSurvey_Reader_46 (k_X3_advance l D cy w z0 O260 e343 (by unfold RInv; rw [e344, e345, e346, e347]; exact ⟨e348, p354, p56, p57⟩)) e343 rfl rfl rfl ⟨by decide, by decide⟩ (Nat.le_of_ble_eq_true rfl) dX3_readSum_55 ⟨(by decide), (by decide)⟩) (fun h356 K357 => ?_)
                obtain ⟨O359, F360, p361⟩ := K357
                have e362 : Rv h356 a0 13 = v1 := ((fxR F360 e343 rfl).trans e344)
                obtain ⟨v363, e364⟩ : ∃ z, Iv h356 a0 4 = z := ⟨_, rfl⟩
                have e365 : Tg h356 a0 = 4 := (fxT F360 e343)
                have f366 := ok_I O359 e365 rI_4_4 e364
                obtain ⟨v367, e368⟩ : ∃ z, Jv h356 a0 5 = z := ⟨_, rfl⟩
                have f369 := inL_J O359 e368
                obtain ⟨v370, e371⟩ : ∃ z, Rv h356 a0 6 = z := ⟨_, rfl⟩
                have p372 := p361.2.2.1
                rw [e364, e368] at p372
                have p373 := p361.2.2.2
                rw [e371] at p373
                refine g_aload_n C rfl 1 rfl dX3_readSum_58 ?_
                refine g_iload_n C rfl 2 rfl dX3_readSum_59 ?_
                have e374 : Tg h356 v1 = 2006 := (fxT F360 e348)
                refine g_callI (st := []) (gc_V C lk_LandSurvey_Reader_250 (k_readFact_2 l D cy w z0 O359 e365 fa1 (by unfold RInv; rw [e362, e364, e368, e371]; exact ⟨e374, p361.2.1, p372, p373⟩)) e365 rfl rfl rfl ⟨by decide, by decide⟩ (Nat.le_of_ble_eq_true rfl) dX3_readSum_60 ⟨(by decide), (by decide)⟩) (fun r375 h376 f378 K377 => ?_)
                obtain ⟨O379, F380, f381, p382⟩ := K377
                have e383 : Rv h376 a0 13 = v1 := ((fxR F380 e365 rfl).trans e362)
                obtain ⟨v384, e385⟩ : ∃ z, Iv h376 a0 4 = z := ⟨_, rfl⟩
                have e386 : Tg h376 a0 = 4 := (fxT F380 e365)
                have f387 := ok_I O379 e386 rI_4_4 e385
                obtain ⟨v388, e389⟩ : ∃ z, Jv h376 a0 5 = z := ⟨_, rfl⟩
                have f390 := inL_J O379 e389
                obtain ⟨v391, e392⟩ : ∃ z, Rv h376 a0 6 = z := ⟨_, rfl⟩
                have p393 := p382.2.2.1
                rw [e385, e389] at p393
                have p394 := p382.2.2.2
                rw [e392] at p394
                refine g_if_eq C (iw f381 (by decide) (by decide)) 74 (by decide) dX3_readSum_63 (fun q395 => ?_) (fun q396 => ?_)
                · have f397 : (0 : Int) ≤ r375 ∧ r375 ≤ (0 : Int) := ii f381 (r_eq (il 0) q395) (by decide) (by decide)
                  refine g_iconst C dX3_readSum_74 ?_
                  have e398 : Tg h376 v1 = 2006 := (fxT F380 e374)
                  exact g_iret C hr (nar_z2 (iw (il 0) (by decide) (by decide))).1 (iw (il 0) (by decide) (by decide)) ⟨O379, ((((((((Fx.rf (wr := wr_k_readSum_2)).call F19 rfl).call F43 rfl).call F68 rfl).call F240 rfl).call F261 rfl).call F360 rfl).call F380 rfl), (iw (il 0) (by decide) (by decide)), (by unfold RInv; rw [e383, e385, e389, e392]; exact ⟨e398, p382.2.1, p393, p394⟩)⟩ (by decide) (by decide) dX3_readSum_75
                · have f399 : (1 : Int) ≤ r375 ∧ r375 ≤ (1 : Int) := r_nl f381 q396
                  refine g_aload_n C rfl 1 rfl dX3_readSum_66 ?_
                  refine g_iload_n C rfl 0 rfl dX3_readSum_67 ?_
                  have e400 : Tg h376 v1 = 2006 := (fxT F380 e374)
                  refine g_callI (st := []) (gc_V C lk_LandSurvey_Reader_244 (k_X3_emit l D cy w z0 O379 e386 (iw (il (-21)) (by decide) (by decide)) (by unfold RInv; rw [e383, e385, e389, e392]; exact ⟨e400, p382.2.1, p393, p394⟩) (by omega)) e386 rfl rfl rfl ⟨by decide, by decide⟩ (Nat.le_of_ble_eq_true rfl) dX3_readSum_68 ⟨(by decide), (by decide)⟩) (fun r401 h402 f404 K403 => ?_)
                  obtain ⟨O405, F406, f407, p408⟩ := K403
                  have e409 : Rv h402 a0 13 = v1 := ((fxR F406 e386 rfl).trans e383)
                  have e410 : Iv h402 a0 4 = v384 := ((fxI F406 e386 rfl).trans e385)
                  have e411 : Jv h402 a0 5 = v388 := ((fxJ F406 e386 rfl).trans e389)
                  have e412 : Rv h402 a0 6 = v391 := ((fxR F406 e386 rfl).trans e392)
                  have p413 := p408.2.2.1
                  rw [e410, e411] at p413
                  have p414 := p408.2.2.2
                  rw [e412] at p414
                  refine g_if_ne C (iw f407 (by decide) (by decide)) 76 (by decide) dX3_readSum_71 (fun q415 => ?_) (fun q416 => ?_)
                  · have f417 : (1 : Int) ≤ (x37 + 1) ∧ (x37 + 1) ≤ (1501 : Int) := ia_add f62 (il 1) (by decide) (by decide)
                    refine g_iinc C [(2, .inl (x37 + 1)), (3, .inl (-21)), (0, .inr (.inr a0)), (1, .inl a1)] 3 rfl (by decide) rfl dX3_readSum_76 ?_
                    refine g_goto C 12 (by decide) dX3_readSum_79 ?_
                    refine GW.sub [2, 3, 0] rfl ?_
                    have e418 : Tg h402 v1 = 2006 := (fxT F406 e400)
                    exact ih40 _ (by omega) (x37 + 1) h402 rfl O405 ((((((F43.call F68 rfl).call F240 rfl).call F261 rfl).call F360 rfl).call F380 rfl).call F406 rfl) (iw f417 (by decide) (by decide)) (by unfold RInv; rw [e409, e410, e411, e412]; exact ⟨e418, p408.2.1, p413, p414⟩)
                  · exact (no_eq f407 (il 0) q416 (by decide)).elim
    have e419 : Tg h15 v1 = 2006 := (fxT F19 t3)
    exact L39 _ 0 h15 rfl O18 Fx.rf (iw (il 0) (by decide) (by decide)) (by unfold RInv; rw [e22, e24, e28, e31]; exact ⟨e419, p21.2.1, p32, p33⟩)
  · have f420 : (0 : Int) ≤ r14 ∧ r14 ≤ (0 : Int) := ii f20 (r_eq (il 0) q35) (by decide) (by decide)
    refine g_iconst C dX3_readSum_8 ?_
    have e421 : Tg h15 v1 = 2006 := (fxT F19 t3)
    exact g_iret C hr (nar_z2 (iw (il 0) (by decide) (by decide))).1 (iw (il 0) (by decide) (by decide)) ⟨O18, ((Fx.rf (wr := wr_k_readSum_2)).call F19 rfl), (iw (il 0) (by decide) (by decide)), (by unfold RInv; rw [e22, e24, e28, e31]; exact ⟨e421, p21.2.1, p32, p33⟩)⟩ (by decide) (by decide) dX3_readSum_9
def wr_k_readTest_2 : List Nat := [802, 803, 804, 805, 806, 807, 812, 4020000]
set_option maxRecDepth 100000 in
set_option maxHeartbeats 4000000 in
theorem k_readTest_2 (l : Launch) (D : va_G) (cy : Nat → ClassId) (w : Nat → Nat) (z0 : Nat)  {h : Hp} {a0 : Nat} {a1 : Int}  (O : Okh h) (ta0 : Tg h a0 = 4) (fa1 : 2 ≤ a1 ∧ a1 ≤ 2) (P_RInv : RInv w h a0) : MI l D cy w z0 yX3_readTest cX3_readTest 3 (some .boolean) 16 361 0 0 [.inr (.inr a0), .inl a1] h (fun v h1 => Okh h1 ∧ Fx wr_k_readTest_2 h h1 ∧ (0 ≤ v ∧ v ≤ 1) ∧ (RInv w h1 a0)) := by
  obtain ⟨v1, e2⟩ : ∃ z, Rv h a0 13 = z := ⟨_, rfl⟩
  have t3 := P_RInv.1
  rw [e2] at t3
  obtain ⟨v4, e5⟩ : ∃ z, Iv h a0 4 = z := ⟨_, rfl⟩
  have f6 := ok_I O ta0 rI_4_4 e5
  obtain ⟨v7, e8⟩ : ∃ z, Jv h a0 5 = z := ⟨_, rfl⟩
  have f9 := inL_J O e8
  obtain ⟨v10, e11⟩ : ∃ z, Rv h a0 6 = z := ⟨_, rfl⟩
  have p12 := P_RInv.2.2.1
  rw [e5, e8] at p12
  have p13 := P_RInv.2.2.2
  rw [e11] at p13
  refine hm_go (by decide +kernel) (Nat.le_of_ble_eq_true rfl) (fun p e s m below meth c C hr hn => ?_)
  refine g_aload_n C rfl 0 rfl dX3_readTest_0 ?_
  refine g_iload_n C rfl 1 rfl dX3_readTest_1 ?_
  refine g_callI (st := []) (gc_V C lk_LandSurvey_Reader_247 (k_readSum_2 l D cy w z0 O ta0 fa1 (by unfold RInv; rw [e2, e5, e8, e11]; exact ⟨t3, P_RInv.2.1, p12, p13⟩)) ta0 rfl rfl rfl ⟨by decide, by decide⟩ (Nat.le_of_ble_eq_true rfl) dX3_readTest_2 ⟨(by decide), (by decide)⟩) (fun r14 h15 f17 K16 => ?_)
  obtain ⟨O18, F19, f20, p21⟩ := K16
  have e22 : Rv h15 a0 13 = v1 := ((fxR F19 ta0 rfl).trans e2)
  obtain ⟨v23, e24⟩ : ∃ z, Iv h15 a0 4 = z := ⟨_, rfl⟩
  have e25 : Tg h15 a0 = 4 := (fxT F19 ta0)
  have f26 := ok_I O18 e25 rI_4_4 e24
  obtain ⟨v27, e28⟩ : ∃ z, Jv h15 a0 5 = z := ⟨_, rfl⟩
  have f29 := inL_J O18 e28
  obtain ⟨v30, e31⟩ : ∃ z, Rv h15 a0 6 = z := ⟨_, rfl⟩
  have p32 := p21.2.2.1
  rw [e24, e28] at p32
  have p33 := p21.2.2.2
  rw [e31] at p33
  refine g_if_ne C (iw f20 (by decide) (by decide)) 10 (by decide) dX3_readTest_5 (fun q34 => ?_) (fun q35 => ?_)
  · have f36 : (1 : Int) ≤ r14 ∧ r14 ≤ (1 : Int) := r_nl f20 q34
    refine g_aload_n C rfl 0 rfl dX3_readTest_10 ?_
    refine g_bipush C (by decide) dX3_readTest_11 ?_
    refine g_callI (st := []) (gc_V C lk_LandSurvey_Reader_95 (k_X3_isNext l D cy w z0 O18 e25 (iw (il 60) (by decide) (by decide))) e25 rfl rfl rfl ⟨by decide, by decide⟩ (Nat.le_of_ble_eq_true rfl) dX3_readTest_13 ⟨(by decide), (by decide)⟩) (fun r37 h38 f40 K39 => ?_)
    obtain ⟨O41, F42, f43⟩ := K39
    refine g_if_ne C (iw f43 (by decide) (by decide)) 30 (by decide) dX3_readTest_16 (fun q44 => ?_) (fun q45 => ?_)
    · have f46 : (1 : Int) ≤ r37 ∧ r37 ≤ (1 : Int) := r_nl f43 q44
      refine g_aload_n C rfl 0 rfl dX3_readTest_30 ?_
      refine g_bipush C (by decide) dX3_readTest_31 ?_
      have e47 : Tg h38 a0 = 4 := (fxT F42 e25)
      refine g_callI (st := []) (gc_V C lk_LandSurvey_Reader_95 (k_X3_isNext l D cy w z0 O41 e47 (iw (il 60) (by decide) (by decide))) e47 rfl rfl rfl ⟨by decide, by decide⟩ (Nat.le_of_ble_eq_true rfl) dX3_readTest_33 ⟨(by decide), (by decide)⟩) (fun r48 h49 f51 K50 => ?_)
      obtain ⟨O52, F53, f54⟩ := K50
      refine g_if_eq C (iw f54 (by decide) (by decide)) 44 (by decide) dX3_readTest_36 (fun q55 => ?_) (fun q56 => ?_)
      · have f57 : (0 : Int) ≤ r48 ∧ r48 ≤ (0 : Int) := ii f54 (r_eq (il 0) q55) (by decide) (by decide)
        refine g_bipush C (by decide) dX3_readTest_44 ?_
        refine g_istore_n C [(2, .inl (-24)), (0, .inr (.inr a0)), (1, .inl a1)] rfl (by decide) rfl dX3_readTest_46 ?_
        refine g_aload_n C rfl 1 rfl dX3_readTest_47 ?_
        have e58 : Tg h49 a0 = 4 := (fxT F53 e47)
        have e59 : Rv h49 a0 13 = v1 := ((fxR F53 e47 rfl).trans ((fxR F42 e25 rfl).trans e22))
        have e60 : Iv h49 a0 4 = v23 := ((fxI F53 e47 rfl).trans ((fxI F42 e25 rfl).trans e24))
        have e61 : Jv h49 a0 5 = v27 := ((fxJ F53 e47 rfl).trans ((fxJ F42 e25 rfl).trans e28))
        have e62 : Rv h49 a0 6 = v30 := ((fxR F53 e47 rfl).trans ((fxR F42 e25 rfl).trans e31))
        have e63 : Tg h49 v1 = 2006 := (fxT F53 (fxT F42 (fxT F19 t3)))
        have e64 : Tg h15 v1 = 2006 := (fxT F19 t3)
        have e65 : Rv h38 a0 13 = v1 := ((fxR F42 e25 rfl).trans e22)
        have e66 : Tg h38 v1 = 2006 := (fxT F42 e64)
        have p67 := (DOk_fx O41 F53 e47 (by rw [e65]; exact e66) rfl (DOk_fx O18 F42 e25 (by rw [e22]; exact e64) rfl p21.2.1))
        refine g_callV (st := []) (gc_V C lk_LandSurvey_Reader_46 (k_X3_advance l D cy w z0 O52 e58 (by unfold RInv; rw [e59, e60, e61, e62]; exact ⟨e63, p67, p32, p33⟩)) e58 rfl rfl rfl ⟨by decide, by decide⟩ (Nat.le_of_ble_eq_true rfl) dX3_readTest_48 ⟨(by decide), (by decide)⟩) (fun h69 K70 => ?_)
        obtain ⟨O72, F73, p74⟩ := K70
        have e75 : Rv h69 a0 13 = v1 := ((fxR F73 e58 rfl).trans e59)
        obtain ⟨v76, e77⟩ : ∃ z, Iv h69 a0 4 = z := ⟨_, rfl⟩
        have e78 : Tg h69 a0 = 4 := (fxT F73 e58)
        have f79 := ok_I O72 e78 rI_4_4 e77
        obtain ⟨v80, e81⟩ : ∃ z, Jv h69 a0 5 = z := ⟨_, rfl⟩
        have f82 := inL_J O72 e81
        obtain ⟨v83, e84⟩ : ∃ z, Rv h69 a0 6 = z := ⟨_, rfl⟩
        have p85 := p74.2.2.1
        rw [e77, e81] at p85
        have p86 := p74.2.2.2
        rw [e84] at p86
        refine g_aload_n C rfl 1 rfl dX3_readTest_51 ?_
        refine g_iload_n C rfl 2 rfl dX3_readTest_52 ?_
        have e87 : Tg h69 v1 = 2006 := (fxT F73 e63)
        refine g_callI (st := []) (gc_V C lk_LandSurvey_Reader_247 (k_readSum_2 l D cy w z0 O72 e78 fa1 (by unfold RInv; rw [e75, e77, e81, e84]; exact ⟨e87, p74.2.1, p85, p86⟩)) e78 rfl rfl rfl ⟨by decide, by decide⟩ (Nat.le_of_ble_eq_true rfl) dX3_readTest_53 ⟨(by decide), (by decide)⟩) (fun r88 h89 f91 K90 => ?_)
        obtain ⟨O92, F93, f94, p95⟩ := K90
        have e96 : Rv h89 a0 13 = v1 := ((fxR F93 e78 rfl).trans e75)
        obtain ⟨v97, e98⟩ : ∃ z, Iv h89 a0 4 = z := ⟨_, rfl⟩
        have e99 : Tg h89 a0 = 4 := (fxT F93 e78)
        have f100 := ok_I O92 e99 rI_4_4 e98
        obtain ⟨v101, e102⟩ : ∃ z, Jv h89 a0 5 = z := ⟨_, rfl⟩
        have f103 := inL_J O92 e102
        obtain ⟨v104, e105⟩ : ∃ z, Rv h89 a0 6 = z := ⟨_, rfl⟩
        have p106 := p95.2.2.1
        rw [e98, e102] at p106
        have p107 := p95.2.2.2
        rw [e105] at p107
        refine g_if_eq C (iw f94 (by decide) (by decide)) 71 (by decide) dX3_readTest_56 (fun q108 => ?_) (fun q109 => ?_)
        · have f110 : (0 : Int) ≤ r88 ∧ r88 ≤ (0 : Int) := ii f94 (r_eq (il 0) q108) (by decide) (by decide)
          refine g_iconst C dX3_readTest_71 ?_
          have e111 : Tg h89 v1 = 2006 := (fxT F93 e87)
          exact g_iret C hr (nar_z2 (iw (il 0) (by decide) (by decide))).1 (iw (il 0) (by decide) (by decide)) ⟨O92, ((((((Fx.rf (wr := wr_k_readTest_2)).call F19 rfl).call F42 rfl).call F53 rfl).call F73 rfl).call F93 rfl), (iw (il 0) (by decide) (by decide)), (by unfold RInv; rw [e96, e98, e102, e105]; exact ⟨e111, p95.2.1, p106, p107⟩)⟩ (by decide) (by decide) dX3_readTest_72
        · have f112 : (1 : Int) ≤ r88 ∧ r88 ≤ (1 : Int) := r_nl f94 q109
          refine g_aload_n C rfl 1 rfl dX3_readTest_59 ?_
          refine g_iload_n C rfl 0 rfl dX3_readTest_60 ?_
          have e113 : Tg h89 v1 = 2006 := (fxT F93 e87)
          refine g_callI (st := []) (gc_V C lk_LandSurvey_Reader_244 (k_X3_emit l D cy w z0 O92 e99 (iw (il (-24)) (by decide) (by decide)) (by unfold RInv; rw [e96, e98, e102, e105]; exact ⟨e113, p95.2.1, p106, p107⟩) (by omega)) e99 rfl rfl rfl ⟨by decide, by decide⟩ (Nat.le_of_ble_eq_true rfl) dX3_readTest_61 ⟨(by decide), (by decide)⟩) (fun r114 h115 f117 K116 => ?_)
          obtain ⟨O118, F119, f120, p121⟩ := K116
          have e122 : Rv h115 a0 13 = v1 := ((fxR F119 e99 rfl).trans e96)
          have e123 : Iv h115 a0 4 = v97 := ((fxI F119 e99 rfl).trans e98)
          have e124 : Jv h115 a0 5 = v101 := ((fxJ F119 e99 rfl).trans e102)
          have e125 : Rv h115 a0 6 = v104 := ((fxR F119 e99 rfl).trans e105)
          have p126 := p121.2.2.1
          rw [e123, e124] at p126
          have p127 := p121.2.2.2
          rw [e125] at p127
          refine g_if_eq C (iw f120 (by decide) (by decide)) 71 (by decide) dX3_readTest_64 (fun q128 => ?_) (fun q129 => ?_)
          · exact (no_eq f120 (il 0) q128 (by decide)).elim
          · refine g_iconst C dX3_readTest_67 ?_
            refine g_goto C 72 (by decide) dX3_readTest_68 ?_
            have e130 : Tg h115 v1 = 2006 := (fxT F119 e113)
            exact g_iret C hr (nar_z2 (iw (il 1) (by decide) (by decide))).1 (iw (il 1) (by decide) (by decide)) ⟨O118, (((((((Fx.rf (wr := wr_k_readTest_2)).call F19 rfl).call F42 rfl).call F53 rfl).call F73 rfl).call F93 rfl).call F119 rfl), (iw (il 1) (by decide) (by decide)), (by unfold RInv; rw [e122, e123, e124, e125]; exact ⟨e130, p121.2.1, p126, p127⟩)⟩ (by decide) (by decide) dX3_readTest_72
      · have f131 : (1 : Int) ≤ r48 ∧ r48 ≤ (1 : Int) := r_nl f54 q56
        refine g_bipush C (by decide) dX3_readTest_39 ?_
        refine g_goto C 46 (by decide) dX3_readTest_41 ?_
        refine g_istore_n C [(2, .inl (-23)), (0, .inr (.inr a0)), (1, .inl a1)] rfl (by decide) rfl dX3_readTest_46 ?_
        refine g_aload_n C rfl 1 rfl dX3_readTest_47 ?_
        have e132 : Tg h49 a0 = 4 := (fxT F53 e47)
        have e133 : Rv h49 a0 13 = v1 := ((fxR F53 e47 rfl).trans ((fxR F42 e25 rfl).trans e22))
        have e134 : Iv h49 a0 4 = v23 := ((fxI F53 e47 rfl).trans ((fxI F42 e25 rfl).trans e24))
        have e135 : Jv h49 a0 5 = v27 := ((fxJ F53 e47 rfl).trans ((fxJ F42 e25 rfl).trans e28))
        have e136 : Rv h49 a0 6 = v30 := ((fxR F53 e47 rfl).trans ((fxR F42 e25 rfl).trans e31))
        have e137 : Tg h49 v1 = 2006 := (fxT F53 (fxT F42 (fxT F19 t3)))
        have e138 : Tg h15 v1 = 2006 := (fxT F19 t3)
        have e139 : Rv h38 a0 13 = v1 := ((fxR F42 e25 rfl).trans e22)
        have e140 : Tg h38 v1 = 2006 := (fxT F42 e138)
        have p141 := (DOk_fx O41 F53 e47 (by rw [e139]; exact e140) rfl (DOk_fx O18 F42 e25 (by rw [e22]; exact e138) rfl p21.2.1))
        refine g_callV (st := []) (gc_V C lk_LandSurvey_Reader_46 (k_X3_advance l D cy w z0 O52 e132 (by unfold RInv; rw [e133, e134, e135, e136]; exact ⟨e137, p141, p32, p33⟩)) e132 rfl rfl rfl ⟨by decide, by decide⟩ (Nat.le_of_ble_eq_true rfl) dX3_readTest_48 ⟨(by decide), (by decide)⟩) (fun h143 K144 => ?_)
        obtain ⟨O146, F147, p148⟩ := K144
        have e149 : Rv h143 a0 13 = v1 := ((fxR F147 e132 rfl).trans e133)
        obtain ⟨v150, e151⟩ : ∃ z, Iv h143 a0 4 = z := ⟨_, rfl⟩
        have e152 : Tg h143 a0 = 4 := (fxT F147 e132)
        have f153 := ok_I O146 e152 rI_4_4 e151
        obtain ⟨v154, e155⟩ : ∃ z, Jv h143 a0 5 = z := ⟨_, rfl⟩
        have f156 := inL_J O146 e155
        obtain ⟨v157, e158⟩ : ∃ z, Rv h143 a0 6 = z := ⟨_, rfl⟩
        have p159 := p148.2.2.1
        rw [e151, e155] at p159
        have p160 := p148.2.2.2
        rw [e158] at p160
        refine g_aload_n C rfl 1 rfl dX3_readTest_51 ?_
        refine g_iload_n C rfl 2 rfl dX3_readTest_52 ?_
        have e161 : Tg h143 v1 = 2006 := (fxT F147 e137)
        refine g_callI (st := []) (gc_V C lk_LandSurvey_Reader_247 (k_readSum_2 l D cy w z0 O146 e152 fa1 (by unfold RInv; rw [e149, e151, e155, e158]; exact ⟨e161, p148.2.1, p159, p160⟩)) e152 rfl rfl rfl ⟨by decide, by decide⟩ (Nat.le_of_ble_eq_true rfl) dX3_readTest_53 ⟨(by decide), (by decide)⟩) (fun r162 h163 f165 K164 => ?_)
        obtain ⟨O166, F167, f168, p169⟩ := K164
        have e170 : Rv h163 a0 13 = v1 := ((fxR F167 e152 rfl).trans e149)
        obtain ⟨v171, e172⟩ : ∃ z, Iv h163 a0 4 = z := ⟨_, rfl⟩
        have e173 : Tg h163 a0 = 4 := (fxT F167 e152)
        have f174 := ok_I O166 e173 rI_4_4 e172
        obtain ⟨v175, e176⟩ : ∃ z, Jv h163 a0 5 = z := ⟨_, rfl⟩
        have f177 := inL_J O166 e176
        obtain ⟨v178, e179⟩ : ∃ z, Rv h163 a0 6 = z := ⟨_, rfl⟩
        have p180 := p169.2.2.1
        rw [e172, e176] at p180
        have p181 := p169.2.2.2
        rw [e179] at p181
        refine g_if_eq C (iw f168 (by decide) (by decide)) 71 (by decide) dX3_readTest_56 (fun q182 => ?_) (fun q183 => ?_)
        · have f184 : (0 : Int) ≤ r162 ∧ r162 ≤ (0 : Int) := ii f168 (r_eq (il 0) q182) (by decide) (by decide)
          refine g_iconst C dX3_readTest_71 ?_
          have e185 : Tg h163 v1 = 2006 := (fxT F167 e161)
          exact g_iret C hr (nar_z2 (iw (il 0) (by decide) (by decide))).1 (iw (il 0) (by decide) (by decide)) ⟨O166, ((((((Fx.rf (wr := wr_k_readTest_2)).call F19 rfl).call F42 rfl).call F53 rfl).call F147 rfl).call F167 rfl), (iw (il 0) (by decide) (by decide)), (by unfold RInv; rw [e170, e172, e176, e179]; exact ⟨e185, p169.2.1, p180, p181⟩)⟩ (by decide) (by decide) dX3_readTest_72
        · have f186 : (1 : Int) ≤ r162 ∧ r162 ≤ (1 : Int) := r_nl f168 q183
          refine g_aload_n C rfl 1 rfl dX3_readTest_59 ?_
          refine g_iload_n C rfl 0 rfl dX3_readTest_60 ?_
          have e187 : Tg h163 v1 = 2006 := (fxT F167 e161)
          refine g_callI (st := []) (gc_V C lk_LandSurvey_Reader_244 (k_X3_emit l D cy w z0 O166 e173 (iw (il (-23)) (by decide) (by decide)) (by unfold RInv; rw [e170, e172, e176, e179]; exact ⟨e187, p169.2.1, p180, p181⟩) (by omega)) e173 rfl rfl rfl ⟨by decide, by decide⟩ (Nat.le_of_ble_eq_true rfl) dX3_readTest_61 ⟨(by decide), (by decide)⟩) (fun r188 h189 f191 K190 => ?_)
          obtain ⟨O192, F193, f194, p195⟩ := K190
          have e196 : Rv h189 a0 13 = v1 := ((fxR F193 e173 rfl).trans e170)
          have e197 : Iv h189 a0 4 = v171 := ((fxI F193 e173 rfl).trans e172)
          have e198 : Jv h189 a0 5 = v175 := ((fxJ F193 e173 rfl).trans e176)
          have e199 : Rv h189 a0 6 = v178 := ((fxR F193 e173 rfl).trans e179)
          have p200 := p195.2.2.1
          rw [e197, e198] at p200
          have p201 := p195.2.2.2
          rw [e199] at p201
          refine g_if_eq C (iw f194 (by decide) (by decide)) 71 (by decide) dX3_readTest_64 (fun q202 => ?_) (fun q203 => ?_)
          · exact (no_eq f194 (il 0) q202 (by decide)).elim
          · refine g_iconst C dX3_readTest_67 ?_
            refine g_goto C 72 (by decide) dX3_readTest_68 ?_
            have e204 : Tg h189 v1 = 2006 := (fxT F193 e187)
            exact g_iret C hr (nar_z2 (iw (il 1) (by decide) (by decide))).1 (iw (il 1) (by decide) (by decide)) ⟨O192, (((((((Fx.rf (wr := wr_k_readTest_2)).call F19 rfl).call F42 rfl).call F53 rfl).call F147 rfl).call F167 rfl).call F193 rfl), (iw (il 1) (by decide) (by decide)), (by unfold RInv; rw [e196, e197, e198, e199]; exact ⟨e204, p195.2.1, p200, p201⟩)⟩ (by decide) (by decide) dX3_readTest_72
    · have f205 : (0 : Int) ≤ r37 ∧ r37 ≤ (0 : Int) := ii f43 (r_eq (il 0) q45) (by decide) (by decide)
      refine g_aload_n C rfl 0 rfl dX3_readTest_19 ?_
      refine g_bipush C (by decide) dX3_readTest_20 ?_
      have e206 : Tg h38 a0 = 4 := (fxT F42 e25)
      refine g_callI (st := []) (gc_V C lk_LandSurvey_Reader_95 (k_X3_isNext l D cy w z0 O41 e206 (iw (il 61) (by decide) (by decide))) e206 rfl rfl rfl ⟨by decide, by decide⟩ (Nat.le_of_ble_eq_true rfl) dX3_readTest_22 ⟨(by decide), (by decide)⟩) (fun r207 h208 f210 K209 => ?_)
      obtain ⟨O211, F212, f213⟩ := K209
      refine g_if_ne C (iw f213 (by decide) (by decide)) 30 (by decide) dX3_readTest_25 (fun q214 => ?_) (fun q215 => ?_)
      · have f216 : (1 : Int) ≤ r207 ∧ r207 ≤ (1 : Int) := r_nl f213 q214
        refine g_aload_n C rfl 0 rfl dX3_readTest_30 ?_
        refine g_bipush C (by decide) dX3_readTest_31 ?_
        have e217 : Tg h208 a0 = 4 := (fxT F212 e206)
        refine g_callI (st := []) (gc_V C lk_LandSurvey_Reader_95 (k_X3_isNext l D cy w z0 O211 e217 (iw (il 60) (by decide) (by decide))) e217 rfl rfl rfl ⟨by decide, by decide⟩ (Nat.le_of_ble_eq_true rfl) dX3_readTest_33 ⟨(by decide), (by decide)⟩) (fun r218 h219 f221 K220 => ?_)
        obtain ⟨O222, F223, f224⟩ := K220
        refine g_if_eq C (iw f224 (by decide) (by decide)) 44 (by decide) dX3_readTest_36 (fun q225 => ?_) (fun q226 => ?_)
        · have f227 : (0 : Int) ≤ r218 ∧ r218 ≤ (0 : Int) := ii f224 (r_eq (il 0) q225) (by decide) (by decide)
          refine g_bipush C (by decide) dX3_readTest_44 ?_
          refine g_istore_n C [(2, .inl (-24)), (0, .inr (.inr a0)), (1, .inl a1)] rfl (by decide) rfl dX3_readTest_46 ?_
          refine g_aload_n C rfl 1 rfl dX3_readTest_47 ?_
          have e228 : Tg h219 a0 = 4 := (fxT F223 e217)
          have e229 : Rv h219 a0 13 = v1 := ((fxR F223 e217 rfl).trans ((fxR F212 e206 rfl).trans ((fxR F42 e25 rfl).trans e22)))
          have e230 : Iv h219 a0 4 = v23 := ((fxI F223 e217 rfl).trans ((fxI F212 e206 rfl).trans ((fxI F42 e25 rfl).trans e24)))
          have e231 : Jv h219 a0 5 = v27 := ((fxJ F223 e217 rfl).trans ((fxJ F212 e206 rfl).trans ((fxJ F42 e25 rfl).trans e28)))
          have e232 : Rv h219 a0 6 = v30 := ((fxR F223 e217 rfl).trans ((fxR F212 e206 rfl).trans ((fxR F42 e25 rfl).trans e31)))
          have e233 : Tg h219 v1 = 2006 := (fxT F223 (fxT F212 (fxT F42 (fxT F19 t3))))
          have e234 : Tg h15 v1 = 2006 := (fxT F19 t3)
          have e235 : Rv h38 a0 13 = v1 := ((fxR F42 e25 rfl).trans e22)
          have e236 : Tg h38 v1 = 2006 := (fxT F42 e234)
          have e237 : Rv h208 a0 13 = v1 := ((fxR F212 e206 rfl).trans e235)
          have e238 : Tg h208 v1 = 2006 := (fxT F212 e236)
          have p239 := (DOk_fx O211 F223 e217 (by rw [e237]; exact e238) rfl (DOk_fx O41 F212 e206 (by rw [e235]; exact e236) rfl (DOk_fx O18 F42 e25 (by rw [e22]; exact e234) rfl p21.2.1)))
          refine g_callV (st := []) (gc_V C lk_LandSurvey_Reader_46 (k_X3_advance l D cy w z0 O222 e228 (by unfold RInv; rw [e229, e230, e231, e232]; exact ⟨e233, p239, p32, p33⟩)) e228 rfl rfl rfl ⟨by decide, by decide⟩ (Nat.le_of_ble_eq_true rfl) dX3_readTest_48 ⟨(by decide), (by decide)⟩) (fun h241 K242 => ?_)
          obtain ⟨O244, F245, p246⟩ := K242
          have e247 : Rv h241 a0 13 = v1 := ((fxR F245 e228 rfl).trans e229)
          obtain ⟨v248, e249⟩ : ∃ z, Iv h241 a0 4 = z := ⟨_, rfl⟩
          have e250 : Tg h241 a0 = 4 := (fxT F245 e228)
          have f251 := ok_I O244 e250 rI_4_4 e249
          obtain ⟨v252, e253⟩ : ∃ z, Jv h241 a0 5 = z := ⟨_, rfl⟩
          have f254 := inL_J O244 e253
          obtain ⟨v255, e256⟩ : ∃ z, Rv h241 a0 6 = z := ⟨_, rfl⟩
          have p257 := p246.2.2.1
          rw [e249, e253] at p257
          have p258 := p246.2.2.2
          rw [e256] at p258
          refine g_aload_n C rfl 1 rfl dX3_readTest_51 ?_
          refine g_iload_n C rfl 2 rfl dX3_readTest_52 ?_
          have e259 : Tg h241 v1 = 2006 := (fxT F245 e233)
          refine g_callI (st := []) (gc_V C lk_LandSurvey_Reader_247 (k_readSum_2 l D cy w z0 O244 e250 fa1 (by unfold RInv; rw [e247, e249, e253, e256]; exact ⟨e259, p246.2.1, p257, p258⟩)) e250 rfl rfl rfl ⟨by decide, by decide⟩ (Nat.le_of_ble_eq_true rfl) dX3_readTest_53 ⟨(by decide), (by decide)⟩) (fun r260 h261 f263 K262 => ?_)
          obtain ⟨O264, F265, f266, p267⟩ := K262
          have e268 : Rv h261 a0 13 = v1 := ((fxR F265 e250 rfl).trans e247)
          obtain ⟨v269, e270⟩ : ∃ z, Iv h261 a0 4 = z := ⟨_, rfl⟩
          have e271 : Tg h261 a0 = 4 := (fxT F265 e250)
          have f272 := ok_I O264 e271 rI_4_4 e270
          obtain ⟨v273, e274⟩ : ∃ z, Jv h261 a0 5 = z := ⟨_, rfl⟩
          have f275 := inL_J O264 e274
          obtain ⟨v276, e277⟩ : ∃ z, Rv h261 a0 6 = z := ⟨_, rfl⟩
          have p278 := p267.2.2.1
          rw [e270, e274] at p278
          have p279 := p267.2.2.2
          rw [e277] at p279
          refine g_if_eq C (iw f266 (by decide) (by decide)) 71 (by decide) dX3_readTest_56 (fun q280 => ?_) (fun q281 => ?_)
          · have f282 : (0 : Int) ≤ r260 ∧ r260 ≤ (0 : Int) := ii f266 (r_eq (il 0) q280) (by decide) (by decide)
            refine g_iconst C dX3_readTest_71 ?_
            have e283 : Tg h261 v1 = 2006 := (fxT F265 e259)
            exact g_iret C hr (nar_z2 (iw (il 0) (by decide) (by decide))).1 (iw (il 0) (by decide) (by decide)) ⟨O264, (((((((Fx.rf (wr := wr_k_readTest_2)).call F19 rfl).call F42 rfl).call F212 rfl).call F223 rfl).call F245 rfl).call F265 rfl), (iw (il 0) (by decide) (by decide)), (by unfold RInv; rw [e268, e270, e274, e277]; exact ⟨e283, p267.2.1, p278, p279⟩)⟩ (by decide) (by decide) dX3_readTest_72
          · have f284 : (1 : Int) ≤ r260 ∧ r260 ≤ (1 : Int) := r_nl f266 q281
            refine g_aload_n C rfl 1 rfl dX3_readTest_59 ?_
            refine g_iload_n C rfl 0 rfl dX3_readTest_60 ?_
            have e285 : Tg h261 v1 = 2006 := (fxT F265 e259)
            refine g_callI (st := []) (gc_V C lk_LandSurvey_Reader_244 (k_X3_emit l D cy w z0 O264 e271 (iw (il (-24)) (by decide) (by decide)) (by unfold RInv; rw [e268, e270, e274, e277]; exact ⟨e285, p267.2.1, p278, p279⟩) (by omega)) e271 rfl rfl rfl ⟨by decide, by decide⟩ (Nat.le_of_ble_eq_true rfl) dX3_readTest_61 ⟨(by decide), (by decide)⟩) (fun r286 h287 f289 K288 => ?_)
            obtain ⟨O290, F291, f292, p293⟩ := K288
            have e294 : Rv h287 a0 13 = v1 := ((fxR F291 e271 rfl).trans e268)
            have e295 : Iv h287 a0 4 = v269 := ((fxI F291 e271 rfl).trans e270)
            have e296 : Jv h287 a0 5 = v273 := ((fxJ F291 e271 rfl).trans e274)
            have e297 : Rv h287 a0 6 = v276 := ((fxR F291 e271 rfl).trans e277)
            have p298 := p293.2.2.1
            rw [e295, e296] at p298
            have p299 := p293.2.2.2
            rw [e297] at p299
            refine g_if_eq C (iw f292 (by decide) (by decide)) 71 (by decide) dX3_readTest_64 (fun q300 => ?_) (fun q301 => ?_)
            · exact (no_eq f292 (il 0) q300 (by decide)).elim
            · refine g_iconst C dX3_readTest_67 ?_
              refine g_goto C 72 (by decide) dX3_readTest_68 ?_
              have e302 : Tg h287 v1 = 2006 := (fxT F291 e285)
              exact g_iret C hr (nar_z2 (iw (il 1) (by decide) (by decide))).1 (iw (il 1) (by decide) (by decide)) ⟨O290, ((((((((Fx.rf (wr := wr_k_readTest_2)).call F19 rfl).call F42 rfl).call F212 rfl).call F223 rfl).call F245 rfl).call F265 rfl).call F291 rfl), (iw (il 1) (by decide) (by decide)), (by unfold RInv; rw [e294, e295, e296, e297]; exact ⟨e302, p293.2.1, p298, p299⟩)⟩ (by decide) (by decide) dX3_readTest_72
        · have f303 : (1 : Int) ≤ r218 ∧ r218 ≤ (1 : Int) := r_nl f224 q226
          refine g_bipush C (by decide) dX3_readTest_39 ?_
          refine g_goto C 46 (by decide) dX3_readTest_41 ?_
          refine g_istore_n C [(2, .inl (-23)), (0, .inr (.inr a0)), (1, .inl a1)] rfl (by decide) rfl dX3_readTest_46 ?_
          refine g_aload_n C rfl 1 rfl dX3_readTest_47 ?_
          have e304 : Tg h219 a0 = 4 := (fxT F223 e217)
          have e305 : Rv h219 a0 13 = v1 := ((fxR F223 e217 rfl).trans ((fxR F212 e206 rfl).trans ((fxR F42 e25 rfl).trans e22)))
          have e306 : Iv h219 a0 4 = v23 := ((fxI F223 e217 rfl).trans ((fxI F212 e206 rfl).trans ((fxI F42 e25 rfl).trans e24)))
          have e307 : Jv h219 a0 5 = v27 := ((fxJ F223 e217 rfl).trans ((fxJ F212 e206 rfl).trans ((fxJ F42 e25 rfl).trans e28)))
          have e308 : Rv h219 a0 6 = v30 := ((fxR F223 e217 rfl).trans ((fxR F212 e206 rfl).trans ((fxR F42 e25 rfl).trans e31)))
          have e309 : Tg h219 v1 = 2006 := (fxT F223 (fxT F212 (fxT F42 (fxT F19 t3))))
          have e310 : Tg h15 v1 = 2006 := (fxT F19 t3)
          have e311 : Rv h38 a0 13 = v1 := ((fxR F42 e25 rfl).trans e22)
          have e312 : Tg h38 v1 = 2006 := (fxT F42 e310)
          have e313 : Rv h208 a0 13 = v1 := ((fxR F212 e206 rfl).trans e311)
          have e314 : Tg h208 v1 = 2006 := (fxT F212 e312)
          have p315 := (DOk_fx O211 F223 e217 (by rw [e313]; exact e314) rfl (DOk_fx O41 F212 e206 (by rw [e311]; exact e312) rfl (DOk_fx O18 F42 e25 (by rw [e22]; exact e310) rfl p21.2.1)))
          refine g_callV (st := []) (gc_V C lk_LandSurvey_Reader_46 (k_X3_advance l D cy w z0 O222 e304 (by unfold RInv; rw [e305, e306, e307, e308]; exact ⟨e309, p315, p32, p33⟩)) e304 rfl rfl rfl ⟨by decide, by decide⟩ (Nat.le_of_ble_eq_true rfl) dX3_readTest_48 ⟨(by decide), (by decide)⟩) (fun h317 K318 => ?_)
          obtain ⟨O320, F321, p322⟩ := K318
          have e323 : Rv h317 a0 13 = v1 := ((fxR F321 e304 rfl).trans e305)
          obtain ⟨v324, e325⟩ : ∃ z, Iv h317 a0 4 = z := ⟨_, rfl⟩
          have e326 : Tg h317 a0 = 4 := (fxT F321 e304)
          have f327 := ok_I O320 e326 rI_4_4 e325
          obtain ⟨v328, e329⟩ : ∃ z, Jv h317 a0 5 = z := ⟨_, rfl⟩
          have f330 := inL_J O320 e329
          obtain ⟨v331, e332⟩ : ∃ z, Rv h317 a0 6 = z := ⟨_, rfl⟩
          have p333 := p322.2.2.1
          rw [e325, e329] at p333
          have p334 := p322.2.2.2
          rw [e332] at p334
          refine g_aload_n C rfl 1 rfl dX3_readTest_51 ?_
          refine g_iload_n C rfl 2 rfl dX3_readTest_52 ?_
          have e335 : Tg h317 v1 = 2006 := (fxT F321 e309)
          refine g_callI (st := []) (gc_V C lk_LandSurvey_Reader_247 (k_readSum_2 l D cy w z0 O320 e326 fa1 (by unfold RInv; rw [e323, e325, e329, e332]; exact ⟨e335, p322.2.1, p333, p334⟩)) e326 rfl rfl rfl ⟨by decide, by decide⟩ (Nat.le_of_ble_eq_true rfl) dX3_readTest_53 ⟨(by decide), (by decide)⟩) (fun r336 h337 f339 K338 => ?_)
          obtain ⟨O340, F341, f342, p343⟩ := K338
          have e344 : Rv h337 a0 13 = v1 := ((fxR F341 e326 rfl).trans e323)
          obtain ⟨v345, e346⟩ : ∃ z, Iv h337 a0 4 = z := ⟨_, rfl⟩
          have e347 : Tg h337 a0 = 4 := (fxT F341 e326)
          have f348 := ok_I O340 e347 rI_4_4 e346
          obtain ⟨v349, e350⟩ : ∃ z, Jv h337 a0 5 = z := ⟨_, rfl⟩
          have f351 := inL_J O340 e350
          obtain ⟨v352, e353⟩ : ∃ z, Rv h337 a0 6 = z := ⟨_, rfl⟩
          have p354 := p343.2.2.1
          rw [e346, e350] at p354
          have p355 := p343.2.2.2
          rw [e353] at p355
          refine g_if_eq C (iw f342 (by decide) (by decide)) 71 (by decide) dX3_readTest_56 (fun q356 => ?_) (fun q357 => ?_)
          · have f358 : (0 : Int) ≤ r336 ∧ r336 ≤ (0 : Int) := ii f342 (r_eq (il 0) q356) (by decide) (by decide)
            refine g_iconst C dX3_readTest_71 ?_
            have e359 : Tg h337 v1 = 2006 := (fxT F341 e335)
            exact g_iret C hr (nar_z2 (iw (il 0) (by decide) (by decide))).1 (iw (il 0) (by decide) (by decide)) ⟨O340, (((((((Fx.rf (wr := wr_k_readTest_2)).call F19 rfl).call F42 rfl).call F212 rfl).call F223 rfl).call F321 rfl).call F341 rfl), (iw (il 0) (by decide) (by decide)), (by unfold RInv; rw [e344, e346, e350, e353]; exact ⟨e359, p343.2.1, p354, p355⟩)⟩ (by decide) (by decide) dX3_readTest_72
          · have f360 : (1 : Int) ≤ r336 ∧ r336 ≤ (1 : Int) := r_nl f342 q357
            refine g_aload_n C rfl 1 rfl dX3_readTest_59 ?_
            refine g_iload_n C rfl 0 rfl dX3_readTest_60 ?_
            have e361 : Tg h337 v1 = 2006 := (fxT F341 e335)
            refine g_callI (st := []) (gc_V C lk_LandSurvey_Reader_244 (k_X3_emit l D cy w z0 O340 e347 (iw (il (-23)) (by decide) (by decide)) (by unfold RInv; rw [e344, e346, e350, e353]; exact ⟨e361, p343.2.1, p354, p355⟩) (by omega)) e347 rfl rfl rfl ⟨by decide, by decide⟩ (Nat.le_of_ble_eq_true rfl) dX3_readTest_61 ⟨(by decide), (by decide)⟩) (fun r362 h363 f365 K364 => ?_)
            obtain ⟨O366, F367, f368, p369⟩ := K364
            have e370 : Rv h363 a0 13 = v1 := ((fxR F367 e347 rfl).trans e344)
            have e371 : Iv h363 a0 4 = v345 := ((fxI F367 e347 rfl).trans e346)
            have e372 : Jv h363 a0 5 = v349 := ((fxJ F367 e347 rfl).trans e350)
            have e373 : Rv h363 a0 6 = v352 := ((fxR F367 e347 rfl).trans e353)
            have p374 := p369.2.2.1
            rw [e371, e372] at p374
            have p375 := p369.2.2.2
            rw [e373] at p375
            refine g_if_eq C (iw f368 (by decide) (by decide)) 71 (by decide) dX3_readTest_64 (fun q376 => ?_) (fun q377 => ?_)
            · exact (no_eq f368 (il 0) q376 (by decide)).elim
            · refine g_iconst C dX3_readTest_67 ?_
              refine g_goto C 72 (by decide) dX3_readTest_68 ?_
              have e378 : Tg h363 v1 = 2006 := (fxT F367 e361)
              exact g_iret C hr (nar_z2 (iw (il 1) (by decide) (by decide))).1 (iw (il 1) (by decide) (by decide)) ⟨O366, ((((((((Fx.rf (wr := wr_k_readTest_2)).call F19 rfl).call F42 rfl).call F212 rfl).call F223 rfl).call F321 rfl).call F341 rfl).call F367 rfl), (iw (il 1) (by decide) (by decide)), (by unfold RInv; rw [e370, e371, e372, e373]; exact ⟨e378, p369.2.1, p374, p375⟩)⟩ (by decide) (by decide) dX3_readTest_72
      · have f379 : (0 : Int) ≤ r207 ∧ r207 ≤ (0 : Int) := ii f213 (r_eq (il 0) q215) (by decide) (by decide)
        refine g_iconst C dX3_readTest_28 ?_
        have e380 : Rv h208 a0 13 = v1 := ((fxR F212 e206 rfl).trans ((fxR F42 e25 rfl).trans e22))
        have e381 : Iv h208 a0 4 = v23 := ((fxI F212 e206 rfl).trans ((fxI F42 e25 rfl).trans e24))
        have e382 : Jv h208 a0 5 = v27 := ((fxJ F212 e206 rfl).trans ((fxJ F42 e25 rfl).trans e28))
        have e383 : Rv h208 a0 6 = v30 := ((fxR F212 e206 rfl).trans ((fxR F42 e25 rfl).trans e31))
        have e384 : Tg h208 v1 = 2006 := (fxT F212 (fxT F42 (fxT F19 t3)))
        have e385 : Tg h15 v1 = 2006 := (fxT F19 t3)
        have e386 : Rv h38 a0 13 = v1 := ((fxR F42 e25 rfl).trans e22)
        have e387 : Tg h38 v1 = 2006 := (fxT F42 e385)
        have p388 := (DOk_fx O41 F212 e206 (by rw [e386]; exact e387) rfl (DOk_fx O18 F42 e25 (by rw [e22]; exact e385) rfl p21.2.1))
        exact g_iret C hr (nar_z2 (iw (il 1) (by decide) (by decide))).1 (iw (il 1) (by decide) (by decide)) ⟨O211, ((((Fx.rf (wr := wr_k_readTest_2)).call F19 rfl).call F42 rfl).call F212 rfl), (iw (il 1) (by decide) (by decide)), (by unfold RInv; rw [e380, e381, e382, e383]; exact ⟨e384, p388, p32, p33⟩)⟩ (by decide) (by decide) dX3_readTest_29
  · have f389 : (0 : Int) ≤ r14 ∧ r14 ≤ (0 : Int) := ii f20 (r_eq (il 0) q35) (by decide) (by decide)
    refine g_iconst C dX3_readTest_8 ?_
    have e390 : Tg h15 v1 = 2006 := (fxT F19 t3)
    exact g_iret C hr (nar_z2 (iw (il 0) (by decide) (by decide))).1 (iw (il 0) (by decide) (by decide)) ⟨O18, ((Fx.rf (wr := wr_k_readTest_2)).call F19 rfl), (iw (il 0) (by decide) (by decide)), (by unfold RInv; rw [e22, e24, e28, e31]; exact ⟨e390, p21.2.1, p32, p33⟩)⟩ (by decide) (by decide) dX3_readTest_9
def wr_k_readTests_2 : List Nat := [802, 803, 804, 805, 806, 807, 812, 4020000]
set_option maxRecDepth 100000 in
set_option maxHeartbeats 4000000 in
theorem k_readTests_2 (l : Launch) (D : va_G) (cy : Nat → ClassId) (w : Nat → Nat) (z0 : Nat)  {h : Hp} {a0 : Nat} {a1 : Int}  (O : Okh h) (ta0 : Tg h a0 = 4) (fa1 : 2 ≤ a1 ∧ a1 ≤ 2) (P_RInv : RInv w h a0) : MI l D cy w z0 yX3_readTests cX3_readTests 4 (some .boolean) 17 383 0 0 [.inr (.inr a0), .inl a1] h (fun v h1 => Okh h1 ∧ Fx wr_k_readTests_2 h h1 ∧ (0 ≤ v ∧ v ≤ 1) ∧ (RInv w h1 a0)) := by
  obtain ⟨v1, e2⟩ : ∃ z, Rv h a0 13 = z := ⟨_, rfl⟩
  have t3 := P_RInv.1
  rw [e2] at t3
  obtain ⟨v4, e5⟩ : ∃ z, Iv h a0 4 = z := ⟨_, rfl⟩
  have f6 := ok_I O ta0 rI_4_4 e5
  obtain ⟨v7, e8⟩ : ∃ z, Jv h a0 5 = z := ⟨_, rfl⟩
  have f9 := inL_J O e8
  obtain ⟨v10, e11⟩ : ∃ z, Rv h a0 6 = z := ⟨_, rfl⟩
  have p12 := P_RInv.2.2.1
  rw [e5, e8] at p12
  have p13 := P_RInv.2.2.2
  rw [e11] at p13
  refine hm_go (by decide +kernel) (Nat.le_of_ble_eq_true rfl) (fun p e s m below meth c C hr hn => ?_)
  refine g_aload_n C rfl 0 rfl dX3_readTests_0 ?_
  refine g_iload_n C rfl 1 rfl dX3_readTests_1 ?_
  refine g_callI (st := []) (gc_V C lk_LandSurvey_Reader_235 (k_readTest_2 l D cy w z0 O ta0 fa1 (by unfold RInv; rw [e2, e5, e8, e11]; exact ⟨t3, P_RInv.2.1, p12, p13⟩)) ta0 rfl rfl rfl ⟨by decide, by decide⟩ (Nat.le_of_ble_eq_true rfl) dX3_readTests_2 ⟨(by decide), (by decide)⟩) (fun r14 h15 f17 K16 => ?_)
  obtain ⟨O18, F19, f20, p21⟩ := K16
  have e22 : Rv h15 a0 13 = v1 := ((fxR F19 ta0 rfl).trans e2)
  obtain ⟨v23, e24⟩ : ∃ z, Iv h15 a0 4 = z := ⟨_, rfl⟩
  have e25 : Tg h15 a0 = 4 := (fxT F19 ta0)
  have f26 := ok_I O18 e25 rI_4_4 e24
  obtain ⟨v27, e28⟩ : ∃ z, Jv h15 a0 5 = z := ⟨_, rfl⟩
  have f29 := inL_J O18 e28
  obtain ⟨v30, e31⟩ : ∃ z, Rv h15 a0 6 = z := ⟨_, rfl⟩
  have p32 := p21.2.2.1
  rw [e24, e28] at p32
  have p33 := p21.2.2.2
  rw [e31] at p33
  refine g_if_ne C (iw f20 (by decide) (by decide)) 10 (by decide) dX3_readTests_5 (fun q34 => ?_) (fun q35 => ?_)
  · have f36 : (1 : Int) ≤ r14 ∧ r14 ≤ (1 : Int) := r_nl f20 q34
    refine g_iconst C dX3_readTests_10 ?_
    refine g_istore_n C [(2, .inl 0), (0, .inr (.inr a0)), (1, .inl a1)] rfl (by decide) rfl dX3_readTests_11 ?_
    refine GW.sub [1, 2, 0] rfl ?_
    -- loop at 12
    have L39 : ∀ (μ : Nat) (x37 : Int) (h38 : Hp), (1501 - x37).toNat = μ → Okh h38 → Fx [802, 803, 804, 805, 806, 807, 812, 4020000] h15 h38 → ((0 : Int) ≤ x37 ∧ x37 ≤ (1501 : Int)) → (RInv w h38 a0) → GW p l e (rmm 17 383 0 0) s m (List.map toV [.inr (.inr a0), .inl a1]).toArray below meth c D cy z0 4 (MQ below (QI D cy z0 (fun v h1 => Okh h1 ∧ Fx wr_k_readTests_2 h h1 ∧ (0 ≤ v ∧ v ≤ 1) ∧ (RInv w h1 a0))) (List.map toV [.inr (.inr a0), .inl a1]).toArray s 0 0 (Aof z0)) 12 [(0, .inr (.inr a0)), (1, .inl a1), (2, .inl x37)] [] h38 0 0 := by
      intro μ
      induction μ using Nat.strongRecOn with
      | ind μ ih40 =>
        intro x37 h38 hm41 O42 F43 f44 p45
        have e46 : Rv h38 a0 13 = v1 := ((fxR F43 e25 rfl).trans e22)
        obtain ⟨v47, e48⟩ : ∃ z, Iv h38 a0 4 = z := ⟨_, rfl⟩
        have e49 : Tg h38 a0 = 4 := (fxT F43 e25)
        have f50 := ok_I O42 e49 rI_4_4 e48
        obtain ⟨v51, e52⟩ : ∃ z, Jv h38 a0 5 = z := ⟨_, rfl⟩
        have f53 := inL_J O42 e52
        obtain ⟨v54, e55⟩ : ∃ z, Rv h38 a0 6 = z := ⟨_, rfl⟩
        have p56 := p45.2.2.1
        rw [e48, e52] at p56
        have p57 := p45.2.2.2
        rw [e55] at p57
        refine g_iload_n C rfl 2 rfl dX3_readTests_12 ?_
        refine g_sipush C (by decide) dX3_readTests_13 ?_
        refine g_icmp_gt C (iw f44 (by decide) (by decide)) (iw (il 1500) (by decide) (by decide)) 85 (by decide) dX3_readTests_16 (fun q58 => ?_) (fun q59 => ?_)
        · have f60 : (1501 : Int) ≤ x37 ∧ x37 ≤ (1501 : Int) := r_gt f44 (il 1500) q58 (by decide) (by decide)
          refine g_iconst C dX3_readTests_85 ?_
          have e61 : Tg h38 v1 = 2006 := (fxT F43 (fxT F19 t3))
          exact g_iret C hr (nar_z2 (iw (il 1) (by decide) (by decide))).1 (iw (il 1) (by decide) (by decide)) ⟨O42, (((Fx.rf (wr := wr_k_readTests_2)).call F19 rfl).call F43 rfl), (iw (il 1) (by decide) (by decide)), (by unfold RInv; rw [e46, e48, e52, e55]; exact ⟨e61, p45.2.1, p56, p57⟩)⟩ (by decide) (by decide) dX3_readTests_86
        · have f62 : (0 : Int) ≤ x37 ∧ x37 ≤ (1500 : Int) := r_le f44 (il 1500) q59 (by decide) (by decide)
          refine g_aload_n C rfl 0 rfl dX3_readTests_19 ?_
          refine gf_R C fk_LandSurvey_Reader_69 rfl e49 e55 dX3_readTests_20 ?_
          refine g_gets (x := .inr (.inr (w 15 + 1))) C (C.2.2.2.2.2.2.1.1 15 (by decide)).1 kw_845 dX3_readTests_23 ?_
          refine g_acmp_eq C 39 (by decide) dX3_readTests_26 (fun q63 => ?_) (fun q64 => ?_)
          · refine g_aload_n C rfl 0 rfl dX3_readTests_39 ?_
            refine gf_R C fk_LandSurvey_Reader_69 rfl e49 e55 dX3_readTests_40 ?_
            refine g_gets (x := .inr (.inr (w 15 + 1))) C (C.2.2.2.2.2.2.1.1 15 (by decide)).1 kw_845 dX3_readTests_43 ?_
            refine g_acmp_ne C 54 (by decide) dX3_readTests_46 (fun q65 => ?_) (fun q66 => ?_)
            · refine g_bipush C (by decide) dX3_readTests_54 ?_
              refine g_istore_n C [(3, .inl (-26)), (0, .inr (.inr a0)), (1, .inl a1), (2, .inl x37)] rfl (by decide) rfl dX3_readTests_56 ?_
              refine g_aload_n C rfl 1 rfl dX3_readTests_57 ?_
              have e67 : Tg h38 v1 = 2006 := (fxT F43 (fxT F19 t3))
              refine g_callV (st := []) (gc_V C lk_LandSurvey_Reader_46 (k_X3_advance l D cy w z0 O42 e49 (by unfold RInv; rw [e46, e48, e52, e55]; exact ⟨e67, p45.2.1, p56, p57⟩)) e49 rfl rfl rfl ⟨by decide, by decide⟩ (Nat.le_of_ble_eq_true rfl) dX3_readTests_58 ⟨(by decide), (by decide)⟩) (fun h69 K70 => ?_)
              obtain ⟨O72, F73, p74⟩ := K70
              have e75 : Rv h69 a0 13 = v1 := ((fxR F73 e49 rfl).trans e46)
              obtain ⟨v76, e77⟩ : ∃ z, Iv h69 a0 4 = z := ⟨_, rfl⟩
              have e78 : Tg h69 a0 = 4 := (fxT F73 e49)
              have f79 := ok_I O72 e78 rI_4_4 e77
              obtain ⟨v80, e81⟩ : ∃ z, Jv h69 a0 5 = z := ⟨_, rfl⟩
              have f82 := inL_J O72 e81
              obtain ⟨v83, e84⟩ : ∃ z, Rv h69 a0 6 = z := ⟨_, rfl⟩
              have p85 := p74.2.2.1
              rw [e77, e81] at p85
              have p86 := p74.2.2.2
              rw [e84] at p86
              refine g_aload_n C rfl 1 rfl dX3_readTests_61 ?_
              refine g_iload_n C rfl 2 rfl dX3_readTests_62 ?_
              have e87 : Tg h69 v1 = 2006 := (fxT F73 e67)
              refine g_callI (st := []) (gc_V C lk_LandSurvey_Reader_235 (k_readTest_2 l D cy w z0 O72 e78 fa1 (by unfold RInv; rw [e75, e77, e81, e84]; exact ⟨e87, p74.2.1, p85, p86⟩)) e78 rfl rfl rfl ⟨by decide, by decide⟩ (Nat.le_of_ble_eq_true rfl) dX3_readTests_63 ⟨(by decide), (by decide)⟩) (fun r88 h89 f91 K90 => ?_)
              obtain ⟨O92, F93, f94, p95⟩ := K90
              have e96 : Rv h89 a0 13 = v1 := ((fxR F93 e78 rfl).trans e75)
              obtain ⟨v97, e98⟩ : ∃ z, Iv h89 a0 4 = z := ⟨_, rfl⟩
              have e99 : Tg h89 a0 = 4 := (fxT F93 e78)
              have f100 := ok_I O92 e99 rI_4_4 e98
              obtain ⟨v101, e102⟩ : ∃ z, Jv h89 a0 5 = z := ⟨_, rfl⟩
              have f103 := inL_J O92 e102
              obtain ⟨v104, e105⟩ : ∃ z, Rv h89 a0 6 = z := ⟨_, rfl⟩
              have p106 := p95.2.2.1
              rw [e98, e102] at p106
              have p107 := p95.2.2.2
              rw [e105] at p107
              refine g_if_eq C (iw f94 (by decide) (by decide)) 77 (by decide) dX3_readTests_66 (fun q108 => ?_) (fun q109 => ?_)
              · have f110 : (0 : Int) ≤ r88 ∧ r88 ≤ (0 : Int) := ii f94 (r_eq (il 0) q108) (by decide) (by decide)
                refine g_iconst C dX3_readTests_77 ?_
                have e111 : Tg h89 v1 = 2006 := (fxT F93 e87)
                exact g_iret C hr (nar_z2 (iw (il 0) (by decide) (by decide))).1 (iw (il 0) (by decide) (by decide)) ⟨O92, (((((Fx.rf (wr := wr_k_readTests_2)).call F19 rfl).call F43 rfl).call F73 rfl).call F93 rfl), (iw (il 0) (by decide) (by decide)), (by unfold RInv; rw [e96, e98, e102, e105]; exact ⟨e111, p95.2.1, p106, p107⟩)⟩ (by decide) (by decide) dX3_readTests_78
              · have f112 : (1 : Int) ≤ r88 ∧ r88 ≤ (1 : Int) := r_nl f94 q109
                refine g_aload_n C rfl 1 rfl dX3_readTests_69 ?_
                refine g_iload_n C rfl 0 rfl dX3_readTests_70 ?_
                have e113 : Tg h89 v1 = 2006 := (fxT F93 e87)
                refine g_callI (st := []) (gc_V C lk_LandSurvey_Reader_244 (k_X3_emit l D cy w z0 O92 e99 (iw (il (-26)) (by decide) (by decide)) (by unfold RInv; rw [e96, e98, e102, e105]; exact ⟨e113, p95.2.1, p106, p107⟩) (by omega)) e99 rfl rfl rfl ⟨by decide, by decide⟩ (Nat.le_of_ble_eq_true rfl) dX3_readTests_71 ⟨(by decide), (by decide)⟩) (fun r114 h115 f117 K116 => ?_)
                obtain ⟨O118, F119, f120, p121⟩ := K116
                have e122 : Rv h115 a0 13 = v1 := ((fxR F119 e99 rfl).trans e96)
                have e123 : Iv h115 a0 4 = v97 := ((fxI F119 e99 rfl).trans e98)
                have e124 : Jv h115 a0 5 = v101 := ((fxJ F119 e99 rfl).trans e102)
                have e125 : Rv h115 a0 6 = v104 := ((fxR F119 e99 rfl).trans e105)
                have p126 := p121.2.2.1
                rw [e123, e124] at p126
                have p127 := p121.2.2.2
                rw [e125] at p127
                refine g_if_ne C (iw f120 (by decide) (by decide)) 79 (by decide) dX3_readTests_74 (fun q128 => ?_) (fun q129 => ?_)
                · have f130 : (1 : Int) ≤ (x37 + 1) ∧ (x37 + 1) ≤ (1501 : Int) := ia_add f62 (il 1) (by decide) (by decide)
                  refine g_iinc C [(2, .inl (x37 + 1)), (3, .inl (-26)), (0, .inr (.inr a0)), (1, .inl a1)] 3 rfl (by decide) rfl dX3_readTests_79 ?_
                  refine g_goto C 12 (by decide) dX3_readTests_82 ?_
                  refine GW.sub [2, 3, 0] rfl ?_
                  have e131 : Tg h115 v1 = 2006 := (fxT F119 e113)
                  exact ih40 _ (by omega) (x37 + 1) h115 rfl O118 (((F43.call F73 rfl).call F93 rfl).call F119 rfl) (iw f130 (by decide) (by decide)) (by unfold RInv; rw [e122, e123, e124, e125]; exact ⟨e131, p121.2.1, p126, p127⟩)
                · exact (no_eq f120 (il 0) q129 (by decide)).elim
            · refine g_bipush C (by decide) dX3_readTests_49 ?_
              refine g_goto C 56 (by decide) dX3_readTests_51 ?_
              refine g_istore_n C [(3, .inl (-25)), (0, .inr (.inr a0)), (1, .inl a1), (2, .inl x37)] rfl (by decide) rfl dX3_readTests_56 ?_
              refine g_aload_n C rfl 1 rfl dX3_readTests_57 ?_
              have e132 : Tg h38 v1 = 2006 := (fxT F43 (fxT F19 t3))
              refine g_callV (st := []) (gc_V C lk_LandSurvey_Reader_46 (k_X3_advance l D cy w z0 O42 e49 (by unfold RInv; rw [e46, e48, e52, e55]; exact ⟨e132, p45.2.1, p56, p57⟩)) e49 rfl rfl rfl ⟨by decide, by decide⟩ (Nat.le_of_ble_eq_true rfl) dX3_readTests_58 ⟨(by decide), (by decide)⟩) (fun h134 K135 => ?_)
              obtain ⟨O137, F138, p139⟩ := K135
              have e140 : Rv h134 a0 13 = v1 := ((fxR F138 e49 rfl).trans e46)
              obtain ⟨v141, e142⟩ : ∃ z, Iv h134 a0 4 = z := ⟨_, rfl⟩
              have e143 : Tg h134 a0 = 4 := (fxT F138 e49)
              have f144 := ok_I O137 e143 rI_4_4 e142
              obtain ⟨v145, e146⟩ : ∃ z, Jv h134 a0 5 = z := ⟨_, rfl⟩
              have f147 := inL_J O137 e146
              obtain ⟨v148, e149⟩ : ∃ z, Rv h134 a0 6 = z := ⟨_, rfl⟩
              have p150 := p139.2.2.1
              rw [e142, e146] at p150
              have p151 := p139.2.2.2
              rw [e149] at p151
              refine g_aload_n C rfl 1 rfl dX3_readTests_61 ?_
              refine g_iload_n C rfl 2 rfl dX3_readTests_62 ?_
              have e152 : Tg h134 v1 = 2006 := (fxT F138 e132)
              refine g_callI (st := []) (gc_V C lk_LandSurvey_Reader_235 (k_readTest_2 l D cy w z0 O137 e143 fa1 (by unfold RInv; rw [e140, e142, e146, e149]; exact ⟨e152, p139.2.1, p150, p151⟩)) e143 rfl rfl rfl ⟨by decide, by decide⟩ (Nat.le_of_ble_eq_true rfl) dX3_readTests_63 ⟨(by decide), (by decide)⟩) (fun r153 h154 f156 K155 => ?_)
              obtain ⟨O157, F158, f159, p160⟩ := K155
              have e161 : Rv h154 a0 13 = v1 := ((fxR F158 e143 rfl).trans e140)
              obtain ⟨v162, e163⟩ : ∃ z, Iv h154 a0 4 = z := ⟨_, rfl⟩
              have e164 : Tg h154 a0 = 4 := (fxT F158 e143)
              have f165 := ok_I O157 e164 rI_4_4 e163
              obtain ⟨v166, e167⟩ : ∃ z, Jv h154 a0 5 = z := ⟨_, rfl⟩
              have f168 := inL_J O157 e167
              obtain ⟨v169, e170⟩ : ∃ z, Rv h154 a0 6 = z := ⟨_, rfl⟩
              have p171 := p160.2.2.1
              rw [e163, e167] at p171
              have p172 := p160.2.2.2
              rw [e170] at p172
              refine g_if_eq C (iw f159 (by decide) (by decide)) 77 (by decide) dX3_readTests_66 (fun q173 => ?_) (fun q174 => ?_)
              · have f175 : (0 : Int) ≤ r153 ∧ r153 ≤ (0 : Int) := ii f159 (r_eq (il 0) q173) (by decide) (by decide)
                refine g_iconst C dX3_readTests_77 ?_
                have e176 : Tg h154 v1 = 2006 := (fxT F158 e152)
                exact g_iret C hr (nar_z2 (iw (il 0) (by decide) (by decide))).1 (iw (il 0) (by decide) (by decide)) ⟨O157, (((((Fx.rf (wr := wr_k_readTests_2)).call F19 rfl).call F43 rfl).call F138 rfl).call F158 rfl), (iw (il 0) (by decide) (by decide)), (by unfold RInv; rw [e161, e163, e167, e170]; exact ⟨e176, p160.2.1, p171, p172⟩)⟩ (by decide) (by decide) dX3_readTests_78
              · have f177 : (1 : Int) ≤ r153 ∧ r153 ≤ (1 : Int) := r_nl f159 q174
                refine g_aload_n C rfl 1 rfl dX3_readTests_69 ?_
                refine g_iload_n C rfl 0 rfl dX3_readTests_70 ?_
                have e178 : Tg h154 v1 = 2006 := (fxT F158 e152)
                refine g_callI (st := []) (gc_V C lk_LandSurvey_Reader_244 (k_X3_emit l D cy w z0 O157 e164 (iw (il (-25)) (by decide) (by decide)) (by unfold RInv; rw [e161, e163, e167, e170]; exact ⟨e178, p160.2.1, p171, p172⟩) (by omega)) e164 rfl rfl rfl ⟨by decide, by decide⟩ (Nat.le_of_ble_eq_true rfl) dX3_readTests_71 ⟨(by decide), (by decide)⟩) (fun r179 h180 f182 K181 => ?_)
                obtain ⟨O183, F184, f185, p186⟩ := K181
                have e187 : Rv h180 a0 13 = v1 := ((fxR F184 e164 rfl).trans e161)
                have e188 : Iv h180 a0 4 = v162 := ((fxI F184 e164 rfl).trans e163)
                have e189 : Jv h180 a0 5 = v166 := ((fxJ F184 e164 rfl).trans e167)
                have e190 : Rv h180 a0 6 = v169 := ((fxR F184 e164 rfl).trans e170)
                have p191 := p186.2.2.1
                rw [e188, e189] at p191
                have p192 := p186.2.2.2
                rw [e190] at p192
                refine g_if_ne C (iw f185 (by decide) (by decide)) 79 (by decide) dX3_readTests_74 (fun q193 => ?_) (fun q194 => ?_)
                · have f195 : (1 : Int) ≤ (x37 + 1) ∧ (x37 + 1) ≤ (1501 : Int) := ia_add f62 (il 1) (by decide) (by decide)
                  refine g_iinc C [(2, .inl (x37 + 1)), (3, .inl (-25)), (0, .inr (.inr a0)), (1, .inl a1)] 3 rfl (by decide) rfl dX3_readTests_79 ?_
                  refine g_goto C 12 (by decide) dX3_readTests_82 ?_
                  refine GW.sub [2, 3, 0] rfl ?_
                  have e196 : Tg h180 v1 = 2006 := (fxT F184 e178)
                  exact ih40 _ (by omega) (x37 + 1) h180 rfl O183 (((F43.call F138 rfl).call F158 rfl).call F184 rfl) (iw f195 (by decide) (by decide)) (by unfold RInv; rw [e187, e188, e189, e190]; exact ⟨e196, p186.2.1, p191, p192⟩)
                · exact (no_eq f185 (il 0) q194 (by decide)).elim
          · refine g_aload_n C rfl 0 rfl dX3_readTests_29 ?_
            refine gf_R C fk_LandSurvey_Reader_69 rfl e49 e55 dX3_readTests_30 ?_
            refine g_gets (x := .inr (.inr (w 16 + 1))) C (C.2.2.2.2.2.2.1.1 16 (by decide)).1 kw_847 dX3_readTests_33 ?_
            refine g_acmp_ne C 85 (by decide) dX3_readTests_36 (fun q197 => ?_) (fun q198 => ?_)
            · refine g_iconst C dX3_readTests_85 ?_
              have e199 : Tg h38 v1 = 2006 := (fxT F43 (fxT F19 t3))
              exact g_iret C hr (nar_z2 (iw (il 1) (by decide) (by decide))).1 (iw (il 1) (by decide) (by decide)) ⟨O42, (((Fx.rf (wr := wr_k_readTests_2)).call F19 rfl).call F43 rfl), (iw (il 1) (by decide) (by decide)), (by unfold RInv; rw [e46, e48, e52, e55]; exact ⟨e199, p45.2.1, p56, p57⟩)⟩ (by decide) (by decide) dX3_readTests_86
            · refine g_aload_n C rfl 0 rfl dX3_readTests_39 ?_
              refine gf_R C fk_LandSurvey_Reader_69 rfl e49 e55 dX3_readTests_40 ?_
              refine g_gets (x := .inr (.inr (w 15 + 1))) C (C.2.2.2.2.2.2.1.1 15 (by decide)).1 kw_845 dX3_readTests_43 ?_
              refine g_acmp_ne C 54 (by decide) dX3_readTests_46 (fun q200 => ?_) (fun q201 => ?_)
              · refine g_bipush C (by decide) dX3_readTests_54 ?_
                refine g_istore_n C [(3, .inl (-26)), (0, .inr (.inr a0)), (1, .inl a1), (2, .inl x37)] rfl (by decide) rfl dX3_readTests_56 ?_
                refine g_aload_n C rfl 1 rfl dX3_readTests_57 ?_
                have e202 : Tg h38 v1 = 2006 := (fxT F43 (fxT F19 t3))
                refine g_callV (st := []) (gc_V C lk_LandSurvey_Reader_46 (k_X3_advance l D cy w z0 O42 e49 (by unfold RInv; rw [e46, e48, e52, e55]; exact ⟨e202, p45.2.1, p56, p57⟩)) e49 rfl rfl rfl ⟨by decide, by decide⟩ (Nat.le_of_ble_eq_true rfl) dX3_readTests_58 ⟨(by decide), (by decide)⟩) (fun h204 K205 => ?_)
                obtain ⟨O207, F208, p209⟩ := K205
                have e210 : Rv h204 a0 13 = v1 := ((fxR F208 e49 rfl).trans e46)
                obtain ⟨v211, e212⟩ : ∃ z, Iv h204 a0 4 = z := ⟨_, rfl⟩
                have e213 : Tg h204 a0 = 4 := (fxT F208 e49)
                have f214 := ok_I O207 e213 rI_4_4 e212
                obtain ⟨v215, e216⟩ : ∃ z, Jv h204 a0 5 = z := ⟨_, rfl⟩
                have f217 := inL_J O207 e216
                obtain ⟨v218, e219⟩ : ∃ z, Rv h204 a0 6 = z := ⟨_, rfl⟩
                have p220 := p209.2.2.1
                rw [e212, e216] at p220
                have p221 := p209.2.2.2
                rw [e219] at p221
                refine g_aload_n C rfl 1 rfl dX3_readTests_61 ?_
                refine g_iload_n C rfl 2 rfl dX3_readTests_62 ?_
                have e222 : Tg h204 v1 = 2006 := (fxT F208 e202)
                refine g_callI (st := []) (gc_V C lk_LandSurvey_Reader_235 (k_readTest_2 l D cy w z0 O207 e213 fa1 (by unfold RInv; rw [e210, e212, e216, e219]; exact ⟨e222, p209.2.1, p220, p221⟩)) e213 rfl rfl rfl ⟨by decide, by decide⟩ (Nat.le_of_ble_eq_true rfl) dX3_readTests_63 ⟨(by decide), (by decide)⟩) (fun r223 h224 f226 K225 => ?_)
                obtain ⟨O227, F228, f229, p230⟩ := K225
                have e231 : Rv h224 a0 13 = v1 := ((fxR F228 e213 rfl).trans e210)
                obtain ⟨v232, e233⟩ : ∃ z, Iv h224 a0 4 = z := ⟨_, rfl⟩
                have e234 : Tg h224 a0 = 4 := (fxT F228 e213)
                have f235 := ok_I O227 e234 rI_4_4 e233
                obtain ⟨v236, e237⟩ : ∃ z, Jv h224 a0 5 = z := ⟨_, rfl⟩
                have f238 := inL_J O227 e237
                obtain ⟨v239, e240⟩ : ∃ z, Rv h224 a0 6 = z := ⟨_, rfl⟩
                have p241 := p230.2.2.1
                rw [e233, e237] at p241
                have p242 := p230.2.2.2
                rw [e240] at p242
                refine g_if_eq C (iw f229 (by decide) (by decide)) 77 (by decide) dX3_readTests_66 (fun q243 => ?_) (fun q244 => ?_)
                · have f245 : (0 : Int) ≤ r223 ∧ r223 ≤ (0 : Int) := ii f229 (r_eq (il 0) q243) (by decide) (by decide)
                  refine g_iconst C dX3_readTests_77 ?_
                  have e246 : Tg h224 v1 = 2006 := (fxT F228 e222)
                  exact g_iret C hr (nar_z2 (iw (il 0) (by decide) (by decide))).1 (iw (il 0) (by decide) (by decide)) ⟨O227, (((((Fx.rf (wr := wr_k_readTests_2)).call F19 rfl).call F43 rfl).call F208 rfl).call F228 rfl), (iw (il 0) (by decide) (by decide)), (by unfold RInv; rw [e231, e233, e237, e240]; exact ⟨e246, p230.2.1, p241, p242⟩)⟩ (by decide) (by decide) dX3_readTests_78
                · have f247 : (1 : Int) ≤ r223 ∧ r223 ≤ (1 : Int) := r_nl f229 q244
                  refine g_aload_n C rfl 1 rfl dX3_readTests_69 ?_
                  refine g_iload_n C rfl 0 rfl dX3_readTests_70 ?_
                  have e248 : Tg h224 v1 = 2006 := (fxT F228 e222)
                  refine g_callI (st := []) (gc_V C lk_LandSurvey_Reader_244 (k_X3_emit l D cy w z0 O227 e234 (iw (il (-26)) (by decide) (by decide)) (by unfold RInv; rw [e231, e233, e237, e240]; exact ⟨e248, p230.2.1, p241, p242⟩) (by omega)) e234 rfl rfl rfl ⟨by decide, by decide⟩ (Nat.le_of_ble_eq_true rfl) dX3_readTests_71 ⟨(by decide), (by decide)⟩) (fun r249 h250 f252 K251 => ?_)
                  obtain ⟨O253, F254, f255, p256⟩ := K251
                  have e257 : Rv h250 a0 13 = v1 := ((fxR F254 e234 rfl).trans e231)
                  have e258 : Iv h250 a0 4 = v232 := ((fxI F254 e234 rfl).trans e233)
                  have e259 : Jv h250 a0 5 = v236 := ((fxJ F254 e234 rfl).trans e237)
                  have e260 : Rv h250 a0 6 = v239 := ((fxR F254 e234 rfl).trans e240)
                  have p261 := p256.2.2.1
                  rw [e258, e259] at p261
                  have p262 := p256.2.2.2
                  rw [e260] at p262
                  refine g_if_ne C (iw f255 (by decide) (by decide)) 79 (by decide) dX3_readTests_74 (fun q263 => ?_) (fun q264 => ?_)
                  · have f265 : (1 : Int) ≤ (x37 + 1) ∧ (x37 + 1) ≤ (1501 : Int) := ia_add f62 (il 1) (by decide) (by decide)
                    refine g_iinc C [(2, .inl (x37 + 1)), (3, .inl (-26)), (0, .inr (.inr a0)), (1, .inl a1)] 3 rfl (by decide) rfl dX3_readTests_79 ?_
                    refine g_goto C 12 (by decide) dX3_readTests_82 ?_
                    refine GW.sub [2, 3, 0] rfl ?_
                    have e266 : Tg h250 v1 = 2006 := (fxT F254 e248)
                    exact ih40 _ (by omega) (x37 + 1) h250 rfl O253 (((F43.call F208 rfl).call F228 rfl).call F254 rfl) (iw f265 (by decide) (by decide)) (by unfold RInv; rw [e257, e258, e259, e260]; exact ⟨e266, p256.2.1, p261, p262⟩)
                  · exact (no_eq f255 (il 0) q264 (by decide)).elim
              · refine g_bipush C (by decide) dX3_readTests_49 ?_
                refine g_goto C 56 (by decide) dX3_readTests_51 ?_
                refine g_istore_n C [(3, .inl (-25)), (0, .inr (.inr a0)), (1, .inl a1), (2, .inl x37)] rfl (by decide) rfl dX3_readTests_56 ?_
                refine g_aload_n C rfl 1 rfl dX3_readTests_57 ?_
                have e267 : Tg h38 v1 = 2006 := (fxT F43 (fxT F19 t3))
                refine g_callV (st := []) (gc_V C lk_LandSurvey_Reader_46 (k_X3_advance l D cy w z0 O42 e49 (by unfold RInv; rw [e46, e48, e52, e55]; exact ⟨e267, p45.2.1, p56, p57⟩)) e49 rfl rfl rfl ⟨by decide, by decide⟩ (Nat.le_of_ble_eq_true rfl) dX3_readTests_58 ⟨(by decide), (by decide)⟩) (fun h269 K270 => ?_)
                obtain ⟨O272, F273, p274⟩ := K270
                have e275 : Rv h269 a0 13 = v1 := ((fxR F273 e49 rfl).trans e46)
                obtain ⟨v276, e277⟩ : ∃ z, Iv h269 a0 4 = z := ⟨_, rfl⟩
                have e278 : Tg h269 a0 = 4 := (fxT F273 e49)
                have f279 := ok_I O272 e278 rI_4_4 e277
                obtain ⟨v280, e281⟩ : ∃ z, Jv h269 a0 5 = z := ⟨_, rfl⟩
                have f282 := inL_J O272 e281
                obtain ⟨v283, e284⟩ : ∃ z, Rv h269 a0 6 = z := ⟨_, rfl⟩
                have p285 := p274.2.2.1
                rw [e277, e281] at p285
                have p286 := p274.2.2.2
                rw [e284] at p286
                refine g_aload_n C rfl 1 rfl dX3_readTests_61 ?_
                refine g_iload_n C rfl 2 rfl dX3_readTests_62 ?_
                have e287 : Tg h269 v1 = 2006 := (fxT F273 e267)
                refine g_callI (st := []) (gc_V C lk_LandSurvey_Reader_235 (k_readTest_2 l D cy w z0 O272 e278 fa1 (by unfold RInv; rw [e275, e277, e281, e284]; exact ⟨e287, p274.2.1, p285, p286⟩)) e278 rfl rfl rfl ⟨by decide, by decide⟩ (Nat.le_of_ble_eq_true rfl) dX3_readTests_63 ⟨(by decide), (by decide)⟩) (fun r288 h289 f291 K290 => ?_)
                obtain ⟨O292, F293, f294, p295⟩ := K290
                have e296 : Rv h289 a0 13 = v1 := ((fxR F293 e278 rfl).trans e275)
                obtain ⟨v297, e298⟩ : ∃ z, Iv h289 a0 4 = z := ⟨_, rfl⟩
                have e299 : Tg h289 a0 = 4 := (fxT F293 e278)
                have f300 := ok_I O292 e299 rI_4_4 e298
                obtain ⟨v301, e302⟩ : ∃ z, Jv h289 a0 5 = z := ⟨_, rfl⟩
                have f303 := inL_J O292 e302
                obtain ⟨v304, e305⟩ : ∃ z, Rv h289 a0 6 = z := ⟨_, rfl⟩
                have p306 := p295.2.2.1
                rw [e298, e302] at p306
                have p307 := p295.2.2.2
                rw [e305] at p307
                refine g_if_eq C (iw f294 (by decide) (by decide)) 77 (by decide) dX3_readTests_66 (fun q308 => ?_) (fun q309 => ?_)
                · have f310 : (0 : Int) ≤ r288 ∧ r288 ≤ (0 : Int) := ii f294 (r_eq (il 0) q308) (by decide) (by decide)
                  refine g_iconst C dX3_readTests_77 ?_
                  have e311 : Tg h289 v1 = 2006 := (fxT F293 e287)
                  exact g_iret C hr (nar_z2 (iw (il 0) (by decide) (by decide))).1 (iw (il 0) (by decide) (by decide)) ⟨O292, (((((Fx.rf (wr := wr_k_readTests_2)).call F19 rfl).call F43 rfl).call F273 rfl).call F293 rfl), (iw (il 0) (by decide) (by decide)), (by unfold RInv; rw [e296, e298, e302, e305]; exact ⟨e311, p295.2.1, p306, p307⟩)⟩ (by decide) (by decide) dX3_readTests_78
                · have f312 : (1 : Int) ≤ r288 ∧ r288 ≤ (1 : Int) := r_nl f294 q309
                  refine g_aload_n C rfl 1 rfl dX3_readTests_69 ?_
                  refine g_iload_n C rfl 0 rfl dX3_readTests_70 ?_
                  have e313 : Tg h289 v1 = 2006 := (fxT F293 e287)
                  refine g_callI (st := []) (gc_V C lk_LandSurvey_Reader_244 (k_X3_emit l D cy w z0 O292 e299 (iw (il (-25)) (by decide) (by decide)) (by unfold RInv; rw [e296, e298, e302, e305]; exact ⟨e313, p295.2.1, p306, p307⟩) (by omega)) e299 rfl rfl rfl ⟨by decide, by decide⟩ (Nat.le_of_ble_eq_true rfl) dX3_readTests_71 ⟨(by decide), (by decide)⟩) (fun r314 h315 f317 K316 => ?_)
                  obtain ⟨O318, F319, f320, p321⟩ := K316
                  have e322 : Rv h315 a0 13 = v1 := ((fxR F319 e299 rfl).trans e296)
                  have e323 : Iv h315 a0 4 = v297 := ((fxI F319 e299 rfl).trans e298)
                  have e324 : Jv h315 a0 5 = v301 := ((fxJ F319 e299 rfl).trans e302)
                  have e325 : Rv h315 a0 6 = v304 := ((fxR F319 e299 rfl).trans e305)
                  have p326 := p321.2.2.1
                  rw [e323, e324] at p326
                  have p327 := p321.2.2.2
                  rw [e325] at p327
                  refine g_if_ne C (iw f320 (by decide) (by decide)) 79 (by decide) dX3_readTests_74 (fun q328 => ?_) (fun q329 => ?_)
                  · have f330 : (1 : Int) ≤ (x37 + 1) ∧ (x37 + 1) ≤ (1501 : Int) := ia_add f62 (il 1) (by decide) (by decide)
                    refine g_iinc C [(2, .inl (x37 + 1)), (3, .inl (-25)), (0, .inr (.inr a0)), (1, .inl a1)] 3 rfl (by decide) rfl dX3_readTests_79 ?_
                    refine g_goto C 12 (by decide) dX3_readTests_82 ?_
                    refine GW.sub [2, 3, 0] rfl ?_
                    have e331 : Tg h315 v1 = 2006 := (fxT F319 e313)
                    exact ih40 _ (by omega) (x37 + 1) h315 rfl O318 (((F43.call F273 rfl).call F293 rfl).call F319 rfl) (iw f330 (by decide) (by decide)) (by unfold RInv; rw [e322, e323, e324, e325]; exact ⟨e331, p321.2.1, p326, p327⟩)
                  · exact (no_eq f320 (il 0) q329 (by decide)).elim
    have e332 : Tg h15 v1 = 2006 := (fxT F19 t3)
    exact L39 _ 0 h15 rfl O18 Fx.rf (iw (il 0) (by decide) (by decide)) (by unfold RInv; rw [e22, e24, e28, e31]; exact ⟨e332, p21.2.1, p32, p33⟩)
  · have f333 : (0 : Int) ≤ r14 ∧ r14 ≤ (0 : Int) := ii f20 (r_eq (il 0) q35) (by decide) (by decide)
    refine g_iconst C dX3_readTests_8 ?_
    have e334 : Tg h15 v1 = 2006 := (fxT F19 t3)
    exact g_iret C hr (nar_z2 (iw (il 0) (by decide) (by decide))).1 (iw (il 0) (by decide) (by decide)) ⟨O18, ((Fx.rf (wr := wr_k_readTests_2)).call F19 rfl), (iw (il 0) (by decide) (by decide)), (by unfold RInv; rw [e22, e24, e28, e31]; exact ⟨e334, p21.2.1, p32, p33⟩)⟩ (by decide) (by decide) dX3_readTests_9
def wr_k_readFact_1 : List Nat := [802, 803, 804, 805, 806, 807, 812, 4020000]
set_option maxRecDepth 100000 in
set_option maxHeartbeats 4000000 in
theorem k_readFact_1 (l : Launch) (D : va_G) (cy : Nat → ClassId) (w : Nat → Nat) (z0 : Nat)  {h : Hp} {a0 : Nat} {a1 : Int}  (O : Okh h) (ta0 : Tg h a0 = 4) (fa1 : 1 ≤ a1 ∧ a1 ≤ 1) (P_RInv : RInv w h a0) : MI l D cy w z0 yX3_readFact cX3_readFact 4 (some .boolean) 18 406 0 0 [.inr (.inr a0), .inl a1] h (fun v h1 => Okh h1 ∧ Fx wr_k_readFact_1 h h1 ∧ (0 ≤ v ∧ v ≤ 1) ∧ (RInv w h1 a0)) := by
  obtain ⟨v1, e2⟩ : ∃ z, Rv h a0 13 = z := ⟨_, rfl⟩
  have t3 := P_RInv.1
  rw [e2] at t3
  obtain ⟨v4, e5⟩ : ∃ z, Iv h a0 4 = z := ⟨_, rfl⟩
  have f6 := ok_I O ta0 rI_4_4 e5
  obtain ⟨v7, e8⟩ : ∃ z, Jv h a0 5 = z := ⟨_, rfl⟩
  have f9 := inL_J O e8
  obtain ⟨v10, e11⟩ : ∃ z, Rv h a0 6 = z := ⟨_, rfl⟩
  have p12 := P_RInv.2.2.1
  rw [e5, e8] at p12
  have p13 := P_RInv.2.2.2
  rw [e11] at p13
  refine hm_go (by decide +kernel) (Nat.le_of_ble_eq_true rfl) (fun p e s m below meth c C hr hn => ?_)
  refine g_aload_n C rfl 0 rfl dX3_readFact_0 ?_
  refine gf_I C fk_LandSurvey_Reader_49 rfl ta0 e5 dX3_readFact_1 ?_
  refine g_iconst C dX3_readFact_4 ?_
  refine g_icmp_eq C (iw f6 (by decide) (by decide)) (iw (il 2) (by decide) (by decide)) 26 (by decide) dX3_readFact_5 (fun q14 => ?_) (fun q15 => ?_)
  · have f16 : (2 : Int) ≤ v4 ∧ v4 ≤ (2 : Int) := ii f6 (r_eq (il 2) q14) (by decide) (by decide)
    refine g_iconst C dX3_readFact_26 ?_
    refine g_goto C 31 (by decide) dX3_readFact_27 ?_
    refine g_istore_n C [(2, .inl 1), (0, .inr (.inr a0)), (1, .inl a1)] rfl (by decide) rfl dX3_readFact_31 ?_
    refine g_aload_n C rfl 1 rfl dX3_readFact_32 ?_
    refine gf_R C fk_LandSurvey_Reader_69 rfl ta0 e11 dX3_readFact_33 ?_
    refine g_gets (x := .inr (.inr (w 17 + 1))) C (C.2.2.2.2.2.2.1.1 17 (by decide)).1 kw_839 dX3_readFact_36 ?_
    refine g_acmp_ne C 46 (by decide) dX3_readFact_39 (fun q17 => ?_) (fun q18 => ?_)
    · refine g_iconst C dX3_readFact_46 ?_
      refine g_istore_n C [(3, .inl 0), (2, .inl 1), (0, .inr (.inr a0)), (1, .inl a1)] rfl (by decide) rfl dX3_readFact_47 ?_
      refine g_iload_n C rfl 1 rfl dX3_readFact_48 ?_
      refine g_if_ne C (iw (il 1) (by decide) (by decide)) 71 (by decide) dX3_readFact_49 (fun q19 => ?_) (fun q20 => ?_)
      · refine g_iload_n C rfl 3 rfl dX3_readFact_71 ?_
        refine g_iconst C dX3_readFact_72 ?_
        refine g_icmp_lt C (iw fa1 (by decide) (by decide)) (iw (il 4) (by decide) (by decide)) 82 (by decide) dX3_readFact_73 (fun q21 => ?_) (fun q22 => ?_)
        · refine g_iload_n C rfl 1 rfl dX3_readFact_82 ?_
          refine g_if_eq C (iw (il 1) (by decide) (by decide)) 122 (by decide) dX3_readFact_83 (fun q23 => ?_) (fun q24 => ?_)
          · exact (no_eq (il 1) (il 0) q23 (by decide)).elim
          · refine g_aload_n C rfl 2 rfl dX3_readFact_86 ?_
            refine g_aload_n C rfl 2 rfl dX3_readFact_87 ?_
            refine gf_I C fk_LandSurvey_Reader_49 rfl ta0 e5 dX3_readFact_88 ?_
            refine g_iconst C dX3_readFact_91 ?_
            refine g_icmp_ne C (iw f16 (by decide) (by decide)) (iw (il 2) (by decide) (by decide)) 103 (by decide) dX3_readFact_92 (fun q25 => ?_) (fun q26 => ?_)
            · exact (no_ne f16 (il 2) q25 (by decide)).elim
            · have f27 : (0 : Int) ≤ v7 ∧ v7 ≤ (9999 : Int) := by omega
              refine g_aload_n C rfl 2 rfl dX3_readFact_95 ?_
              refine gf_J C fk_LandSurvey_Reader_73 rfl ta0 e8 dX3_readFact_96 ?_
              refine g_l2i C dX3_readFact_99 ?_
              have f28 : (0 : Int) ≤ (l2w v7) ∧ (l2w v7) ≤ (9999 : Int) := l2w_in f27 (by decide) (by decide)
              refine g_goto C 112 (by decide) dX3_readFact_100 ?_
              refine g_callI (st := []) (gc_V C lk_LandSurvey_Reader_244 (k_X3_emit l D cy w z0 O ta0 (iw f28 (by decide) (by decide)) (by unfold RInv; rw [e2, e5, e8, e11]; exact ⟨t3, P_RInv.2.1, p12, p13⟩) (by omega)) ta0 rfl rfl rfl ⟨by decide, by decide⟩ (Nat.le_of_ble_eq_true rfl) dX3_readFact_112 ⟨(by decide), (by decide)⟩) (fun r29 h30 f32 K31 => ?_)
              obtain ⟨O33, F34, f35, p36⟩ := K31
              have e37 : Rv h30 a0 13 = v1 := ((fxR F34 ta0 rfl).trans e2)
              have e38 : Iv h30 a0 4 = v4 := ((fxI F34 ta0 rfl).trans e5)
              have e39 : Jv h30 a0 5 = v7 := ((fxJ F34 ta0 rfl).trans e8)
              have e40 : Rv h30 a0 6 = v10 := ((fxR F34 ta0 rfl).trans e11)
              have p41 := p36.2.2.1
              rw [e38, e39] at p41
              have p42 := p36.2.2.2
              rw [e40] at p42
              refine g_pop C rfl dX3_readFact_115 ?_
              refine g_aload_n C rfl 2 rfl dX3_readFact_116 ?_
              have e43 : Tg h30 a0 = 4 := (fxT F34 ta0)
              have e44 : Tg h30 v1 = 2006 := (fxT F34 t3)
              refine g_callV (st := []) (gc_V C lk_LandSurvey_Reader_46 (k_X3_advance l D cy w z0 O33 e43 (by unfold RInv; rw [e37, e38, e39, e40]; exact ⟨e44, p36.2.1, p41, p42⟩)) e43 rfl rfl rfl ⟨by decide, by decide⟩ (Nat.le_of_ble_eq_true rfl) dX3_readFact_117 ⟨(by decide), (by decide)⟩) (fun h46 K47 => ?_)
              obtain ⟨O49, F50, p51⟩ := K47
              have e52 : Rv h46 a0 13 = v1 := ((fxR F50 e43 rfl).trans e37)
              obtain ⟨v53, e54⟩ : ∃ z, Iv h46 a0 4 = z := ⟨_, rfl⟩
              have e55 : Tg h46 a0 = 4 := (fxT F50 e43)
              have f56 := ok_I O49 e55 rI_4_4 e54
              obtain ⟨v57, e58⟩ : ∃ z, Jv h46 a0 5 = z := ⟨_, rfl⟩
              have f59 := inL_J O49 e58
              obtain ⟨v60, e61⟩ : ∃ z, Rv h46 a0 6 = z := ⟨_, rfl⟩
              have p62 := p51.2.2.1
              rw [e54, e58] at p62
              have p63 := p51.2.2.2
              rw [e61] at p63
              refine g_iconst C dX3_readFact_120 ?_
              have e64 : Tg h46 v1 = 2006 := (fxT F50 e44)
              exact g_iret C hr (nar_z2 (iw (il 1) (by decide) (by decide))).1 (iw (il 1) (by decide) (by decide)) ⟨O49, (((Fx.rf (wr := wr_k_readFact_1)).call F34 rfl).call F50 rfl), (iw (il 1) (by decide) (by decide)), (by unfold RInv; rw [e52, e54, e58, e61]; exact ⟨e64, p51.2.1, p62, p63⟩)⟩ (by decide) (by decide) dX3_readFact_121
        · exact (no_le (il 4) fa1 q22 (by decide)).elim
      · exact (no_eq (il 1) (il 0) q20 (by decide)).elim
    · refine g_iconst C dX3_readFact_42 ?_
      refine g_goto C 47 (by decide) dX3_readFact_43 ?_
      refine g_istore_n C [(3, .inl 1), (2, .inl 1), (0, .inr (.inr a0)), (1, .inl a1)] rfl (by decide) rfl dX3_readFact_47 ?_
      refine g_iload_n C rfl 1 rfl dX3_readFact_48 ?_
      refine g_if_ne C (iw (il 1) (by decide) (by decide)) 71 (by decide) dX3_readFact_49 (fun q65 => ?_) (fun q66 => ?_)
      · refine g_iload_n C rfl 3 rfl dX3_readFact_71 ?_
        refine g_iconst C dX3_readFact_72 ?_
        refine g_icmp_lt C (iw fa1 (by decide) (by decide)) (iw (il 4) (by decide) (by decide)) 82 (by decide) dX3_readFact_73 (fun q67 => ?_) (fun q68 => ?_)
        · refine g_iload_n C rfl 1 rfl dX3_readFact_82 ?_
          refine g_if_eq C (iw (il 1) (by decide) (by decide)) 122 (by decide) dX3_readFact_83 (fun q69 => ?_) (fun q70 => ?_)
          · exact (no_eq (il 1) (il 0) q69 (by decide)).elim
          · refine g_aload_n C rfl 2 rfl dX3_readFact_86 ?_
            refine g_aload_n C rfl 2 rfl dX3_readFact_87 ?_
            refine gf_I C fk_LandSurvey_Reader_49 rfl ta0 e5 dX3_readFact_88 ?_
            refine g_iconst C dX3_readFact_91 ?_
            refine g_icmp_ne C (iw f16 (by decide) (by decide)) (iw (il 2) (by decide) (by decide)) 103 (by decide) dX3_readFact_92 (fun q71 => ?_) (fun q72 => ?_)
            · exact (no_ne f16 (il 2) q71 (by decide)).elim
            · have f73 : (0 : Int) ≤ v7 ∧ v7 ≤ (9999 : Int) := by omega
              refine g_aload_n C rfl 2 rfl dX3_readFact_95 ?_
              refine gf_J C fk_LandSurvey_Reader_73 rfl ta0 e8 dX3_readFact_96 ?_
              refine g_l2i C dX3_readFact_99 ?_
              have f74 : (0 : Int) ≤ (l2w v7) ∧ (l2w v7) ≤ (9999 : Int) := l2w_in f73 (by decide) (by decide)
              refine g_goto C 112 (by decide) dX3_readFact_100 ?_
              refine g_callI (st := []) (gc_V C lk_LandSurvey_Reader_244 (k_X3_emit l D cy w z0 O ta0 (iw f74 (by decide) (by decide)) (by unfold RInv; rw [e2, e5, e8, e11]; exact ⟨t3, P_RInv.2.1, p12, p13⟩) (by omega)) ta0 rfl rfl rfl ⟨by decide, by decide⟩ (Nat.le_of_ble_eq_true rfl) dX3_readFact_112 ⟨(by decide), (by decide)⟩) (fun r75 h76 f78 K77 => ?_)
              obtain ⟨O79, F80, f81, p82⟩ := K77
              have e83 : Rv h76 a0 13 = v1 := ((fxR F80 ta0 rfl).trans e2)
              have e84 : Iv h76 a0 4 = v4 := ((fxI F80 ta0 rfl).trans e5)
              have e85 : Jv h76 a0 5 = v7 := ((fxJ F80 ta0 rfl).trans e8)
              have e86 : Rv h76 a0 6 = v10 := ((fxR F80 ta0 rfl).trans e11)
              have p87 := p82.2.2.1
              rw [e84, e85] at p87
              have p88 := p82.2.2.2
              rw [e86] at p88
              refine g_pop C rfl dX3_readFact_115 ?_
              refine g_aload_n C rfl 2 rfl dX3_readFact_116 ?_
              have e89 : Tg h76 a0 = 4 := (fxT F80 ta0)
              have e90 : Tg h76 v1 = 2006 := (fxT F80 t3)
              refine g_callV (st := []) (gc_V C lk_LandSurvey_Reader_46 (k_X3_advance l D cy w z0 O79 e89 (by unfold RInv; rw [e83, e84, e85, e86]; exact ⟨e90, p82.2.1, p87, p88⟩)) e89 rfl rfl rfl ⟨by decide, by decide⟩ (Nat.le_of_ble_eq_true rfl) dX3_readFact_117 ⟨(by decide), (by decide)⟩) (fun h92 K93 => ?_)
              obtain ⟨O95, F96, p97⟩ := K93
              have e98 : Rv h92 a0 13 = v1 := ((fxR F96 e89 rfl).trans e83)
              obtain ⟨v99, e100⟩ : ∃ z, Iv h92 a0 4 = z := ⟨_, rfl⟩
              have e101 : Tg h92 a0 = 4 := (fxT F96 e89)
              have f102 := ok_I O95 e101 rI_4_4 e100
              obtain ⟨v103, e104⟩ : ∃ z, Jv h92 a0 5 = z := ⟨_, rfl⟩
              have f105 := inL_J O95 e104
              obtain ⟨v106, e107⟩ : ∃ z, Rv h92 a0 6 = z := ⟨_, rfl⟩
              have p108 := p97.2.2.1
              rw [e100, e104] at p108
              have p109 := p97.2.2.2
              rw [e107] at p109
              refine g_iconst C dX3_readFact_120 ?_
              have e110 : Tg h92 v1 = 2006 := (fxT F96 e90)
              exact g_iret C hr (nar_z2 (iw (il 1) (by decide) (by decide))).1 (iw (il 1) (by decide) (by decide)) ⟨O95, (((Fx.rf (wr := wr_k_readFact_1)).call F80 rfl).call F96 rfl), (iw (il 1) (by decide) (by decide)), (by unfold RInv; rw [e98, e100, e104, e107]; exact ⟨e110, p97.2.1, p108, p109⟩)⟩ (by decide) (by decide) dX3_readFact_121
        · exact (no_le (il 4) fa1 q68 (by decide)).elim
      · exact (no_eq (il 1) (il 0) q66 (by decide)).elim
  · refine g_aload_n C rfl 0 rfl dX3_readFact_8 ?_
    refine gf_R C fk_LandSurvey_Reader_69 rfl ta0 e11 dX3_readFact_9 ?_
    refine g_ifnull C 30 (by decide) dX3_readFact_12 (fun q111 => ?_) (fun q112 => ?_)
    · refine g_iconst C dX3_readFact_30 ?_
      refine g_istore_n C [(2, .inl 0), (0, .inr (.inr a0)), (1, .inl a1)] rfl (by decide) rfl dX3_readFact_31 ?_
      refine g_aload_n C rfl 1 rfl dX3_readFact_32 ?_
      refine gf_R C fk_LandSurvey_Reader_69 rfl ta0 e11 dX3_readFact_33 ?_
      refine g_gets (x := .inr (.inr (w 17 + 1))) C (C.2.2.2.2.2.2.1.1 17 (by decide)).1 kw_839 dX3_readFact_36 ?_
      refine g_acmp_ne C 46 (by decide) dX3_readFact_39 (fun q113 => ?_) (fun q114 => ?_)
      · refine g_iconst C dX3_readFact_46 ?_
        refine g_istore_n C [(3, .inl 0), (2, .inl 0), (0, .inr (.inr a0)), (1, .inl a1)] rfl (by decide) rfl dX3_readFact_47 ?_
        refine g_iload_n C rfl 1 rfl dX3_readFact_48 ?_
        refine g_if_ne C (iw (il 0) (by decide) (by decide)) 71 (by decide) dX3_readFact_49 (fun q115 => ?_) (fun q116 => ?_)
        · exact (no_ne (il 0) (il 0) q115 (by decide)).elim
        · refine g_iload_n C rfl 0 rfl dX3_readFact_52 ?_
          refine g_if_ne C (iw (il 0) (by decide) (by decide)) 71 (by decide) dX3_readFact_53 (fun q117 => ?_) (fun q118 => ?_)
          · exact (no_ne (il 0) (il 0) q117 (by decide)).elim
          · refine g_aload_n C rfl 2 rfl dX3_readFact_56 ?_
            refine g_bipush C (by decide) dX3_readFact_57 ?_
            refine g_callI (st := []) (gc_V C lk_LandSurvey_Reader_95 (k_X3_isNext l D cy w z0 O ta0 (iw (il 40) (by decide) (by decide))) ta0 rfl rfl rfl ⟨by decide, by decide⟩ (Nat.le_of_ble_eq_true rfl) dX3_readFact_59 ⟨(by decide), (by decide)⟩) (fun r119 h120 f122 K121 => ?_)
            obtain ⟨O123, F124, f125⟩ := K121
            refine g_if_ne C (iw f125 (by decide) (by decide)) 71 (by decide) dX3_readFact_62 (fun q126 => ?_) (fun q127 => ?_)
            · have f128 : (1 : Int) ≤ r119 ∧ r119 ≤ (1 : Int) := r_nl f125 q126
              refine g_iload_n C rfl 3 rfl dX3_readFact_71 ?_
              refine g_iconst C dX3_readFact_72 ?_
              refine g_icmp_lt C (iw fa1 (by decide) (by decide)) (iw (il 4) (by decide) (by decide)) 82 (by decide) dX3_readFact_73 (fun q129 => ?_) (fun q130 => ?_)
              · refine g_iload_n C rfl 1 rfl dX3_readFact_82 ?_
                refine g_if_eq C (iw (il 0) (by decide) (by decide)) 122 (by decide) dX3_readFact_83 (fun q131 => ?_) (fun q132 => ?_)
                · refine g_aload_n C rfl 2 rfl dX3_readFact_122 ?_
                  have e133 : Tg h120 a0 = 4 := (fxT F124 ta0)
                  have e134 : Rv h120 a0 13 = v1 := ((fxR F124 ta0 rfl).trans e2)
                  have e135 : Iv h120 a0 4 = v4 := ((fxI F124 ta0 rfl).trans e5)
                  have e136 : Jv h120 a0 5 = v7 := ((fxJ F124 ta0 rfl).trans e8)
                  have e137 : Rv h120 a0 6 = v10 := ((fxR F124 ta0 rfl).trans e11)
                  have e138 : Tg h120 v1 = 2006 := (fxT F124 t3)
                  have p139 := (DOk_fx O F124 ta0 (by rw [e2]; exact t3) rfl P_RInv.2.1)
                  refine g_callV (st := []) (gc_V C lk_LandSurvey_Reader_46 (k_X3_advance l D cy w z0 O123 e133 (by unfold RInv; rw [e134, e135, e136, e137]; exact ⟨e138, p139, p12, p13⟩)) e133 rfl rfl rfl ⟨by decide, by decide⟩ (Nat.le_of_ble_eq_true rfl) dX3_readFact_123 ⟨(by decide), (by decide)⟩) (fun h141 K142 => ?_)
                  obtain ⟨O144, F145, p146⟩ := K142
                  have e147 : Rv h141 a0 13 = v1 := ((fxR F145 e133 rfl).trans e134)
                  obtain ⟨v148, e149⟩ : ∃ z, Iv h141 a0 4 = z := ⟨_, rfl⟩
                  have e150 : Tg h141 a0 = 4 := (fxT F145 e133)
                  have f151 := ok_I O144 e150 rI_4_4 e149
                  obtain ⟨v152, e153⟩ : ∃ z, Jv h141 a0 5 = z := ⟨_, rfl⟩
                  have f154 := inL_J O144 e153
                  obtain ⟨v155, e156⟩ : ∃ z, Rv h141 a0 6 = z := ⟨_, rfl⟩
                  have p157 := p146.2.2.1
                  rw [e149, e153] at p157
                  have p158 := p146.2.2.2
                  rw [e156] at p158
                  refine g_iload_n C rfl 0 rfl dX3_readFact_126 ?_
                  refine g_if_eq C (iw (il 0) (by decide) (by decide)) 155 (by decide) dX3_readFact_127 (fun q159 => ?_) (fun q160 => ?_)
                  · refine g_aload_n C rfl 2 rfl dX3_readFact_155 ?_
                    refine g_iload_n C rfl 3 rfl dX3_readFact_156 ?_
                    refine g_iconst C dX3_readFact_157 ?_
                    have f161 : (2 : Int) ≤ (a1 + 1) ∧ (a1 + 1) ≤ (2 : Int) := ia_add fa1 (il 1) (by decide) (by decide)
                    refine g_iadd C dX3_readFact_158 ?_
                    have e162 : Tg h141 v1 = 2006 := (fxT F145 e138)
                    refine g_callI (st := []) (gc_V C lk_LandSurvey_Reader_196 (k_readTests_2 l D cy w z0 O144 e150 f161 (by unfold RInv; rw [e147, e149, e153, e156]; exact ⟨e162, p146.2.1, p157, p158⟩)) e150 rfl rfl rfl ⟨by decide, by decide⟩ (Nat.le_of_ble_eq_true rfl) dX3_readFact_159 ⟨(by decide), (by decide)⟩) (fun r163 h164 f166 K165 => ?_)
                    obtain ⟨O167, F168, f169, p170⟩ := K165
                    have e171 : Rv h164 a0 13 = v1 := ((fxR F168 e150 rfl).trans e147)
                    obtain ⟨v172, e173⟩ : ∃ z, Iv h164 a0 4 = z := ⟨_, rfl⟩
                    have e174 : Tg h164 a0 = 4 := (fxT F168 e150)
                    have f175 := ok_I O167 e174 rI_4_4 e173
                    obtain ⟨v176, e177⟩ : ∃ z, Jv h164 a0 5 = z := ⟨_, rfl⟩
                    have f178 := inL_J O167 e177
                    obtain ⟨v179, e180⟩ : ∃ z, Rv h164 a0 6 = z := ⟨_, rfl⟩
                    have p181 := p170.2.2.1
                    rw [e173, e177] at p181
                    have p182 := p170.2.2.2
                    rw [e180] at p182
                    refine g_if_eq C (iw f169 (by decide) (by decide)) 178 (by decide) dX3_readFact_162 (fun q183 => ?_) (fun q184 => ?_)
                    · have f185 : (0 : Int) ≤ r163 ∧ r163 ≤ (0 : Int) := ii f169 (r_eq (il 0) q183) (by decide) (by decide)
                      refine g_iconst C dX3_readFact_178 ?_
                      have e186 : Tg h164 v1 = 2006 := (fxT F168 e162)
                      exact g_iret C hr (nar_z2 (iw (il 0) (by decide) (by decide))).1 (iw (il 0) (by decide) (by decide)) ⟨O167, ((((Fx.rf (wr := wr_k_readFact_1)).call F124 rfl).call F145 rfl).call F168 rfl), (iw (il 0) (by decide) (by decide)), (by unfold RInv; rw [e171, e173, e177, e180]; exact ⟨e186, p170.2.1, p181, p182⟩)⟩ (by decide) (by decide) dX3_readFact_179
                    · have f187 : (1 : Int) ≤ r163 ∧ r163 ≤ (1 : Int) := r_nl f169 q184
                      refine g_aload_n C rfl 2 rfl dX3_readFact_165 ?_
                      refine g_bipush C (by decide) dX3_readFact_166 ?_
                      have e188 : Tg h164 v1 = 2006 := (fxT F168 e162)
                      refine g_callI (st := []) (gc_V C lk_LandSurvey_Reader_169 (k_X3_takeOnly l D cy w z0 O167 e174 (iw (il 41) (by decide) (by decide)) (by unfold RInv; rw [e171, e173, e177, e180]; exact ⟨e188, p170.2.1, p181, p182⟩)) e174 rfl rfl rfl ⟨by decide, by decide⟩ (Nat.le_of_ble_eq_true rfl) dX3_readFact_168 ⟨(by decide), (by decide)⟩) (fun r189 h190 f192 K191 => ?_)
                      obtain ⟨O193, F194, f195, p196⟩ := K191
                      have e197 : Rv h190 a0 13 = v1 := ((fxR F194 e174 rfl).trans e171)
                      obtain ⟨v198, e199⟩ : ∃ z, Iv h190 a0 4 = z := ⟨_, rfl⟩
                      have e200 : Tg h190 a0 = 4 := (fxT F194 e174)
                      have f201 := ok_I O193 e200 rI_4_4 e199
                      obtain ⟨v202, e203⟩ : ∃ z, Jv h190 a0 5 = z := ⟨_, rfl⟩
                      have f204 := inL_J O193 e203
                      obtain ⟨v205, e206⟩ : ∃ z, Rv h190 a0 6 = z := ⟨_, rfl⟩
                      have p207 := p196.2.2.1
                      rw [e199, e203] at p207
                      have p208 := p196.2.2.2
                      rw [e206] at p208
                      refine g_if_eq C (iw f195 (by decide) (by decide)) 178 (by decide) dX3_readFact_171 (fun q209 => ?_) (fun q210 => ?_)
                      · have f211 : (0 : Int) ≤ r189 ∧ r189 ≤ (0 : Int) := ii f195 (r_eq (il 0) q209) (by decide) (by decide)
                        refine g_iconst C dX3_readFact_178 ?_
                        have e212 : Tg h190 v1 = 2006 := (fxT F194 e188)
                        exact g_iret C hr (nar_z2 (iw (il 0) (by decide) (by decide))).1 (iw (il 0) (by decide) (by decide)) ⟨O193, (((((Fx.rf (wr := wr_k_readFact_1)).call F124 rfl).call F145 rfl).call F168 rfl).call F194 rfl), (iw (il 0) (by decide) (by decide)), (by unfold RInv; rw [e197, e199, e203, e206]; exact ⟨e212, p196.2.1, p207, p208⟩)⟩ (by decide) (by decide) dX3_readFact_179
                      · have f213 : (1 : Int) ≤ r189 ∧ r189 ≤ (1 : Int) := r_nl f195 q210
                        refine g_iconst C dX3_readFact_174 ?_
                        refine g_goto C 179 (by decide) dX3_readFact_175 ?_
                        have e214 : Tg h190 v1 = 2006 := (fxT F194 e188)
                        exact g_iret C hr (nar_z2 (iw (il 1) (by decide) (by decide))).1 (iw (il 1) (by decide) (by decide)) ⟨O193, (((((Fx.rf (wr := wr_k_readFact_1)).call F124 rfl).call F145 rfl).call F168 rfl).call F194 rfl), (iw (il 1) (by decide) (by decide)), (by unfold RInv; rw [e197, e199, e203, e206]; exact ⟨e214, p196.2.1, p207, p208⟩)⟩ (by decide) (by decide) dX3_readFact_179
                  · exact (no_ne (il 0) (il 0) q160 (by decide)).elim
                · exact (no_ne (il 0) (il 0) q132 (by decide)).elim
              · exact (no_le (il 4) fa1 q130 (by decide)).elim
            · have f215 : (0 : Int) ≤ r119 ∧ r119 ≤ (0 : Int) := ii f125 (r_eq (il 0) q127) (by decide) (by decide)
              refine g_aload_n C rfl 2 rfl dX3_readFact_65 ?_
              refine g_iconst C dX3_readFact_66 ?_
              have e216 : Tg h120 a0 = 4 := (fxT F124 ta0)
              refine g_callI (st := []) (gc_V C lk_LandSurvey_Reader_99 (k_X3_wrong l D cy w z0 O123 e216 (iw (il 1) (by decide) (by decide))) e216 rfl rfl rfl ⟨by decide, by decide⟩ (Nat.le_of_ble_eq_true rfl) dX3_readFact_67 ⟨(by decide), (by decide)⟩) (fun r217 h218 f220 K219 => ?_)
              obtain ⟨O221, F222, f223⟩ := K219
              have e224 : Rv h218 a0 13 = v1 := ((fxR F222 e216 rfl).trans ((fxR F124 ta0 rfl).trans e2))
              have e225 : Iv h218 a0 4 = v4 := ((fxI F222 e216 rfl).trans ((fxI F124 ta0 rfl).trans e5))
              have e226 : Jv h218 a0 5 = v7 := ((fxJ F222 e216 rfl).trans ((fxJ F124 ta0 rfl).trans e8))
              have e227 : Rv h218 a0 6 = v10 := ((fxR F222 e216 rfl).trans ((fxR F124 ta0 rfl).trans e11))
              have e228 : Tg h218 v1 = 2006 := (fxT F222 (fxT F124 t3))
              have e229 : Rv h120 a0 13 = v1 := ((fxR F124 ta0 rfl).trans e2)
              have e230 : Tg h120 v1 = 2006 := (fxT F124 t3)
              have p231 := (DOk_fx O123 F222 e216 (by rw [e229]; exact e230) rfl (DOk_fx O F124 ta0 (by rw [e2]; exact t3) rfl P_RInv.2.1))
              exact g_iret C hr (nar_z2 (iw f223 (by decide) (by decide))).1 (iw f223 (by decide) (by decide)) ⟨O221, (((Fx.rf (wr := wr_k_readFact_1)).call F124 rfl).call F222 rfl), (iw f223 (by decide) (by decide)), (by unfold RInv; rw [e224, e225, e226, e227]; exact ⟨e228, p231, p12, p13⟩)⟩ (by decide) (by decide) dX3_readFact_70
      · refine g_iconst C dX3_readFact_42 ?_
        refine g_goto C 47 (by decide) dX3_readFact_43 ?_
        refine g_istore_n C [(3, .inl 1), (2, .inl 0), (0, .inr (.inr a0)), (1, .inl a1)] rfl (by decide) rfl dX3_readFact_47 ?_
        refine g_iload_n C rfl 1 rfl dX3_readFact_48 ?_
        refine g_if_ne C (iw (il 0) (by decide) (by decide)) 71 (by decide) dX3_readFact_49 (fun q232 => ?_) (fun q233 => ?_)
        · exact (no_ne (il 0) (il 0) q232 (by decide)).elim
        · refine g_iload_n C rfl 0 rfl dX3_readFact_52 ?_
          refine g_if_ne C (iw (il 1) (by decide) (by decide)) 71 (by decide) dX3_readFact_53 (fun q234 => ?_) (fun q235 => ?_)
          · refine g_iload_n C rfl 3 rfl dX3_readFact_71 ?_
            refine g_iconst C dX3_readFact_72 ?_
            refine g_icmp_lt C (iw fa1 (by decide) (by decide)) (iw (il 4) (by decide) (by decide)) 82 (by decide) dX3_readFact_73 (fun q236 => ?_) (fun q237 => ?_)
            · refine g_iload_n C rfl 1 rfl dX3_readFact_82 ?_
              refine g_if_eq C (iw (il 0) (by decide) (by decide)) 122 (by decide) dX3_readFact_83 (fun q238 => ?_) (fun q239 => ?_)
              · refine g_aload_n C rfl 2 rfl dX3_readFact_122 ?_
                refine g_callV (st := []) (gc_V C lk_LandSurvey_Reader_46 (k_X3_advance l D cy w z0 O ta0 (by unfold RInv; rw [e2, e5, e8, e11]; exact ⟨t3, P_RInv.2.1, p12, p13⟩)) ta0 rfl rfl rfl ⟨by decide, by decide⟩ (Nat.le_of_ble_eq_true rfl) dX3_readFact_123 ⟨(by decide), (by decide)⟩) (fun h241 K242 => ?_)
                obtain ⟨O244, F245, p246⟩ := K242
                have e247 : Rv h241 a0 13 = v1 := ((fxR F245 ta0 rfl).trans e2)
                obtain ⟨v248, e249⟩ : ∃ z, Iv h241 a0 4 = z := ⟨_, rfl⟩
                have e250 : Tg h241 a0 = 4 := (fxT F245 ta0)
                have f251 := ok_I O244 e250 rI_4_4 e249
                obtain ⟨v252, e253⟩ : ∃ z, Jv h241 a0 5 = z := ⟨_, rfl⟩
                have f254 := inL_J O244 e253
                obtain ⟨v255, e256⟩ : ∃ z, Rv h241 a0 6 = z := ⟨_, rfl⟩
                have p257 := p246.2.2.1
                rw [e249, e253] at p257
                have p258 := p246.2.2.2
                rw [e256] at p258
                refine g_iload_n C rfl 0 rfl dX3_readFact_126 ?_
                refine g_if_eq C (iw (il 1) (by decide) (by decide)) 155 (by decide) dX3_readFact_127 (fun q259 => ?_) (fun q260 => ?_)
                · exact (no_eq (il 1) (il 0) q259 (by decide)).elim
                · refine g_aload_n C rfl 2 rfl dX3_readFact_130 ?_
                  refine g_iload_n C rfl 3 rfl dX3_readFact_131 ?_
                  refine g_iconst C dX3_readFact_132 ?_
                  have f261 : (2 : Int) ≤ (a1 + 1) ∧ (a1 + 1) ≤ (2 : Int) := ia_add fa1 (il 1) (by decide) (by decide)
                  refine g_iadd C dX3_readFact_133 ?_
                  have e262 : Tg h241 v1 = 2006 := (fxT F245 t3)
                  refine g_callI (st := []) (gc_V C lk_LandSurvey_Reader_250 (k_readFact_2 l D cy w z0 O244 e250 f261 (by unfold RInv; rw [e247, e249, e253, e256]; exact ⟨e262, p246.2.1, p257, p258⟩)) e250 rfl rfl rfl ⟨by decide, by decide⟩ (Nat.le_of_ble_eq_true rfl) dX3_readFact_134 ⟨(by decide), (by decide)⟩) (fun r263 h264 f266 K265 => ?_)
                  obtain ⟨O267, F268, f269, p270⟩ := K265
                  have e271 : Rv h264 a0 13 = v1 := ((fxR F268 e250 rfl).trans e247)
                  obtain ⟨v272, e273⟩ : ∃ z, Iv h264 a0 4 = z := ⟨_, rfl⟩
                  have e274 : Tg h264 a0 = 4 := (fxT F268 e250)
                  have f275 := ok_I O267 e274 rI_4_4 e273
                  obtain ⟨v276, e277⟩ : ∃ z, Jv h264 a0 5 = z := ⟨_, rfl⟩
                  have f278 := inL_J O267 e277
                  obtain ⟨v279, e280⟩ : ∃ z, Rv h264 a0 6 = z := ⟨_, rfl⟩
                  have p281 := p270.2.2.1
                  rw [e273, e277] at p281
                  have p282 := p270.2.2.2
                  rw [e280] at p282
                  refine g_if_eq C (iw f269 (by decide) (by decide)) 153 (by decide) dX3_readFact_137 (fun q283 => ?_) (fun q284 => ?_)
                  · have f285 : (0 : Int) ≤ r263 ∧ r263 ≤ (0 : Int) := ii f269 (r_eq (il 0) q283) (by decide) (by decide)
                    refine g_iconst C dX3_readFact_153 ?_
                    have e286 : Tg h264 v1 = 2006 := (fxT F268 e262)
                    exact g_iret C hr (nar_z2 (iw (il 0) (by decide) (by decide))).1 (iw (il 0) (by decide) (by decide)) ⟨O267, (((Fx.rf (wr := wr_k_readFact_1)).call F245 rfl).call F268 rfl), (iw (il 0) (by decide) (by decide)), (by unfold RInv; rw [e271, e273, e277, e280]; exact ⟨e286, p270.2.1, p281, p282⟩)⟩ (by decide) (by decide) dX3_readFact_154
                  · have f287 : (1 : Int) ≤ r263 ∧ r263 ≤ (1 : Int) := r_nl f269 q284
                    refine g_aload_n C rfl 2 rfl dX3_readFact_140 ?_
                    refine g_bipush C (by decide) dX3_readFact_141 ?_
                    have e288 : Tg h264 v1 = 2006 := (fxT F268 e262)
                    refine g_callI (st := []) (gc_V C lk_LandSurvey_Reader_244 (k_X3_emit l D cy w z0 O267 e274 (iw (il (-27)) (by decide) (by decide)) (by unfold RInv; rw [e271, e273, e277, e280]; exact ⟨e288, p270.2.1, p281, p282⟩) (by omega)) e274 rfl rfl rfl ⟨by decide, by decide⟩ (Nat.le_of_ble_eq_true rfl) dX3_readFact_143 ⟨(by decide), (by decide)⟩) (fun r289 h290 f292 K291 => ?_)
                    obtain ⟨O293, F294, f295, p296⟩ := K291
                    have e297 : Rv h290 a0 13 = v1 := ((fxR F294 e274 rfl).trans e271)
                    have e298 : Iv h290 a0 4 = v272 := ((fxI F294 e274 rfl).trans e273)
                    have e299 : Jv h290 a0 5 = v276 := ((fxJ F294 e274 rfl).trans e277)
                    have e300 : Rv h290 a0 6 = v279 := ((fxR F294 e274 rfl).trans e280)
                    have p301 := p296.2.2.1
                    rw [e298, e299] at p301
                    have p302 := p296.2.2.2
                    rw [e300] at p302
                    refine g_if_eq C (iw f295 (by decide) (by decide)) 153 (by decide) dX3_readFact_146 (fun q303 => ?_) (fun q304 => ?_)
                    · exact (no_eq f295 (il 0) q303 (by decide)).elim
                    · refine g_iconst C dX3_readFact_149 ?_
                      refine g_goto C 154 (by decide) dX3_readFact_150 ?_
                      have e305 : Tg h290 v1 = 2006 := (fxT F294 e288)
                      exact g_iret C hr (nar_z2 (iw (il 1) (by decide) (by decide))).1 (iw (il 1) (by decide) (by decide)) ⟨O293, ((((Fx.rf (wr := wr_k_readFact_1)).call F245 rfl).call F268 rfl).call F294 rfl), (iw (il 1) (by decide) (by decide)), (by unfold RInv; rw [e297, e298, e299, e300]; exact ⟨e305, p296.2.1, p301, p302⟩)⟩ (by decide) (by decide) dX3_readFact_154
              · exact (no_ne (il 0) (il 0) q239 (by decide)).elim
            · exact (no_le (il 4) fa1 q237 (by decide)).elim
          · exact (no_eq (il 1) (il 0) q235 (by decide)).elim
    · refine g_aload_n C rfl 0 rfl dX3_readFact_15 ?_
      refine gf_R C fk_LandSurvey_Reader_69 rfl ta0 e11 dX3_readFact_16 ?_
      obtain ⟨i306, q307, e308⟩ := WOk.get p13 q112
      refine g_getf2 (x := .inl (wFa.getD i306 0)) C e308 (C.2.2.2.2.2.2.1.1 i306 q307).2.2 kw_2284 dX3_readFact_19 ?_
      have f309 : (-1 : Int) ≤ (wFa.getD i306 0) ∧ (wFa.getD i306 0) ≤ (11 : Int) := wFa_rng _
      refine g_iconst C dX3_readFact_22 ?_
      refine g_icmp_eq C (iw f309 (by decide) (by decide)) (iw (il (-1)) (by decide) (by decide)) 30 (by decide) dX3_readFact_23 (fun q310 => ?_) (fun q311 => ?_)
      · have f312 : (-1 : Int) ≤ (wFa.getD i306 0) ∧ (wFa.getD i306 0) ≤ (-1 : Int) := ii f309 (r_eq (il (-1)) q310) (by decide) (by decide)
        refine g_iconst C dX3_readFact_30 ?_
        refine g_istore_n C [(2, .inl 0), (0, .inr (.inr a0)), (1, .inl a1)] rfl (by decide) rfl dX3_readFact_31 ?_
        refine g_aload_n C rfl 1 rfl dX3_readFact_32 ?_
        refine gf_R C fk_LandSurvey_Reader_69 rfl ta0 e11 dX3_readFact_33 ?_
        refine g_gets (x := .inr (.inr (w 17 + 1))) C (C.2.2.2.2.2.2.1.1 17 (by decide)).1 kw_839 dX3_readFact_36 ?_
        refine g_acmp_ne C 46 (by decide) dX3_readFact_39 (fun q313 => ?_) (fun q314 => ?_)
        · refine g_iconst C dX3_readFact_46 ?_
          refine g_istore_n C [(3, .inl 0), (2, .inl 0), (0, .inr (.inr a0)), (1, .inl a1)] rfl (by decide) rfl dX3_readFact_47 ?_
          refine g_iload_n C rfl 1 rfl dX3_readFact_48 ?_
          refine g_if_ne C (iw (il 0) (by decide) (by decide)) 71 (by decide) dX3_readFact_49 (fun q315 => ?_) (fun q316 => ?_)
          · exact (no_ne (il 0) (il 0) q315 (by decide)).elim
          · refine g_iload_n C rfl 0 rfl dX3_readFact_52 ?_
            refine g_if_ne C (iw (il 0) (by decide) (by decide)) 71 (by decide) dX3_readFact_53 (fun q317 => ?_) (fun q318 => ?_)
            · exact (no_ne (il 0) (il 0) q317 (by decide)).elim
            · refine g_aload_n C rfl 2 rfl dX3_readFact_56 ?_
              refine g_bipush C (by decide) dX3_readFact_57 ?_
              refine g_callI (st := []) (gc_V C lk_LandSurvey_Reader_95 (k_X3_isNext l D cy w z0 O ta0 (iw (il 40) (by decide) (by decide))) ta0 rfl rfl rfl ⟨by decide, by decide⟩ (Nat.le_of_ble_eq_true rfl) dX3_readFact_59 ⟨(by decide), (by decide)⟩) (fun r319 h320 f322 K321 => ?_)
              obtain ⟨O323, F324, f325⟩ := K321
              refine g_if_ne C (iw f325 (by decide) (by decide)) 71 (by decide) dX3_readFact_62 (fun q326 => ?_) (fun q327 => ?_)
              · have f328 : (1 : Int) ≤ r319 ∧ r319 ≤ (1 : Int) := r_nl f325 q326
                refine g_iload_n C rfl 3 rfl dX3_readFact_71 ?_
                refine g_iconst C dX3_readFact_72 ?_
                refine g_icmp_lt C (iw fa1 (by decide) (by decide)) (iw (il 4) (by decide) (by decide)) 82 (by decide) dX3_readFact_73 (fun q329 => ?_) (fun q330 => ?_)
                · refine g_iload_n C rfl 1 rfl dX3_readFact_82 ?_
                  refine g_if_eq C (iw (il 0) (by decide) (by decide)) 122 (by decide) dX3_readFact_83 (fun q331 => ?_) (fun q332 => ?_)
                  · refine g_aload_n C rfl 2 rfl dX3_readFact_122 ?_
                    have e333 : Tg h320 a0 = 4 := (fxT F324 ta0)
                    have e334 : Rv h320 a0 13 = v1 := ((fxR F324 ta0 rfl).trans e2)
                    have e335 : Iv h320 a0 4 = v4 := ((fxI F324 ta0 rfl).trans e5)
                    have e336 : Jv h320 a0 5 = v7 := ((fxJ F324 ta0 rfl).trans e8)
                    have e337 : Rv h320 a0 6 = v10 := ((fxR F324 ta0 rfl).trans e11)
                    have e338 : Tg h320 v1 = 2006 := (fxT F324 t3)
                    have p339 := (DOk_fx O F324 ta0 (by rw [e2]; exact t3) rfl P_RInv.2.1)
                    refine g_callV (st := []) (gc_V C lk_LandSurvey_Reader_46 (k_X3_advance l D cy w z0 O323 e333 (by unfold RInv; rw [e334, e335, e336, e337]; exact ⟨e338, p339, p12, p13⟩)) e333 rfl rfl rfl ⟨by decide, by decide⟩ (Nat.le_of_ble_eq_true rfl) dX3_readFact_123 ⟨(by decide), (by decide)⟩) (fun h341 K342 => ?_)
                    obtain ⟨O344, F345, p346⟩ := K342
                    have e347 : Rv h341 a0 13 = v1 := ((fxR F345 e333 rfl).trans e334)
                    obtain ⟨v348, e349⟩ : ∃ z, Iv h341 a0 4 = z := ⟨_, rfl⟩
                    have e350 : Tg h341 a0 = 4 := (fxT F345 e333)
                    have f351 := ok_I O344 e350 rI_4_4 e349
                    obtain ⟨v352, e353⟩ : ∃ z, Jv h341 a0 5 = z := ⟨_, rfl⟩
                    have f354 := inL_J O344 e353
                    obtain ⟨v355, e356⟩ : ∃ z, Rv h341 a0 6 = z := ⟨_, rfl⟩
                    have p357 := p346.2.2.1
                    rw [e349, e353] at p357
                    have p358 := p346.2.2.2
                    rw [e356] at p358
                    refine g_iload_n C rfl 0 rfl dX3_readFact_126 ?_
                    refine g_if_eq C (iw (il 0) (by decide) (by decide)) 155 (by decide) dX3_readFact_127 (fun q359 => ?_) (fun q360 => ?_)
                    · refine g_aload_n C rfl 2 rfl dX3_readFact_155 ?_
                      refine g_iload_n C rfl 3 rfl dX3_readFact_156 ?_
                      refine g_iconst C dX3_readFact_157 ?_
                      have f361 : (2 : Int) ≤ (a1 + 1) ∧ (a1 + 1) ≤ (2 : Int) := ia_add fa1 (il 1) (by decide) (by decide)
                      refine g_iadd C dX3_readFact_158 ?_
                      have e362 : Tg h341 v1 = 2006 := (fxT F345 e338)
                      refine g_callI (st := []) (gc_V C lk_LandSurvey_Reader_196 (k_readTests_2 l D cy w z0 O344 e350 f361 (by unfold RInv; rw [e347, e349, e353, e356]; exact ⟨e362, p346.2.1, p357, p358⟩)) e350 rfl rfl rfl ⟨by decide, by decide⟩ (Nat.le_of_ble_eq_true rfl) dX3_readFact_159 ⟨(by decide), (by decide)⟩) (fun r363 h364 f366 K365 => ?_)
                      obtain ⟨O367, F368, f369, p370⟩ := K365
                      have e371 : Rv h364 a0 13 = v1 := ((fxR F368 e350 rfl).trans e347)
                      obtain ⟨v372, e373⟩ : ∃ z, Iv h364 a0 4 = z := ⟨_, rfl⟩
                      have e374 : Tg h364 a0 = 4 := (fxT F368 e350)
                      have f375 := ok_I O367 e374 rI_4_4 e373
                      obtain ⟨v376, e377⟩ : ∃ z, Jv h364 a0 5 = z := ⟨_, rfl⟩
                      have f378 := inL_J O367 e377
                      obtain ⟨v379, e380⟩ : ∃ z, Rv h364 a0 6 = z := ⟨_, rfl⟩
                      have p381 := p370.2.2.1
                      rw [e373, e377] at p381
                      have p382 := p370.2.2.2
                      rw [e380] at p382
                      refine g_if_eq C (iw f369 (by decide) (by decide)) 178 (by decide) dX3_readFact_162 (fun q383 => ?_) (fun q384 => ?_)
                      · have f385 : (0 : Int) ≤ r363 ∧ r363 ≤ (0 : Int) := ii f369 (r_eq (il 0) q383) (by decide) (by decide)
                        refine g_iconst C dX3_readFact_178 ?_
                        have e386 : Tg h364 v1 = 2006 := (fxT F368 e362)
                        exact g_iret C hr (nar_z2 (iw (il 0) (by decide) (by decide))).1 (iw (il 0) (by decide) (by decide)) ⟨O367, ((((Fx.rf (wr := wr_k_readFact_1)).call F324 rfl).call F345 rfl).call F368 rfl), (iw (il 0) (by decide) (by decide)), (by unfold RInv; rw [e371, e373, e377, e380]; exact ⟨e386, p370.2.1, p381, p382⟩)⟩ (by decide) (by decide) dX3_readFact_179
                      · have f387 : (1 : Int) ≤ r363 ∧ r363 ≤ (1 : Int) := r_nl f369 q384
                        refine g_aload_n C rfl 2 rfl dX3_readFact_165 ?_
                        refine g_bipush C (by decide) dX3_readFact_166 ?_
                        have e388 : Tg h364 v1 = 2006 := (fxT F368 e362)
                        refine g_callI (st := []) (gc_V C lk_LandSurvey_Reader_169 (k_X3_takeOnly l D cy w z0 O367 e374 (iw (il 41) (by decide) (by decide)) (by unfold RInv; rw [e371, e373, e377, e380]; exact ⟨e388, p370.2.1, p381, p382⟩)) e374 rfl rfl rfl ⟨by decide, by decide⟩ (Nat.le_of_ble_eq_true rfl) dX3_readFact_168 ⟨(by decide), (by decide)⟩) (fun r389 h390 f392 K391 => ?_)
                        obtain ⟨O393, F394, f395, p396⟩ := K391
                        have e397 : Rv h390 a0 13 = v1 := ((fxR F394 e374 rfl).trans e371)
                        obtain ⟨v398, e399⟩ : ∃ z, Iv h390 a0 4 = z := ⟨_, rfl⟩
                        have e400 : Tg h390 a0 = 4 := (fxT F394 e374)
                        have f401 := ok_I O393 e400 rI_4_4 e399
                        obtain ⟨v402, e403⟩ : ∃ z, Jv h390 a0 5 = z := ⟨_, rfl⟩
                        have f404 := inL_J O393 e403
                        obtain ⟨v405, e406⟩ : ∃ z, Rv h390 a0 6 = z := ⟨_, rfl⟩
                        have p407 := p396.2.2.1
                        rw [e399, e403] at p407
                        have p408 := p396.2.2.2
                        rw [e406] at p408
                        refine g_if_eq C (iw f395 (by decide) (by decide)) 178 (by decide) dX3_readFact_171 (fun q409 => ?_) (fun q410 => ?_)
                        · have f411 : (0 : Int) ≤ r389 ∧ r389 ≤ (0 : Int) := ii f395 (r_eq (il 0) q409) (by decide) (by decide)
                          refine g_iconst C dX3_readFact_178 ?_
                          have e412 : Tg h390 v1 = 2006 := (fxT F394 e388)
                          exact g_iret C hr (nar_z2 (iw (il 0) (by decide) (by decide))).1 (iw (il 0) (by decide) (by decide)) ⟨O393, (((((Fx.rf (wr := wr_k_readFact_1)).call F324 rfl).call F345 rfl).call F368 rfl).call F394 rfl), (iw (il 0) (by decide) (by decide)), (by unfold RInv; rw [e397, e399, e403, e406]; exact ⟨e412, p396.2.1, p407, p408⟩)⟩ (by decide) (by decide) dX3_readFact_179
                        · have f413 : (1 : Int) ≤ r389 ∧ r389 ≤ (1 : Int) := r_nl f395 q410
                          refine g_iconst C dX3_readFact_174 ?_
                          refine g_goto C 179 (by decide) dX3_readFact_175 ?_
                          have e414 : Tg h390 v1 = 2006 := (fxT F394 e388)
                          exact g_iret C hr (nar_z2 (iw (il 1) (by decide) (by decide))).1 (iw (il 1) (by decide) (by decide)) ⟨O393, (((((Fx.rf (wr := wr_k_readFact_1)).call F324 rfl).call F345 rfl).call F368 rfl).call F394 rfl), (iw (il 1) (by decide) (by decide)), (by unfold RInv; rw [e397, e399, e403, e406]; exact ⟨e414, p396.2.1, p407, p408⟩)⟩ (by decide) (by decide) dX3_readFact_179
                    · exact (no_ne (il 0) (il 0) q360 (by decide)).elim
                  · exact (no_ne (il 0) (il 0) q332 (by decide)).elim
                · exact (no_le (il 4) fa1 q330 (by decide)).elim
              · have f415 : (0 : Int) ≤ r319 ∧ r319 ≤ (0 : Int) := ii f325 (r_eq (il 0) q327) (by decide) (by decide)
                refine g_aload_n C rfl 2 rfl dX3_readFact_65 ?_
                refine g_iconst C dX3_readFact_66 ?_
                have e416 : Tg h320 a0 = 4 := (fxT F324 ta0)
                refine g_callI (st := []) (gc_V C lk_LandSurvey_Reader_99 (k_X3_wrong l D cy w z0 O323 e416 (iw (il 1) (by decide) (by decide))) e416 rfl rfl rfl ⟨by decide, by decide⟩ (Nat.le_of_ble_eq_true rfl) dX3_readFact_67 ⟨(by decide), (by decide)⟩) (fun r417 h418 f420 K419 => ?_)
                obtain ⟨O421, F422, f423⟩ := K419
                have e424 : Rv h418 a0 13 = v1 := ((fxR F422 e416 rfl).trans ((fxR F324 ta0 rfl).trans e2))
                have e425 : Iv h418 a0 4 = v4 := ((fxI F422 e416 rfl).trans ((fxI F324 ta0 rfl).trans e5))
                have e426 : Jv h418 a0 5 = v7 := ((fxJ F422 e416 rfl).trans ((fxJ F324 ta0 rfl).trans e8))
                have e427 : Rv h418 a0 6 = v10 := ((fxR F422 e416 rfl).trans ((fxR F324 ta0 rfl).trans e11))
                have e428 : Tg h418 v1 = 2006 := (fxT F422 (fxT F324 t3))
                have e429 : Rv h320 a0 13 = v1 := ((fxR F324 ta0 rfl).trans e2)
                have e430 : Tg h320 v1 = 2006 := (fxT F324 t3)
                have p431 := (DOk_fx O323 F422 e416 (by rw [e429]; exact e430) rfl (DOk_fx O F324 ta0 (by rw [e2]; exact t3) rfl P_RInv.2.1))
                exact g_iret C hr (nar_z2 (iw f423 (by decide) (by decide))).1 (iw f423 (by decide) (by decide)) ⟨O421, (((Fx.rf (wr := wr_k_readFact_1)).call F324 rfl).call F422 rfl), (iw f423 (by decide) (by decide)), (by unfold RInv; rw [e424, e425, e426, e427]; exact ⟨e428, p431, p12, p13⟩)⟩ (by decide) (by decide) dX3_readFact_70
        · refine g_iconst C dX3_readFact_42 ?_
          refine g_goto C 47 (by decide) dX3_readFact_43 ?_
          refine g_istore_n C [(3, .inl 1), (2, .inl 0), (0, .inr (.inr a0)), (1, .inl a1)] rfl (by decide) rfl dX3_readFact_47 ?_
          refine g_iload_n C rfl 1 rfl dX3_readFact_48 ?_
          refine g_if_ne C (iw (il 0) (by decide) (by decide)) 71 (by decide) dX3_readFact_49 (fun q432 => ?_) (fun q433 => ?_)
          · exact (no_ne (il 0) (il 0) q432 (by decide)).elim
          · refine g_iload_n C rfl 0 rfl dX3_readFact_52 ?_
            refine g_if_ne C (iw (il 1) (by decide) (by decide)) 71 (by decide) dX3_readFact_53 (fun q434 => ?_) (fun q435 => ?_)
            · refine g_iload_n C rfl 3 rfl dX3_readFact_71 ?_
              refine g_iconst C dX3_readFact_72 ?_
              refine g_icmp_lt C (iw fa1 (by decide) (by decide)) (iw (il 4) (by decide) (by decide)) 82 (by decide) dX3_readFact_73 (fun q436 => ?_) (fun q437 => ?_)
              · refine g_iload_n C rfl 1 rfl dX3_readFact_82 ?_
                refine g_if_eq C (iw (il 0) (by decide) (by decide)) 122 (by decide) dX3_readFact_83 (fun q438 => ?_) (fun q439 => ?_)
                · refine g_aload_n C rfl 2 rfl dX3_readFact_122 ?_
                  refine g_callV (st := []) (gc_V C lk_LandSurvey_Reader_46 (k_X3_advance l D cy w z0 O ta0 (by unfold RInv; rw [e2, e5, e8, e11]; exact ⟨t3, P_RInv.2.1, p12, p13⟩)) ta0 rfl rfl rfl ⟨by decide, by decide⟩ (Nat.le_of_ble_eq_true rfl) dX3_readFact_123 ⟨(by decide), (by decide)⟩) (fun h441 K442 => ?_)
                  obtain ⟨O444, F445, p446⟩ := K442
                  have e447 : Rv h441 a0 13 = v1 := ((fxR F445 ta0 rfl).trans e2)
                  obtain ⟨v448, e449⟩ : ∃ z, Iv h441 a0 4 = z := ⟨_, rfl⟩
                  have e450 : Tg h441 a0 = 4 := (fxT F445 ta0)
                  have f451 := ok_I O444 e450 rI_4_4 e449
                  obtain ⟨v452, e453⟩ : ∃ z, Jv h441 a0 5 = z := ⟨_, rfl⟩
                  have f454 := inL_J O444 e453
                  obtain ⟨v455, e456⟩ : ∃ z, Rv h441 a0 6 = z := ⟨_, rfl⟩
                  have p457 := p446.2.2.1
                  rw [e449, e453] at p457
                  have p458 := p446.2.2.2
                  rw [e456] at p458
                  refine g_iload_n C rfl 0 rfl dX3_readFact_126 ?_
                  refine g_if_eq C (iw (il 1) (by decide) (by decide)) 155 (by decide) dX3_readFact_127 (fun q459 => ?_) (fun q460 => ?_)
                  · exact (no_eq (il 1) (il 0) q459 (by decide)).elim
                  · refine g_aload_n C rfl 2 rfl dX3_readFact_130 ?_
                    refine g_iload_n C rfl 3 rfl dX3_readFact_131 ?_
                    refine g_iconst C dX3_readFact_132 ?_
                    have f461 : (2 : Int) ≤ (a1 + 1) ∧ (a1 + 1) ≤ (2 : Int) := ia_add fa1 (il 1) (by decide) (by decide)
                    refine g_iadd C dX3_readFact_133 ?_
                    have e462 : Tg h441 v1 = 2006 := (fxT F445 t3)
                    refine g_callI (st := []) (gc_V C lk_LandSurvey_Reader_250 (k_readFact_2 l D cy w z0 O444 e450 f461 (by unfold RInv; rw [e447, e449, e453, e456]; exact ⟨e462, p446.2.1, p457, p458⟩)) e450 rfl rfl rfl ⟨by decide, by decide⟩ (Nat.le_of_ble_eq_true rfl) dX3_readFact_134 ⟨(by decide), (by decide)⟩) (fun r463 h464 f466 K465 => ?_)
                    obtain ⟨O467, F468, f469, p470⟩ := K465
                    have e471 : Rv h464 a0 13 = v1 := ((fxR F468 e450 rfl).trans e447)
                    obtain ⟨v472, e473⟩ : ∃ z, Iv h464 a0 4 = z := ⟨_, rfl⟩
                    have e474 : Tg h464 a0 = 4 := (fxT F468 e450)
                    have f475 := ok_I O467 e474 rI_4_4 e473
                    obtain ⟨v476, e477⟩ : ∃ z, Jv h464 a0 5 = z := ⟨_, rfl⟩
                    have f478 := inL_J O467 e477
                    obtain ⟨v479, e480⟩ : ∃ z, Rv h464 a0 6 = z := ⟨_, rfl⟩
                    have p481 := p470.2.2.1
                    rw [e473, e477] at p481
                    have p482 := p470.2.2.2
                    rw [e480] at p482
                    refine g_if_eq C (iw f469 (by decide) (by decide)) 153 (by decide) dX3_readFact_137 (fun q483 => ?_) (fun q484 => ?_)
                    · have f485 : (0 : Int) ≤ r463 ∧ r463 ≤ (0 : Int) := ii f469 (r_eq (il 0) q483) (by decide) (by decide)
                      refine g_iconst C dX3_readFact_153 ?_
                      have e486 : Tg h464 v1 = 2006 := (fxT F468 e462)
                      exact g_iret C hr (nar_z2 (iw (il 0) (by decide) (by decide))).1 (iw (il 0) (by decide) (by decide)) ⟨O467, (((Fx.rf (wr := wr_k_readFact_1)).call F445 rfl).call F468 rfl), (iw (il 0) (by decide) (by decide)), (by unfold RInv; rw [e471, e473, e477, e480]; exact ⟨e486, p470.2.1, p481, p482⟩)⟩ (by decide) (by decide) dX3_readFact_154
                    · have f487 : (1 : Int) ≤ r463 ∧ r463 ≤ (1 : Int) := r_nl f469 q484
                      refine g_aload_n C rfl 2 rfl dX3_readFact_140 ?_
                      refine g_bipush C (by decide) dX3_readFact_141 ?_
                      have e488 : Tg h464 v1 = 2006 := (fxT F468 e462)
                      refine g_callI (st := []) (gc_V C lk_LandSurvey_Reader_244 (k_X3_emit l D cy w z0 O467 e474 (iw (il (-27)) (by decide) (by decide)) (by unfold RInv; rw [e471, e473, e477, e480]; exact ⟨e488, p470.2.1, p481, p482⟩) (by omega)) e474 rfl rfl rfl ⟨by decide, by decide⟩ (Nat.le_of_ble_eq_true rfl) dX3_readFact_143 ⟨(by decide), (by decide)⟩) (fun r489 h490 f492 K491 => ?_)
                      obtain ⟨O493, F494, f495, p496⟩ := K491
                      have e497 : Rv h490 a0 13 = v1 := ((fxR F494 e474 rfl).trans e471)
                      have e498 : Iv h490 a0 4 = v472 := ((fxI F494 e474 rfl).trans e473)
                      have e499 : Jv h490 a0 5 = v476 := ((fxJ F494 e474 rfl).trans e477)
                      have e500 : Rv h490 a0 6 = v479 := ((fxR F494 e474 rfl).trans e480)
                      have p501 := p496.2.2.1
                      rw [e498, e499] at p501
                      have p502 := p496.2.2.2
                      rw [e500] at p502
                      refine g_if_eq C (iw f495 (by decide) (by decide)) 153 (by decide) dX3_readFact_146 (fun q503 => ?_) (fun q504 => ?_)
                      · exact (no_eq f495 (il 0) q503 (by decide)).elim
                      · refine g_iconst C dX3_readFact_149 ?_
                        refine g_goto C 154 (by decide) dX3_readFact_150 ?_
                        have e505 : Tg h490 v1 = 2006 := (fxT F494 e488)
                        exact g_iret C hr (nar_z2 (iw (il 1) (by decide) (by decide))).1 (iw (il 1) (by decide) (by decide)) ⟨O493, ((((Fx.rf (wr := wr_k_readFact_1)).call F445 rfl).call F468 rfl).call F494 rfl), (iw (il 1) (by decide) (by decide)), (by unfold RInv; rw [e497, e498, e499, e500]; exact ⟨e505, p496.2.1, p501, p502⟩)⟩ (by decide) (by decide) dX3_readFact_154
                · exact (no_ne (il 0) (il 0) q439 (by decide)).elim
              · exact (no_le (il 4) fa1 q437 (by decide)).elim
            · exact (no_eq (il 1) (il 0) q435 (by decide)).elim
      · have f506 : (0 : Int) ≤ (wFa.getD i306 0) ∧ (wFa.getD i306 0) ≤ (11 : Int) := r_nl f309 q311
        refine g_iconst C dX3_readFact_26 ?_
        refine g_goto C 31 (by decide) dX3_readFact_27 ?_
        refine g_istore_n C [(2, .inl 1), (0, .inr (.inr a0)), (1, .inl a1)] rfl (by decide) rfl dX3_readFact_31 ?_
        refine g_aload_n C rfl 1 rfl dX3_readFact_32 ?_
        refine gf_R C fk_LandSurvey_Reader_69 rfl ta0 e11 dX3_readFact_33 ?_
        refine g_gets (x := .inr (.inr (w 17 + 1))) C (C.2.2.2.2.2.2.1.1 17 (by decide)).1 kw_839 dX3_readFact_36 ?_
        refine g_acmp_ne C 46 (by decide) dX3_readFact_39 (fun q507 => ?_) (fun q508 => ?_)
        · refine g_iconst C dX3_readFact_46 ?_
          refine g_istore_n C [(3, .inl 0), (2, .inl 1), (0, .inr (.inr a0)), (1, .inl a1)] rfl (by decide) rfl dX3_readFact_47 ?_
          refine g_iload_n C rfl 1 rfl dX3_readFact_48 ?_
          refine g_if_ne C (iw (il 1) (by decide) (by decide)) 71 (by decide) dX3_readFact_49 (fun q509 => ?_) (fun q510 => ?_)
          · refine g_iload_n C rfl 3 rfl dX3_readFact_71 ?_
            refine g_iconst C dX3_readFact_72 ?_
            refine g_icmp_lt C (iw fa1 (by decide) (by decide)) (iw (il 4) (by decide) (by decide)) 82 (by decide) dX3_readFact_73 (fun q511 => ?_) (fun q512 => ?_)
            · refine g_iload_n C rfl 1 rfl dX3_readFact_82 ?_
              refine g_if_eq C (iw (il 1) (by decide) (by decide)) 122 (by decide) dX3_readFact_83 (fun q513 => ?_) (fun q514 => ?_)
              · exact (no_eq (il 1) (il 0) q513 (by decide)).elim
              · refine g_aload_n C rfl 2 rfl dX3_readFact_86 ?_
                refine g_aload_n C rfl 2 rfl dX3_readFact_87 ?_
                refine gf_I C fk_LandSurvey_Reader_49 rfl ta0 e5 dX3_readFact_88 ?_
                refine g_iconst C dX3_readFact_91 ?_
                refine g_icmp_ne C (iw f6 (by decide) (by decide)) (iw (il 2) (by decide) (by decide)) 103 (by decide) dX3_readFact_92 (fun q515 => ?_) (fun q516 => ?_)
                · refine g_iconst C dX3_readFact_103 ?_
                  refine g_aload_n C rfl 2 rfl dX3_readFact_104 ?_
                  refine gf_R C fk_LandSurvey_Reader_69 rfl ta0 e11 dX3_readFact_105 ?_
                  refine g_getf2 (x := .inl (wFa.getD i306 0)) C e308 (C.2.2.2.2.2.2.1.1 i306 q307).2.2 kw_2284 dX3_readFact_108 ?_
                  have f517 : (-12 : Int) ≤ ((-1) - (wFa.getD i306 0)) ∧ ((-1) - (wFa.getD i306 0)) ≤ (-1 : Int) := ia_sub (il (-1)) f506 (by decide) (by decide)
                  refine g_isub C dX3_readFact_111 ?_
                  refine g_callI (st := []) (gc_V C lk_LandSurvey_Reader_244 (k_X3_emit l D cy w z0 O ta0 (iw f517 (by decide) (by decide)) (by unfold RInv; rw [e2, e5, e8, e11]; exact ⟨t3, P_RInv.2.1, p12, p13⟩) (by omega)) ta0 rfl rfl rfl ⟨by decide, by decide⟩ (Nat.le_of_ble_eq_true rfl) dX3_readFact_112 ⟨(by decide), (by decide)⟩) (fun r518 h519 f521 K520 => ?_)
                  obtain ⟨O522, F523, f524, p525⟩ := K520
                  have e526 : Rv h519 a0 13 = v1 := ((fxR F523 ta0 rfl).trans e2)
                  have e527 : Iv h519 a0 4 = v4 := ((fxI F523 ta0 rfl).trans e5)
                  have e528 : Jv h519 a0 5 = v7 := ((fxJ F523 ta0 rfl).trans e8)
                  have e529 : Rv h519 a0 6 = v10 := ((fxR F523 ta0 rfl).trans e11)
                  have p530 := p525.2.2.1
                  rw [e527, e528] at p530
                  have p531 := p525.2.2.2
                  rw [e529] at p531
                  refine g_pop C rfl dX3_readFact_115 ?_
                  refine g_aload_n C rfl 2 rfl dX3_readFact_116 ?_
                  have e532 : Tg h519 a0 = 4 := (fxT F523 ta0)
                  have e533 : Tg h519 v1 = 2006 := (fxT F523 t3)
                  refine g_callV (st := []) (gc_V C lk_LandSurvey_Reader_46 (k_X3_advance l D cy w z0 O522 e532 (by unfold RInv; rw [e526, e527, e528, e529]; exact ⟨e533, p525.2.1, p530, p531⟩)) e532 rfl rfl rfl ⟨by decide, by decide⟩ (Nat.le_of_ble_eq_true rfl) dX3_readFact_117 ⟨(by decide), (by decide)⟩) (fun h535 K536 => ?_)
                  obtain ⟨O538, F539, p540⟩ := K536
                  have e541 : Rv h535 a0 13 = v1 := ((fxR F539 e532 rfl).trans e526)
                  obtain ⟨v542, e543⟩ : ∃ z, Iv h535 a0 4 = z := ⟨_, rfl⟩
                  have e544 : Tg h535 a0 = 4 := (fxT F539 e532)
                  have f545 := ok_I O538 e544 rI_4_4 e543
                  obtain ⟨v546, e547⟩ : ∃ z, Jv h535 a0 5 = z := ⟨_, rfl⟩
                  have f548 := inL_J O538 e547
                  obtain ⟨v549, e550⟩ : ∃ z, Rv h535 a0 6 = z := ⟨_, rfl⟩
                  have p551 := p540.2.2.1
                  rw [e543, e547] at p551
                  have p552 := p540.2.2.2
                  rw [e550] at p552
                  refine g_iconst C dX3_readFact_120 ?_
                  have e553 : Tg h535 v1 = 2006 := (fxT F539 e533)
                  exact g_iret C hr (nar_z2 (iw (il 1) (by decide) (by decide))).1 (iw (il 1) (by decide) (by decide)) ⟨O538, (((Fx.rf (wr := wr_k_readFact_1)).call F523 rfl).call F539 rfl), (iw (il 1) (by decide) (by decide)), (by unfold RInv; rw [e541, e543, e547, e550]; exact ⟨e553, p540.2.1, p551, p552⟩)⟩ (by decide) (by decide) dX3_readFact_121
                · have f554 : (2 : Int) ≤ v4 ∧ v4 ≤ (2 : Int) := ii f6 (r_eq (il 2) q516) (by decide) (by decide)
                  have f555 : (0 : Int) ≤ v7 ∧ v7 ≤ (9999 : Int) := by omega
                  refine g_aload_n C rfl 2 rfl dX3_readFact_95 ?_
                  refine gf_J C fk_LandSurvey_Reader_73 rfl ta0 e8 dX3_readFact_96 ?_
                  refine g_l2i C dX3_readFact_99 ?_
                  have f556 : (0 : Int) ≤ (l2w v7) ∧ (l2w v7) ≤ (9999 : Int) := l2w_in f555 (by decide) (by decide)
                  refine g_goto C 112 (by decide) dX3_readFact_100 ?_
                  refine g_callI (st := []) (gc_V C lk_LandSurvey_Reader_244 (k_X3_emit l D cy w z0 O ta0 (iw f556 (by decide) (by decide)) (by unfold RInv; rw [e2, e5, e8, e11]; exact ⟨t3, P_RInv.2.1, p12, p13⟩) (by omega)) ta0 rfl rfl rfl ⟨by decide, by decide⟩ (Nat.le_of_ble_eq_true rfl) dX3_readFact_112 ⟨(by decide), (by decide)⟩) (fun r557 h558 f560 K559 => ?_)
                  obtain ⟨O561, F562, f563, p564⟩ := K559
                  have e565 : Rv h558 a0 13 = v1 := ((fxR F562 ta0 rfl).trans e2)
                  have e566 : Iv h558 a0 4 = v4 := ((fxI F562 ta0 rfl).trans e5)
                  have e567 : Jv h558 a0 5 = v7 := ((fxJ F562 ta0 rfl).trans e8)
                  have e568 : Rv h558 a0 6 = v10 := ((fxR F562 ta0 rfl).trans e11)
                  have p569 := p564.2.2.1
                  rw [e566, e567] at p569
                  have p570 := p564.2.2.2
                  rw [e568] at p570
                  refine g_pop C rfl dX3_readFact_115 ?_
                  refine g_aload_n C rfl 2 rfl dX3_readFact_116 ?_
                  have e571 : Tg h558 a0 = 4 := (fxT F562 ta0)
                  have e572 : Tg h558 v1 = 2006 := (fxT F562 t3)
                  refine g_callV (st := []) (gc_V C lk_LandSurvey_Reader_46 (k_X3_advance l D cy w z0 O561 e571 (by unfold RInv; rw [e565, e566, e567, e568]; exact ⟨e572, p564.2.1, p569, p570⟩)) e571 rfl rfl rfl ⟨by decide, by decide⟩ (Nat.le_of_ble_eq_true rfl) dX3_readFact_117 ⟨(by decide), (by decide)⟩) (fun h574 K575 => ?_)
                  obtain ⟨O577, F578, p579⟩ := K575
                  have e580 : Rv h574 a0 13 = v1 := ((fxR F578 e571 rfl).trans e565)
                  obtain ⟨v581, e582⟩ : ∃ z, Iv h574 a0 4 = z := ⟨_, rfl⟩
                  have e583 : Tg h574 a0 = 4 := (fxT F578 e571)
                  have f584 := ok_I O577 e583 rI_4_4 e582
                  obtain ⟨v585, e586⟩ : ∃ z, Jv h574 a0 5 = z := ⟨_, rfl⟩
                  have f587 := inL_J O577 e586
                  obtain ⟨v588, e589⟩ : ∃ z, Rv h574 a0 6 = z := ⟨_, rfl⟩
                  have p590 := p579.2.2.1
                  rw [e582, e586] at p590
                  have p591 := p579.2.2.2
                  rw [e589] at p591
                  refine g_iconst C dX3_readFact_120 ?_
                  have e592 : Tg h574 v1 = 2006 := (fxT F578 e572)
                  exact g_iret C hr (nar_z2 (iw (il 1) (by decide) (by decide))).1 (iw (il 1) (by decide) (by decide)) ⟨O577, (((Fx.rf (wr := wr_k_readFact_1)).call F562 rfl).call F578 rfl), (iw (il 1) (by decide) (by decide)), (by unfold RInv; rw [e580, e582, e586, e589]; exact ⟨e592, p579.2.1, p590, p591⟩)⟩ (by decide) (by decide) dX3_readFact_121
            · exact (no_le (il 4) fa1 q512 (by decide)).elim
          · exact (no_eq (il 1) (il 0) q510 (by decide)).elim
        · refine g_iconst C dX3_readFact_42 ?_
          refine g_goto C 47 (by decide) dX3_readFact_43 ?_
          refine g_istore_n C [(3, .inl 1), (2, .inl 1), (0, .inr (.inr a0)), (1, .inl a1)] rfl (by decide) rfl dX3_readFact_47 ?_
          refine g_iload_n C rfl 1 rfl dX3_readFact_48 ?_
          refine g_if_ne C (iw (il 1) (by decide) (by decide)) 71 (by decide) dX3_readFact_49 (fun q593 => ?_) (fun q594 => ?_)
          · refine g_iload_n C rfl 3 rfl dX3_readFact_71 ?_
            refine g_iconst C dX3_readFact_72 ?_
            refine g_icmp_lt C (iw fa1 (by decide) (by decide)) (iw (il 4) (by decide) (by decide)) 82 (by decide) dX3_readFact_73 (fun q595 => ?_) (fun q596 => ?_)
            · refine g_iload_n C rfl 1 rfl dX3_readFact_82 ?_
              refine g_if_eq C (iw (il 1) (by decide) (by decide)) 122 (by decide) dX3_readFact_83 (fun q597 => ?_) (fun q598 => ?_)
              · exact (no_eq (il 1) (il 0) q597 (by decide)).elim
              · refine g_aload_n C rfl 2 rfl dX3_readFact_86 ?_
                refine g_aload_n C rfl 2 rfl dX3_readFact_87 ?_
                refine gf_I C fk_LandSurvey_Reader_49 rfl ta0 e5 dX3_readFact_88 ?_
                refine g_iconst C dX3_readFact_91 ?_
                refine g_icmp_ne C (iw f6 (by decide) (by decide)) (iw (il 2) (by decide) (by decide)) 103 (by decide) dX3_readFact_92 (fun q599 => ?_) (fun q600 => ?_)
                · refine g_iconst C dX3_readFact_103 ?_
                  refine g_aload_n C rfl 2 rfl dX3_readFact_104 ?_
                  refine gf_R C fk_LandSurvey_Reader_69 rfl ta0 e11 dX3_readFact_105 ?_
                  refine g_getf2 (x := .inl (wFa.getD i306 0)) C e308 (C.2.2.2.2.2.2.1.1 i306 q307).2.2 kw_2284 dX3_readFact_108 ?_
                  have f601 : (-12 : Int) ≤ ((-1) - (wFa.getD i306 0)) ∧ ((-1) - (wFa.getD i306 0)) ≤ (-1 : Int) := ia_sub (il (-1)) f506 (by decide) (by decide)
                  refine g_isub C dX3_readFact_111 ?_
                  refine g_callI (st := []) (gc_V C lk_LandSurvey_Reader_244 (k_X3_emit l D cy w z0 O ta0 (iw f601 (by decide) (by decide)) (by unfold RInv; rw [e2, e5, e8, e11]; exact ⟨t3, P_RInv.2.1, p12, p13⟩) (by omega)) ta0 rfl rfl rfl ⟨by decide, by decide⟩ (Nat.le_of_ble_eq_true rfl) dX3_readFact_112 ⟨(by decide), (by decide)⟩) (fun r602 h603 f605 K604 => ?_)
                  obtain ⟨O606, F607, f608, p609⟩ := K604
                  have e610 : Rv h603 a0 13 = v1 := ((fxR F607 ta0 rfl).trans e2)
                  have e611 : Iv h603 a0 4 = v4 := ((fxI F607 ta0 rfl).trans e5)
                  have e612 : Jv h603 a0 5 = v7 := ((fxJ F607 ta0 rfl).trans e8)
                  have e613 : Rv h603 a0 6 = v10 := ((fxR F607 ta0 rfl).trans e11)
                  have p614 := p609.2.2.1
                  rw [e611, e612] at p614
                  have p615 := p609.2.2.2
                  rw [e613] at p615
                  refine g_pop C rfl dX3_readFact_115 ?_
                  refine g_aload_n C rfl 2 rfl dX3_readFact_116 ?_
                  have e616 : Tg h603 a0 = 4 := (fxT F607 ta0)
                  have e617 : Tg h603 v1 = 2006 := (fxT F607 t3)
                  refine g_callV (st := []) (gc_V C lk_LandSurvey_Reader_46 (k_X3_advance l D cy w z0 O606 e616 (by unfold RInv; rw [e610, e611, e612, e613]; exact ⟨e617, p609.2.1, p614, p615⟩)) e616 rfl rfl rfl ⟨by decide, by decide⟩ (Nat.le_of_ble_eq_true rfl) dX3_readFact_117 ⟨(by decide), (by decide)⟩) (fun h619 K620 => ?_)
                  obtain ⟨O622, F623, p624⟩ := K620
                  have e625 : Rv h619 a0 13 = v1 := ((fxR F623 e616 rfl).trans e610)
                  obtain ⟨v626, e627⟩ : ∃ z, Iv h619 a0 4 = z := ⟨_, rfl⟩
                  have e628 : Tg h619 a0 = 4 := (fxT F623 e616)
                  have f629 := ok_I O622 e628 rI_4_4 e627
                  obtain ⟨v630, e631⟩ : ∃ z, Jv h619 a0 5 = z := ⟨_, rfl⟩
                  have f632 := inL_J O622 e631
                  obtain ⟨v633, e634⟩ : ∃ z, Rv h619 a0 6 = z := ⟨_, rfl⟩
                  have p635 := p624.2.2.1
                  rw [e627, e631] at p635
                  have p636 := p624.2.2.2
                  rw [e634] at p636
                  refine g_iconst C dX3_readFact_120 ?_
                  have e637 : Tg h619 v1 = 2006 := (fxT F623 e617)
                  exact g_iret C hr (nar_z2 (iw (il 1) (by decide) (by decide))).1 (iw (il 1) (by decide) (by decide)) ⟨O622, (((Fx.rf (wr := wr_k_readFact_1)).call F607 rfl).call F623 rfl), (iw (il 1) (by decide) (by decide)), (by unfold RInv; rw [e625, e627, e631, e634]; exact ⟨e637, p624.2.1, p635, p636⟩)⟩ (by decide) (by decide) dX3_readFact_121
                · have f638 : (2 : Int) ≤ v4 ∧ v4 ≤ (2 : Int) := ii f6 (r_eq (il 2) q600) (by decide) (by decide)
                  have f639 : (0 : Int) ≤ v7 ∧ v7 ≤ (9999 : Int) := by omega
                  refine g_aload_n C rfl 2 rfl dX3_readFact_95 ?_
                  refine gf_J C fk_LandSurvey_Reader_73 rfl ta0 e8 dX3_readFact_96 ?_
                  refine g_l2i C dX3_readFact_99 ?_
                  have f640 : (0 : Int) ≤ (l2w v7) ∧ (l2w v7) ≤ (9999 : Int) := l2w_in f639 (by decide) (by decide)
                  refine g_goto C 112 (by decide) dX3_readFact_100 ?_
                  refine g_callI (st := []) (gc_V C lk_LandSurvey_Reader_244 (k_X3_emit l D cy w z0 O ta0 (iw f640 (by decide) (by decide)) (by unfold RInv; rw [e2, e5, e8, e11]; exact ⟨t3, P_RInv.2.1, p12, p13⟩) (by omega)) ta0 rfl rfl rfl ⟨by decide, by decide⟩ (Nat.le_of_ble_eq_true rfl) dX3_readFact_112 ⟨(by decide), (by decide)⟩) (fun r641 h642 f644 K643 => ?_)
                  obtain ⟨O645, F646, f647, p648⟩ := K643
                  have e649 : Rv h642 a0 13 = v1 := ((fxR F646 ta0 rfl).trans e2)
                  have e650 : Iv h642 a0 4 = v4 := ((fxI F646 ta0 rfl).trans e5)
                  have e651 : Jv h642 a0 5 = v7 := ((fxJ F646 ta0 rfl).trans e8)
                  have e652 : Rv h642 a0 6 = v10 := ((fxR F646 ta0 rfl).trans e11)
                  have p653 := p648.2.2.1
                  rw [e650, e651] at p653
                  have p654 := p648.2.2.2
                  rw [e652] at p654
                  refine g_pop C rfl dX3_readFact_115 ?_
                  refine g_aload_n C rfl 2 rfl dX3_readFact_116 ?_
                  have e655 : Tg h642 a0 = 4 := (fxT F646 ta0)
                  have e656 : Tg h642 v1 = 2006 := (fxT F646 t3)
                  refine g_callV (st := []) (gc_V C lk_LandSurvey_Reader_46 (k_X3_advance l D cy w z0 O645 e655 (by unfold RInv; rw [e649, e650, e651, e652]; exact ⟨e656, p648.2.1, p653, p654⟩)) e655 rfl rfl rfl ⟨by decide, by decide⟩ (Nat.le_of_ble_eq_true rfl) dX3_readFact_117 ⟨(by decide), (by decide)⟩) (fun h658 K659 => ?_)
                  obtain ⟨O661, F662, p663⟩ := K659
                  have e664 : Rv h658 a0 13 = v1 := ((fxR F662 e655 rfl).trans e649)
                  obtain ⟨v665, e666⟩ : ∃ z, Iv h658 a0 4 = z := ⟨_, rfl⟩
                  have e667 : Tg h658 a0 = 4 := (fxT F662 e655)
                  have f668 := ok_I O661 e667 rI_4_4 e666
                  obtain ⟨v669, e670⟩ : ∃ z, Jv h658 a0 5 = z := ⟨_, rfl⟩
                  have f671 := inL_J O661 e670
                  obtain ⟨v672, e673⟩ : ∃ z, Rv h658 a0 6 = z := ⟨_, rfl⟩
                  have p674 := p663.2.2.1
                  rw [e666, e670] at p674
                  have p675 := p663.2.2.2
                  rw [e673] at p675
                  refine g_iconst C dX3_readFact_120 ?_
                  have e676 : Tg h658 v1 = 2006 := (fxT F662 e656)
                  exact g_iret C hr (nar_z2 (iw (il 1) (by decide) (by decide))).1 (iw (il 1) (by decide) (by decide)) ⟨O661, (((Fx.rf (wr := wr_k_readFact_1)).call F646 rfl).call F662 rfl), (iw (il 1) (by decide) (by decide)), (by unfold RInv; rw [e664, e666, e670, e673]; exact ⟨e676, p663.2.1, p674, p675⟩)⟩ (by decide) (by decide) dX3_readFact_121
            · exact (no_le (il 4) fa1 q596 (by decide)).elim
          · exact (no_eq (il 1) (il 0) q594 (by decide)).elim
def wr_k_readSum_1 : List Nat := [802, 803, 804, 805, 806, 807, 812, 4020000]
set_option maxRecDepth 100000 in
set_option maxHeartbeats 4000000 in
theorem k_readSum_1 (l : Launch) (D : va_G) (cy : Nat → ClassId) (w : Nat → Nat) (z0 : Nat)  {h : Hp} {a0 : Nat} {a1 : Int}  (O : Okh h) (ta0 : Tg h a0 = 4) (fa1 : 1 ≤ a1 ∧ a1 ≤ 1) (P_RInv : RInv w h a0) : MI l D cy w z0 yX3_readSum cX3_readSum 4 (some .boolean) 19 429 0 0 [.inr (.inr a0), .inl a1] h (fun v h1 => Okh h1 ∧ Fx wr_k_readSum_1 h h1 ∧ (0 ≤ v ∧ v ≤ 1) ∧ (RInv w h1 a0)) := by
  obtain ⟨v1, e2⟩ : ∃ z, Rv h a0 13 = z := ⟨_, rfl⟩
  have t3 := P_RInv.1
  rw [e2] at t3
  obtain ⟨v4, e5⟩ : ∃ z, Iv h a0 4 = z := ⟨_, rfl⟩
  have f6 := ok_I O ta0 rI_4_4 e5
  obtain ⟨v7, e8⟩ : ∃ z, Jv h a0 5 = z := ⟨_, rfl⟩
  have f9 := inL_J O e8
  obtain ⟨v10, e11⟩ : ∃ z, Rv h a0 6 = z := ⟨_, rfl⟩
  have p12 := P_RInv.2.2.1
  rw [e5, e8] at p12
  have p13 := P_RInv.2.2.2
  rw [e11] at p13
  refine hm_go (by decide +kernel) (Nat.le_of_ble_eq_true rfl) (fun p e s m below meth c C hr hn => ?_)
  refine g_aload_n C rfl 0 rfl dX3_readSum_0 ?_
  refine g_iload_n C rfl 1 rfl dX3_readSum_1 ?_
  refine g_callI (st := []) (gc_V C lk_LandSurvey_Reader_250 (k_readFact_1 l D cy w z0 O ta0 fa1 (by unfold RInv; rw [e2, e5, e8, e11]; exact ⟨t3, P_RInv.2.1, p12, p13⟩)) ta0 rfl rfl rfl ⟨by decide, by decide⟩ (Nat.le_of_ble_eq_true rfl) dX3_readSum_2 ⟨(by decide), (by decide)⟩) (fun r14 h15 f17 K16 => ?_)
  obtain ⟨O18, F19, f20, p21⟩ := K16
  have e22 : Rv h15 a0 13 = v1 := ((fxR F19 ta0 rfl).trans e2)
  obtain ⟨v23, e24⟩ : ∃ z, Iv h15 a0 4 = z := ⟨_, rfl⟩
  have e25 : Tg h15 a0 = 4 := (fxT F19 ta0)
  have f26 := ok_I O18 e25 rI_4_4 e24
  obtain ⟨v27, e28⟩ : ∃ z, Jv h15 a0 5 = z := ⟨_, rfl⟩
  have f29 := inL_J O18 e28
  obtain ⟨v30, e31⟩ : ∃ z, Rv h15 a0 6 = z := ⟨_, rfl⟩
  have p32 := p21.2.2.1
  rw [e24, e28] at p32
  have p33 := p21.2.2.2
  rw [e31] at p33
  refine g_if_ne C (iw f20 (by decide) (by decide)) 10 (by decide) dX3_readSum_5 (fun q34 => ?_) (fun q35 => ?_)
  · have f36 : (1 : Int) ≤ r14 ∧ r14 ≤ (1 : Int) := r_nl f20 q34
    refine g_iconst C dX3_readSum_10 ?_
    refine g_istore_n C [(2, .inl 0), (0, .inr (.inr a0)), (1, .inl a1)] rfl (by decide) rfl dX3_readSum_11 ?_
    refine GW.sub [1, 2, 0] rfl ?_
    -- loop at 12
    have L39 : ∀ (μ : Nat) (x37 : Int) (h38 : Hp), (1501 - x37).toNat = μ → Okh h38 → Fx [802, 803, 804, 805, 806, 807, 812, 4020000] h15 h38 → ((0 : Int) ≤ x37 ∧ x37 ≤ (1501 : Int)) → (RInv w h38 a0) → GW p l e (rmm 19 429 0 0) s m (List.map toV [.inr (.inr a0), .inl a1]).toArray below meth c D cy z0 4 (MQ below (QI D cy z0 (fun v h1 => Okh h1 ∧ Fx wr_k_readSum_1 h h1 ∧ (0 ≤ v ∧ v ≤ 1) ∧ (RInv w h1 a0))) (List.map toV [.inr (.inr a0), .inl a1]).toArray s 0 0 (Aof z0)) 12 [(0, .inr (.inr a0)), (1, .inl a1), (2, .inl x37)] [] h38 0 0 := by
      intro μ
      induction μ using Nat.strongRecOn with
      | ind μ ih40 =>
        intro x37 h38 hm41 O42 F43 f44 p45
        have e46 : Rv h38 a0 13 = v1 := ((fxR F43 e25 rfl).trans e22)
        obtain ⟨v47, e48⟩ : ∃ z, Iv h38 a0 4 = z := ⟨_, rfl⟩
        have e49 : Tg h38 a0 = 4 := (fxT F43 e25)
        have f50 := ok_I O42 e49 rI_4_4 e48
        obtain ⟨v51, e52⟩ : ∃ z, Jv h38 a0 5 = z := ⟨_, rfl⟩
        have f53 := inL_J O42 e52
        obtain ⟨v54, e55⟩ : ∃ z, Rv h38 a0 6 = z := ⟨_, rfl⟩
        have p56 := p45.2.2.1
        rw [e48, e52] at p56
        have p57 := p45.2.2.2
        rw [e55] at p57
        refine g_iload_n C rfl 2 rfl dX3_readSum_12 ?_
        refine g_sipush C (by decide) dX3_readSum_13 ?_
        refine g_icmp_gt C (iw f44 (by decide) (by decide)) (iw (il 1500) (by decide) (by decide)) 82 (by decide) dX3_readSum_16 (fun q58 => ?_) (fun q59 => ?_)
        · have f60 : (1501 : Int) ≤ x37 ∧ x37 ≤ (1501 : Int) := r_gt f44 (il 1500) q58 (by decide) (by decide)
          refine g_iconst C dX3_readSum_82 ?_
          have e61 : Tg h38 v1 = 2006 := (fxT F43 (fxT F19 t3))
          exact g_iret C hr (nar_z2 (iw (il 1) (by decide) (by decide))).1 (iw (il 1) (by decide) (by decide)) ⟨O42, (((Fx.rf (wr := wr_k_readSum_1)).call F19 rfl).call F43 rfl), (iw (il 1) (by decide) (by decide)), (by unfold RInv; rw [e46, e48, e52, e55]; exact ⟨e61, p45.2.1, p56, p57⟩)⟩ (by decide) (by decide) dX3_readSum_83
        · have f62 : (0 : Int) ≤ x37 ∧ x37 ≤ (1500 : Int) := r_le f44 (il 1500) q59 (by decide) (by decide)
          refine g_aload_n C rfl 0 rfl dX3_readSum_19 ?_
          refine g_bipush C (by decide) dX3_readSum_20 ?_
          refine g_callI (st := []) (gc_V C lk_LandSurvey_Reader_95 (k_X3_isNext l D cy w z0 O42 e49 (iw (il 43) (by decide) (by decide))) e49 rfl rfl rfl ⟨by decide, by decide⟩ (Nat.le_of_ble_eq_true rfl) dX3_readSum_22 ⟨(by decide), (by decide)⟩) (fun r63 h64 f66 K65 => ?_)
          obtain ⟨O67, F68, f69⟩ := K65
          refine g_if_ne C (iw f69 (by decide) (by decide)) 37 (by decide) dX3_readSum_25 (fun q70 => ?_) (fun q71 => ?_)
          · have f72 : (1 : Int) ≤ r63 ∧ r63 ≤ (1 : Int) := r_nl f69 q70
            refine g_aload_n C rfl 0 rfl dX3_readSum_37 ?_
            refine g_bipush C (by decide) dX3_readSum_38 ?_
            have e73 : Tg h64 a0 = 4 := (fxT F68 e49)
            refine g_callI (st := []) (gc_V C lk_LandSurvey_Reader_95 (k_X3_isNext l D cy w z0 O67 e73 (iw (il 43) (by decide) (by decide))) e73 rfl rfl rfl ⟨by decide, by decide⟩ (Nat.le_of_ble_eq_true rfl) dX3_readSum_40 ⟨(by decide), (by decide)⟩) (fun r74 h75 f77 K76 => ?_)
            obtain ⟨O78, F79, f80⟩ := K76
            refine g_if_eq C (iw f80 (by decide) (by decide)) 51 (by decide) dX3_readSum_43 (fun q81 => ?_) (fun q82 => ?_)
            · have f83 : (0 : Int) ≤ r74 ∧ r74 ≤ (0 : Int) := ii f80 (r_eq (il 0) q81) (by decide) (by decide)
              refine g_bipush C (by decide) dX3_readSum_51 ?_
              refine g_istore_n C [(3, .inl (-22)), (0, .inr (.inr a0)), (1, .inl a1), (2, .inl x37)] rfl (by decide) rfl dX3_readSum_53 ?_
              refine g_aload_n C rfl 1 rfl dX3_readSum_54 ?_
              have e84 : Tg h75 a0 = 4 := (fxT F79 e73)
              have e85 : Rv h75 a0 13 = v1 := ((fxR F79 e73 rfl).trans ((fxR F68 e49 rfl).trans e46))
              have e86 : Iv h75 a0 4 = v47 := ((fxI F79 e73 rfl).trans ((fxI F68 e49 rfl).trans e48))
              have e87 : Jv h75 a0 5 = v51 := ((fxJ F79 e73 rfl).trans ((fxJ F68 e49 rfl).trans e52))
              have e88 : Rv h75 a0 6 = v54 := ((fxR F79 e73 rfl).trans ((fxR F68 e49 rfl).trans e55))
              have e89 : Tg h75 v1 = 2006 := (fxT F79 (fxT F68 (fxT F43 (fxT F19 t3))))
              have e90 : Tg h38 v1 = 2006 := (fxT F43 (fxT F19 t3))
              have e91 : Rv h64 a0 13 = v1 := ((fxR F68 e49 rfl).trans e46)
              have e92 : Tg h64 v1 = 2006 := (fxT F68 e90)
              have p93 := (DOk_fx O67 F79 e73 (by rw [e91]; exact e92) rfl (DOk_fx O42 F68 e49 (by rw [e46]; exact e90) rfl p45.2.1))
              refine g_callV (st := []) (gc_V C lk_LandSurvey_Reader_46 (k_X3_advance l D cy w z0 O78 e84 (by unfold RInv; rw [e85, e86, e87, e88]; exact ⟨e89, p93, p56, p57⟩)) e84 rfl rfl rfl ⟨by decide, by decide⟩ (Nat.le_of_ble_eq_true rfl) dX3_readSum_55 ⟨(by decide), (by decide)⟩) (fun h95 K96 => ?_)
              obtain ⟨O98, F99, p100⟩ := K96
              have e101 : Rv h95 a0 13 = v1 := ((fxR F99 e84 rfl).trans e85)
              obtain ⟨v102, e103⟩ : ∃ z, Iv h95 a0 4 = z := ⟨_, rfl⟩
              have e104 : Tg h95 a0 = 4 := (fxT F99 e84)
              have f105 := ok_I O98 e104 rI_4_4 e103
              obtain ⟨v106, e107⟩ : ∃ z, Jv h95 a0 5 = z := ⟨_, rfl⟩
              have f108 := inL_J O98 e107
              obtain ⟨v109, e110⟩ : ∃ z, Rv h95 a0 6 = z := ⟨_, rfl⟩
              have p111 := p100.2.2.1
              rw [e103, e107] at p111
              have p112 := p100.2.2.2
              rw [e110] at p112
              refine g_aload_n C rfl 1 rfl dX3_readSum_58 ?_
              refine g_iload_n C rfl 2 rfl dX3_readSum_59 ?_
              have e113 : Tg h95 v1 = 2006 := (fxT F99 e89)
              refine g_callI (st := []) (gc_V C lk_LandSurvey_Reader_250 (k_readFact_1 l D cy w z0 O98 e104 fa1 (by unfold RInv; rw [e101, e103, e107, e110]; exact ⟨e113, p100.2.1, p111, p112⟩)) e104 rfl rfl rfl ⟨by decide, by decide⟩ (Nat.le_of_ble_eq_true rfl) dX3_readSum_60 ⟨(by decide), (by decide)⟩) (fun r114 h115 f117 K116 => ?_)
              obtain ⟨O118, F119, f120, p121⟩ := K116
              have e122 : Rv h115 a0 13 = v1 := ((fxR F119 e104 rfl).trans e101)
              obtain ⟨v123, e124⟩ : ∃ z, Iv h115 a0 4 = z := ⟨_, rfl⟩
              have e125 : Tg h115 a0 = 4 := (fxT F119 e104)
              have f126 := ok_I O118 e125 rI_4_4 e124
              obtain ⟨v127, e128⟩ : ∃ z, Jv h115 a0 5 = z := ⟨_, rfl⟩
              have f129 := inL_J O118 e128
              obtain ⟨v130, e131⟩ : ∃ z, Rv h115 a0 6 = z := ⟨_, rfl⟩
              have p132 := p121.2.2.1
              rw [e124, e128] at p132
              have p133 := p121.2.2.2
              rw [e131] at p133
              refine g_if_eq C (iw f120 (by decide) (by decide)) 74 (by decide) dX3_readSum_63 (fun q134 => ?_) (fun q135 => ?_)
              · have f136 : (0 : Int) ≤ r114 ∧ r114 ≤ (0 : Int) := ii f120 (r_eq (il 0) q134) (by decide) (by decide)
                refine g_iconst C dX3_readSum_74 ?_
                have e137 : Tg h115 v1 = 2006 := (fxT F119 e113)
                exact g_iret C hr (nar_z2 (iw (il 0) (by decide) (by decide))).1 (iw (il 0) (by decide) (by decide)) ⟨O118, (((((((Fx.rf (wr := wr_k_readSum_1)).call F19 rfl).call F43 rfl).call F68 rfl).call F79 rfl).call F99 rfl).call F119 rfl), (iw (il 0) (by decide) (by decide)), (by unfold RInv; rw [e122, e124, e128, e131]; exact ⟨e137, p121.2.1, p132, p133⟩)⟩ (by decide) (by decide) dX3_readSum_75
              · have f138 : (1 : Int) ≤ r114 ∧ r114 ≤ (1 : Int) := r_nl f120 q135
                refine g_aload_n C rfl 1 rfl dX3_readSum_66 ?_
                refine g_iload_n C rfl 0 rfl dX3_readSum_67 ?_
                have e139 : Tg h115 v1 = 2006 := (fxT F119 e113)
                refine g_callI (st := []) (gc_V C lk_LandSurvey_Reader_244 (k_X3_emit l D cy w z0 O118 e125 (iw (il (-22)) (by decide) (by decide)) (by unfold RInv; rw [e122, e124, e128, e131]; exact ⟨e139, p121.2.1, p132, p133⟩) (by omega)) e125 rfl rfl rfl ⟨by decide, by decide⟩ (Nat.le_of_ble_eq_true rfl) dX3_readSum_68 ⟨(by decide), (by decide)⟩) (fun r140 h141 f143 K142 => ?_)
                obtain ⟨O144, F145, f146, p147⟩ := K142
                have e148 : Rv h141 a0 13 = v1 := ((fxR F145 e125 rfl).trans e122)
                have e149 : Iv h141 a0 4 = v123 := ((fxI F145 e125 rfl).trans e124)
                have e150 : Jv h141 a0 5 = v127 := ((fxJ F145 e125 rfl).trans e128)
                have e151 : Rv h141 a0 6 = v130 := ((fxR F145 e125 rfl).trans e131)
                have p152 := p147.2.2.1
                rw [e149, e150] at p152
                have p153 := p147.2.2.2
                rw [e151] at p153
                refine g_if_ne C (iw f146 (by decide) (by decide)) 76 (by decide) dX3_readSum_71 (fun q154 => ?_) (fun q155 => ?_)
                · have f156 : (1 : Int) ≤ (x37 + 1) ∧ (x37 + 1) ≤ (1501 : Int) := ia_add f62 (il 1) (by decide) (by decide)
                  refine g_iinc C [(2, .inl (x37 + 1)), (3, .inl (-22)), (0, .inr (.inr a0)), (1, .inl a1)] 3 rfl (by decide) rfl dX3_readSum_76 ?_
                  refine g_goto C 12 (by decide) dX3_readSum_79 ?_
                  refine GW.sub [2, 3, 0] rfl ?_
                  have e157 : Tg h141 v1 = 2006 := (fxT F145 e139)
                  exact ih40 _ (by omega) (x37 + 1) h141 rfl O144 (((((F43.call F68 rfl).call F79 rfl).call F99 rfl).call F119 rfl).call F145 rfl) (iw f156 (by decide) (by decide)) (by unfold RInv; rw [e148, e149, e150, e151]; exact ⟨e157, p147.2.1, p152, p153⟩)
                · exact (no_eq f146 (il 0) q155 (by decide)).elim
            · have f158 : (1 : Int) ≤ r74 ∧ r74 ≤ (1 : Int) := r_nl f80 q82
              refine g_bipush C (by decide) dX3_readSum_46 ?_
              refine g_goto C 53 (by decide) dX3_readSum_48 ?_
              refine g_istore_n C [(3, .inl (-21)), (0, .inr (.inr a0)), (1, .inl a1), (2, .inl x37)] rfl (by decide) rfl dX3_readSum_53 ?_
              refine g_aload_n C rfl 1 rfl dX3_readSum_54 ?_
              have e159 : Tg h75 a0 = 4 := (fxT F79 e73)
              have e160 : Rv h75 a0 13 = v1 := ((fxR F79 e73 rfl).trans ((fxR F68 e49 rfl).trans e46))
              have e161 : Iv h75 a0 4 = v47 := ((fxI F79 e73 rfl).trans ((fxI F68 e49 rfl).trans e48))
              have e162 : Jv h75 a0 5 = v51 := ((fxJ F79 e73 rfl).trans ((fxJ F68 e49 rfl).trans e52))
              have e163 : Rv h75 a0 6 = v54 := ((fxR F79 e73 rfl).trans ((fxR F68 e49 rfl).trans e55))
              have e164 : Tg h75 v1 = 2006 := (fxT F79 (fxT F68 (fxT F43 (fxT F19 t3))))
              have e165 : Tg h38 v1 = 2006 := (fxT F43 (fxT F19 t3))
              have e166 : Rv h64 a0 13 = v1 := ((fxR F68 e49 rfl).trans e46)
              have e167 : Tg h64 v1 = 2006 := (fxT F68 e165)
              have p168 := (DOk_fx O67 F79 e73 (by rw [e166]; exact e167) rfl (DOk_fx O42 F68 e49 (by rw [e46]; exact e165) rfl p45.2.1))
              refine g_callV (st := []) (gc_V C lk_LandSurvey_Reader_46 (k_X3_advance l D cy w z0 O78 e159 (by unfold RInv; rw [e160, e161, e162, e163]; exact ⟨e164, p168, p56, p57⟩)) e159 rfl rfl rfl ⟨by decide, by decide⟩ (Nat.le_of_ble_eq_true rfl) dX3_readSum_55 ⟨(by decide), (by decide)⟩) (fun h170 K171 => ?_)
              obtain ⟨O173, F174, p175⟩ := K171
              have e176 : Rv h170 a0 13 = v1 := ((fxR F174 e159 rfl).trans e160)
              obtain ⟨v177, e178⟩ : ∃ z, Iv h170 a0 4 = z := ⟨_, rfl⟩
              have e179 : Tg h170 a0 = 4 := (fxT F174 e159)
              have f180 := ok_I O173 e179 rI_4_4 e178
              obtain ⟨v181, e182⟩ : ∃ z, Jv h170 a0 5 = z := ⟨_, rfl⟩
              have f183 := inL_J O173 e182
              obtain ⟨v184, e185⟩ : ∃ z, Rv h170 a0 6 = z := ⟨_, rfl⟩
              have p186 := p175.2.2.1
              rw [e178, e182] at p186
              have p187 := p175.2.2.2
              rw [e185] at p187
              refine g_aload_n C rfl 1 rfl dX3_readSum_58 ?_
              refine g_iload_n C rfl 2 rfl dX3_readSum_59 ?_
              have e188 : Tg h170 v1 = 2006 := (fxT F174 e164)
              refine g_callI (st := []) (gc_V C lk_LandSurvey_Reader_250 (k_readFact_1 l D cy w z0 O173 e179 fa1 (by unfold RInv; rw [e176, e178, e182, e185]; exact ⟨e188, p175.2.1, p186, p187⟩)) e179 rfl rfl rfl ⟨by decide, by decide⟩ (Nat.le_of_ble_eq_true rfl) dX3_readSum_60 ⟨(by decide), (by decide)⟩) (fun r189 h190 f192 K191 => ?_)
              obtain ⟨O193, F194, f195, p196⟩ := K191
              have e197 : Rv h190 a0 13 = v1 := ((fxR F194 e179 rfl).trans e176)
              obtain ⟨v198, e199⟩ : ∃ z, Iv h190 a0 4 = z := ⟨_, rfl⟩
              have e200 : Tg h190 a0 = 4 := (fxT F194 e179)
              have f201 := ok_I O193 e200 rI_4_4 e199
              obtain ⟨v202, e203⟩ : ∃ z, Jv h190 a0 5 = z := ⟨_, rfl⟩
              have f204 := inL_J O193 e203
              obtain ⟨v205, e206⟩ : ∃ z, Rv h190 a0 6 = z := ⟨_, rfl⟩
              have p207 := p196.2.2.1
              rw [e199, e203] at p207
              have p208 := p196.2.2.2
              rw [e206] at p208
              refine g_if_eq C (iw f195 (by decide) (by decide)) 74 (by decide) dX3_readSum_63 (fun q209 => ?_) (fun q210 => ?_)
              · have f211 : (0 : Int) ≤ r189 ∧ r189 ≤ (0 : Int) := ii f195 (r_eq (il 0) q209) (by decide) (by decide)
                refine g_iconst C dX3_readSum_74 ?_
                have e212 : Tg h190 v1 = 2006 := (fxT F194 e188)
                exact g_iret C hr (nar_z2 (iw (il 0) (by decide) (by decide))).1 (iw (il 0) (by decide) (by decide)) ⟨O193, (((((((Fx.rf (wr := wr_k_readSum_1)).call F19 rfl).call F43 rfl).call F68 rfl).call F79 rfl).call F174 rfl).call F194 rfl), (iw (il 0) (by decide) (by decide)), (by unfold RInv; rw [e197, e199, e203, e206]; exact ⟨e212, p196.2.1, p207, p208⟩)⟩ (by decide) (by decide) dX3_readSum_75
              · have f213 : (1 : Int) ≤ r189 ∧ r189 ≤ (1 : Int) := r_nl f195 q210
                refine g_aload_n C rfl 1 rfl dX3_readSum_66 ?_
                refine g_iload_n C rfl 0 rfl dX3_readSum_67 ?_
                have e214 : Tg h190 v1 = 2006 := (fxT F194 e188)
                refine g_callI (st := []) (gc_V C lk_LandSurvey_Reader_244 (k_X3_emit l D cy w z0 O193 e200 (iw (il (-21)) (by decide) (by decide)) (by unfold RInv; rw [e197, e199, e203, e206]; exact ⟨e214, p196.2.1, p207, p208⟩) (by omega)) e200 rfl rfl rfl ⟨by decide, by decide⟩ (Nat.le_of_ble_eq_true rfl) dX3_readSum_68 ⟨(by decide), (by decide)⟩) (fun r215 h216 f218 K217 => ?_)
                obtain ⟨O219, F220, f221, p222⟩ := K217
                have e223 : Rv h216 a0 13 = v1 := ((fxR F220 e200 rfl).trans e197)
                have e224 : Iv h216 a0 4 = v198 := ((fxI F220 e200 rfl).trans e199)
                have e225 : Jv h216 a0 5 = v202 := ((fxJ F220 e200 rfl).trans e203)
                have e226 : Rv h216 a0 6 = v205 := ((fxR F220 e200 rfl).trans e206)
                have p227 := p222.2.2.1
                rw [e224, e225] at p227
                have p228 := p222.2.2.2
                rw [e226] at p228
                refine g_if_ne C (iw f221 (by decide) (by decide)) 76 (by decide) dX3_readSum_71 (fun q229 => ?_) (fun q230 => ?_)
                · have f231 : (1 : Int) ≤ (x37 + 1) ∧ (x37 + 1) ≤ (1501 : Int) := ia_add f62 (il 1) (by decide) (by decide)
                  refine g_iinc C [(2, .inl (x37 + 1)), (3, .inl (-21)), (0, .inr (.inr a0)), (1, .inl a1)] 3 rfl (by decide) rfl dX3_readSum_76 ?_
                  refine g_goto C 12 (by decide) dX3_readSum_79 ?_
                  refine GW.sub [2, 3, 0] rfl ?_
                  have e232 : Tg h216 v1 = 2006 := (fxT F220 e214)
                  exact ih40 _ (by omega) (x37 + 1) h216 rfl O219 (((((F43.call F68 rfl).call F79 rfl).call F174 rfl).call F194 rfl).call F220 rfl) (iw f231 (by decide) (by decide)) (by unfold RInv; rw [e223, e224, e225, e226]; exact ⟨e232, p222.2.1, p227, p228⟩)
                · exact (no_eq f221 (il 0) q230 (by decide)).elim
          · have f233 : (0 : Int) ≤ r63 ∧ r63 ≤ (0 : Int) := ii f69 (r_eq (il 0) q71) (by decide) (by decide)
            refine g_aload_n C rfl 0 rfl dX3_readSum_28 ?_
            refine g_bipush C (by decide) dX3_readSum_29 ?_
            have e234 : Tg h64 a0 = 4 := (fxT F68 e49)
            refine g_callI (st := []) (gc_V C lk_LandSurvey_Reader_95 (k_X3_isNext l D cy w z0 O67 e234 (iw (il 45) (by decide) (by decide))) e234 rfl rfl rfl ⟨by decide, by decide⟩ (Nat.le_of_ble_eq_true rfl) dX3_readSum_31 ⟨(by decide), (by decide)⟩) (fun r235 h236 f238 K237 => ?_)
            obtain ⟨O239, F240, f241⟩ := K237
            refine g_if_eq C (iw f241 (by decide) (by decide)) 82 (by decide) dX3_readSum_34 (fun q242 => ?_) (fun q243 => ?_)
            · have f244 : (0 : Int) ≤ r235 ∧ r235 ≤ (0 : Int) := ii f241 (r_eq (il 0) q242) (by decide) (by decide)
              refine g_iconst C dX3_readSum_82 ?_
              have e245 : Rv h236 a0 13 = v1 := ((fxR F240 e234 rfl).trans ((fxR F68 e49 rfl).trans e46))
              have e246 : Iv h236 a0 4 = v47 := ((fxI F240 e234 rfl).trans ((fxI F68 e49 rfl).trans e48))
              have e247 : Jv h236 a0 5 = v51 := ((fxJ F240 e234 rfl).trans ((fxJ F68 e49 rfl).trans e52))
              have e248 : Rv h236 a0 6 = v54 := ((fxR F240 e234 rfl).trans ((fxR F68 e49 rfl).trans e55))
              have e249 : Tg h236 v1 = 2006 := (fxT F240 (fxT F68 (fxT F43 (fxT F19 t3))))
              have e250 : Tg h38 v1 = 2006 := (fxT F43 (fxT F19 t3))
              have e251 : Rv h64 a0 13 = v1 := ((fxR F68 e49 rfl).trans e46)
              have e252 : Tg h64 v1 = 2006 := (fxT F68 e250)
              have p253 := (DOk_fx O67 F240 e234 (by rw [e251]; exact e252) rfl (DOk_fx O42 F68 e49 (by rw [e46]; exact e250) rfl p45.2.1))
              exact g_iret C hr (nar_z2 (iw (il 1) (by decide) (by decide))).1 (iw (il 1) (by decide) (by decide)) ⟨O239, (((((Fx.rf (wr := wr_k_readSum_1)).call F19 rfl).call F43 rfl).call F68 rfl).call F240 rfl), (iw (il 1) (by decide) (by decide)), (by unfold RInv; rw [e245, e246, e247, e248]; exact ⟨e249, p253, p56, p57⟩)⟩ (by decide) (by decide) dX3_readSum_83
            · have f254 : (1 : Int) ≤ r235 ∧ r235 ≤ (1 : Int) := r_nl f241 q243
              refine g_aload_n C rfl 0 rfl dX3_readSum_37 ?_
              refine g_bipush C (by decide) dX3_readSum_38 ?_
              have e255 : Tg h236 a0 = 4 := (fxT F240 e234)
              refine g_callI (st := []) (gc_V C lk_LandSurvey_Reader_95 (k_X3_isNext l D cy w z0 O239 e255 (iw (il 43) (by decide) (by decide))) e255 rfl rfl rfl ⟨by decide, by decide⟩ (Nat.le_of_ble_eq_true rfl) dX3_readSum_40 ⟨(by decide), (by decide)⟩) (fun r256 h257 f259 K258 => ?_)
              obtain ⟨O260, F261, f262⟩ := K258
              refine g_if_eq C (iw f262 (by decide) (by decide)) 51 (by decide) dX3_readSum_43 (fun q263 => ?_) (fun q264 => ?_)
              · have f265 : (0 : Int) ≤ r256 ∧ r256 ≤ (0 : Int) := ii f262 (r_eq (il 0) q263) (by decide) (by decide)
                refine g_bipush C (by decide) dX3_readSum_51 ?_
                refine g_istore_n C [(3, .inl (-22)), (0, .inr (.inr a0)), (1, .inl a1), (2, .inl x37)] rfl (by decide) rfl dX3_readSum_53 ?_
                refine g_aload_n C rfl 1 rfl dX3_readSum_54 ?_
                have e266 : Tg h257 a0 = 4 := (fxT F261 e255)
                have e267 : Rv h257 a0 13 = v1 := ((fxR F261 e255 rfl).trans ((fxR F240 e234 rfl).trans ((fxR F68 e49 rfl).trans e46)))
                have e268 : Iv h257 a0 4 = v47 := ((fxI F261 e255 rfl).trans ((fxI F240 e234 rfl).trans ((fxI F68 e49 rfl).trans e48)))
                have e269 : Jv h257 a0 5 = v51 := ((fxJ F261 e255 rfl).trans ((fxJ F240 e234 rfl).trans ((fxJ F68 e49 rfl).trans e52)))
                have e270 : Rv h257 a0 6 = v54 := ((fxR F261 e255 rfl).trans ((fxR F240 e234 rfl).trans ((fxR F68 e49 rfl).trans e55)))
                have e271 : Tg h257 v1 = 2006 := (fxT F261 (fxT F240 (fxT F68 (fxT F43 (fxT F19 t3)))))
                have e272 : Tg h38 v1 = 2006 := (fxT F43 (fxT F19 t3))
                have e273 : Rv h64 a0 13 = v1 := ((fxR F68 e49 rfl).trans e46)
                have e274 : Tg h64 v1 = 2006 := (fxT F68 e272)
                have e275 : Rv h236 a0 13 = v1 := ((fxR F240 e234 rfl).trans e273)
                have e276 : Tg h236 v1 = 2006 := (fxT F240 e274)
                have p277 := (DOk_fx O239 F261 e255 (by rw [e275]; exact e276) rfl (DOk_fx O67 F240 e234 (by rw [e273]; exact e274) rfl (DOk_fx O42 F68 e49 (by rw [e46]; exact e272) rfl p45.2.1)))
                refine g_callV (st := []) (gc_V C lk_LandSurvey_Reader_46 (k_X3_advance l D cy w z0 O260 e266 (by unfold RInv; rw [e267, e268, e269, e270]; exact ⟨e271, p277, p56, p57⟩)) e266 rfl rfl rfl ⟨by decide, by decide⟩ (Nat.le_of_ble_eq_true rfl) dX3_readSum_55 ⟨(by decide), (by decide)⟩) (fun h279 K280 => ?_)
                obtain ⟨O282, F283, p284⟩ := K280
                have e285 : Rv h279 a0 13 = v1 := ((fxR F283 e266 rfl).trans e267)
                obtain ⟨v286, e287⟩ : ∃ z, Iv h279 a0 4 = z := ⟨_, rfl⟩
                have e288 : Tg h279 a0 = 4 := (fxT F283 e266)
                have f289 := ok_I O282 e288 rI_4_4 e287
                obtain ⟨v290, e291⟩ : ∃ z, Jv h279 a0 5 = z := ⟨_, rfl⟩
                have f292 := inL_J O282 e291
                obtain ⟨v293, e294⟩ : ∃ z, Rv h279 a0 6 = z := ⟨_, rfl⟩
                have p295 := p284.2.2.1
                rw [e287, e291] at p295
                have p296 := p284.2.2.2
                rw [e294] at p296
                refine g_aload_n C rfl 1 rfl dX3_readSum_58 ?_
                refine g_iload_n C rfl 2 rfl dX3_readSum_59 ?_
                have e297 : Tg h279 v1 = 2006 := (fxT F283 e271)
                refine g_callI (st := []) (gc_V C lk_LandSurvey_Reader_250 (k_readFact_1 l D cy w z0 O282 e288 fa1 (by unfold RInv; rw [e285, e287, e291, e294]; exact ⟨e297, p284.2.1, p295, p296⟩)) e288 rfl rfl rfl ⟨by decide, by decide⟩ (Nat.le_of_ble_eq_true rfl) dX3_readSum_60 ⟨(by decide), (by decide)⟩) (fun r298 h299 f301 K300 => ?_)
                obtain ⟨O302, F303, f304, p305⟩ := K300
                have e306 : Rv h299 a0 13 = v1 := ((fxR F303 e288 rfl).trans e285)
                obtain ⟨v307, e308⟩ : ∃ z, Iv h299 a0 4 = z := ⟨_, rfl⟩
                have e309 : Tg h299 a0 = 4 := (fxT F303 e288)
                have f310 := ok_I O302 e309 rI_4_4 e308
                obtain ⟨v311, e312⟩ : ∃ z, Jv h299 a0 5 = z := ⟨_, rfl⟩
                have f313 := inL_J O302 e312
                obtain ⟨v314, e315⟩ : ∃ z, Rv h299 a0 6 = z := ⟨_, rfl⟩
                have p316 := p305.2.2.1
                rw [e308, e312] at p316
                have p317 := p305.2.2.2
                rw [e315] at p317
                refine g_if_eq C (iw f304 (by decide) (by decide)) 74 (by decide) dX3_readSum_63 (fun q318 => ?_) (fun q319 => ?_)
                · have f320 : (0 : Int) ≤ r298 ∧ r298 ≤ (0 : Int) := ii f304 (r_eq (il 0) q318) (by decide) (by decide)
                  refine g_iconst C dX3_readSum_74 ?_
                  have e321 : Tg h299 v1 = 2006 := (fxT F303 e297)
                  exact g_iret C hr (nar_z2 (iw (il 0) (by decide) (by decide))).1 (iw (il 0) (by decide) (by decide)) ⟨O302, ((((((((Fx.rf (wr := wr_k_readSum_1)).call F19 rfl).call F43 rfl).call F68 rfl).call F240 rfl).call F261 rfl).call F283 rfl).call F303 rfl), (iw (il 0) (by decide) (by decide)), (by unfold RInv; rw [e306, e308, e312, e315]; exact ⟨e321, p305.2.1, p316, p317⟩)⟩ (by decide) (by decide) dX3_readSum_75
                · have f322 : (1 : Int) ≤ r298 ∧ r298 ≤ (1 : Int) := r_nl f304 q319
                  refine g_aload_n C rfl 1 rfl dX3_readSum_66 ?_
                  refine g_iload_n C rfl 0 rfl dX3_readSum_67 ?_
                  have e323 : Tg h299 v1 = 2006 := (fxT F303 e297)
                  refine g_callI (st := []) (gc_V C lk_LandSurvey_Reader_244 (k_X3_emit l D cy w z0 O302 e309 (iw (il (-22)) (by decide) (by decide)) (by unfold RInv; rw [e306, e308, e312, e315]; exact ⟨e323, p305.2.1, p316, p317⟩) (by omega)) e309 rfl rfl rfl ⟨by decide, by decide⟩ (Nat.le_of_ble_eq_true rfl) dX3_readSum_68 ⟨(by decide), (by decide)⟩) (fun r324 h325 f327 K326 => ?_)
                  obtain ⟨O328, F329, f330, p331⟩ := K326
                  have e332 : Rv h325 a0 13 = v1 := ((fxR F329 e309 rfl).trans e306)
                  have e333 : Iv h325 a0 4 = v307 := ((fxI F329 e309 rfl).trans e308)
                  have e334 : Jv h325 a0 5 = v311 := ((fxJ F329 e309 rfl).trans e312)
                  have e335 : Rv h325 a0 6 = v314 := ((fxR F329 e309 rfl).trans e315)
                  have p336 := p331.2.2.1
                  rw [e333, e334] at p336
                  have p337 := p331.2.2.2
                  rw [e335] at p337
                  refine g_if_ne C (iw f330 (by decide) (by decide)) 76 (by decide) dX3_readSum_71 (fun q338 => ?_) (fun q339 => ?_)
                  · have f340 : (1 : Int) ≤ (x37 + 1) ∧ (x37 + 1) ≤ (1501 : Int) := ia_add f62 (il 1) (by decide) (by decide)
                    refine g_iinc C [(2, .inl (x37 + 1)), (3, .inl (-22)), (0, .inr (.inr a0)), (1, .inl a1)] 3 rfl (by decide) rfl dX3_readSum_76 ?_
                    refine g_goto C 12 (by decide) dX3_readSum_79 ?_
                    refine GW.sub [2, 3, 0] rfl ?_
                    have e341 : Tg h325 v1 = 2006 := (fxT F329 e323)
                    exact ih40 _ (by omega) (x37 + 1) h325 rfl O328 ((((((F43.call F68 rfl).call F240 rfl).call F261 rfl).call F283 rfl).call F303 rfl).call F329 rfl) (iw f340 (by decide) (by decide)) (by unfold RInv; rw [e332, e333, e334, e335]; exact ⟨e341, p331.2.1, p336, p337⟩)
                  · exact (no_eq f330 (il 0) q339 (by decide)).elim
              · have f342 : (1 : Int) ≤ r256 ∧ r256 ≤ (1 : Int) := r_nl f262 q264
                refine g_bipush C (by decide) dX3_readSum_46 ?_
                refine g_goto C 53 (by decide) dX3_readSum_48 ?_
                refine g_istore_n C [(3, .inl (-21)), (0, .inr (.inr a0)), (1, .inl a1), (2, .inl x37)] rfl (by decide) rfl dX3_readSum_53 ?_
                refine g_aload_n C rfl 1 rfl dX3_readSum_54 ?_
                have e343 : Tg h257 a0 = 4 := (fxT F261 e255)
                have e344 : Rv h257 a0 13 = v1 := ((fxR F261 e255 rfl).trans ((fxR F240 e234 rfl).trans ((fxR F68 e49 rfl).trans e46)))
                have e345 : Iv h257 a0 4 = v47 := ((fxI F261 e255 rfl).trans ((fxI F240 e234 rfl).trans ((fxI F68 e49 rfl).trans e48)))
                have e346 : Jv h257 a0 5 = v51 := ((fxJ F261 e255 rfl).trans ((fxJ F240 e234 rfl).trans ((fxJ F68 e49 rfl).trans e52)))
                have e347 : Rv h257 a0 6 = v54 := ((fxR F261 e255 rfl).trans ((fxR F240 e234 rfl).trans ((fxR F68 e49 rfl).trans e55)))
                have e348 : Tg h257 v1 = 2006 := (fxT F261 (fxT F240 (fxT F68 (fxT F43 (fxT F19 t3)))))
                have e349 : Tg h38 v1 = 2006 := (fxT F43 (fxT F19 t3))
                have e350 : Rv h64 a0 13 = v1 := ((fxR F68 e49 rfl).trans e46)
                have e351 : Tg h64 v1 = 2006 := (fxT F68 e349)
                have e352 : Rv h236 a0 13 = v1 := ((fxR F240 e234 rfl).trans e350)
                have e353 : Tg h236 v1 = 2006 := (fxT F240 e351)
                have p354 := (DOk_fx O239 F261 e255 (by rw [e352]; exact e353) rfl (DOk_fx O67 F240 e234 (by rw [e350]; exact e351) rfl (DOk_fx O42 F68 e49 (by rw [e46]; exact e349) rfl p45.2.1)))
                refine g_callV (st := []) (gc_V C lk_LandSurvey_Reader_46 (k_X3_advance l D cy w z0 O260 e343 (by unfold RInv; rw [e344, e345, e346, e347]; exact ⟨e348, p354, p56, p57⟩)) e343 rfl rfl rfl ⟨by decide, by decide⟩ (Nat.le_of_ble_eq_true rfl) dX3_readSum_55 ⟨(by decide), (by decide)⟩) (fun h356 K357 => ?_)
                obtain ⟨O359, F360, p361⟩ := K357
                have e362 : Rv h356 a0 13 = v1 := ((fxR F360 e343 rfl).trans e344)
                obtain ⟨v363, e364⟩ : ∃ z, Iv h356 a0 4 = z := ⟨_, rfl⟩
                have e365 : Tg h356 a0 = 4 := (fxT F360 e343)
                have f366 := ok_I O359 e365 rI_4_4 e364
                obtain ⟨v367, e368⟩ : ∃ z, Jv h356 a0 5 = z := ⟨_, rfl⟩
                have f369 := inL_J O359 e368
                obtain ⟨v370, e371⟩ : ∃ z, Rv h356 a0 6 = z := ⟨_, rfl⟩
                have p372 := p361.2.2.1
                rw [e364, e368] at p372
                have p373 := p361.2.2.2
                rw [e371] at p373
                refine g_aload_n C rfl 1 rfl dX3_readSum_58 ?_
                refine g_iload_n C rfl 2 rfl dX3_readSum_59 ?_
                have e374 : Tg h356 v1 = 2006 := (fxT F360 e348)
                refine g_callI (st := []) (gc_V C lk_LandSurvey_Reader_250 (k_readFact_1 l D cy w z0 O359 e365 fa1 (by unfold RInv; rw [e362, e364, e368, e371]; exact ⟨e374, p361.2.1, p372, p373⟩)) e365 rfl rfl rfl ⟨by decide, by decide⟩ (Nat.le_of_ble_eq_true rfl) dX3_readSum_60 ⟨(by decide), (by decide)⟩) (fun r375 h376 f378 K377 => ?_)
                obtain ⟨O379, F380, f381, p382⟩ := K377
                have e383 : Rv h376 a0 13 = v1 := ((fxR F380 e365 rfl).trans e362)
                obtain ⟨v384, e385⟩ : ∃ z, Iv h376 a0 4 = z := ⟨_, rfl⟩
                have e386 : Tg h376 a0 = 4 := (fxT F380 e365)
                have f387 := ok_I O379 e386 rI_4_4 e385
                obtain ⟨v388, e389⟩ : ∃ z, Jv h376 a0 5 = z := ⟨_, rfl⟩
                have f390 := inL_J O379 e389
                obtain ⟨v391, e392⟩ : ∃ z, Rv h376 a0 6 = z := ⟨_, rfl⟩
                have p393 := p382.2.2.1
                rw [e385, e389] at p393
                have p394 := p382.2.2.2
                rw [e392] at p394
                refine g_if_eq C (iw f381 (by decide) (by decide)) 74 (by decide) dX3_readSum_63 (fun q395 => ?_) (fun q396 => ?_)
                · have f397 : (0 : Int) ≤ r375 ∧ r375 ≤ (0 : Int) := ii f381 (r_eq (il 0) q395) (by decide) (by decide)
                  refine g_iconst C dX3_readSum_74 ?_
                  have e398 : Tg h376 v1 = 2006 := (fxT F380 e374)
                  exact g_iret C hr (nar_z2 (iw (il 0) (by decide) (by decide))).1 (iw (il 0) (by decide) (by decide)) ⟨O379, ((((((((Fx.rf (wr := wr_k_readSum_1)).call F19 rfl).call F43 rfl).call F68 rfl).call F240 rfl).call F261 rfl).call F360 rfl).call F380 rfl), (iw (il 0) (by decide) (by decide)), (by unfold RInv; rw [e383, e385, e389, e392]; exact ⟨e398, p382.2.1, p393, p394⟩)⟩ (by decide) (by decide) dX3_readSum_75
                · have f399 : (1 : Int) ≤ r375 ∧ r375 ≤ (1 : Int) := r_nl f381 q396
                  refine g_aload_n C rfl 1 rfl dX3_readSum_66 ?_
                  refine g_iload_n C rfl 0 rfl dX3_readSum_67 ?_
                  have e400 : Tg h376 v1 = 2006 := (fxT F380 e374)
                  refine g_callI (st := []) (gc_V C lk_LandSurvey_Reader_244 (k_X3_emit l D cy w z0 O379 e386 (iw (il (-21)) (by decide) (by decide)) (by unfold RInv; rw [e383, e385, e389, e392]; exact ⟨e400, p382.2.1, p393, p394⟩) (by omega)) e386 rfl rfl rfl ⟨by decide, by decide⟩ (Nat.le_of_ble_eq_true rfl) dX3_readSum_68 ⟨(by decide), (by decide)⟩) (fun r401 h402 f404 K403 => ?_)
                  obtain ⟨O405, F406, f407, p408⟩ := K403
                  have e409 : Rv h402 a0 13 = v1 := ((fxR F406 e386 rfl).trans e383)
                  have e410 : Iv h402 a0 4 = v384 := ((fxI F406 e386 rfl).trans e385)
                  have e411 : Jv h402 a0 5 = v388 := ((fxJ F406 e386 rfl).trans e389)
                  have e412 : Rv h402 a0 6 = v391 := ((fxR F406 e386 rfl).trans e392)
                  have p413 := p408.2.2.1
                  rw [e410, e411] at p413
                  have p414 := p408.2.2.2
                  rw [e412] at p414
                  refine g_if_ne C (iw f407 (by decide) (by decide)) 76 (by decide) dX3_readSum_71 (fun q415 => ?_) (fun q416 => ?_)
                  · have f417 : (1 : Int) ≤ (x37 + 1) ∧ (x37 + 1) ≤ (1501 : Int) := ia_add f62 (il 1) (by decide) (by decide)
                    refine g_iinc C [(2, .inl (x37 + 1)), (3, .inl (-21)), (0, .inr (.inr a0)), (1, .inl a1)] 3 rfl (by decide) rfl dX3_readSum_76 ?_
                    refine g_goto C 12 (by decide) dX3_readSum_79 ?_
                    refine GW.sub [2, 3, 0] rfl ?_
                    have e418 : Tg h402 v1 = 2006 := (fxT F406 e400)
                    exact ih40 _ (by omega) (x37 + 1) h402 rfl O405 ((((((F43.call F68 rfl).call F240 rfl).call F261 rfl).call F360 rfl).call F380 rfl).call F406 rfl) (iw f417 (by decide) (by decide)) (by unfold RInv; rw [e409, e410, e411, e412]; exact ⟨e418, p408.2.1, p413, p414⟩)
                  · exact (no_eq f407 (il 0) q416 (by decide)).elim
    have e419 : Tg h15 v1 = 2006 := (fxT F19 t3)
    exact L39 _ 0 h15 rfl O18 Fx.rf (iw (il 0) (by decide) (by decide)) (by unfold RInv; rw [e22, e24, e28, e31]; exact ⟨e419, p21.2.1, p32, p33⟩)
  · have f420 : (0 : Int) ≤ r14 ∧ r14 ≤ (0 : Int) := ii f20 (r_eq (il 0) q35) (by decide) (by decide)
    refine g_iconst C dX3_readSum_8 ?_
    have e421 : Tg h15 v1 = 2006 := (fxT F19 t3)
    exact g_iret C hr (nar_z2 (iw (il 0) (by decide) (by decide))).1 (iw (il 0) (by decide) (by decide)) ⟨O18, ((Fx.rf (wr := wr_k_readSum_1)).call F19 rfl), (iw (il 0) (by decide) (by decide)), (by unfold RInv; rw [e22, e24, e28, e31]; exact ⟨e421, p21.2.1, p32, p33⟩)⟩ (by decide) (by decide) dX3_readSum_9
def wr_k_readTest_1 : List Nat := [802, 803, 804, 805, 806, 807, 812, 4020000]
set_option maxRecDepth 100000 in
set_option maxHeartbeats 4000000 in
theorem k_readTest_1 (l : Launch) (D : va_G) (cy : Nat → ClassId) (w : Nat → Nat) (z0 : Nat)  {h : Hp} {a0 : Nat} {a1 : Int}  (O : Okh h) (ta0 : Tg h a0 = 4) (fa1 : 1 ≤ a1 ∧ a1 ≤ 1) (P_RInv : RInv w h a0) : MI l D cy w z0 yX3_readTest cX3_readTest 3 (some .boolean) 20 452 0 0 [.inr (.inr a0), .inl a1] h (fun v h1 => Okh h1 ∧ Fx wr_k_readTest_1 h h1 ∧ (0 ≤ v ∧ v ≤ 1) ∧ (RInv w h1 a0)) := by
  obtain ⟨v1, e2⟩ : ∃ z, Rv h a0 13 = z := ⟨_, rfl⟩
  have t3 := P_RInv.1
  rw [e2] at t3
  obtain ⟨v4, e5⟩ : ∃ z, Iv h a0 4 = z := ⟨_, rfl⟩
  have f6 := ok_I O ta0 rI_4_4 e5
  obtain ⟨v7, e8⟩ : ∃ z, Jv h a0 5 = z := ⟨_, rfl⟩
  have f9 := inL_J O e8
  obtain ⟨v10, e11⟩ : ∃ z, Rv h a0 6 = z := ⟨_, rfl⟩
  have p12 := P_RInv.2.2.1
  rw [e5, e8] at p12
  have p13 := P_RInv.2.2.2
  rw [e11] at p13
  refine hm_go (by decide +kernel) (Nat.le_of_ble_eq_true rfl) (fun p e s m below meth c C hr hn => ?_)
  refine g_aload_n C rfl 0 rfl dX3_readTest_0 ?_
  refine g_iload_n C rfl 1 rfl dX3_readTest_1 ?_
  refine g_callI (st := []) (gc_V C lk_LandSurvey_Reader_247 (k_readSum_1 l D cy w z0 O ta0 fa1 (by unfold RInv; rw [e2, e5, e8, e11]; exact ⟨t3, P_RInv.2.1, p12, p13⟩)) ta0 rfl rfl rfl ⟨by decide, by decide⟩ (Nat.le_of_ble_eq_true rfl) dX3_readTest_2 ⟨(by decide), (by decide)⟩) (fun r14 h15 f17 K16 => ?_)
  obtain ⟨O18, F19, f20, p21⟩ := K16
  have e22 : Rv h15 a0 13 = v1 := ((fxR F19 ta0 rfl).trans e2)
  obtain ⟨v23, e24⟩ : ∃ z, Iv h15 a0 4 = z := ⟨_, rfl⟩
  have e25 : Tg h15 a0 = 4 := (fxT F19 ta0)
  have f26 := ok_I O18 e25 rI_4_4 e24
  obtain ⟨v27, e28⟩ : ∃ z, Jv h15 a0 5 = z := ⟨_, rfl⟩
  have f29 := inL_J O18 e28
  obtain ⟨v30, e31⟩ : ∃ z, Rv h15 a0 6 = z := ⟨_, rfl⟩
  have p32 := p21.2.2.1
  rw [e24, e28] at p32
  have p33 := p21.2.2.2
  rw [e31] at p33
  refine g_if_ne C (iw f20 (by decide) (by decide)) 10 (by decide) dX3_readTest_5 (fun q34 => ?_) (fun q35 => ?_)
  · have f36 : (1 : Int) ≤ r14 ∧ r14 ≤ (1 : Int) := r_nl f20 q34
    refine g_aload_n C rfl 0 rfl dX3_readTest_10 ?_
    refine g_bipush C (by decide) dX3_readTest_11 ?_
    refine g_callI (st := []) (gc_V C lk_LandSurvey_Reader_95 (k_X3_isNext l D cy w z0 O18 e25 (iw (il 60) (by decide) (by decide))) e25 rfl rfl rfl ⟨by decide, by decide⟩ (Nat.le_of_ble_eq_true rfl) dX3_readTest_13 ⟨(by decide), (by decide)⟩) (fun r37 h38 f40 K39 => ?_)
    obtain ⟨O41, F42, f43⟩ := K39
    refine g_if_ne C (iw f43 (by decide) (by decide)) 30 (by decide) dX3_readTest_16 (fun q44 => ?_) (fun q45 => ?_)
    · have f46 : (1 : Int) ≤ r37 ∧ r37 ≤ (1 : Int) := r_nl f43 q44
      refine g_aload_n C rfl 0 rfl dX3_readTest_30 ?_
      refine g_bipush C (by decide) dX3_readTest_31 ?_
      have e47 : Tg h38 a0 = 4 := (fxT F42 e25)
      refine g_callI (st := []) (gc_V C lk_LandSurvey_Reader_95 (k_X3_isNext l D cy w z0 O41 e47 (iw (il 60) (by decide) (by decide))) e47 rfl rfl rfl ⟨by decide, by decide⟩ (Nat.le_of_ble_eq_true rfl) dX3_readTest_33 ⟨(by decide), (by decide)⟩) (fun r48 h49 f51 K50 => ?_)
      obtain ⟨O52, F53, f54⟩ := K50
      refine g_if_eq C (iw f54 (by decide) (by decide)) 44 (by decide) dX3_readTest_36 (fun q55 => ?_) (fun q56 => ?_)
      · have f57 : (0 : Int) ≤ r48 ∧ r48 ≤ (0 : Int) := ii f54 (r_eq (il 0) q55) (by decide) (by decide)
        refine g_bipush C (by decide) dX3_readTest_44 ?_
        refine g_istore_n C [(2, .inl (-24)), (0, .inr (.inr a0)), (1, .inl a1)] rfl (by decide) rfl dX3_readTest_46 ?_
        refine g_aload_n C rfl 1 rfl dX3_readTest_47 ?_
        have e58 : Tg h49 a0 = 4 := (fxT F53 e47)
        have e59 : Rv h49 a0 13 = v1 := ((fxR F53 e47 rfl).trans ((fxR F42 e25 rfl).trans e22))
        have e60 : Iv h49 a0 4 = v23 := ((fxI F53 e47 rfl).trans ((fxI F42 e25 rfl).trans e24))
        have e61 : Jv h49 a0 5 = v27 := ((fxJ F53 e47 rfl).trans ((fxJ F42 e25 rfl).trans e28))
        have e62 : Rv h49 a0 6 = v30 := ((fxR F53 e47 rfl).trans ((fxR F42 e25 rfl).trans e31))
        have e63 : Tg h49 v1 = 2006 := (fxT F53 (fxT F42 (fxT F19 t3)))
        have e64 : Tg h15 v1 = 2006 := (fxT F19 t3)
        have e65 : Rv h38 a0 13 = v1 := ((fxR F42 e25 rfl).trans e22)
        have e66 : Tg h38 v1 = 2006 := (fxT F42 e64)
        have p67 := (DOk_fx O41 F53 e47 (by rw [e65]; exact e66) rfl (DOk_fx O18 F42 e25 (by rw [e22]; exact e64) rfl p21.2.1))
        refine g_callV (st := []) (gc_V C lk_LandSurvey_Reader_46 (k_X3_advance l D cy w z0 O52 e58 (by unfold RInv; rw [e59, e60, e61, e62]; exact ⟨e63, p67, p32, p33⟩)) e58 rfl rfl rfl ⟨by decide, by decide⟩ (Nat.le_of_ble_eq_true rfl) dX3_readTest_48 ⟨(by decide), (by decide)⟩) (fun h69 K70 => ?_)
        obtain ⟨O72, F73, p74⟩ := K70
        have e75 : Rv h69 a0 13 = v1 := ((fxR F73 e58 rfl).trans e59)
        obtain ⟨v76, e77⟩ : ∃ z, Iv h69 a0 4 = z := ⟨_, rfl⟩
        have e78 : Tg h69 a0 = 4 := (fxT F73 e58)
        have f79 := ok_I O72 e78 rI_4_4 e77
        obtain ⟨v80, e81⟩ : ∃ z, Jv h69 a0 5 = z := ⟨_, rfl⟩
        have f82 := inL_J O72 e81
        obtain ⟨v83, e84⟩ : ∃ z, Rv h69 a0 6 = z := ⟨_, rfl⟩
        have p85 := p74.2.2.1
        rw [e77, e81] at p85
        have p86 := p74.2.2.2
        rw [e84] at p86
        refine g_aload_n C rfl 1 rfl dX3_readTest_51 ?_
        refine g_iload_n C rfl 2 rfl dX3_readTest_52 ?_
        have e87 : Tg h69 v1 = 2006 := (fxT F73 e63)
        refine g_callI (st := []) (gc_V C lk_LandSurvey_Reader_247 (k_readSum_1 l D cy w z0 O72 e78 fa1 (by unfold RInv; rw [e75, e77, e81, e84]; exact ⟨e87, p74.2.1, p85, p86⟩)) e78 rfl rfl rfl ⟨by decide, by decide⟩ (Nat.le_of_ble_eq_true rfl) dX3_readTest_53 ⟨(by decide), (by decide)⟩) (fun r88 h89 f91 K90 => ?_)
        obtain ⟨O92, F93, f94, p95⟩ := K90
        have e96 : Rv h89 a0 13 = v1 := ((fxR F93 e78 rfl).trans e75)
        obtain ⟨v97, e98⟩ : ∃ z, Iv h89 a0 4 = z := ⟨_, rfl⟩
        have e99 : Tg h89 a0 = 4 := (fxT F93 e78)
        have f100 := ok_I O92 e99 rI_4_4 e98
        obtain ⟨v101, e102⟩ : ∃ z, Jv h89 a0 5 = z := ⟨_, rfl⟩
        have f103 := inL_J O92 e102
        obtain ⟨v104, e105⟩ : ∃ z, Rv h89 a0 6 = z := ⟨_, rfl⟩
        have p106 := p95.2.2.1
        rw [e98, e102] at p106
        have p107 := p95.2.2.2
        rw [e105] at p107
        refine g_if_eq C (iw f94 (by decide) (by decide)) 71 (by decide) dX3_readTest_56 (fun q108 => ?_) (fun q109 => ?_)
        · have f110 : (0 : Int) ≤ r88 ∧ r88 ≤ (0 : Int) := ii f94 (r_eq (il 0) q108) (by decide) (by decide)
          refine g_iconst C dX3_readTest_71 ?_
          have e111 : Tg h89 v1 = 2006 := (fxT F93 e87)
          exact g_iret C hr (nar_z2 (iw (il 0) (by decide) (by decide))).1 (iw (il 0) (by decide) (by decide)) ⟨O92, ((((((Fx.rf (wr := wr_k_readTest_1)).call F19 rfl).call F42 rfl).call F53 rfl).call F73 rfl).call F93 rfl), (iw (il 0) (by decide) (by decide)), (by unfold RInv; rw [e96, e98, e102, e105]; exact ⟨e111, p95.2.1, p106, p107⟩)⟩ (by decide) (by decide) dX3_readTest_72
        · have f112 : (1 : Int) ≤ r88 ∧ r88 ≤ (1 : Int) := r_nl f94 q109
          refine g_aload_n C rfl 1 rfl dX3_readTest_59 ?_
          refine g_iload_n C rfl 0 rfl dX3_readTest_60 ?_
          have e113 : Tg h89 v1 = 2006 := (fxT F93 e87)
          refine g_callI (st := []) (gc_V C lk_LandSurvey_Reader_244 (k_X3_emit l D cy w z0 O92 e99 (iw (il (-24)) (by decide) (by decide)) (by unfold RInv; rw [e96, e98, e102, e105]; exact ⟨e113, p95.2.1, p106, p107⟩) (by omega)) e99 rfl rfl rfl ⟨by decide, by decide⟩ (Nat.le_of_ble_eq_true rfl) dX3_readTest_61 ⟨(by decide), (by decide)⟩) (fun r114 h115 f117 K116 => ?_)
          obtain ⟨O118, F119, f120, p121⟩ := K116
          have e122 : Rv h115 a0 13 = v1 := ((fxR F119 e99 rfl).trans e96)
          have e123 : Iv h115 a0 4 = v97 := ((fxI F119 e99 rfl).trans e98)
          have e124 : Jv h115 a0 5 = v101 := ((fxJ F119 e99 rfl).trans e102)
          have e125 : Rv h115 a0 6 = v104 := ((fxR F119 e99 rfl).trans e105)
          have p126 := p121.2.2.1
          rw [e123, e124] at p126
          have p127 := p121.2.2.2
          rw [e125] at p127
          refine g_if_eq C (iw f120 (by decide) (by decide)) 71 (by decide) dX3_readTest_64 (fun q128 => ?_) (fun q129 => ?_)
          · exact (no_eq f120 (il 0) q128 (by decide)).elim
          · refine g_iconst C dX3_readTest_67 ?_
            refine g_goto C 72 (by decide) dX3_readTest_68 ?_
            have e130 : Tg h115 v1 = 2006 := (fxT F119 e113)
            exact g_iret C hr (nar_z2 (iw (il 1) (by decide) (by decide))).1 (iw (il 1) (by decide) (by decide)) ⟨O118, (((((((Fx.rf (wr := wr_k_readTest_1)).call F19 rfl).call F42 rfl).call F53 rfl).call F73 rfl).call F93 rfl).call F119 rfl), (iw (il 1) (by decide) (by decide)), (by unfold RInv; rw [e122, e123, e124, e125]; exact ⟨e130, p121.2.1, p126, p127⟩)⟩ (by decide) (by decide) dX3_readTest_72
      · have f131 : (1 : Int) ≤ r48 ∧ r48 ≤ (1 : Int) := r_nl f54 q56
        refine g_bipush C (by decide) dX3_readTest_39 ?_
        refine g_goto C 46 (by decide) dX3_readTest_41 ?_
        refine g_istore_n C [(2, .inl (-23)), (0, .inr (.inr a0)), (1, .inl a1)] rfl (by decide) rfl dX3_readTest_46 ?_
        refine g_aload_n C rfl 1 rfl dX3_readTest_47 ?_
        have e132 : Tg h49 a0 = 4 := (fxT F53 e47)
        have e133 : Rv h49 a0 13 = v1 := ((fxR F53 e47 rfl).trans ((fxR F42 e25 rfl).trans e22))
        have e134 : Iv h49 a0 4 = v23 := ((fxI F53 e47 rfl).trans ((fxI F42 e25 rfl).trans e24))
        have e135 : Jv h49 a0 5 = v27 := ((fxJ F53 e47 rfl).trans ((fxJ F42 e25 rfl).trans e28))
        have e136 : Rv h49 a0 6 = v30 := ((fxR F53 e47 rfl).trans ((fxR F42 e25 rfl).trans e31))
        have e137 : Tg h49 v1 = 2006 := (fxT F53 (fxT F42 (fxT F19 t3)))
        have e138 : Tg h15 v1 = 2006 := (fxT F19 t3)
        have e139 : Rv h38 a0 13 = v1 := ((fxR F42 e25 rfl).trans e22)
        have e140 : Tg h38 v1 = 2006 := (fxT F42 e138)
        have p141 := (DOk_fx O41 F53 e47 (by rw [e139]; exact e140) rfl (DOk_fx O18 F42 e25 (by rw [e22]; exact e138) rfl p21.2.1))
        refine g_callV (st := []) (gc_V C lk_LandSurvey_Reader_46 (k_X3_advance l D cy w z0 O52 e132 (by unfold RInv; rw [e133, e134, e135, e136]; exact ⟨e137, p141, p32, p33⟩)) e132 rfl rfl rfl ⟨by decide, by decide⟩ (Nat.le_of_ble_eq_true rfl) dX3_readTest_48 ⟨(by decide), (by decide)⟩) (fun h143 K144 => ?_)
        obtain ⟨O146, F147, p148⟩ := K144
        have e149 : Rv h143 a0 13 = v1 := ((fxR F147 e132 rfl).trans e133)
        obtain ⟨v150, e151⟩ : ∃ z, Iv h143 a0 4 = z := ⟨_, rfl⟩
        have e152 : Tg h143 a0 = 4 := (fxT F147 e132)
        have f153 := ok_I O146 e152 rI_4_4 e151
        obtain ⟨v154, e155⟩ : ∃ z, Jv h143 a0 5 = z := ⟨_, rfl⟩
        have f156 := inL_J O146 e155
        obtain ⟨v157, e158⟩ : ∃ z, Rv h143 a0 6 = z := ⟨_, rfl⟩
        have p159 := p148.2.2.1
        rw [e151, e155] at p159
        have p160 := p148.2.2.2
        rw [e158] at p160
        refine g_aload_n C rfl 1 rfl dX3_readTest_51 ?_
        refine g_iload_n C rfl 2 rfl dX3_readTest_52 ?_
        have e161 : Tg h143 v1 = 2006 := (fxT F147 e137)
        refine g_callI (st := []) (gc_V C lk_LandSurvey_Reader_247 (k_readSum_1 l D cy w z0 O146 e152 fa1 (by unfold RInv; rw [e149, e151, e155, e158]; exact ⟨e161, p148.2.1, p159, p160⟩)) e152 rfl rfl rfl ⟨by decide, by decide⟩ (Nat.le_of_ble_eq_true rfl) dX3_readTest_53 ⟨(by decide), (by decide)⟩) (fun r162 h163 f165 K164 => ?_)
        obtain ⟨O166, F167, f168, p169⟩ := K164
        have e170 : Rv h163 a0 13 = v1 := ((fxR F167 e152 rfl).trans e149)
        obtain ⟨v171, e172⟩ : ∃ z, Iv h163 a0 4 = z := ⟨_, rfl⟩
        have e173 : Tg h163 a0 = 4 := (fxT F167 e152)
        have f174 := ok_I O166 e173 rI_4_4 e172
        obtain ⟨v175, e176⟩ : ∃ z, Jv h163 a0 5 = z := ⟨_, rfl⟩
        have f177 := inL_J O166 e176
        obtain ⟨v178, e179⟩ : ∃ z, Rv h163 a0 6 = z := ⟨_, rfl⟩
        have p180 := p169.2.2.1
        rw [e172, e176] at p180
        have p181 := p169.2.2.2
        rw [e179] at p181
        refine g_if_eq C (iw f168 (by decide) (by decide)) 71 (by decide) dX3_readTest_56 (fun q182 => ?_) (fun q183 => ?_)
        · have f184 : (0 : Int) ≤ r162 ∧ r162 ≤ (0 : Int) := ii f168 (r_eq (il 0) q182) (by decide) (by decide)
          refine g_iconst C dX3_readTest_71 ?_
          have e185 : Tg h163 v1 = 2006 := (fxT F167 e161)
          exact g_iret C hr (nar_z2 (iw (il 0) (by decide) (by decide))).1 (iw (il 0) (by decide) (by decide)) ⟨O166, ((((((Fx.rf (wr := wr_k_readTest_1)).call F19 rfl).call F42 rfl).call F53 rfl).call F147 rfl).call F167 rfl), (iw (il 0) (by decide) (by decide)), (by unfold RInv; rw [e170, e172, e176, e179]; exact ⟨e185, p169.2.1, p180, p181⟩)⟩ (by decide) (by decide) dX3_readTest_72
        · have f186 : (1 : Int) ≤ r162 ∧ r162 ≤ (1 : Int) := r_nl f168 q183
          refine g_aload_n C rfl 1 rfl dX3_readTest_59 ?_
          refine g_iload_n C rfl 0 rfl dX3_readTest_60 ?_
          have e187 : Tg h163 v1 = 2006 := (fxT F167 e161)
          refine g_callI (st := []) (gc_V C lk_LandSurvey_Reader_244 (k_X3_emit l D cy w z0 O166 e173 (iw (il (-23)) (by decide) (by decide)) (by unfold RInv; rw [e170, e172, e176, e179]; exact ⟨e187, p169.2.1, p180, p181⟩) (by omega)) e173 rfl rfl rfl ⟨by decide, by decide⟩ (Nat.le_of_ble_eq_true rfl) dX3_readTest_61 ⟨(by decide), (by decide)⟩) (fun r188 h189 f191 K190 => ?_)
          obtain ⟨O192, F193, f194, p195⟩ := K190
          have e196 : Rv h189 a0 13 = v1 := ((fxR F193 e173 rfl).trans e170)
          have e197 : Iv h189 a0 4 = v171 := ((fxI F193 e173 rfl).trans e172)
          have e198 : Jv h189 a0 5 = v175 := ((fxJ F193 e173 rfl).trans e176)
          have e199 : Rv h189 a0 6 = v178 := ((fxR F193 e173 rfl).trans e179)
          have p200 := p195.2.2.1
          rw [e197, e198] at p200
          have p201 := p195.2.2.2
          rw [e199] at p201
          refine g_if_eq C (iw f194 (by decide) (by decide)) 71 (by decide) dX3_readTest_64 (fun q202 => ?_) (fun q203 => ?_)
          · exact (no_eq f194 (il 0) q202 (by decide)).elim
          · refine g_iconst C dX3_readTest_67 ?_
            refine g_goto C 72 (by decide) dX3_readTest_68 ?_
            have e204 : Tg h189 v1 = 2006 := (fxT F193 e187)
            exact g_iret C hr (nar_z2 (iw (il 1) (by decide) (by decide))).1 (iw (il 1) (by decide) (by decide)) ⟨O192, (((((((Fx.rf (wr := wr_k_readTest_1)).call F19 rfl).call F42 rfl).call F53 rfl).call F147 rfl).call F167 rfl).call F193 rfl), (iw (il 1) (by decide) (by decide)), (by unfold RInv; rw [e196, e197, e198, e199]; exact ⟨e204, p195.2.1, p200, p201⟩)⟩ (by decide) (by decide) dX3_readTest_72
    · have f205 : (0 : Int) ≤ r37 ∧ r37 ≤ (0 : Int) := ii f43 (r_eq (il 0) q45) (by decide) (by decide)
      refine g_aload_n C rfl 0 rfl dX3_readTest_19 ?_
      refine g_bipush C (by decide) dX3_readTest_20 ?_
      have e206 : Tg h38 a0 = 4 := (fxT F42 e25)
      refine g_callI (st := []) (gc_V C lk_LandSurvey_Reader_95 (k_X3_isNext l D cy w z0 O41 e206 (iw (il 61) (by decide) (by decide))) e206 rfl rfl rfl ⟨by decide, by decide⟩ (Nat.le_of_ble_eq_true rfl) dX3_readTest_22 ⟨(by decide), (by decide)⟩) (fun r207 h208 f210 K209 => ?_)
      obtain ⟨O211, F212, f213⟩ := K209
      refine g_if_ne C (iw f213 (by decide) (by decide)) 30 (by decide) dX3_readTest_25 (fun q214 => ?_) (fun q215 => ?_)
      · have f216 : (1 : Int) ≤ r207 ∧ r207 ≤ (1 : Int) := r_nl f213 q214
        refine g_aload_n C rfl 0 rfl dX3_readTest_30 ?_
        refine g_bipush C (by decide) dX3_readTest_31 ?_
        have e217 : Tg h208 a0 = 4 := (fxT F212 e206)
        refine g_callI (st := []) (gc_V C lk_LandSurvey_Reader_95 (k_X3_isNext l D cy w z0 O211 e217 (iw (il 60) (by decide) (by decide))) e217 rfl rfl rfl ⟨by decide, by decide⟩ (Nat.le_of_ble_eq_true rfl) dX3_readTest_33 ⟨(by decide), (by decide)⟩) (fun r218 h219 f221 K220 => ?_)
        obtain ⟨O222, F223, f224⟩ := K220
        refine g_if_eq C (iw f224 (by decide) (by decide)) 44 (by decide) dX3_readTest_36 (fun q225 => ?_) (fun q226 => ?_)
        · have f227 : (0 : Int) ≤ r218 ∧ r218 ≤ (0 : Int) := ii f224 (r_eq (il 0) q225) (by decide) (by decide)
          refine g_bipush C (by decide) dX3_readTest_44 ?_
          refine g_istore_n C [(2, .inl (-24)), (0, .inr (.inr a0)), (1, .inl a1)] rfl (by decide) rfl dX3_readTest_46 ?_
          refine g_aload_n C rfl 1 rfl dX3_readTest_47 ?_
          have e228 : Tg h219 a0 = 4 := (fxT F223 e217)
          have e229 : Rv h219 a0 13 = v1 := ((fxR F223 e217 rfl).trans ((fxR F212 e206 rfl).trans ((fxR F42 e25 rfl).trans e22)))
          have e230 : Iv h219 a0 4 = v23 := ((fxI F223 e217 rfl).trans ((fxI F212 e206 rfl).trans ((fxI F42 e25 rfl).trans e24)))
          have e231 : Jv h219 a0 5 = v27 := ((fxJ F223 e217 rfl).trans ((fxJ F212 e206 rfl).trans ((fxJ F42 e25 rfl).trans e28)))
          have e232 : Rv h219 a0 6 = v30 := ((fxR F223 e217 rfl).trans ((fxR F212 e206 rfl).trans ((fxR F42 e25 rfl).trans e31)))
          have e233 : Tg h219 v1 = 2006 := (fxT F223 (fxT F212 (fxT F42 (fxT F19 t3))))
          have e234 : Tg h15 v1 = 2006 := (fxT F19 t3)
          have e235 : Rv h38 a0 13 = v1 := ((fxR F42 e25 rfl).trans e22)
          have e236 : Tg h38 v1 = 2006 := (fxT F42 e234)
          have e237 : Rv h208 a0 13 = v1 := ((fxR F212 e206 rfl).trans e235)
          have e238 : Tg h208 v1 = 2006 := (fxT F212 e236)
          have p239 := (DOk_fx O211 F223 e217 (by rw [e237]; exact e238) rfl (DOk_fx O41 F212 e206 (by rw [e235]; exact e236) rfl (DOk_fx O18 F42 e25 (by rw [e22]; exact e234) rfl p21.2.1)))
          refine g_callV (st := []) (gc_V C lk_LandSurvey_Reader_46 (k_X3_advance l D cy w z0 O222 e228 (by unfold RInv; rw [e229, e230, e231, e232]; exact ⟨e233, p239, p32, p33⟩)) e228 rfl rfl rfl ⟨by decide, by decide⟩ (Nat.le_of_ble_eq_true rfl) dX3_readTest_48 ⟨(by decide), (by decide)⟩) (fun h241 K242 => ?_)
          obtain ⟨O244, F245, p246⟩ := K242
          have e247 : Rv h241 a0 13 = v1 := ((fxR F245 e228 rfl).trans e229)
          obtain ⟨v248, e249⟩ : ∃ z, Iv h241 a0 4 = z := ⟨_, rfl⟩
          have e250 : Tg h241 a0 = 4 := (fxT F245 e228)
          have f251 := ok_I O244 e250 rI_4_4 e249
          obtain ⟨v252, e253⟩ : ∃ z, Jv h241 a0 5 = z := ⟨_, rfl⟩
          have f254 := inL_J O244 e253
          obtain ⟨v255, e256⟩ : ∃ z, Rv h241 a0 6 = z := ⟨_, rfl⟩
          have p257 := p246.2.2.1
          rw [e249, e253] at p257
          have p258 := p246.2.2.2
          rw [e256] at p258
          refine g_aload_n C rfl 1 rfl dX3_readTest_51 ?_
          refine g_iload_n C rfl 2 rfl dX3_readTest_52 ?_
          have e259 : Tg h241 v1 = 2006 := (fxT F245 e233)
          refine g_callI (st := []) (gc_V C lk_LandSurvey_Reader_247 (k_readSum_1 l D cy w z0 O244 e250 fa1 (by unfold RInv; rw [e247, e249, e253, e256]; exact ⟨e259, p246.2.1, p257, p258⟩)) e250 rfl rfl rfl ⟨by decide, by decide⟩ (Nat.le_of_ble_eq_true rfl) dX3_readTest_53 ⟨(by decide), (by decide)⟩) (fun r260 h261 f263 K262 => ?_)
          obtain ⟨O264, F265, f266, p267⟩ := K262
          have e268 : Rv h261 a0 13 = v1 := ((fxR F265 e250 rfl).trans e247)
          obtain ⟨v269, e270⟩ : ∃ z, Iv h261 a0 4 = z := ⟨_, rfl⟩
          have e271 : Tg h261 a0 = 4 := (fxT F265 e250)
          have f272 := ok_I O264 e271 rI_4_4 e270
          obtain ⟨v273, e274⟩ : ∃ z, Jv h261 a0 5 = z := ⟨_, rfl⟩
          have f275 := inL_J O264 e274
          obtain ⟨v276, e277⟩ : ∃ z, Rv h261 a0 6 = z := ⟨_, rfl⟩
          have p278 := p267.2.2.1
          rw [e270, e274] at p278
          have p279 := p267.2.2.2
          rw [e277] at p279
          refine g_if_eq C (iw f266 (by decide) (by decide)) 71 (by decide) dX3_readTest_56 (fun q280 => ?_) (fun q281 => ?_)
          · have f282 : (0 : Int) ≤ r260 ∧ r260 ≤ (0 : Int) := ii f266 (r_eq (il 0) q280) (by decide) (by decide)
            refine g_iconst C dX3_readTest_71 ?_
            have e283 : Tg h261 v1 = 2006 := (fxT F265 e259)
            exact g_iret C hr (nar_z2 (iw (il 0) (by decide) (by decide))).1 (iw (il 0) (by decide) (by decide)) ⟨O264, (((((((Fx.rf (wr := wr_k_readTest_1)).call F19 rfl).call F42 rfl).call F212 rfl).call F223 rfl).call F245 rfl).call F265 rfl), (iw (il 0) (by decide) (by decide)), (by unfold RInv; rw [e268, e270, e274, e277]; exact ⟨e283, p267.2.1, p278, p279⟩)⟩ (by decide) (by decide) dX3_readTest_72
          · have f284 : (1 : Int) ≤ r260 ∧ r260 ≤ (1 : Int) := r_nl f266 q281
            refine g_aload_n C rfl 1 rfl dX3_readTest_59 ?_
            refine g_iload_n C rfl 0 rfl dX3_readTest_60 ?_
            have e285 : Tg h261 v1 = 2006 := (fxT F265 e259)
            refine g_callI (st := []) (gc_V C lk_LandSurvey_Reader_244 (k_X3_emit l D cy w z0 O264 e271 (iw (il (-24)) (by decide) (by decide)) (by unfold RInv; rw [e268, e270, e274, e277]; exact ⟨e285, p267.2.1, p278, p279⟩) (by omega)) e271 rfl rfl rfl ⟨by decide, by decide⟩ (Nat.le_of_ble_eq_true rfl) dX3_readTest_61 ⟨(by decide), (by decide)⟩) (fun r286 h287 f289 K288 => ?_)
            obtain ⟨O290, F291, f292, p293⟩ := K288
            have e294 : Rv h287 a0 13 = v1 := ((fxR F291 e271 rfl).trans e268)
            have e295 : Iv h287 a0 4 = v269 := ((fxI F291 e271 rfl).trans e270)
            have e296 : Jv h287 a0 5 = v273 := ((fxJ F291 e271 rfl).trans e274)
            have e297 : Rv h287 a0 6 = v276 := ((fxR F291 e271 rfl).trans e277)
            have p298 := p293.2.2.1
            rw [e295, e296] at p298
            have p299 := p293.2.2.2
            rw [e297] at p299
            refine g_if_eq C (iw f292 (by decide) (by decide)) 71 (by decide) dX3_readTest_64 (fun q300 => ?_) (fun q301 => ?_)
            · exact (no_eq f292 (il 0) q300 (by decide)).elim
            · refine g_iconst C dX3_readTest_67 ?_
              refine g_goto C 72 (by decide) dX3_readTest_68 ?_
              have e302 : Tg h287 v1 = 2006 := (fxT F291 e285)
              exact g_iret C hr (nar_z2 (iw (il 1) (by decide) (by decide))).1 (iw (il 1) (by decide) (by decide)) ⟨O290, ((((((((Fx.rf (wr := wr_k_readTest_1)).call F19 rfl).call F42 rfl).call F212 rfl).call F223 rfl).call F245 rfl).call F265 rfl).call F291 rfl), (iw (il 1) (by decide) (by decide)), (by unfold RInv; rw [e294, e295, e296, e297]; exact ⟨e302, p293.2.1, p298, p299⟩)⟩ (by decide) (by decide) dX3_readTest_72
        · have f303 : (1 : Int) ≤ r218 ∧ r218 ≤ (1 : Int) := r_nl f224 q226
          refine g_bipush C (by decide) dX3_readTest_39 ?_
          refine g_goto C 46 (by decide) dX3_readTest_41 ?_
          refine g_istore_n C [(2, .inl (-23)), (0, .inr (.inr a0)), (1, .inl a1)] rfl (by decide) rfl dX3_readTest_46 ?_
          refine g_aload_n C rfl 1 rfl dX3_readTest_47 ?_
          have e304 : Tg h219 a0 = 4 := (fxT F223 e217)
          have e305 : Rv h219 a0 13 = v1 := ((fxR F223 e217 rfl).trans ((fxR F212 e206 rfl).trans ((fxR F42 e25 rfl).trans e22)))
          have e306 : Iv h219 a0 4 = v23 := ((fxI F223 e217 rfl).trans ((fxI F212 e206 rfl).trans ((fxI F42 e25 rfl).trans e24)))
          have e307 : Jv h219 a0 5 = v27 := ((fxJ F223 e217 rfl).trans ((fxJ F212 e206 rfl).trans ((fxJ F42 e25 rfl).trans e28)))
          have e308 : Rv h219 a0 6 = v30 := ((fxR F223 e217 rfl).trans ((fxR F212 e206 rfl).trans ((fxR F42 e25 rfl).trans e31)))
          have e309 : Tg h219 v1 = 2006 := (fxT F223 (fxT F212 (fxT F42 (fxT F19 t3))))
          have e310 : Tg h15 v1 = 2006 := (fxT F19 t3)
          have e311 : Rv h38 a0 13 = v1 := ((fxR F42 e25 rfl).trans e22)
          have e312 : Tg h38 v1 = 2006 := (fxT F42 e310)
          have e313 : Rv h208 a0 13 = v1 := ((fxR F212 e206 rfl).trans e311)
          have e314 : Tg h208 v1 = 2006 := (fxT F212 e312)
          have p315 := (DOk_fx O211 F223 e217 (by rw [e313]; exact e314) rfl (DOk_fx O41 F212 e206 (by rw [e311]; exact e312) rfl (DOk_fx O18 F42 e25 (by rw [e22]; exact e310) rfl p21.2.1)))
          refine g_callV (st := []) (gc_V C lk_LandSurvey_Reader_46 (k_X3_advance l D cy w z0 O222 e304 (by unfold RInv; rw [e305, e306, e307, e308]; exact ⟨e309, p315, p32, p33⟩)) e304 rfl rfl rfl ⟨by decide, by decide⟩ (Nat.le_of_ble_eq_true rfl) dX3_readTest_48 ⟨(by decide), (by decide)⟩) (fun h317 K318 => ?_)
          obtain ⟨O320, F321, p322⟩ := K318
          have e323 : Rv h317 a0 13 = v1 := ((fxR F321 e304 rfl).trans e305)
          obtain ⟨v324, e325⟩ : ∃ z, Iv h317 a0 4 = z := ⟨_, rfl⟩
          have e326 : Tg h317 a0 = 4 := (fxT F321 e304)
          have f327 := ok_I O320 e326 rI_4_4 e325
          obtain ⟨v328, e329⟩ : ∃ z, Jv h317 a0 5 = z := ⟨_, rfl⟩
          have f330 := inL_J O320 e329
          obtain ⟨v331, e332⟩ : ∃ z, Rv h317 a0 6 = z := ⟨_, rfl⟩
          have p333 := p322.2.2.1
          rw [e325, e329] at p333
          have p334 := p322.2.2.2
          rw [e332] at p334
          refine g_aload_n C rfl 1 rfl dX3_readTest_51 ?_
          refine g_iload_n C rfl 2 rfl dX3_readTest_52 ?_
          have e335 : Tg h317 v1 = 2006 := (fxT F321 e309)
          refine g_callI (st := []) (gc_V C lk_LandSurvey_Reader_247 (k_readSum_1 l D cy w z0 O320 e326 fa1 (by unfold RInv; rw [e323, e325, e329, e332]; exact ⟨e335, p322.2.1, p333, p334⟩)) e326 rfl rfl rfl ⟨by decide, by decide⟩ (Nat.le_of_ble_eq_true rfl) dX3_readTest_53 ⟨(by decide), (by decide)⟩) (fun r336 h337 f339 K338 => ?_)
          obtain ⟨O340, F341, f342, p343⟩ := K338
          have e344 : Rv h337 a0 13 = v1 := ((fxR F341 e326 rfl).trans e323)
          obtain ⟨v345, e346⟩ : ∃ z, Iv h337 a0 4 = z := ⟨_, rfl⟩
          have e347 : Tg h337 a0 = 4 := (fxT F341 e326)
          have f348 := ok_I O340 e347 rI_4_4 e346
          obtain ⟨v349, e350⟩ : ∃ z, Jv h337 a0 5 = z := ⟨_, rfl⟩
          have f351 := inL_J O340 e350
          obtain ⟨v352, e353⟩ : ∃ z, Rv h337 a0 6 = z := ⟨_, rfl⟩
          have p354 := p343.2.2.1
          rw [e346, e350] at p354
          have p355 := p343.2.2.2
          rw [e353] at p355
          refine g_if_eq C (iw f342 (by decide) (by decide)) 71 (by decide) dX3_readTest_56 (fun q356 => ?_) (fun q357 => ?_)
          · have f358 : (0 : Int) ≤ r336 ∧ r336 ≤ (0 : Int) := ii f342 (r_eq (il 0) q356) (by decide) (by decide)
            refine g_iconst C dX3_readTest_71 ?_
            have e359 : Tg h337 v1 = 2006 := (fxT F341 e335)
            exact g_iret C hr (nar_z2 (iw (il 0) (by decide) (by decide))).1 (iw (il 0) (by decide) (by decide)) ⟨O340, (((((((Fx.rf (wr := wr_k_readTest_1)).call F19 rfl).call F42 rfl).call F212 rfl).call F223 rfl).call F321 rfl).call F341 rfl), (iw (il 0) (by decide) (by decide)), (by unfold RInv; rw [e344, e346, e350, e353]; exact ⟨e359, p343.2.1, p354, p355⟩)⟩ (by decide) (by decide) dX3_readTest_72
          · have f360 : (1 : Int) ≤ r336 ∧ r336 ≤ (1 : Int) := r_nl f342 q357
            refine g_aload_n C rfl 1 rfl dX3_readTest_59 ?_
            refine g_iload_n C rfl 0 rfl dX3_readTest_60 ?_
            have e361 : Tg h337 v1 = 2006 := (fxT F341 e335)
            refine g_callI (st := []) (gc_V C lk_LandSurvey_Reader_244 (k_X3_emit l D cy w z0 O340 e347 (iw (il (-23)) (by decide) (by decide)) (by unfold RInv; rw [e344, e346, e350, e353]; exact ⟨e361, p343.2.1, p354, p355⟩) (by omega)) e347 rfl rfl rfl ⟨by decide, by decide⟩ (Nat.le_of_ble_eq_true rfl) dX3_readTest_61 ⟨(by decide), (by decide)⟩) (fun r362 h363 f365 K364 => ?_)
            obtain ⟨O366, F367, f368, p369⟩ := K364
            have e370 : Rv h363 a0 13 = v1 := ((fxR F367 e347 rfl).trans e344)
            have e371 : Iv h363 a0 4 = v345 := ((fxI F367 e347 rfl).trans e346)
            have e372 : Jv h363 a0 5 = v349 := ((fxJ F367 e347 rfl).trans e350)
            have e373 : Rv h363 a0 6 = v352 := ((fxR F367 e347 rfl).trans e353)
            have p374 := p369.2.2.1
            rw [e371, e372] at p374
            have p375 := p369.2.2.2
            rw [e373] at p375
            refine g_if_eq C (iw f368 (by decide) (by decide)) 71 (by decide) dX3_readTest_64 (fun q376 => ?_) (fun q377 => ?_)
            · exact (no_eq f368 (il 0) q376 (by decide)).elim
            · refine g_iconst C dX3_readTest_67 ?_
              refine g_goto C 72 (by decide) dX3_readTest_68 ?_
              have e378 : Tg h363 v1 = 2006 := (fxT F367 e361)
              exact g_iret C hr (nar_z2 (iw (il 1) (by decide) (by decide))).1 (iw (il 1) (by decide) (by decide)) ⟨O366, ((((((((Fx.rf (wr := wr_k_readTest_1)).call F19 rfl).call F42 rfl).call F212 rfl).call F223 rfl).call F321 rfl).call F341 rfl).call F367 rfl), (iw (il 1) (by decide) (by decide)), (by unfold RInv; rw [e370, e371, e372, e373]; exact ⟨e378, p369.2.1, p374, p375⟩)⟩ (by decide) (by decide) dX3_readTest_72
      · have f379 : (0 : Int) ≤ r207 ∧ r207 ≤ (0 : Int) := ii f213 (r_eq (il 0) q215) (by decide) (by decide)
        refine g_iconst C dX3_readTest_28 ?_
        have e380 : Rv h208 a0 13 = v1 := ((fxR F212 e206 rfl).trans ((fxR F42 e25 rfl).trans e22))
        have e381 : Iv h208 a0 4 = v23 := ((fxI F212 e206 rfl).trans ((fxI F42 e25 rfl).trans e24))
        have e382 : Jv h208 a0 5 = v27 := ((fxJ F212 e206 rfl).trans ((fxJ F42 e25 rfl).trans e28))
        have e383 : Rv h208 a0 6 = v30 := ((fxR F212 e206 rfl).trans ((fxR F42 e25 rfl).trans e31))
        have e384 : Tg h208 v1 = 2006 := (fxT F212 (fxT F42 (fxT F19 t3)))
        have e385 : Tg h15 v1 = 2006 := (fxT F19 t3)
        have e386 : Rv h38 a0 13 = v1 := ((fxR F42 e25 rfl).trans e22)
        have e387 : Tg h38 v1 = 2006 := (fxT F42 e385)
        have p388 := (DOk_fx O41 F212 e206 (by rw [e386]; exact e387) rfl (DOk_fx O18 F42 e25 (by rw [e22]; exact e385) rfl p21.2.1))
        exact g_iret C hr (nar_z2 (iw (il 1) (by decide) (by decide))).1 (iw (il 1) (by decide) (by decide)) ⟨O211, ((((Fx.rf (wr := wr_k_readTest_1)).call F19 rfl).call F42 rfl).call F212 rfl), (iw (il 1) (by decide) (by decide)), (by unfold RInv; rw [e380, e381, e382, e383]; exact ⟨e384, p388, p32, p33⟩)⟩ (by decide) (by decide) dX3_readTest_29
  · have f389 : (0 : Int) ≤ r14 ∧ r14 ≤ (0 : Int) := ii f20 (r_eq (il 0) q35) (by decide) (by decide)
    refine g_iconst C dX3_readTest_8 ?_
    have e390 : Tg h15 v1 = 2006 := (fxT F19 t3)
    exact g_iret C hr (nar_z2 (iw (il 0) (by decide) (by decide))).1 (iw (il 0) (by decide) (by decide)) ⟨O18, ((Fx.rf (wr := wr_k_readTest_1)).call F19 rfl), (iw (il 0) (by decide) (by decide)), (by unfold RInv; rw [e22, e24, e28, e31]; exact ⟨e390, p21.2.1, p32, p33⟩)⟩ (by decide) (by decide) dX3_readTest_9
def wr_k_readTests_1 : List Nat := [802, 803, 804, 805, 806, 807, 812, 4020000]
set_option maxRecDepth 100000 in
set_option maxHeartbeats 4000000 in
theorem k_readTests_1 (l : Launch) (D : va_G) (cy : Nat → ClassId) (w : Nat → Nat) (z0 : Nat)  {h : Hp} {a0 : Nat} {a1 : Int}  (O : Okh h) (ta0 : Tg h a0 = 4) (fa1 : 1 ≤ a1 ∧ a1 ≤ 1) (P_RInv : RInv w h a0) : MI l D cy w z0 yX3_readTests cX3_readTests 4 (some .boolean) 21 474 0 0 [.inr (.inr a0), .inl a1] h (fun v h1 => Okh h1 ∧ Fx wr_k_readTests_1 h h1 ∧ (0 ≤ v ∧ v ≤ 1) ∧ (RInv w h1 a0)) := by
  obtain ⟨v1, e2⟩ : ∃ z, Rv h a0 13 = z := ⟨_, rfl⟩
  have t3 := P_RInv.1
  rw [e2] at t3
  obtain ⟨v4, e5⟩ : ∃ z, Iv h a0 4 = z := ⟨_, rfl⟩
  have f6 := ok_I O ta0 rI_4_4 e5
  obtain ⟨v7, e8⟩ : ∃ z, Jv h a0 5 = z := ⟨_, rfl⟩
  have f9 := inL_J O e8
  obtain ⟨v10, e11⟩ : ∃ z, Rv h a0 6 = z := ⟨_, rfl⟩
  have p12 := P_RInv.2.2.1
  rw [e5, e8] at p12
  have p13 := P_RInv.2.2.2
  rw [e11] at p13
  refine hm_go (by decide +kernel) (Nat.le_of_ble_eq_true rfl) (fun p e s m below meth c C hr hn => ?_)
  refine g_aload_n C rfl 0 rfl dX3_readTests_0 ?_
  refine g_iload_n C rfl 1 rfl dX3_readTests_1 ?_
  refine g_callI (st := []) (gc_V C lk_LandSurvey_Reader_235 (k_readTest_1 l D cy w z0 O ta0 fa1 (by unfold RInv; rw [e2, e5, e8, e11]; exact ⟨t3, P_RInv.2.1, p12, p13⟩)) ta0 rfl rfl rfl ⟨by decide, by decide⟩ (Nat.le_of_ble_eq_true rfl) dX3_readTests_2 ⟨(by decide), (by decide)⟩) (fun r14 h15 f17 K16 => ?_)
  obtain ⟨O18, F19, f20, p21⟩ := K16
  have e22 : Rv h15 a0 13 = v1 := ((fxR F19 ta0 rfl).trans e2)
  obtain ⟨v23, e24⟩ : ∃ z, Iv h15 a0 4 = z := ⟨_, rfl⟩
  have e25 : Tg h15 a0 = 4 := (fxT F19 ta0)
  have f26 := ok_I O18 e25 rI_4_4 e24
  obtain ⟨v27, e28⟩ : ∃ z, Jv h15 a0 5 = z := ⟨_, rfl⟩
  have f29 := inL_J O18 e28
  obtain ⟨v30, e31⟩ : ∃ z, Rv h15 a0 6 = z := ⟨_, rfl⟩
  have p32 := p21.2.2.1
  rw [e24, e28] at p32
  have p33 := p21.2.2.2
  rw [e31] at p33
  refine g_if_ne C (iw f20 (by decide) (by decide)) 10 (by decide) dX3_readTests_5 (fun q34 => ?_) (fun q35 => ?_)
  · have f36 : (1 : Int) ≤ r14 ∧ r14 ≤ (1 : Int) := r_nl f20 q34
    refine g_iconst C dX3_readTests_10 ?_
    refine g_istore_n C [(2, .inl 0), (0, .inr (.inr a0)), (1, .inl a1)] rfl (by decide) rfl dX3_readTests_11 ?_
    refine GW.sub [1, 2, 0] rfl ?_
    -- loop at 12
    have L39 : ∀ (μ : Nat) (x37 : Int) (h38 : Hp), (1501 - x37).toNat = μ → Okh h38 → Fx [802, 803, 804, 805, 806, 807, 812, 4020000] h15 h38 → ((0 : Int) ≤ x37 ∧ x37 ≤ (1501 : Int)) → (RInv w h38 a0) → GW p l e (rmm 21 474 0 0) s m (List.map toV [.inr (.inr a0), .inl a1]).toArray below meth c D cy z0 4 (MQ below (QI D cy z0 (fun v h1 => Okh h1 ∧ Fx wr_k_readTests_1 h h1 ∧ (0 ≤ v ∧ v ≤ 1) ∧ (RInv w h1 a0))) (List.map toV [.inr (.inr a0), .inl a1]).toArray s 0 0 (Aof z0)) 12 [(0, .inr (.inr a0)), (1, .inl a1), (2, .inl x37)] [] h38 0 0 := by
      intro μ
      induction μ using Nat.strongRecOn with
      | ind μ ih40 =>
        intro x37 h38 hm41 O42 F43 f44 p45
        have e46 : Rv h38 a0 13 = v1 := ((fxR F43 e25 rfl).trans e22)
        obtain ⟨v47, e48⟩ : ∃ z, Iv h38 a0 4 = z := ⟨_, rfl⟩
        have e49 : Tg h38 a0 = 4 := (fxT F43 e25)
        have f50 := ok_I O42 e49 rI_4_4 e48
        obtain ⟨v51, e52⟩ : ∃ z, Jv h38 a0 5 = z := ⟨_, rfl⟩
        have f53 := inL_J O42 e52
        obtain ⟨v54, e55⟩ : ∃ z, Rv h38 a0 6 = z := ⟨_, rfl⟩
        have p56 := p45.2.2.1
        rw [e48, e52] at p56
        have p57 := p45.2.2.2
        rw [e55] at p57
        refine g_iload_n C rfl 2 rfl dX3_readTests_12 ?_
        refine g_sipush C (by decide) dX3_readTests_13 ?_
        refine g_icmp_gt C (iw f44 (by decide) (by decide)) (iw (il 1500) (by decide) (by decide)) 85 (by decide) dX3_readTests_16 (fun q58 => ?_) (fun q59 => ?_)
        · have f60 : (1501 : Int) ≤ x37 ∧ x37 ≤ (1501 : Int) := r_gt f44 (il 1500) q58 (by decide) (by decide)
          refine g_iconst C dX3_readTests_85 ?_
          have e61 : Tg h38 v1 = 2006 := (fxT F43 (fxT F19 t3))
          exact g_iret C hr (nar_z2 (iw (il 1) (by decide) (by decide))).1 (iw (il 1) (by decide) (by decide)) ⟨O42, (((Fx.rf (wr := wr_k_readTests_1)).call F19 rfl).call F43 rfl), (iw (il 1) (by decide) (by decide)), (by unfold RInv; rw [e46, e48, e52, e55]; exact ⟨e61, p45.2.1, p56, p57⟩)⟩ (by decide) (by decide) dX3_readTests_86
        · have f62 : (0 : Int) ≤ x37 ∧ x37 ≤ (1500 : Int) := r_le f44 (il 1500) q59 (by decide) (by decide)
          refine g_aload_n C rfl 0 rfl dX3_readTests_19 ?_
          refine gf_R C fk_LandSurvey_Reader_69 rfl e49 e55 dX3_readTests_20 ?_
          refine g_gets (x := .inr (.inr (w 15 + 1))) C (C.2.2.2.2.2.2.1.1 15 (by decide)).1 kw_845 dX3_readTests_23 ?_
          refine g_acmp_eq C 39 (by decide) dX3_readTests_26 (fun q63 => ?_) (fun q64 => ?_)
          · refine g_aload_n C rfl 0 rfl dX3_readTests_39 ?_
            refine gf_R C fk_LandSurvey_Reader_69 rfl e49 e55 dX3_readTests_40 ?_
            refine g_gets (x := .inr (.inr (w 15 + 1))) C (C.2.2.2.2.2.2.1.1 15 (by decide)).1 kw_845 dX3_readTests_43 ?_
            refine g_acmp_ne C 54 (by decide) dX3_readTests_46 (fun q65 => ?_) (fun q66 => ?_)
            · refine g_bipush C (by decide) dX3_readTests_54 ?_
              refine g_istore_n C [(3, .inl (-26)), (0, .inr (.inr a0)), (1, .inl a1), (2, .inl x37)] rfl (by decide) rfl dX3_readTests_56 ?_
              refine g_aload_n C rfl 1 rfl dX3_readTests_57 ?_
              have e67 : Tg h38 v1 = 2006 := (fxT F43 (fxT F19 t3))
              refine g_callV (st := []) (gc_V C lk_LandSurvey_Reader_46 (k_X3_advance l D cy w z0 O42 e49 (by unfold RInv; rw [e46, e48, e52, e55]; exact ⟨e67, p45.2.1, p56, p57⟩)) e49 rfl rfl rfl ⟨by decide, by decide⟩ (Nat.le_of_ble_eq_true rfl) dX3_readTests_58 ⟨(by decide), (by decide)⟩) (fun h69 K70 => ?_)
              obtain ⟨O72, F73, p74⟩ := K70
              have e75 : Rv h69 a0 13 = v1 := ((fxR F73 e49 rfl).trans e46)
              obtain ⟨v76, e77⟩ : ∃ z, Iv h69 a0 4 = z := ⟨_, rfl⟩
              have e78 : Tg h69 a0 = 4 := (fxT F73 e49)
              have f79 := ok_I O72 e78 rI_4_4 e77
              obtain ⟨v80, e81⟩ : ∃ z, Jv h69 a0 5 = z := ⟨_, rfl⟩
              have f82 := inL_J O72 e81
              obtain ⟨v83, e84⟩ : ∃ z, Rv h69 a0 6 = z := ⟨_, rfl⟩
              have p85 := p74.2.2.1
              rw [e77, e81] at p85
              have p86 := p74.2.2.2
              rw [e84] at p86
              refine g_aload_n C rfl 1 rfl dX3_readTests_61 ?_
              refine g_iload_n C rfl 2 rfl dX3_readTests_62 ?_
              have e87 : Tg h69 v1 = 2006 := (fxT F73 e67)
              refine g_callI (st := []) (gc_V C lk_LandSurvey_Reader_235 (k_readTest_1 l D cy w z0 O72 e78 fa1 (by unfold RInv; rw [e75, e77, e81, e84]; exact ⟨e87, p74.2.1, p85, p86⟩)) e78 rfl rfl rfl ⟨by decide, by decide⟩ (Nat.le_of_ble_eq_true rfl) dX3_readTests_63 ⟨(by decide), (by decide)⟩) (fun r88 h89 f91 K90 => ?_)
              obtain ⟨O92, F93, f94, p95⟩ := K90
              have e96 : Rv h89 a0 13 = v1 := ((fxR F93 e78 rfl).trans e75)
              obtain ⟨v97, e98⟩ : ∃ z, Iv h89 a0 4 = z := ⟨_, rfl⟩
              have e99 : Tg h89 a0 = 4 := (fxT F93 e78)
              have f100 := ok_I O92 e99 rI_4_4 e98
              obtain ⟨v101, e102⟩ : ∃ z, Jv h89 a0 5 = z := ⟨_, rfl⟩
              have f103 := inL_J O92 e102
              obtain ⟨v104, e105⟩ : ∃ z, Rv h89 a0 6 = z := ⟨_, rfl⟩
              have p106 := p95.2.2.1
              rw [e98, e102] at p106
              have p107 := p95.2.2.2
              rw [e105] at p107
              refine g_if_eq C (iw f94 (by decide) (by decide)) 77 (by decide) dX3_readTests_66 (fun q108 => ?_) (fun q109 => ?_)
              · have f110 : (0 : Int) ≤ r88 ∧ r88 ≤ (0 : Int) := ii f94 (r_eq (il 0) q108) (by decide) (by decide)
                refine g_iconst C dX3_readTests_77 ?_
                have e111 : Tg h89 v1 = 2006 := (fxT F93 e87)
                exact g_iret C hr (nar_z2 (iw (il 0) (by decide) (by decide))).1 (iw (il 0) (by decide) (by decide)) ⟨O92, (((((Fx.rf (wr := wr_k_readTests_1)).call F19 rfl).call F43 rfl).call F73 rfl).call F93 rfl), (iw (il 0) (by decide) (by decide)), (by unfold RInv; rw [e96, e98, e102, e105]; exact ⟨e111, p95.2.1, p106, p107⟩)⟩ (by decide) (by decide) dX3_readTests_78
              · have f112 : (1 : Int) ≤ r88 ∧ r88 ≤ (1 : Int) := r_nl f94 q109
                refine g_aload_n C rfl 1 rfl dX3_readTests_69 ?_
                refine g_iload_n C rfl 0 rfl dX3_readTests_70 ?_
                have e113 : Tg h89 v1 = 2006 := (fxT F93 e87)
                refine g_callI (st := []) (gc_V C lk_LandSurvey_Reader_244 (k_X3_emit l D cy w z0 O92 e99 (iw (il (-26)) (by decide) (by decide)) (by unfold RInv; rw [e96, e98, e102, e105]; exact ⟨e113, p95.2.1, p106, p107⟩) (by omega)) e99 rfl rfl rfl ⟨by decide, by decide⟩ (Nat.le_of_ble_eq_true rfl) dX3_readTests_71 ⟨(by decide), (by decide)⟩) (fun r114 h115 f117 K116 => ?_)
                obtain ⟨O118, F119, f120, p121⟩ := K116
                have e122 : Rv h115 a0 13 = v1 := ((fxR F119 e99 rfl).trans e96)
                have e123 : Iv h115 a0 4 = v97 := ((fxI F119 e99 rfl).trans e98)
                have e124 : Jv h115 a0 5 = v101 := ((fxJ F119 e99 rfl).trans e102)
                have e125 : Rv h115 a0 6 = v104 := ((fxR F119 e99 rfl).trans e105)
                have p126 := p121.2.2.1
                rw [e123, e124] at p126
                have p127 := p121.2.2.2
                rw [e125] at p127
                refine g_if_ne C (iw f120 (by decide) (by decide)) 79 (by decide) dX3_readTests_74 (fun q128 => ?_) (fun q129 => ?_)
                · have f130 : (1 : Int) ≤ (x37 + 1) ∧ (x37 + 1) ≤ (1501 : Int) := ia_add f62 (il 1) (by decide) (by decide)
                  refine g_iinc C [(2, .inl (x37 + 1)), (3, .inl (-26)), (0, .inr (.inr a0)), (1, .inl a1)] 3 rfl (by decide) rfl dX3_readTests_79 ?_
                  refine g_goto C 12 (by decide) dX3_readTests_82 ?_
                  refine GW.sub [2, 3, 0] rfl ?_
                  have e131 : Tg h115 v1 = 2006 := (fxT F119 e113)
                  exact ih40 _ (by omega) (x37 + 1) h115 rfl O118 (((F43.call F73 rfl).call F93 rfl).call F119 rfl) (iw f130 (by decide) (by decide)) (by unfold RInv; rw [e122, e123, e124, e125]; exact ⟨e131, p121.2.1, p126, p127⟩)
                · exact (no_eq f120 (il 0) q129 (by decide)).elim
            · refine g_bipush C (by decide) dX3_readTests_49 ?_
              refine g_goto C 56 (by decide) dX3_readTests_51 ?_
              refine g_istore_n C [(3, .inl (-25)), (0, .inr (.inr a0)), (1, .inl a1), (2, .inl x37)] rfl (by decide) rfl dX3_readTests_56 ?_
              refine g_aload_n C rfl 1 rfl dX3_readTests_57 ?_
              have e132 : Tg h38 v1 = 2006 := (fxT F43 (fxT F19 t3))
              refine g_callV (st := []) (gc_V C lk_LandSurvey_Reader_46 (k_X3_advance l D cy w z0 O42 e49 (by unfold RInv; rw [e46, e48, e52, e55]; exact ⟨e132, p45.2.1, p56, p57⟩)) e49 rfl rfl rfl ⟨by decide, by decide⟩ (Nat.le_of_ble_eq_true rfl) dX3_readTests_58 ⟨(by decide), (by decide)⟩) (fun h134 K135 => ?_)
              obtain ⟨O137, F138, p139⟩ := K135
              have e140 : Rv h134 a0 13 = v1 := ((fxR F138 e49 rfl).trans e46)
              obtain ⟨v141, e142⟩ : ∃ z, Iv h134 a0 4 = z := ⟨_, rfl⟩
              have e143 : Tg h134 a0 = 4 := (fxT F138 e49)
              have f144 := ok_I O137 e143 rI_4_4 e142
              obtain ⟨v145, e146⟩ : ∃ z, Jv h134 a0 5 = z := ⟨_, rfl⟩
              have f147 := inL_J O137 e146
              obtain ⟨v148, e149⟩ : ∃ z, Rv h134 a0 6 = z := ⟨_, rfl⟩
              have p150 := p139.2.2.1
              rw [e142, e146] at p150
              have p151 := p139.2.2.2
              rw [e149] at p151
              refine g_aload_n C rfl 1 rfl dX3_readTests_61 ?_
              refine g_iload_n C rfl 2 rfl dX3_readTests_62 ?_
              have e152 : Tg h134 v1 = 2006 := (fxT F138 e132)
              refine g_callI (st := []) (gc_V C lk_LandSurvey_Reader_235 (k_readTest_1 l D cy w z0 O137 e143 fa1 (by unfold RInv; rw [e140, e142, e146, e149]; exact ⟨e152, p139.2.1, p150, p151⟩)) e143 rfl rfl rfl ⟨by decide, by decide⟩ (Nat.le_of_ble_eq_true rfl) dX3_readTests_63 ⟨(by decide), (by decide)⟩) (fun r153 h154 f156 K155 => ?_)
              obtain ⟨O157, F158, f159, p160⟩ := K155
              have e161 : Rv h154 a0 13 = v1 := ((fxR F158 e143 rfl).trans e140)
              obtain ⟨v162, e163⟩ : ∃ z, Iv h154 a0 4 = z := ⟨_, rfl⟩
              have e164 : Tg h154 a0 = 4 := (fxT F158 e143)
              have f165 := ok_I O157 e164 rI_4_4 e163
              obtain ⟨v166, e167⟩ : ∃ z, Jv h154 a0 5 = z := ⟨_, rfl⟩
              have f168 := inL_J O157 e167
              obtain ⟨v169, e170⟩ : ∃ z, Rv h154 a0 6 = z := ⟨_, rfl⟩
              have p171 := p160.2.2.1
              rw [e163, e167] at p171
              have p172 := p160.2.2.2
              rw [e170] at p172
              refine g_if_eq C (iw f159 (by decide) (by decide)) 77 (by decide) dX3_readTests_66 (fun q173 => ?_) (fun q174 => ?_)
              · have f175 : (0 : Int) ≤ r153 ∧ r153 ≤ (0 : Int) := ii f159 (r_eq (il 0) q173) (by decide) (by decide)
                refine g_iconst C dX3_readTests_77 ?_
                have e176 : Tg h154 v1 = 2006 := (fxT F158 e152)
                exact g_iret C hr (nar_z2 (iw (il 0) (by decide) (by decide))).1 (iw (il 0) (by decide) (by decide)) ⟨O157, (((((Fx.rf (wr := wr_k_readTests_1)).call F19 rfl).call F43 rfl).call F138 rfl).call F158 rfl), (iw (il 0) (by decide) (by decide)), (by unfold RInv; rw [e161, e163, e167, e170]; exact ⟨e176, p160.2.1, p171, p172⟩)⟩ (by decide) (by decide) dX3_readTests_78
              · have f177 : (1 : Int) ≤ r153 ∧ r153 ≤ (1 : Int) := r_nl f159 q174
                refine g_aload_n C rfl 1 rfl dX3_readTests_69 ?_
                refine g_iload_n C rfl 0 rfl dX3_readTests_70 ?_
                have e178 : Tg h154 v1 = 2006 := (fxT F158 e152)
                refine g_callI (st := []) (gc_V C lk_LandSurvey_Reader_244 (k_X3_emit l D cy w z0 O157 e164 (iw (il (-25)) (by decide) (by decide)) (by unfold RInv; rw [e161, e163, e167, e170]; exact ⟨e178, p160.2.1, p171, p172⟩) (by omega)) e164 rfl rfl rfl ⟨by decide, by decide⟩ (Nat.le_of_ble_eq_true rfl) dX3_readTests_71 ⟨(by decide), (by decide)⟩) (fun r179 h180 f182 K181 => ?_)
                obtain ⟨O183, F184, f185, p186⟩ := K181
                have e187 : Rv h180 a0 13 = v1 := ((fxR F184 e164 rfl).trans e161)
                have e188 : Iv h180 a0 4 = v162 := ((fxI F184 e164 rfl).trans e163)
                have e189 : Jv h180 a0 5 = v166 := ((fxJ F184 e164 rfl).trans e167)
                have e190 : Rv h180 a0 6 = v169 := ((fxR F184 e164 rfl).trans e170)
                have p191 := p186.2.2.1
                rw [e188, e189] at p191
                have p192 := p186.2.2.2
                rw [e190] at p192
                refine g_if_ne C (iw f185 (by decide) (by decide)) 79 (by decide) dX3_readTests_74 (fun q193 => ?_) (fun q194 => ?_)
                · have f195 : (1 : Int) ≤ (x37 + 1) ∧ (x37 + 1) ≤ (1501 : Int) := ia_add f62 (il 1) (by decide) (by decide)
                  refine g_iinc C [(2, .inl (x37 + 1)), (3, .inl (-25)), (0, .inr (.inr a0)), (1, .inl a1)] 3 rfl (by decide) rfl dX3_readTests_79 ?_
                  refine g_goto C 12 (by decide) dX3_readTests_82 ?_
                  refine GW.sub [2, 3, 0] rfl ?_
                  have e196 : Tg h180 v1 = 2006 := (fxT F184 e178)
                  exact ih40 _ (by omega) (x37 + 1) h180 rfl O183 (((F43.call F138 rfl).call F158 rfl).call F184 rfl) (iw f195 (by decide) (by decide)) (by unfold RInv; rw [e187, e188, e189, e190]; exact ⟨e196, p186.2.1, p191, p192⟩)
                · exact (no_eq f185 (il 0) q194 (by decide)).elim
          · refine g_aload_n C rfl 0 rfl dX3_readTests_29 ?_
            refine gf_R C fk_LandSurvey_Reader_69 rfl e49 e55 dX3_readTests_30 ?_
            refine g_gets (x := .inr (.inr (w 16 + 1))) C (C.2.2.2.2.2.2.1.1 16 (by decide)).1 kw_847 dX3_readTests_33 ?_
            refine g_acmp_ne C 85 (by decide) dX3_readTests_36 (fun q197 => ?_) (fun q198 => ?_)
            · refine g_iconst C dX3_readTests_85 ?_
              have e199 : Tg h38 v1 = 2006 := (fxT F43 (fxT F19 t3))
              exact g_iret C hr (nar_z2 (iw (il 1) (by decide) (by decide))).1 (iw (il 1) (by decide) (by decide)) ⟨O42, (((Fx.rf (wr := wr_k_readTests_1)).call F19 rfl).call F43 rfl), (iw (il 1) (by decide) (by decide)), (by unfold RInv; rw [e46, e48, e52, e55]; exact ⟨e199, p45.2.1, p56, p57⟩)⟩ (by decide) (by decide) dX3_readTests_86
            · refine g_aload_n C rfl 0 rfl dX3_readTests_39 ?_
              refine gf_R C fk_LandSurvey_Reader_69 rfl e49 e55 dX3_readTests_40 ?_
              refine g_gets (x := .inr (.inr (w 15 + 1))) C (C.2.2.2.2.2.2.1.1 15 (by decide)).1 kw_845 dX3_readTests_43 ?_
              refine g_acmp_ne C 54 (by decide) dX3_readTests_46 (fun q200 => ?_) (fun q201 => ?_)
              · refine g_bipush C (by decide) dX3_readTests_54 ?_
                refine g_istore_n C [(3, .inl (-26)), (0, .inr (.inr a0)), (1, .inl a1), (2, .inl x37)] rfl (by decide) rfl dX3_readTests_56 ?_
                refine g_aload_n C rfl 1 rfl dX3_readTests_57 ?_
                have e202 : Tg h38 v1 = 2006 := (fxT F43 (fxT F19 t3))
                refine g_callV (st := []) (gc_V C lk_LandSurvey_Reader_46 (k_X3_advance l D cy w z0 O42 e49 (by unfold RInv; rw [e46, e48, e52, e55]; exact ⟨e202, p45.2.1, p56, p57⟩)) e49 rfl rfl rfl ⟨by decide, by decide⟩ (Nat.le_of_ble_eq_true rfl) dX3_readTests_58 ⟨(by decide), (by decide)⟩) (fun h204 K205 => ?_)
                obtain ⟨O207, F208, p209⟩ := K205
                have e210 : Rv h204 a0 13 = v1 := ((fxR F208 e49 rfl).trans e46)
                obtain ⟨v211, e212⟩ : ∃ z, Iv h204 a0 4 = z := ⟨_, rfl⟩
                have e213 : Tg h204 a0 = 4 := (fxT F208 e49)
                have f214 := ok_I O207 e213 rI_4_4 e212
                obtain ⟨v215, e216⟩ : ∃ z, Jv h204 a0 5 = z := ⟨_, rfl⟩
                have f217 := inL_J O207 e216
                obtain ⟨v218, e219⟩ : ∃ z, Rv h204 a0 6 = z := ⟨_, rfl⟩
                have p220 := p209.2.2.1
                rw [e212, e216] at p220
                have p221 := p209.2.2.2
                rw [e219] at p221
                refine g_aload_n C rfl 1 rfl dX3_readTests_61 ?_
                refine g_iload_n C rfl 2 rfl dX3_readTests_62 ?_
                have e222 : Tg h204 v1 = 2006 := (fxT F208 e202)
                refine g_callI (st := []) (gc_V C lk_LandSurvey_Reader_235 (k_readTest_1 l D cy w z0 O207 e213 fa1 (by unfold RInv; rw [e210, e212, e216, e219]; exact ⟨e222, p209.2.1, p220, p221⟩)) e213 rfl rfl rfl ⟨by decide, by decide⟩ (Nat.le_of_ble_eq_true rfl) dX3_readTests_63 ⟨(by decide), (by decide)⟩) (fun r223 h224 f226 K225 => ?_)
                obtain ⟨O227, F228, f229, p230⟩ := K225
                have e231 : Rv h224 a0 13 = v1 := ((fxR F228 e213 rfl).trans e210)
                obtain ⟨v232, e233⟩ : ∃ z, Iv h224 a0 4 = z := ⟨_, rfl⟩
                have e234 : Tg h224 a0 = 4 := (fxT F228 e213)
                have f235 := ok_I O227 e234 rI_4_4 e233
                obtain ⟨v236, e237⟩ : ∃ z, Jv h224 a0 5 = z := ⟨_, rfl⟩
                have f238 := inL_J O227 e237
                obtain ⟨v239, e240⟩ : ∃ z, Rv h224 a0 6 = z := ⟨_, rfl⟩
                have p241 := p230.2.2.1
                rw [e233, e237] at p241
                have p242 := p230.2.2.2
                rw [e240] at p242
                refine g_if_eq C (iw f229 (by decide) (by decide)) 77 (by decide) dX3_readTests_66 (fun q243 => ?_) (fun q244 => ?_)
                · have f245 : (0 : Int) ≤ r223 ∧ r223 ≤ (0 : Int) := ii f229 (r_eq (il 0) q243) (by decide) (by decide)
                  refine g_iconst C dX3_readTests_77 ?_
                  have e246 : Tg h224 v1 = 2006 := (fxT F228 e222)
                  exact g_iret C hr (nar_z2 (iw (il 0) (by decide) (by decide))).1 (iw (il 0) (by decide) (by decide)) ⟨O227, (((((Fx.rf (wr := wr_k_readTests_1)).call F19 rfl).call F43 rfl).call F208 rfl).call F228 rfl), (iw (il 0) (by decide) (by decide)), (by unfold RInv; rw [e231, e233, e237, e240]; exact ⟨e246, p230.2.1, p241, p242⟩)⟩ (by decide) (by decide) dX3_readTests_78
                · have f247 : (1 : Int) ≤ r223 ∧ r223 ≤ (1 : Int) := r_nl f229 q244
                  refine g_aload_n C rfl 1 rfl dX3_readTests_69 ?_
                  refine g_iload_n C rfl 0 rfl dX3_readTests_70 ?_
                  have e248 : Tg h224 v1 = 2006 := (fxT F228 e222)
                  refine g_callI (st := []) (gc_V C lk_LandSurvey_Reader_244 (k_X3_emit l D cy w z0 O227 e234 (iw (il (-26)) (by decide) (by decide)) (by unfold RInv; rw [e231, e233, e237, e240]; exact ⟨e248, p230.2.1, p241, p242⟩) (by omega)) e234 rfl rfl rfl ⟨by decide, by decide⟩ (Nat.le_of_ble_eq_true rfl) dX3_readTests_71 ⟨(by decide), (by decide)⟩) (fun r249 h250 f252 K251 => ?_)
                  obtain ⟨O253, F254, f255, p256⟩ := K251
                  have e257 : Rv h250 a0 13 = v1 := ((fxR F254 e234 rfl).trans e231)
                  have e258 : Iv h250 a0 4 = v232 := ((fxI F254 e234 rfl).trans e233)
                  have e259 : Jv h250 a0 5 = v236 := ((fxJ F254 e234 rfl).trans e237)
                  have e260 : Rv h250 a0 6 = v239 := ((fxR F254 e234 rfl).trans e240)
                  have p261 := p256.2.2.1
                  rw [e258, e259] at p261
                  have p262 := p256.2.2.2
                  rw [e260] at p262
                  refine g_if_ne C (iw f255 (by decide) (by decide)) 79 (by decide) dX3_readTests_74 (fun q263 => ?_) (fun q264 => ?_)
                  · have f265 : (1 : Int) ≤ (x37 + 1) ∧ (x37 + 1) ≤ (1501 : Int) := ia_add f62 (il 1) (by decide) (by decide)
                    refine g_iinc C [(2, .inl (x37 + 1)), (3, .inl (-26)), (0, .inr (.inr a0)), (1, .inl a1)] 3 rfl (by decide) rfl dX3_readTests_79 ?_
                    refine g_goto C 12 (by decide) dX3_readTests_82 ?_
                    refine GW.sub [2, 3, 0] rfl ?_
                    have e266 : Tg h250 v1 = 2006 := (fxT F254 e248)
                    exact ih40 _ (by omega) (x37 + 1) h250 rfl O253 (((F43.call F208 rfl).call F228 rfl).call F254 rfl) (iw f265 (by decide) (by decide)) (by unfold RInv; rw [e257, e258, e259, e260]; exact ⟨e266, p256.2.1, p261, p262⟩)
                  · exact (no_eq f255 (il 0) q264 (by decide)).elim
              · refine g_bipush C (by decide) dX3_readTests_49 ?_
                refine g_goto C 56 (by decide) dX3_readTests_51 ?_
                refine g_istore_n C [(3, .inl (-25)), (0, .inr (.inr a0)), (1, .inl a1), (2, .inl x37)] rfl (by decide) rfl dX3_readTests_56 ?_
                refine g_aload_n C rfl 1 rfl dX3_readTests_57 ?_
                have e267 : Tg h38 v1 = 2006 := (fxT F43 (fxT F19 t3))
                refine g_callV (st := []) (gc_V C lk_LandSurvey_Reader_46 (k_X3_advance l D cy w z0 O42 e49 (by unfold RInv; rw [e46, e48, e52, e55]; exact ⟨e267, p45.2.1, p56, p57⟩)) e49 rfl rfl rfl ⟨by decide, by decide⟩ (Nat.le_of_ble_eq_true rfl) dX3_readTests_58 ⟨(by decide), (by decide)⟩) (fun h269 K270 => ?_)
                obtain ⟨O272, F273, p274⟩ := K270
                have e275 : Rv h269 a0 13 = v1 := ((fxR F273 e49 rfl).trans e46)
                obtain ⟨v276, e277⟩ : ∃ z, Iv h269 a0 4 = z := ⟨_, rfl⟩
                have e278 : Tg h269 a0 = 4 := (fxT F273 e49)
                have f279 := ok_I O272 e278 rI_4_4 e277
                obtain ⟨v280, e281⟩ : ∃ z, Jv h269 a0 5 = z := ⟨_, rfl⟩
                have f282 := inL_J O272 e281
                obtain ⟨v283, e284⟩ : ∃ z, Rv h269 a0 6 = z := ⟨_, rfl⟩
                have p285 := p274.2.2.1
                rw [e277, e281] at p285
                have p286 := p274.2.2.2
                rw [e284] at p286
                refine g_aload_n C rfl 1 rfl dX3_readTests_61 ?_
                refine g_iload_n C rfl 2 rfl dX3_readTests_62 ?_
                have e287 : Tg h269 v1 = 2006 := (fxT F273 e267)
                refine g_callI (st := []) (gc_V C lk_LandSurvey_Reader_235 (k_readTest_1 l D cy w z0 O272 e278 fa1 (by unfold RInv; rw [e275, e277, e281, e284]; exact ⟨e287, p274.2.1, p285, p286⟩)) e278 rfl rfl rfl ⟨by decide, by decide⟩ (Nat.le_of_ble_eq_true rfl) dX3_readTests_63 ⟨(by decide), (by decide)⟩) (fun r288 h289 f291 K290 => ?_)
                obtain ⟨O292, F293, f294, p295⟩ := K290
                have e296 : Rv h289 a0 13 = v1 := ((fxR F293 e278 rfl).trans e275)
                obtain ⟨v297, e298⟩ : ∃ z, Iv h289 a0 4 = z := ⟨_, rfl⟩
                have e299 : Tg h289 a0 = 4 := (fxT F293 e278)
                have f300 := ok_I O292 e299 rI_4_4 e298
                obtain ⟨v301, e302⟩ : ∃ z, Jv h289 a0 5 = z := ⟨_, rfl⟩
                have f303 := inL_J O292 e302
                obtain ⟨v304, e305⟩ : ∃ z, Rv h289 a0 6 = z := ⟨_, rfl⟩
                have p306 := p295.2.2.1
                rw [e298, e302] at p306
                have p307 := p295.2.2.2
                rw [e305] at p307
                refine g_if_eq C (iw f294 (by decide) (by decide)) 77 (by decide) dX3_readTests_66 (fun q308 => ?_) (fun q309 => ?_)
                · have f310 : (0 : Int) ≤ r288 ∧ r288 ≤ (0 : Int) := ii f294 (r_eq (il 0) q308) (by decide) (by decide)
                  refine g_iconst C dX3_readTests_77 ?_
                  have e311 : Tg h289 v1 = 2006 := (fxT F293 e287)
                  exact g_iret C hr (nar_z2 (iw (il 0) (by decide) (by decide))).1 (iw (il 0) (by decide) (by decide)) ⟨O292, (((((Fx.rf (wr := wr_k_readTests_1)).call F19 rfl).call F43 rfl).call F273 rfl).call F293 rfl), (iw (il 0) (by decide) (by decide)), (by unfold RInv; rw [e296, e298, e302, e305]; exact ⟨e311, p295.2.1, p306, p307⟩)⟩ (by decide) (by decide) dX3_readTests_78
                · have f312 : (1 : Int) ≤ r288 ∧ r288 ≤ (1 : Int) := r_nl f294 q309
                  refine g_aload_n C rfl 1 rfl dX3_readTests_69 ?_
                  refine g_iload_n C rfl 0 rfl dX3_readTests_70 ?_
                  have e313 : Tg h289 v1 = 2006 := (fxT F293 e287)
                  refine g_callI (st := []) (gc_V C lk_LandSurvey_Reader_244 (k_X3_emit l D cy w z0 O292 e299 (iw (il (-25)) (by decide) (by decide)) (by unfold RInv; rw [e296, e298, e302, e305]; exact ⟨e313, p295.2.1, p306, p307⟩) (by omega)) e299 rfl rfl rfl ⟨by decide, by decide⟩ (Nat.le_of_ble_eq_true rfl) dX3_readTests_71 ⟨(by decide), (by decide)⟩) (fun r314 h315 f317 K316 => ?_)
                  obtain ⟨O318, F319, f320, p321⟩ := K316
                  have e322 : Rv h315 a0 13 = v1 := ((fxR F319 e299 rfl).trans e296)
                  have e323 : Iv h315 a0 4 = v297 := ((fxI F319 e299 rfl).trans e298)
                  have e324 : Jv h315 a0 5 = v301 := ((fxJ F319 e299 rfl).trans e302)
                  have e325 : Rv h315 a0 6 = v304 := ((fxR F319 e299 rfl).trans e305)
                  have p326 := p321.2.2.1
                  rw [e323, e324] at p326
                  have p327 := p321.2.2.2
                  rw [e325] at p327
                  refine g_if_ne C (iw f320 (by decide) (by decide)) 79 (by decide) dX3_readTests_74 (fun q328 => ?_) (fun q329 => ?_)
                  · have f330 : (1 : Int) ≤ (x37 + 1) ∧ (x37 + 1) ≤ (1501 : Int) := ia_add f62 (il 1) (by decide) (by decide)
                    refine g_iinc C [(2, .inl (x37 + 1)), (3, .inl (-25)), (0, .inr (.inr a0)), (1, .inl a1)] 3 rfl (by decide) rfl dX3_readTests_79 ?_
                    refine g_goto C 12 (by decide) dX3_readTests_82 ?_
                    refine GW.sub [2, 3, 0] rfl ?_
                    have e331 : Tg h315 v1 = 2006 := (fxT F319 e313)
                    exact ih40 _ (by omega) (x37 + 1) h315 rfl O318 (((F43.call F273 rfl).call F293 rfl).call F319 rfl) (iw f330 (by decide) (by decide)) (by unfold RInv; rw [e322, e323, e324, e325]; exact ⟨e331, p321.2.1, p326, p327⟩)
                  · exact (no_eq f320 (il 0) q329 (by decide)).elim
    have e332 : Tg h15 v1 = 2006 := (fxT F19 t3)
    exact L39 _ 0 h15 rfl O18 Fx.rf (iw (il 0) (by decide) (by decide)) (by unfold RInv; rw [e22, e24, e28, e31]; exact ⟨e332, p21.2.1, p32, p33⟩)
  · have f333 : (0 : Int) ≤ r14 ∧ r14 ≤ (0 : Int) := ii f20 (r_eq (il 0) q35) (by decide) (by decide)
    refine g_iconst C dX3_readTests_8 ?_
    have e334 : Tg h15 v1 = 2006 := (fxT F19 t3)
    exact g_iret C hr (nar_z2 (iw (il 0) (by decide) (by decide))).1 (iw (il 0) (by decide) (by decide)) ⟨O18, ((Fx.rf (wr := wr_k_readTests_1)).call F19 rfl), (iw (il 0) (by decide) (by decide)), (by unfold RInv; rw [e22, e24, e28, e31]; exact ⟨e334, p21.2.1, p32, p33⟩)⟩ (by decide) (by decide) dX3_readTests_9
def wr_k_readFact_0 : List Nat := [802, 803, 804, 805, 806, 807, 812, 4020000]
set_option maxRecDepth 100000 in
set_option maxHeartbeats 4000000 in
theorem k_readFact_0 (l : Launch) (D : va_G) (cy : Nat → ClassId) (w : Nat → Nat) (z0 : Nat)  {h : Hp} {a0 : Nat} {a1 : Int}  (O : Okh h) (ta0 : Tg h a0 = 4) (fa1 : 0 ≤ a1 ∧ a1 ≤ 0) (P_RInv : RInv w h a0) : MI l D cy w z0 yX3_readFact cX3_readFact 4 (some .boolean) 22 497 0 0 [.inr (.inr a0), .inl a1] h (fun v h1 => Okh h1 ∧ Fx wr_k_readFact_0 h h1 ∧ (0 ≤ v ∧ v ≤ 1) ∧ (RInv w h1 a0)) := by
  obtain ⟨v1, e2⟩ : ∃ z, Rv h a0 13 = z := ⟨_, rfl⟩
  have t3 := P_RInv.1
  rw [e2] at t3
  obtain ⟨v4, e5⟩ : ∃ z, Iv h a0 4 = z := ⟨_, rfl⟩
  have f6 := ok_I O ta0 rI_4_4 e5
  obtain ⟨v7, e8⟩ : ∃ z, Jv h a0 5 = z := ⟨_, rfl⟩
  have f9 := inL_J O e8
  obtain ⟨v10, e11⟩ : ∃ z, Rv h a0 6 = z := ⟨_, rfl⟩
  have p12 := P_RInv.2.2.1
  rw [e5, e8] at p12
  have p13 := P_RInv.2.2.2
  rw [e11] at p13
  refine hm_go (by decide +kernel) (Nat.le_of_ble_eq_true rfl) (fun p e s m below meth c C hr hn => ?_)
  refine g_aload_n C rfl 0 rfl dX3_readFact_0 ?_
  refine gf_I C fk_LandSurvey_Reader_49 rfl ta0 e5 dX3_readFact_1 ?_
  refine g_iconst C dX3_readFact_4 ?_
  refine g_icmp_eq C (iw f6 (by decide) (by decide)) (iw (il 2) (by decide) (by decide)) 26 (by decide) dX3_readFact_5 (fun q14 => ?_) (fun q15 => ?_)
  · have f16 : (2 : Int) ≤ v4 ∧ v4 ≤ (2 : Int) := ii f6 (r_eq (il 2) q14) (by decide) (by decide)
    refine g_iconst C dX3_readFact_26 ?_
    refine g_goto C 31 (by decide) dX3_readFact_27 ?_
    refine g_istore_n C [(2, .inl 1), (0, .inr (.inr a0)), (1, .inl a1)] rfl (by decide) rfl dX3_readFact_31 ?_
    refine g_aload_n C rfl 1 rfl dX3_readFact_32 ?_
    refine gf_R C fk_LandSurvey_Reader_69 rfl ta0 e11 dX3_readFact_33 ?_
    refine g_gets (x := .inr (.inr (w 17 + 1))) C (C.2.2.2.2.2.2.1.1 17 (by decide)).1 kw_839 dX3_readFact_36 ?_
    refine g_acmp_ne C 46 (by decide) dX3_readFact_39 (fun q17 => ?_) (fun q18 => ?_)
    · refine g_iconst C dX3_readFact_46 ?_
      refine g_istore_n C [(3, .inl 0), (2, .inl 1), (0, .inr (.inr a0)), (1, .inl a1)] rfl (by decide) rfl dX3_readFact_47 ?_
      refine g_iload_n C rfl 1 rfl dX3_readFact_48 ?_
      refine g_if_ne C (iw (il 1) (by decide) (by decide)) 71 (by decide) dX3_readFact_49 (fun q19 => ?_) (fun q20 => ?_)
      · refine g_iload_n C rfl 3 rfl dX3_readFact_71 ?_
        refine g_iconst C dX3_readFact_72 ?_
        refine g_icmp_lt C (iw fa1 (by decide) (by decide)) (iw (il 4) (by decide) (by decide)) 82 (by decide) dX3_readFact_73 (fun q21 => ?_) (fun q22 => ?_)
        · refine g_iload_n C rfl 1 rfl dX3_readFact_82 ?_
          refine g_if_eq C (iw (il 1) (by decide) (by decide)) 122 (by decide) dX3_readFact_83 (fun q23 => ?_) (fun q24 => ?_)
          · exact (no_eq (il 1) (il 0) q23 (by decide)).elim
          · refine g_aload_n C rfl 2 rfl dX3_readFact_86 ?_
            refine g_aload_n C rfl 2 rfl dX3_readFact_87 ?_
            refine gf_I C fk_LandSurvey_Reader_49 rfl ta0 e5 dX3_readFact_88 ?_
            refine g_iconst C dX3_readFact_91 ?_
            refine g_icmp_ne C (iw f16 (by decide) (by decide)) (iw (il 2) (by decide) (by decide)) 103 (by decide) dX3_readFact_92 (fun q25 => ?_) (fun q26 => ?_)
            · exact (no_ne f16 (il 2) q25 (by decide)).elim
            · have f27 : (0 : Int) ≤ v7 ∧ v7 ≤ (9999 : Int) := by omega
              refine g_aload_n C rfl 2 rfl dX3_readFact_95 ?_
              refine gf_J C fk_LandSurvey_Reader_73 rfl ta0 e8 dX3_readFact_96 ?_
              refine g_l2i C dX3_readFact_99 ?_
              have f28 : (0 : Int) ≤ (l2w v7) ∧ (l2w v7) ≤ (9999 : Int) := l2w_in f27 (by decide) (by decide)
              refine g_goto C 112 (by decide) dX3_readFact_100 ?_
              refine g_callI (st := []) (gc_V C lk_LandSurvey_Reader_244 (k_X3_emit l D cy w z0 O ta0 (iw f28 (by decide) (by decide)) (by unfold RInv; rw [e2, e5, e8, e11]; exact ⟨t3, P_RInv.2.1, p12, p13⟩) (by omega)) ta0 rfl rfl rfl ⟨by decide, by decide⟩ (Nat.le_of_ble_eq_true rfl) dX3_readFact_112 ⟨(by decide), (by decide)⟩) (fun r29 h30 f32 K31 => ?_)
              obtain ⟨O33, F34, f35, p36⟩ := K31
              have e37 : Rv h30 a0 13 = v1 := ((fxR F34 ta0 rfl).trans e2)
              have e38 : Iv h30 a0 4 = v4 := ((fxI F34 ta0 rfl).trans e5)
              have e39 : Jv h30 a0 5 = v7 := ((fxJ F34 ta0 rfl).trans e8)
              have e40 : Rv h30 a0 6 = v10 := ((fxR F34 ta0 rfl).trans e11)
              have p41 := p36.2.2.1
              rw [e38, e39] at p41
              have p42 := p36.2.2.2
              rw [e40] at p42
              refine g_pop C rfl dX3_readFact_115 ?_
              refine g_aload_n C rfl 2 rfl dX3_readFact_116 ?_
              have e43 : Tg h30 a0 = 4 := (fxT F34 ta0)
              have e44 : Tg h30 v1 = 2006 := (fxT F34 t3)
              refine g_callV (st := []) (gc_V C lk_LandSurvey_Reader_46 (k_X3_advance l D cy w z0 O33 e43 (by unfold RInv; rw [e37, e38, e39, e40]; exact ⟨e44, p36.2.1, p41, p42⟩)) e43 rfl rfl rfl ⟨by decide, by decide⟩ (Nat.le_of_ble_eq_true rfl) dX3_readFact_117 ⟨(by decide), (by decide)⟩) (fun h46 K47 => ?_)
              obtain ⟨O49, F50, p51⟩ := K47
              have e52 : Rv h46 a0 13 = v1 := ((fxR F50 e43 rfl).trans e37)
              obtain ⟨v53, e54⟩ : ∃ z, Iv h46 a0 4 = z := ⟨_, rfl⟩
              have e55 : Tg h46 a0 = 4 := (fxT F50 e43)
              have f56 := ok_I O49 e55 rI_4_4 e54
              obtain ⟨v57, e58⟩ : ∃ z, Jv h46 a0 5 = z := ⟨_, rfl⟩
              have f59 := inL_J O49 e58
              obtain ⟨v60, e61⟩ : ∃ z, Rv h46 a0 6 = z := ⟨_, rfl⟩
              have p62 := p51.2.2.1
              rw [e54, e58] at p62
              have p63 := p51.2.2.2
              rw [e61] at p63
              refine g_iconst C dX3_readFact_120 ?_
              have e64 : Tg h46 v1 = 2006 := (fxT F50 e44)
              exact g_iret C hr (nar_z2 (iw (il 1) (by decide) (by decide))).1 (iw (il 1) (by decide) (by decide)) ⟨O49, (((Fx.rf (wr := wr_k_readFact_0)).call F34 rfl).call F50 rfl), (iw (il 1) (by decide) (by decide)), (by unfold RInv; rw [e52, e54, e58, e61]; exact ⟨e64, p51.2.1, p62, p63⟩)⟩ (by decide) (by decide) dX3_readFact_121
        · exact (no_le (il 4) fa1 q22 (by decide)).elim
      · exact (no_eq (il 1) (il 0) q20 (by decide)).elim
    · refine g_iconst C dX3_readFact_42 ?_
      refine g_goto C 47 (by decide) dX3_readFact_43 ?_
      refine g_istore_n C [(3, .inl 1), (2, .inl 1), (0, .inr (.inr a0)), (1, .inl a1)] rfl (by decide) rfl dX3_readFact_47 ?_
      refine g_iload_n C rfl 1 rfl dX3_readFact_48 ?_
      refine g_if_ne C (iw (il 1) (by decide) (by decide)) 71 (by decide) dX3_readFact_49 (fun q65 => ?_) (fun q66 => ?_)
      · refine g_iload_n C rfl 3 rfl dX3_readFact_71 ?_
        refine g_iconst C dX3_readFact_72 ?_
        refine g_icmp_lt C (iw fa1 (by decide) (by decide)) (iw (il 4) (by decide) (by decide)) 82 (by decide) dX3_readFact_73 (fun q67 => ?_) (fun q68 => ?_)
        · refine g_iload_n C rfl 1 rfl dX3_readFact_82 ?_
          refine g_if_eq C (iw (il 1) (by decide) (by decide)) 122 (by decide) dX3_readFact_83 (fun q69 => ?_) (fun q70 => ?_)
          · exact (no_eq (il 1) (il 0) q69 (by decide)).elim
          · refine g_aload_n C rfl 2 rfl dX3_readFact_86 ?_
            refine g_aload_n C rfl 2 rfl dX3_readFact_87 ?_
            refine gf_I C fk_LandSurvey_Reader_49 rfl ta0 e5 dX3_readFact_88 ?_
            refine g_iconst C dX3_readFact_91 ?_
            refine g_icmp_ne C (iw f16 (by decide) (by decide)) (iw (il 2) (by decide) (by decide)) 103 (by decide) dX3_readFact_92 (fun q71 => ?_) (fun q72 => ?_)
            · exact (no_ne f16 (il 2) q71 (by decide)).elim
            · have f73 : (0 : Int) ≤ v7 ∧ v7 ≤ (9999 : Int) := by omega
              refine g_aload_n C rfl 2 rfl dX3_readFact_95 ?_
              refine gf_J C fk_LandSurvey_Reader_73 rfl ta0 e8 dX3_readFact_96 ?_
              refine g_l2i C dX3_readFact_99 ?_
              have f74 : (0 : Int) ≤ (l2w v7) ∧ (l2w v7) ≤ (9999 : Int) := l2w_in f73 (by decide) (by decide)
              refine g_goto C 112 (by decide) dX3_readFact_100 ?_
              refine g_callI (st := []) (gc_V C lk_LandSurvey_Reader_244 (k_X3_emit l D cy w z0 O ta0 (iw f74 (by decide) (by decide)) (by unfold RInv; rw [e2, e5, e8, e11]; exact ⟨t3, P_RInv.2.1, p12, p13⟩) (by omega)) ta0 rfl rfl rfl ⟨by decide, by decide⟩ (Nat.le_of_ble_eq_true rfl) dX3_readFact_112 ⟨(by decide), (by decide)⟩) (fun r75 h76 f78 K77 => ?_)
              obtain ⟨O79, F80, f81, p82⟩ := K77
              have e83 : Rv h76 a0 13 = v1 := ((fxR F80 ta0 rfl).trans e2)
              have e84 : Iv h76 a0 4 = v4 := ((fxI F80 ta0 rfl).trans e5)
              have e85 : Jv h76 a0 5 = v7 := ((fxJ F80 ta0 rfl).trans e8)
              have e86 : Rv h76 a0 6 = v10 := ((fxR F80 ta0 rfl).trans e11)
              have p87 := p82.2.2.1
              rw [e84, e85] at p87
              have p88 := p82.2.2.2
              rw [e86] at p88
              refine g_pop C rfl dX3_readFact_115 ?_
              refine g_aload_n C rfl 2 rfl dX3_readFact_116 ?_
              have e89 : Tg h76 a0 = 4 := (fxT F80 ta0)
              have e90 : Tg h76 v1 = 2006 := (fxT F80 t3)
              refine g_callV (st := []) (gc_V C lk_LandSurvey_Reader_46 (k_X3_advance l D cy w z0 O79 e89 (by unfold RInv; rw [e83, e84, e85, e86]; exact ⟨e90, p82.2.1, p87, p88⟩)) e89 rfl rfl rfl ⟨by decide, by decide⟩ (Nat.le_of_ble_eq_true rfl) dX3_readFact_117 ⟨(by decide), (by decide)⟩) (fun h92 K93 => ?_)
              obtain ⟨O95, F96, p97⟩ := K93
              have e98 : Rv h92 a0 13 = v1 := ((fxR F96 e89 rfl).trans e83)
              obtain ⟨v99, e100⟩ : ∃ z, Iv h92 a0 4 = z := ⟨_, rfl⟩
              have e101 : Tg h92 a0 = 4 := (fxT F96 e89)
              have f102 := ok_I O95 e101 rI_4_4 e100
              obtain ⟨v103, e104⟩ : ∃ z, Jv h92 a0 5 = z := ⟨_, rfl⟩
              have f105 := inL_J O95 e104
              obtain ⟨v106, e107⟩ : ∃ z, Rv h92 a0 6 = z := ⟨_, rfl⟩
              have p108 := p97.2.2.1
              rw [e100, e104] at p108
              have p109 := p97.2.2.2
              rw [e107] at p109
              refine g_iconst C dX3_readFact_120 ?_
              have e110 : Tg h92 v1 = 2006 := (fxT F96 e90)
              exact g_iret C hr (nar_z2 (iw (il 1) (by decide) (by decide))).1 (iw (il 1) (by decide) (by decide)) ⟨O95, (((Fx.rf (wr := wr_k_readFact_0)).call F80 rfl).call F96 rfl), (iw (il 1) (by decide) (by decide)), (by unfold RInv; rw [e98, e100, e104, e107]; exact ⟨e110, p97.2.1, p108, p109⟩)⟩ (by decide) (by decide) dX3_readFact_121
        · exact (no_le (il 4) fa1 q68 (by decide)).elim
      · exact (no_eq (il 1) (il 0) q66 (by decide)).elim
  · refine g_aload_n C rfl 0 rfl dX3_readFact_8 ?_
    refine gf_R C fk_LandSurvey_Reader_69 rfl ta0 e11 dX3_readFact_9 ?_
    refine g_ifnull C 30 (by decide) dX3_readFact_12 (fun q111 => ?_) (fun q112 => ?_)
    · refine g_iconst C dX3_readFact_30 ?_
      refine g_istore_n C [(2, .inl 0), (0, .inr (.inr a0)), (1, .inl a1)] rfl (by decide) rfl dX3_readFact_31 ?_
      refine g_aload_n C rfl 1 rfl dX3_readFact_32 ?_
      refine gf_R C fk_LandSurvey_Reader_69 rfl ta0 e11 dX3_readFact_33 ?_
      refine g_gets (x := .inr (.inr (w 17 + 1))) C (C.2.2.2.2.2.2.1.1 17 (by decide)).1 kw_839 dX3_readFact_36 ?_
      refine g_acmp_ne C 46 (by decide) dX3_readFact_39 (fun q113 => ?_) (fun q114 => ?_)
      · refine g_iconst C dX3_readFact_46 ?_
        refine g_istore_n C [(3, .inl 0), (2, .inl 0), (0, .inr (.inr a0)), (1, .inl a1)] rfl (by decide) rfl dX3_readFact_47 ?_
        refine g_iload_n C rfl 1 rfl dX3_readFact_48 ?_
        refine g_if_ne C (iw (il 0) (by decide) (by decide)) 71 (by decide) dX3_readFact_49 (fun q115 => ?_) (fun q116 => ?_)
        · exact (no_ne (il 0) (il 0) q115 (by decide)).elim
        · refine g_iload_n C rfl 0 rfl dX3_readFact_52 ?_
          refine g_if_ne C (iw (il 0) (by decide) (by decide)) 71 (by decide) dX3_readFact_53 (fun q117 => ?_) (fun q118 => ?_)
          · exact (no_ne (il 0) (il 0) q117 (by decide)).elim
          · refine g_aload_n C rfl 2 rfl dX3_readFact_56 ?_
            refine g_bipush C (by decide) dX3_readFact_57 ?_
            refine g_callI (st := []) (gc_V C lk_LandSurvey_Reader_95 (k_X3_isNext l D cy w z0 O ta0 (iw (il 40) (by decide) (by decide))) ta0 rfl rfl rfl ⟨by decide, by decide⟩ (Nat.le_of_ble_eq_true rfl) dX3_readFact_59 ⟨(by decide), (by decide)⟩) (fun r119 h120 f122 K121 => ?_)
            obtain ⟨O123, F124, f125⟩ := K121
            refine g_if_ne C (iw f125 (by decide) (by decide)) 71 (by decide) dX3_readFact_62 (fun q126 => ?_) (fun q127 => ?_)
            · have f128 : (1 : Int) ≤ r119 ∧ r119 ≤ (1 : Int) := r_nl f125 q126
              refine g_iload_n C rfl 3 rfl dX3_readFact_71 ?_
              refine g_iconst C dX3_readFact_72 ?_
              refine g_icmp_lt C (iw fa1 (by decide) (by decide)) (iw (il 4) (by decide) (by decide)) 82 (by decide) dX3_readFact_73 (fun q129 => ?_) (fun q130 => ?_)
              · refine g_iload_n C rfl 1 rfl dX3_readFact_82 ?_
                refine g_if_eq C (iw (il 0) (by decide) (by decide)) 122 (by decide) dX3_readFact_83 (fun q131 => ?_) (fun q132 => ?_)
                · refine g_aload_n C rfl 2 rfl dX3_readFact_122 ?_
                  have e133 : Tg h120 a0 = 4 := (fxT F124 ta0)
                  have e134 : Rv h120 a0 13 = v1 := ((fxR F124 ta0 rfl).trans e2)
                  have e135 : Iv h120 a0 4 = v4 := ((fxI F124 ta0 rfl).trans e5)
                  have e136 : Jv h120 a0 5 = v7 := ((fxJ F124 ta0 rfl).trans e8)
                  have e137 : Rv h120 a0 6 = v10 := ((fxR F124 ta0 rfl).trans e11)
                  have e138 : Tg h120 v1 = 2006 := (fxT F124 t3)
                  have p139 := (DOk_fx O F124 ta0 (by rw [e2]; exact t3) rfl P_RInv.2.1)
                  refine g_callV (st := []) (gc_V C lk_LandSurvey_Reader_46 (k_X3_advance l D cy w z0 O123 e133 (by unfold RInv; rw [e134, e135, e136, e137]; exact ⟨e138, p139, p12, p13⟩)) e133 rfl rfl rfl ⟨by decide, by decide⟩ (Nat.le_of_ble_eq_true rfl) dX3_readFact_123 ⟨(by decide), (by decide)⟩) (fun h141 K142 => ?_)
                  obtain ⟨O144, F145, p146⟩ := K142
                  have e147 : Rv h141 a0 13 = v1 := ((fxR F145 e133 rfl).trans e134)
                  obtain ⟨v148, e149⟩ : ∃ z, Iv h141 a0 4 = z := ⟨_, rfl⟩
                  have e150 : Tg h141 a0 = 4 := (fxT F145 e133)
                  have f151 := ok_I O144 e150 rI_4_4 e149
                  obtain ⟨v152, e153⟩ : ∃ z, Jv h141 a0 5 = z := ⟨_, rfl⟩
                  have f154 := inL_J O144 e153
                  obtain ⟨v155, e156⟩ : ∃ z, Rv h141 a0 6 = z := ⟨_, rfl⟩
                  have p157 := p146.2.2.1
                  rw [e149, e153] at p157
                  have p158 := p146.2.2.2
                  rw [e156] at p158
                  refine g_iload_n C rfl 0 rfl dX3_readFact_126 ?_
                  refine g_if_eq C (iw (il 0) (by decide) (by decide)) 155 (by decide) dX3_readFact_127 (fun q159 => ?_) (fun q160 => ?_)
                  · refine g_aload_n C rfl 2 rfl dX3_readFact_155 ?_
                    refine g_iload_n C rfl 3 rfl dX3_readFact_156 ?_
                    refine g_iconst C dX3_readFact_157 ?_
                    have f161 : (1 : Int) ≤ (a1 + 1) ∧ (a1 + 1) ≤ (1 : Int) := ia_add fa1 (il 1) (by decide) (by decide)
                    refine g_iadd C dX3_readFact_158 ?_
                    have e162 : Tg h141 v1 = 2006 := (fxT F145 e138)
                    refine g_callI (st := []) (gc_V C lk_LandSurvey_Reader_196 (k_readTests_1 l D cy w z0 O144 e150 f161 (by unfold RInv; rw [e147, e149, e153, e156]; exact ⟨e162, p146.2.1, p157, p158⟩)) e150 rfl rfl rfl ⟨by decide, by decide⟩ (Nat.le_of_ble_eq_true rfl) dX3_readFact_159 ⟨(by decide), (by decide)⟩) (fun r163 h164 f166 K165 => ?_)
                    obtain ⟨O167, F168, f169, p170⟩ := K165
                    have e171 : Rv h164 a0 13 = v1 := ((fxR F168 e150 rfl).trans e147)
                    obtain ⟨v172, e173⟩ : ∃ z, Iv h164 a0 4 = z := ⟨_, rfl⟩
                    have e174 : Tg h164 a0 = 4 := (fxT F168 e150)
                    have f175 := ok_I O167 e174 rI_4_4 e173
                    obtain ⟨v176, e177⟩ : ∃ z, Jv h164 a0 5 = z := ⟨_, rfl⟩
                    have f178 := inL_J O167 e177
                    obtain ⟨v179, e180⟩ : ∃ z, Rv h164 a0 6 = z := ⟨_, rfl⟩
                    have p181 := p170.2.2.1
                    rw [e173, e177] at p181
                    have p182 := p170.2.2.2
                    rw [e180] at p182
                    refine g_if_eq C (iw f169 (by decide) (by decide)) 178 (by decide) dX3_readFact_162 (fun q183 => ?_) (fun q184 => ?_)
                    · have f185 : (0 : Int) ≤ r163 ∧ r163 ≤ (0 : Int) := ii f169 (r_eq (il 0) q183) (by decide) (by decide)
                      refine g_iconst C dX3_readFact_178 ?_
                      have e186 : Tg h164 v1 = 2006 := (fxT F168 e162)
                      exact g_iret C hr (nar_z2 (iw (il 0) (by decide) (by decide))).1 (iw (il 0) (by decide) (by decide)) ⟨O167, ((((Fx.rf (wr := wr_k_readFact_0)).call F124 rfl).call F145 rfl).call F168 rfl), (iw (il 0) (by decide) (by decide)), (by unfold RInv; rw [e171, e173, e177, e180]; exact ⟨e186, p170.2.1, p181, p182⟩)⟩ (by decide) (by decide) dX3_readFact_179
                    · have f187 : (1 : Int) ≤ r163 ∧ r163 ≤ (1 : Int) := r_nl f169 q184
                      refine g_aload_n C rfl 2 rfl dX3_readFact_165 ?_
                      refine g_bipush C (by decide) dX3_readFact_166 ?_
                      have e188 : Tg h164 v1 = 2006 := (fxT F168 e162)
                      refine g_callI (st := []) (gc_V C lk_LandSurvey_Reader_169 (k_X3_takeOnly l D cy w z0 O167 e174 (iw (il 41) (by decide) (by decide)) (by unfold RInv; rw [e171, e173, e177, e180]; exact ⟨e188, p170.2.1, p181, p182⟩)) e174 rfl rfl rfl ⟨by decide, by decide⟩ (Nat.le_of_ble_eq_true rfl) dX3_readFact_168 ⟨(by decide), (by decide)⟩) (fun r189 h190 f192 K191 => ?_)
                      obtain ⟨O193, F194, f195, p196⟩ := K191
                      have e197 : Rv h190 a0 13 = v1 := ((fxR F194 e174 rfl).trans e171)
                      obtain ⟨v198, e199⟩ : ∃ z, Iv h190 a0 4 = z := ⟨_, rfl⟩
                      have e200 : Tg h190 a0 = 4 := (fxT F194 e174)
                      have f201 := ok_I O193 e200 rI_4_4 e199
                      obtain ⟨v202, e203⟩ : ∃ z, Jv h190 a0 5 = z := ⟨_, rfl⟩
                      have f204 := inL_J O193 e203
                      obtain ⟨v205, e206⟩ : ∃ z, Rv h190 a0 6 = z := ⟨_, rfl⟩
                      have p207 := p196.2.2.1
                      rw [e199, e203] at p207
                      have p208 := p196.2.2.2
                      rw [e206] at p208
                      refine g_if_eq C (iw f195 (by decide) (by decide)) 178 (by decide) dX3_readFact_171 (fun q209 => ?_) (fun q210 => ?_)
                      · have f211 : (0 : Int) ≤ r189 ∧ r189 ≤ (0 : Int) := ii f195 (r_eq (il 0) q209) (by decide) (by decide)
                        refine g_iconst C dX3_readFact_178 ?_
                        have e212 : Tg h190 v1 = 2006 := (fxT F194 e188)
                        exact g_iret C hr (nar_z2 (iw (il 0) (by decide) (by decide))).1 (iw (il 0) (by decide) (by decide)) ⟨O193, (((((Fx.rf (wr := wr_k_readFact_0)).call F124 rfl).call F145 rfl).call F168 rfl).call F194 rfl), (iw (il 0) (by decide) (by decide)), (by unfold RInv; rw [e197, e199, e203, e206]; exact ⟨e212, p196.2.1, p207, p208⟩)⟩ (by decide) (by decide) dX3_readFact_179
                      · have f213 : (1 : Int) ≤ r189 ∧ r189 ≤ (1 : Int) := r_nl f195 q210
                        refine g_iconst C dX3_readFact_174 ?_
                        refine g_goto C 179 (by decide) dX3_readFact_175 ?_
                        have e214 : Tg h190 v1 = 2006 := (fxT F194 e188)
                        exact g_iret C hr (nar_z2 (iw (il 1) (by decide) (by decide))).1 (iw (il 1) (by decide) (by decide)) ⟨O193, (((((Fx.rf (wr := wr_k_readFact_0)).call F124 rfl).call F145 rfl).call F168 rfl).call F194 rfl), (iw (il 1) (by decide) (by decide)), (by unfold RInv; rw [e197, e199, e203, e206]; exact ⟨e214, p196.2.1, p207, p208⟩)⟩ (by decide) (by decide) dX3_readFact_179
                  · exact (no_ne (il 0) (il 0) q160 (by decide)).elim
                · exact (no_ne (il 0) (il 0) q132 (by decide)).elim
              · exact (no_le (il 4) fa1 q130 (by decide)).elim
            · have f215 : (0 : Int) ≤ r119 ∧ r119 ≤ (0 : Int) := ii f125 (r_eq (il 0) q127) (by decide) (by decide)
              refine g_aload_n C rfl 2 rfl dX3_readFact_65 ?_
              refine g_iconst C dX3_readFact_66 ?_
              have e216 : Tg h120 a0 = 4 := (fxT F124 ta0)
              refine g_callI (st := []) (gc_V C lk_LandSurvey_Reader_99 (k_X3_wrong l D cy w z0 O123 e216 (iw (il 1) (by decide) (by decide))) e216 rfl rfl rfl ⟨by decide, by decide⟩ (Nat.le_of_ble_eq_true rfl) dX3_readFact_67 ⟨(by decide), (by decide)⟩) (fun r217 h218 f220 K219 => ?_)
              obtain ⟨O221, F222, f223⟩ := K219
              have e224 : Rv h218 a0 13 = v1 := ((fxR F222 e216 rfl).trans ((fxR F124 ta0 rfl).trans e2))
              have e225 : Iv h218 a0 4 = v4 := ((fxI F222 e216 rfl).trans ((fxI F124 ta0 rfl).trans e5))
              have e226 : Jv h218 a0 5 = v7 := ((fxJ F222 e216 rfl).trans ((fxJ F124 ta0 rfl).trans e8))
              have e227 : Rv h218 a0 6 = v10 := ((fxR F222 e216 rfl).trans ((fxR F124 ta0 rfl).trans e11))
              have e228 : Tg h218 v1 = 2006 := (fxT F222 (fxT F124 t3))
              have e229 : Rv h120 a0 13 = v1 := ((fxR F124 ta0 rfl).trans e2)
              have e230 : Tg h120 v1 = 2006 := (fxT F124 t3)
              have p231 := (DOk_fx O123 F222 e216 (by rw [e229]; exact e230) rfl (DOk_fx O F124 ta0 (by rw [e2]; exact t3) rfl P_RInv.2.1))
              exact g_iret C hr (nar_z2 (iw f223 (by decide) (by decide))).1 (iw f223 (by decide) (by decide)) ⟨O221, (((Fx.rf (wr := wr_k_readFact_0)).call F124 rfl).call F222 rfl), (iw f223 (by decide) (by decide)), (by unfold RInv; rw [e224, e225, e226, e227]; exact ⟨e228, p231, p12, p13⟩)⟩ (by decide) (by decide) dX3_readFact_70
      · refine g_iconst C dX3_readFact_42 ?_
        refine g_goto C 47 (by decide) dX3_readFact_43 ?_
        refine g_istore_n C [(3, .inl 1), (2, .inl 0), (0, .inr (.inr a0)), (1, .inl a1)] rfl (by decide) rfl dX3_readFact_47 ?_
        refine g_iload_n C rfl 1 rfl dX3_readFact_48 ?_
        refine g_if_ne C (iw (il 0) (by decide) (by decide)) 71 (by decide) dX3_readFact_49 (fun q232 => ?_) (fun q233 => ?_)
        · exact (no_ne (il 0) (il 0) q232 (by decide)).elim
        · refine g_iload_n C rfl 0 rfl dX3_readFact_52 ?_
          refine g_if_ne C (iw (il 1) (by decide) (by decide)) 71 (by decide) dX3_readFact_53 (fun q234 => ?_) (fun q235 => ?_)
          · refine g_iload_n C rfl 3 rfl dX3_readFact_71 ?_
            refine g_iconst C dX3_readFact_72 ?_
            refine g_icmp_lt C (iw fa1 (by decide) (by decide)) (iw (il 4) (by decide) (by decide)) 82 (by decide) dX3_readFact_73 (fun q236 => ?_) (fun q237 => ?_)
            · refine g_iload_n C rfl 1 rfl dX3_readFact_82 ?_
              refine g_if_eq C (iw (il 0) (by decide) (by decide)) 122 (by decide) dX3_readFact_83 (fun q238 => ?_) (fun q239 => ?_)
              · refine g_aload_n C rfl 2 rfl dX3_readFact_122 ?_
                refine g_callV (st := []) (gc_V C lk_LandSurvey_Reader_46 (k_X3_advance l D cy w z0 O ta0 (by unfold RInv; rw [e2, e5, e8, e11]; exact ⟨t3, P_RInv.2.1, p12, p13⟩)) ta0 rfl rfl rfl ⟨by decide, by decide⟩ (Nat.le_of_ble_eq_true rfl) dX3_readFact_123 ⟨(by decide), (by decide)⟩) (fun h241 K242 => ?_)
                obtain ⟨O244, F245, p246⟩ := K242
                have e247 : Rv h241 a0 13 = v1 := ((fxR F245 ta0 rfl).trans e2)
                obtain ⟨v248, e249⟩ : ∃ z, Iv h241 a0 4 = z := ⟨_, rfl⟩
                have e250 : Tg h241 a0 = 4 := (fxT F245 ta0)
                have f251 := ok_I O244 e250 rI_4_4 e249
                obtain ⟨v252, e253⟩ : ∃ z, Jv h241 a0 5 = z := ⟨_, rfl⟩
                have f254 := inL_J O244 e253
                obtain ⟨v255, e256⟩ : ∃ z, Rv h241 a0 6 = z := ⟨_, rfl⟩
                have p257 := p246.2.2.1
                rw [e249, e253] at p257
                have p258 := p246.2.2.2
                rw [e256] at p258
                refine g_iload_n C rfl 0 rfl dX3_readFact_126 ?_
                refine g_if_eq C (iw (il 1) (by decide) (by decide)) 155 (by decide) dX3_readFact_127 (fun q259 => ?_) (fun q260 => ?_)
                · exact (no_eq (il 1) (il 0) q259 (by decide)).elim
                · refine g_aload_n C rfl 2 rfl dX3_readFact_130 ?_
                  refine g_iload_n C rfl 3 rfl dX3_readFact_131 ?_
                  refine g_iconst C dX3_readFact_132 ?_
                  have f261 : (1 : Int) ≤ (a1 + 1) ∧ (a1 + 1) ≤ (1 : Int) := ia_add fa1 (il 1) (by decide) (by decide)
                  refine g_iadd C dX3_readFact_133 ?_
                  have e262 : Tg h241 v1 = 2006 := (fxT F245 t3)
                  refine g_callI (st := []) (gc_V C lk_LandSurvey_Reader_250 (k_readFact_1 l D cy w z0 O244 e250 f261 (by unfold RInv; rw [e247, e249, e253, e256]; exact ⟨e262, p246.2.1, p257, p258⟩)) e250 rfl rfl rfl ⟨by decide, by decide⟩ (Nat.le_of_ble_eq_true rfl) dX3_readFact_134 ⟨(by decide), (by decide)⟩) (fun r263 h264 f266 K265 => ?_)
                  obtain ⟨O267, F268, f269, p270⟩ := K265
                  have e271 : Rv h264 a0 13 = v1 := ((fxR F268 e250 rfl).trans e247)
                  obtain ⟨v272, e273⟩ : ∃ z, Iv h264 a0 4 = z := ⟨_, rfl⟩
                  have e274 : Tg h264 a0 = 4 := (fxT F268 e250)
                  have f275 := ok_I O267 e274 rI_4_4 e273
                  obtain ⟨v276, e277⟩ : ∃ z, Jv h264 a0 5 = z := ⟨_, rfl⟩
                  have f278 := inL_J O267 e277
                  obtain ⟨v279, e280⟩ : ∃ z, Rv h264 a0 6 = z := ⟨_, rfl⟩
                  have p281 := p270.2.2.1
                  rw [e273, e277] at p281
                  have p282 := p270.2.2.2
                  rw [e280] at p282
                  refine g_if_eq C (iw f269 (by decide) (by decide)) 153 (by decide) dX3_readFact_137 (fun q283 => ?_) (fun q284 => ?_)
                  · have f285 : (0 : Int) ≤ r263 ∧ r263 ≤ (0 : Int) := ii f269 (r_eq (il 0) q283) (by decide) (by decide)
                    refine g_iconst C dX3_readFact_153 ?_
                    have e286 : Tg h264 v1 = 2006 := (fxT F268 e262)
                    exact g_iret C hr (nar_z2 (iw (il 0) (by decide) (by decide))).1 (iw (il 0) (by decide) (by decide)) ⟨O267, (((Fx.rf (wr := wr_k_readFact_0)).call F245 rfl).call F268 rfl), (iw (il 0) (by decide) (by decide)), (by unfold RInv; rw [e271, e273, e277, e280]; exact ⟨e286, p270.2.1, p281, p282⟩)⟩ (by decide) (by decide) dX3_readFact_154
                  · have f287 : (1 : Int) ≤ r263 ∧ r263 ≤ (1 : Int) := r_nl f269 q284
                    refine g_aload_n C rfl 2 rfl dX3_readFact_140 ?_
                    refine g_bipush C (by decide) dX3_readFact_141 ?_
                    have e288 : Tg h264 v1 = 2006 := (fxT F268 e262)
                    refine g_callI (st := []) (gc_V C lk_LandSurvey_Reader_244 (k_X3_emit l D cy w z0 O267 e274 (iw (il (-27)) (by decide) (by decide)) (by unfold RInv; rw [e271, e273, e277, e280]; exact ⟨e288, p270.2.1, p281, p282⟩) (by omega)) e274 rfl rfl rfl ⟨by decide, by decide⟩ (Nat.le_of_ble_eq_true rfl) dX3_readFact_143 ⟨(by decide), (by decide)⟩) (fun r289 h290 f292 K291 => ?_)
                    obtain ⟨O293, F294, f295, p296⟩ := K291
                    have e297 : Rv h290 a0 13 = v1 := ((fxR F294 e274 rfl).trans e271)
                    have e298 : Iv h290 a0 4 = v272 := ((fxI F294 e274 rfl).trans e273)
                    have e299 : Jv h290 a0 5 = v276 := ((fxJ F294 e274 rfl).trans e277)
                    have e300 : Rv h290 a0 6 = v279 := ((fxR F294 e274 rfl).trans e280)
                    have p301 := p296.2.2.1
                    rw [e298, e299] at p301
                    have p302 := p296.2.2.2
                    rw [e300] at p302
                    refine g_if_eq C (iw f295 (by decide) (by decide)) 153 (by decide) dX3_readFact_146 (fun q303 => ?_) (fun q304 => ?_)
                    · exact (no_eq f295 (il 0) q303 (by decide)).elim
                    · refine g_iconst C dX3_readFact_149 ?_
                      refine g_goto C 154 (by decide) dX3_readFact_150 ?_
                      have e305 : Tg h290 v1 = 2006 := (fxT F294 e288)
                      exact g_iret C hr (nar_z2 (iw (il 1) (by decide) (by decide))).1 (iw (il 1) (by decide) (by decide)) ⟨O293, ((((Fx.rf (wr := wr_k_readFact_0)).call F245 rfl).call F268 rfl).call F294 rfl), (iw (il 1) (by decide) (by decide)), (by unfold RInv; rw [e297, e298, e299, e300]; exact ⟨e305, p296.2.1, p301, p302⟩)⟩ (by decide) (by decide) dX3_readFact_154
              · exact (no_ne (il 0) (il 0) q239 (by decide)).elim
            · exact (no_le (il 4) fa1 q237 (by decide)).elim
          · exact (no_eq (il 1) (il 0) q235 (by decide)).elim
    · refine g_aload_n C rfl 0 rfl dX3_readFact_15 ?_
      refine gf_R C fk_LandSurvey_Reader_69 rfl ta0 e11 dX3_readFact_16 ?_
      obtain ⟨i306, q307, e308⟩ := WOk.get p13 q112
      refine g_getf2 (x := .inl (wFa.getD i306 0)) C e308 (C.2.2.2.2.2.2.1.1 i306 q307).2.2 kw_2284 dX3_readFact_19 ?_
      have f309 : (-1 : Int) ≤ (wFa.getD i306 0) ∧ (wFa.getD i306 0) ≤ (11 : Int) := wFa_rng _
      refine g_iconst C dX3_readFact_22 ?_
      refine g_icmp_eq C (iw f309 (by decide) (by decide)) (iw (il (-1)) (by decide) (by decide)) 30 (by decide) dX3_readFact_23 (fun q310 => ?_) (fun q311 => ?_)
      · have f312 : (-1 : Int) ≤ (wFa.getD i306 0) ∧ (wFa.getD i306 0) ≤ (-1 : Int) := ii f309 (r_eq (il (-1)) q310) (by decide) (by decide)
        refine g_iconst C dX3_readFact_30 ?_
        refine g_istore_n C [(2, .inl 0), (0, .inr (.inr a0)), (1, .inl a1)] rfl (by decide) rfl dX3_readFact_31 ?_
        refine g_aload_n C rfl 1 rfl dX3_readFact_32 ?_
        refine gf_R C fk_LandSurvey_Reader_69 rfl ta0 e11 dX3_readFact_33 ?_
        refine g_gets (x := .inr (.inr (w 17 + 1))) C (C.2.2.2.2.2.2.1.1 17 (by decide)).1 kw_839 dX3_readFact_36 ?_
        refine g_acmp_ne C 46 (by decide) dX3_readFact_39 (fun q313 => ?_) (fun q314 => ?_)
        · refine g_iconst C dX3_readFact_46 ?_
          refine g_istore_n C [(3, .inl 0), (2, .inl 0), (0, .inr (.inr a0)), (1, .inl a1)] rfl (by decide) rfl dX3_readFact_47 ?_
          refine g_iload_n C rfl 1 rfl dX3_readFact_48 ?_
          refine g_if_ne C (iw (il 0) (by decide) (by decide)) 71 (by decide) dX3_readFact_49 (fun q315 => ?_) (fun q316 => ?_)
          · exact (no_ne (il 0) (il 0) q315 (by decide)).elim
          · refine g_iload_n C rfl 0 rfl dX3_readFact_52 ?_
            refine g_if_ne C (iw (il 0) (by decide) (by decide)) 71 (by decide) dX3_readFact_53 (fun q317 => ?_) (fun q318 => ?_)
            · exact (no_ne (il 0) (il 0) q317 (by decide)).elim
            · refine g_aload_n C rfl 2 rfl dX3_readFact_56 ?_
              refine g_bipush C (by decide) dX3_readFact_57 ?_
              refine g_callI (st := []) (gc_V C lk_LandSurvey_Reader_95 (k_X3_isNext l D cy w z0 O ta0 (iw (il 40) (by decide) (by decide))) ta0 rfl rfl rfl ⟨by decide, by decide⟩ (Nat.le_of_ble_eq_true rfl) dX3_readFact_59 ⟨(by decide), (by decide)⟩) (fun r319 h320 f322 K321 => ?_)
              obtain ⟨O323, F324, f325⟩ := K321
              refine g_if_ne C (iw f325 (by decide) (by decide)) 71 (by decide) dX3_readFact_62 (fun q326 => ?_) (fun q327 => ?_)
              · have f328 : (1 : Int) ≤ r319 ∧ r319 ≤ (1 : Int) := r_nl f325 q326
                refine g_iload_n C rfl 3 rfl dX3_readFact_71 ?_
                refine g_iconst C dX3_readFact_72 ?_
                refine g_icmp_lt C (iw fa1 (by decide) (by decide)) (iw (il 4) (by decide) (by decide)) 82 (by decide) dX3_readFact_73 (fun q329 => ?_) (fun q330 => ?_)
                · refine g_iload_n C rfl 1 rfl dX3_readFact_82 ?_
                  refine g_if_eq C (iw (il 0) (by decide) (by decide)) 122 (by decide) dX3_readFact_83 (fun q331 => ?_) (fun q332 => ?_)
                  · refine g_aload_n C rfl 2 rfl dX3_readFact_122 ?_
                    have e333 : Tg h320 a0 = 4 := (fxT F324 ta0)
                    have e334 : Rv h320 a0 13 = v1 := ((fxR F324 ta0 rfl).trans e2)
                    have e335 : Iv h320 a0 4 = v4 := ((fxI F324 ta0 rfl).trans e5)
                    have e336 : Jv h320 a0 5 = v7 := ((fxJ F324 ta0 rfl).trans e8)
                    have e337 : Rv h320 a0 6 = v10 := ((fxR F324 ta0 rfl).trans e11)
                    have e338 : Tg h320 v1 = 2006 := (fxT F324 t3)
                    have p339 := (DOk_fx O F324 ta0 (by rw [e2]; exact t3) rfl P_RInv.2.1)
                    refine g_callV (st := []) (gc_V C lk_LandSurvey_Reader_46 (k_X3_advance l D cy w z0 O323 e333 (by unfold RInv; rw [e334, e335, e336, e337]; exact ⟨e338, p339, p12, p13⟩)) e333 rfl rfl rfl ⟨by decide, by decide⟩ (Nat.le_of_ble_eq_true rfl) dX3_readFact_123 ⟨(by decide), (by decide)⟩) (fun h341 K342 => ?_)
                    obtain ⟨O344, F345, p346⟩ := K342
                    have e347 : Rv h341 a0 13 = v1 := ((fxR F345 e333 rfl).trans e334)
                    obtain ⟨v348, e349⟩ : ∃ z, Iv h341 a0 4 = z := ⟨_, rfl⟩
                    have e350 : Tg h341 a0 = 4 := (fxT F345 e333)
                    have f351 := ok_I O344 e350 rI_4_4 e349
                    obtain ⟨v352, e353⟩ : ∃ z, Jv h341 a0 5 = z := ⟨_, rfl⟩
                    have f354 := inL_J O344 e353
                    obtain ⟨v355, e356⟩ : ∃ z, Rv h341 a0 6 = z := ⟨_, rfl⟩
                    have p357 := p346.2.2.1
                    rw [e349, e353] at p357
                    have p358 := p346.2.2.2
                    rw [e356] at p358
                    refine g_iload_n C rfl 0 rfl dX3_readFact_126 ?_
                    refine g_if_eq C (iw (il 0) (by decide) (by decide)) 155 (by decide) dX3_readFact_127 (fun q359 => ?_) (fun q360 => ?_)
                    · refine g_aload_n C rfl 2 rfl dX3_readFact_155 ?_
                      refine g_iload_n C rfl 3 rfl dX3_readFact_156 ?_
                      refine g_iconst C dX3_readFact_157 ?_
                      have f361 : (1 : Int) ≤ (a1 + 1) ∧ (a1 + 1) ≤ (1 : Int) := ia_add fa1 (il 1) (by decide) (by decide)
                      refine g_iadd C dX3_readFact_158 ?_
                      have e362 : Tg h341 v1 = 2006 := (fxT F345 e338)
                      refine g_callI (st := []) (gc_V C lk_LandSurvey_Reader_196 (k_readTests_1 l D cy w z0 O344 e350 f361 (by unfold RInv; rw [e347, e349, e353, e356]; exact ⟨e362, p346.2.1, p357, p358⟩)) e350 rfl rfl rfl ⟨by decide, by decide⟩ (Nat.le_of_ble_eq_true rfl) dX3_readFact_159 ⟨(by decide), (by decide)⟩) (fun r363 h364 f366 K365 => ?_)
                      obtain ⟨O367, F368, f369, p370⟩ := K365
                      have e371 : Rv h364 a0 13 = v1 := ((fxR F368 e350 rfl).trans e347)
                      obtain ⟨v372, e373⟩ : ∃ z, Iv h364 a0 4 = z := ⟨_, rfl⟩
                      have e374 : Tg h364 a0 = 4 := (fxT F368 e350)
                      have f375 := ok_I O367 e374 rI_4_4 e373
                      obtain ⟨v376, e377⟩ : ∃ z, Jv h364 a0 5 = z := ⟨_, rfl⟩
                      have f378 := inL_J O367 e377
                      obtain ⟨v379, e380⟩ : ∃ z, Rv h364 a0 6 = z := ⟨_, rfl⟩
                      have p381 := p370.2.2.1
                      rw [e373, e377] at p381
                      have p382 := p370.2.2.2
                      rw [e380] at p382
                      refine g_if_eq C (iw f369 (by decide) (by decide)) 178 (by decide) dX3_readFact_162 (fun q383 => ?_) (fun q384 => ?_)
                      · have f385 : (0 : Int) ≤ r363 ∧ r363 ≤ (0 : Int) := ii f369 (r_eq (il 0) q383) (by decide) (by decide)
                        refine g_iconst C dX3_readFact_178 ?_
                        have e386 : Tg h364 v1 = 2006 := (fxT F368 e362)
                        exact g_iret C hr (nar_z2 (iw (il 0) (by decide) (by decide))).1 (iw (il 0) (by decide) (by decide)) ⟨O367, ((((Fx.rf (wr := wr_k_readFact_0)).call F324 rfl).call F345 rfl).call F368 rfl), (iw (il 0) (by decide) (by decide)), (by unfold RInv; rw [e371, e373, e377, e380]; exact ⟨e386, p370.2.1, p381, p382⟩)⟩ (by decide) (by decide) dX3_readFact_179
                      · have f387 : (1 : Int) ≤ r363 ∧ r363 ≤ (1 : Int) := r_nl f369 q384
                        refine g_aload_n C rfl 2 rfl dX3_readFact_165 ?_
                        refine g_bipush C (by decide) dX3_readFact_166 ?_
                        have e388 : Tg h364 v1 = 2006 := (fxT F368 e362)
                        refine g_callI (st := []) (gc_V C lk_LandSurvey_Reader_169 (k_X3_takeOnly l D cy w z0 O367 e374 (iw (il 41) (by decide) (by decide)) (by unfold RInv; rw [e371, e373, e377, e380]; exact ⟨e388, p370.2.1, p381, p382⟩)) e374 rfl rfl rfl ⟨by decide, by decide⟩ (Nat.le_of_ble_eq_true rfl) dX3_readFact_168 ⟨(by decide), (by decide)⟩) (fun r389 h390 f392 K391 => ?_)
                        obtain ⟨O393, F394, f395, p396⟩ := K391
                        have e397 : Rv h390 a0 13 = v1 := ((fxR F394 e374 rfl).trans e371)
                        obtain ⟨v398, e399⟩ : ∃ z, Iv h390 a0 4 = z := ⟨_, rfl⟩
                        have e400 : Tg h390 a0 = 4 := (fxT F394 e374)
                        have f401 := ok_I O393 e400 rI_4_4 e399
                        obtain ⟨v402, e403⟩ : ∃ z, Jv h390 a0 5 = z := ⟨_, rfl⟩
                        have f404 := inL_J O393 e403
                        obtain ⟨v405, e406⟩ : ∃ z, Rv h390 a0 6 = z := ⟨_, rfl⟩
                        have p407 := p396.2.2.1
                        rw [e399, e403] at p407
                        have p408 := p396.2.2.2
                        rw [e406] at p408
                        refine g_if_eq C (iw f395 (by decide) (by decide)) 178 (by decide) dX3_readFact_171 (fun q409 => ?_) (fun q410 => ?_)
                        · have f411 : (0 : Int) ≤ r389 ∧ r389 ≤ (0 : Int) := ii f395 (r_eq (il 0) q409) (by decide) (by decide)
                          refine g_iconst C dX3_readFact_178 ?_
                          have e412 : Tg h390 v1 = 2006 := (fxT F394 e388)
                          exact g_iret C hr (nar_z2 (iw (il 0) (by decide) (by decide))).1 (iw (il 0) (by decide) (by decide)) ⟨O393, (((((Fx.rf (wr := wr_k_readFact_0)).call F324 rfl).call F345 rfl).call F368 rfl).call F394 rfl), (iw (il 0) (by decide) (by decide)), (by unfold RInv; rw [e397, e399, e403, e406]; exact ⟨e412, p396.2.1, p407, p408⟩)⟩ (by decide) (by decide) dX3_readFact_179
                        · have f413 : (1 : Int) ≤ r389 ∧ r389 ≤ (1 : Int) := r_nl f395 q410
                          refine g_iconst C dX3_readFact_174 ?_
                          refine g_goto C 179 (by decide) dX3_readFact_175 ?_
                          have e414 : Tg h390 v1 = 2006 := (fxT F394 e388)
                          exact g_iret C hr (nar_z2 (iw (il 1) (by decide) (by decide))).1 (iw (il 1) (by decide) (by decide)) ⟨O393, (((((Fx.rf (wr := wr_k_readFact_0)).call F324 rfl).call F345 rfl).call F368 rfl).call F394 rfl), (iw (il 1) (by decide) (by decide)), (by unfold RInv; rw [e397, e399, e403, e406]; exact ⟨e414, p396.2.1, p407, p408⟩)⟩ (by decide) (by decide) dX3_readFact_179
                    · exact (no_ne (il 0) (il 0) q360 (by decide)).elim
                  · exact (no_ne (il 0) (il 0) q332 (by decide)).elim
                · exact (no_le (il 4) fa1 q330 (by decide)).elim
              · have f415 : (0 : Int) ≤ r319 ∧ r319 ≤ (0 : Int) := ii f325 (r_eq (il 0) q327) (by decide) (by decide)
                refine g_aload_n C rfl 2 rfl dX3_readFact_65 ?_
                refine g_iconst C dX3_readFact_66 ?_
                have e416 : Tg h320 a0 = 4 := (fxT F324 ta0)
                refine g_callI (st := []) (gc_V C lk_LandSurvey_Reader_99 (k_X3_wrong l D cy w z0 O323 e416 (iw (il 1) (by decide) (by decide))) e416 rfl rfl rfl ⟨by decide, by decide⟩ (Nat.le_of_ble_eq_true rfl) dX3_readFact_67 ⟨(by decide), (by decide)⟩) (fun r417 h418 f420 K419 => ?_)
                obtain ⟨O421, F422, f423⟩ := K419
                have e424 : Rv h418 a0 13 = v1 := ((fxR F422 e416 rfl).trans ((fxR F324 ta0 rfl).trans e2))
                have e425 : Iv h418 a0 4 = v4 := ((fxI F422 e416 rfl).trans ((fxI F324 ta0 rfl).trans e5))
                have e426 : Jv h418 a0 5 = v7 := ((fxJ F422 e416 rfl).trans ((fxJ F324 ta0 rfl).trans e8))
                have e427 : Rv h418 a0 6 = v10 := ((fxR F422 e416 rfl).trans ((fxR F324 ta0 rfl).trans e11))
                have e428 : Tg h418 v1 = 2006 := (fxT F422 (fxT F324 t3))
                have e429 : Rv h320 a0 13 = v1 := ((fxR F324 ta0 rfl).trans e2)
                have e430 : Tg h320 v1 = 2006 := (fxT F324 t3)
                have p431 := (DOk_fx O323 F422 e416 (by rw [e429]; exact e430) rfl (DOk_fx O F324 ta0 (by rw [e2]; exact t3) rfl P_RInv.2.1))
                exact g_iret C hr (nar_z2 (iw f423 (by decide) (by decide))).1 (iw f423 (by decide) (by decide)) ⟨O421, (((Fx.rf (wr := wr_k_readFact_0)).call F324 rfl).call F422 rfl), (iw f423 (by decide) (by decide)), (by unfold RInv; rw [e424, e425, e426, e427]; exact ⟨e428, p431, p12, p13⟩)⟩ (by decide) (by decide) dX3_readFact_70
        · refine g_iconst C dX3_readFact_42 ?_
          refine g_goto C 47 (by decide) dX3_readFact_43 ?_
          refine g_istore_n C [(3, .inl 1), (2, .inl 0), (0, .inr (.inr a0)), (1, .inl a1)] rfl (by decide) rfl dX3_readFact_47 ?_
          refine g_iload_n C rfl 1 rfl dX3_readFact_48 ?_
          refine g_if_ne C (iw (il 0) (by decide) (by decide)) 71 (by decide) dX3_readFact_49 (fun q432 => ?_) (fun q433 => ?_)
          · exact (no_ne (il 0) (il 0) q432 (by decide)).elim
          · refine g_iload_n C rfl 0 rfl dX3_readFact_52 ?_
            refine g_if_ne C (iw (il 1) (by decide) (by decide)) 71 (by decide) dX3_readFact_53 (fun q434 => ?_) (fun q435 => ?_)
            · refine g_iload_n C rfl 3 rfl dX3_readFact_71 ?_
              refine g_iconst C dX3_readFact_72 ?_
              refine g_icmp_lt C (iw fa1 (by decide) (by decide)) (iw (il 4) (by decide) (by decide)) 82 (by decide) dX3_readFact_73 (fun q436 => ?_) (fun q437 => ?_)
              · refine g_iload_n C rfl 1 rfl dX3_readFact_82 ?_
                refine g_if_eq C (iw (il 0) (by decide) (by decide)) 122 (by decide) dX3_readFact_83 (fun q438 => ?_) (fun q439 => ?_)
                · refine g_aload_n C rfl 2 rfl dX3_readFact_122 ?_
                  refine g_callV (st := []) (gc_V C lk_LandSurvey_Reader_46 (k_X3_advance l D cy w z0 O ta0 (by unfold RInv; rw [e2, e5, e8, e11]; exact ⟨t3, P_RInv.2.1, p12, p13⟩)) ta0 rfl rfl rfl ⟨by decide, by decide⟩ (Nat.le_of_ble_eq_true rfl) dX3_readFact_123 ⟨(by decide), (by decide)⟩) (fun h441 K442 => ?_)
                  obtain ⟨O444, F445, p446⟩ := K442
                  have e447 : Rv h441 a0 13 = v1 := ((fxR F445 ta0 rfl).trans e2)
                  obtain ⟨v448, e449⟩ : ∃ z, Iv h441 a0 4 = z := ⟨_, rfl⟩
                  have e450 : Tg h441 a0 = 4 := (fxT F445 ta0)
                  have f451 := ok_I O444 e450 rI_4_4 e449
                  obtain ⟨v452, e453⟩ : ∃ z, Jv h441 a0 5 = z := ⟨_, rfl⟩
                  have f454 := inL_J O444 e453
                  obtain ⟨v455, e456⟩ : ∃ z, Rv h441 a0 6 = z := ⟨_, rfl⟩
                  have p457 := p446.2.2.1
                  rw [e449, e453] at p457
                  have p458 := p446.2.2.2
                  rw [e456] at p458
                  refine g_iload_n C rfl 0 rfl dX3_readFact_126 ?_
                  refine g_if_eq C (iw (il 1) (by decide) (by decide)) 155 (by decide) dX3_readFact_127 (fun q459 => ?_) (fun q460 => ?_)
                  · exact (no_eq (il 1) (il 0) q459 (by decide)).elim
                  · refine g_aload_n C rfl 2 rfl dX3_readFact_130 ?_
                    refine g_iload_n C rfl 3 rfl dX3_readFact_131 ?_
                    refine g_iconst C dX3_readFact_132 ?_
                    have f461 : (1 : Int) ≤ (a1 + 1) ∧ (a1 + 1) ≤ (1 : Int) := ia_add fa1 (il 1) (by decide) (by decide)
                    refine g_iadd C dX3_readFact_133 ?_
                    have e462 : Tg h441 v1 = 2006 := (fxT F445 t3)
                    refine g_callI (st := []) (gc_V C lk_LandSurvey_Reader_250 (k_readFact_1 l D cy w z0 O444 e450 f461 (by unfold RInv; rw [e447, e449, e453, e456]; exact ⟨e462, p446.2.1, p457, p458⟩)) e450 rfl rfl rfl ⟨by decide, by decide⟩ (Nat.le_of_ble_eq_true rfl) dX3_readFact_134 ⟨(by decide), (by decide)⟩) (fun r463 h464 f466 K465 => ?_)
                    obtain ⟨O467, F468, f469, p470⟩ := K465
                    have e471 : Rv h464 a0 13 = v1 := ((fxR F468 e450 rfl).trans e447)
                    obtain ⟨v472, e473⟩ : ∃ z, Iv h464 a0 4 = z := ⟨_, rfl⟩
                    have e474 : Tg h464 a0 = 4 := (fxT F468 e450)
                    have f475 := ok_I O467 e474 rI_4_4 e473
                    obtain ⟨v476, e477⟩ : ∃ z, Jv h464 a0 5 = z := ⟨_, rfl⟩
                    have f478 := inL_J O467 e477
                    obtain ⟨v479, e480⟩ : ∃ z, Rv h464 a0 6 = z := ⟨_, rfl⟩
                    have p481 := p470.2.2.1
                    rw [e473, e477] at p481
                    have p482 := p470.2.2.2
                    rw [e480] at p482
                    refine g_if_eq C (iw f469 (by decide) (by decide)) 153 (by decide) dX3_readFact_137 (fun q483 => ?_) (fun q484 => ?_)
                    · have f485 : (0 : Int) ≤ r463 ∧ r463 ≤ (0 : Int) := ii f469 (r_eq (il 0) q483) (by decide) (by decide)
                      refine g_iconst C dX3_readFact_153 ?_
                      have e486 : Tg h464 v1 = 2006 := (fxT F468 e462)
                      exact g_iret C hr (nar_z2 (iw (il 0) (by decide) (by decide))).1 (iw (il 0) (by decide) (by decide)) ⟨O467, (((Fx.rf (wr := wr_k_readFact_0)).call F445 rfl).call F468 rfl), (iw (il 0) (by decide) (by decide)), (by unfold RInv; rw [e471, e473, e477, e480]; exact ⟨e486, p470.2.1, p481, p482⟩)⟩ (by decide) (by decide) dX3_readFact_154
                    · have f487 : (1 : Int) ≤ r463 ∧ r463 ≤ (1 : Int) := r_nl f469 q484
                      refine g_aload_n C rfl 2 rfl dX3_readFact_140 ?_
                      refine g_bipush C (by decide) dX3_readFact_141 ?_
                      have e488 : Tg h464 v1 = 2006 := (fxT F468 e462)
                      refine g_callI (st := []) (gc_V C lk_LandSurvey_Reader_244 (k_X3_emit l D cy w z0 O467 e474 (iw (il (-27)) (by decide) (by decide)) (by unfold RInv; rw [e471, e473, e477, e480]; exact ⟨e488, p470.2.1, p481, p482⟩) (by omega)) e474 rfl rfl rfl ⟨by decide, by decide⟩ (Nat.le_of_ble_eq_true rfl) dX3_readFact_143 ⟨(by decide), (by decide)⟩) (fun r489 h490 f492 K491 => ?_)
                      obtain ⟨O493, F494, f495, p496⟩ := K491
                      have e497 : Rv h490 a0 13 = v1 := ((fxR F494 e474 rfl).trans e471)
                      have e498 : Iv h490 a0 4 = v472 := ((fxI F494 e474 rfl).trans e473)
                      have e499 : Jv h490 a0 5 = v476 := ((fxJ F494 e474 rfl).trans e477)
                      have e500 : Rv h490 a0 6 = v479 := ((fxR F494 e474 rfl).trans e480)
                      have p501 := p496.2.2.1
                      rw [e498, e499] at p501
                      have p502 := p496.2.2.2
                      rw [e500] at p502
                      refine g_if_eq C (iw f495 (by decide) (by decide)) 153 (by decide) dX3_readFact_146 (fun q503 => ?_) (fun q504 => ?_)
                      · exact (no_eq f495 (il 0) q503 (by decide)).elim
                      · refine g_iconst C dX3_readFact_149 ?_
                        refine g_goto C 154 (by decide) dX3_readFact_150 ?_
                        have e505 : Tg h490 v1 = 2006 := (fxT F494 e488)
                        exact g_iret C hr (nar_z2 (iw (il 1) (by decide) (by decide))).1 (iw (il 1) (by decide) (by decide)) ⟨O493, ((((Fx.rf (wr := wr_k_readFact_0)).call F445 rfl).call F468 rfl).call F494 rfl), (iw (il 1) (by decide) (by decide)), (by unfold RInv; rw [e497, e498, e499, e500]; exact ⟨e505, p496.2.1, p501, p502⟩)⟩ (by decide) (by decide) dX3_readFact_154
                · exact (no_ne (il 0) (il 0) q439 (by decide)).elim
              · exact (no_le (il 4) fa1 q437 (by decide)).elim
            · exact (no_eq (il 1) (il 0) q435 (by decide)).elim
      · have f506 : (0 : Int) ≤ (wFa.getD i306 0) ∧ (wFa.getD i306 0) ≤ (11 : Int) := r_nl f309 q311
        refine g_iconst C dX3_readFact_26 ?_
        refine g_goto C 31 (by decide) dX3_readFact_27 ?_
        refine g_istore_n C [(2, .inl 1), (0, .inr (.inr a0)), (1, .inl a1)] rfl (by decide) rfl dX3_readFact_31 ?_
        refine g_aload_n C rfl 1 rfl dX3_readFact_32 ?_
        refine gf_R C fk_LandSurvey_Reader_69 rfl ta0 e11 dX3_readFact_33 ?_
        refine g_gets (x := .inr (.inr (w 17 + 1))) C (C.2.2.2.2.2.2.1.1 17 (by decide)).1 kw_839 dX3_readFact_36 ?_
        refine g_acmp_ne C 46 (by decide) dX3_readFact_39 (fun q507 => ?_) (fun q508 => ?_)
        · refine g_iconst C dX3_readFact_46 ?_
          refine g_istore_n C [(3, .inl 0), (2, .inl 1), (0, .inr (.inr a0)), (1, .inl a1)] rfl (by decide) rfl dX3_readFact_47 ?_
          refine g_iload_n C rfl 1 rfl dX3_readFact_48 ?_
          refine g_if_ne C (iw (il 1) (by decide) (by decide)) 71 (by decide) dX3_readFact_49 (fun q509 => ?_) (fun q510 => ?_)
          · refine g_iload_n C rfl 3 rfl dX3_readFact_71 ?_
            refine g_iconst C dX3_readFact_72 ?_
            refine g_icmp_lt C (iw fa1 (by decide) (by decide)) (iw (il 4) (by decide) (by decide)) 82 (by decide) dX3_readFact_73 (fun q511 => ?_) (fun q512 => ?_)
            · refine g_iload_n C rfl 1 rfl dX3_readFact_82 ?_
              refine g_if_eq C (iw (il 1) (by decide) (by decide)) 122 (by decide) dX3_readFact_83 (fun q513 => ?_) (fun q514 => ?_)
              · exact (no_eq (il 1) (il 0) q513 (by decide)).elim
              · refine g_aload_n C rfl 2 rfl dX3_readFact_86 ?_
                refine g_aload_n C rfl 2 rfl dX3_readFact_87 ?_
                refine gf_I C fk_LandSurvey_Reader_49 rfl ta0 e5 dX3_readFact_88 ?_
                refine g_iconst C dX3_readFact_91 ?_
                refine g_icmp_ne C (iw f6 (by decide) (by decide)) (iw (il 2) (by decide) (by decide)) 103 (by decide) dX3_readFact_92 (fun q515 => ?_) (fun q516 => ?_)
                · refine g_iconst C dX3_readFact_103 ?_
                  refine g_aload_n C rfl 2 rfl dX3_readFact_104 ?_
                  refine gf_R C fk_LandSurvey_Reader_69 rfl ta0 e11 dX3_readFact_105 ?_
                  refine g_getf2 (x := .inl (wFa.getD i306 0)) C e308 (C.2.2.2.2.2.2.1.1 i306 q307).2.2 kw_2284 dX3_readFact_108 ?_
                  have f517 : (-12 : Int) ≤ ((-1) - (wFa.getD i306 0)) ∧ ((-1) - (wFa.getD i306 0)) ≤ (-1 : Int) := ia_sub (il (-1)) f506 (by decide) (by decide)
                  refine g_isub C dX3_readFact_111 ?_
                  refine g_callI (st := []) (gc_V C lk_LandSurvey_Reader_244 (k_X3_emit l D cy w z0 O ta0 (iw f517 (by decide) (by decide)) (by unfold RInv; rw [e2, e5, e8, e11]; exact ⟨t3, P_RInv.2.1, p12, p13⟩) (by omega)) ta0 rfl rfl rfl ⟨by decide, by decide⟩ (Nat.le_of_ble_eq_true rfl) dX3_readFact_112 ⟨(by decide), (by decide)⟩) (fun r518 h519 f521 K520 => ?_)
                  obtain ⟨O522, F523, f524, p525⟩ := K520
                  have e526 : Rv h519 a0 13 = v1 := ((fxR F523 ta0 rfl).trans e2)
                  have e527 : Iv h519 a0 4 = v4 := ((fxI F523 ta0 rfl).trans e5)
                  have e528 : Jv h519 a0 5 = v7 := ((fxJ F523 ta0 rfl).trans e8)
                  have e529 : Rv h519 a0 6 = v10 := ((fxR F523 ta0 rfl).trans e11)
                  have p530 := p525.2.2.1
                  rw [e527, e528] at p530
                  have p531 := p525.2.2.2
                  rw [e529] at p531
                  refine g_pop C rfl dX3_readFact_115 ?_
                  refine g_aload_n C rfl 2 rfl dX3_readFact_116 ?_
                  have e532 : Tg h519 a0 = 4 := (fxT F523 ta0)
                  have e533 : Tg h519 v1 = 2006 := (fxT F523 t3)
                  refine g_callV (st := []) (gc_V C lk_LandSurvey_Reader_46 (k_X3_advance l D cy w z0 O522 e532 (by unfold RInv; rw [e526, e527, e528, e529]; exact ⟨e533, p525.2.1, p530, p531⟩)) e532 rfl rfl rfl ⟨by decide, by decide⟩ (Nat.le_of_ble_eq_true rfl) dX3_readFact_117 ⟨(by decide), (by decide)⟩) (fun h535 K536 => ?_)
                  obtain ⟨O538, F539, p540⟩ := K536
                  have e541 : Rv h535 a0 13 = v1 := ((fxR F539 e532 rfl).trans e526)
                  obtain ⟨v542, e543⟩ : ∃ z, Iv h535 a0 4 = z := ⟨_, rfl⟩
                  have e544 : Tg h535 a0 = 4 := (fxT F539 e532)
                  have f545 := ok_I O538 e544 rI_4_4 e543
                  obtain ⟨v546, e547⟩ : ∃ z, Jv h535 a0 5 = z := ⟨_, rfl⟩
                  have f548 := inL_J O538 e547
                  obtain ⟨v549, e550⟩ : ∃ z, Rv h535 a0 6 = z := ⟨_, rfl⟩
                  have p551 := p540.2.2.1
                  rw [e543, e547] at p551
                  have p552 := p540.2.2.2
                  rw [e550] at p552
                  refine g_iconst C dX3_readFact_120 ?_
                  have e553 : Tg h535 v1 = 2006 := (fxT F539 e533)
                  exact g_iret C hr (nar_z2 (iw (il 1) (by decide) (by decide))).1 (iw (il 1) (by decide) (by decide)) ⟨O538, (((Fx.rf (wr := wr_k_readFact_0)).call F523 rfl).call F539 rfl), (iw (il 1) (by decide) (by decide)), (by unfold RInv; rw [e541, e543, e547, e550]; exact ⟨e553, p540.2.1, p551, p552⟩)⟩ (by decide) (by decide) dX3_readFact_121
                · have f554 : (2 : Int) ≤ v4 ∧ v4 ≤ (2 : Int) := ii f6 (r_eq (il 2) q516) (by decide) (by decide)
                  have f555 : (0 : Int) ≤ v7 ∧ v7 ≤ (9999 : Int) := by omega
                  refine g_aload_n C rfl 2 rfl dX3_readFact_95 ?_
                  refine gf_J C fk_LandSurvey_Reader_73 rfl ta0 e8 dX3_readFact_96 ?_
                  refine g_l2i C dX3_readFact_99 ?_
                  have f556 : (0 : Int) ≤ (l2w v7) ∧ (l2w v7) ≤ (9999 : Int) := l2w_in f555 (by decide) (by decide)
                  refine g_goto C 112 (by decide) dX3_readFact_100 ?_
                  refine g_callI (st := []) (gc_V C lk_LandSurvey_Reader_244 (k_X3_emit l D cy w z0 O ta0 (iw f556 (by decide) (by decide)) (by unfold RInv; rw [e2, e5, e8, e11]; exact ⟨t3, P_RInv.2.1, p12, p13⟩) (by omega)) ta0 rfl rfl rfl ⟨by decide, by decide⟩ (Nat.le_of_ble_eq_true rfl) dX3_readFact_112 ⟨(by decide), (by decide)⟩) (fun r557 h558 f560 K559 => ?_)
                  obtain ⟨O561, F562, f563, p564⟩ := K559
                  have e565 : Rv h558 a0 13 = v1 := ((fxR F562 ta0 rfl).trans e2)
                  have e566 : Iv h558 a0 4 = v4 := ((fxI F562 ta0 rfl).trans e5)
                  have e567 : Jv h558 a0 5 = v7 := ((fxJ F562 ta0 rfl).trans e8)
                  have e568 : Rv h558 a0 6 = v10 := ((fxR F562 ta0 rfl).trans e11)
                  have p569 := p564.2.2.1
                  rw [e566, e567] at p569
                  have p570 := p564.2.2.2
                  rw [e568] at p570
                  refine g_pop C rfl dX3_readFact_115 ?_
                  refine g_aload_n C rfl 2 rfl dX3_readFact_116 ?_
                  have e571 : Tg h558 a0 = 4 := (fxT F562 ta0)
                  have e572 : Tg h558 v1 = 2006 := (fxT F562 t3)
                  refine g_callV (st := []) (gc_V C lk_LandSurvey_Reader_46 (k_X3_advance l D cy w z0 O561 e571 (by unfold RInv; rw [e565, e566, e567, e568]; exact ⟨e572, p564.2.1, p569, p570⟩)) e571 rfl rfl rfl ⟨by decide, by decide⟩ (Nat.le_of_ble_eq_true rfl) dX3_readFact_117 ⟨(by decide), (by decide)⟩) (fun h574 K575 => ?_)
                  obtain ⟨O577, F578, p579⟩ := K575
                  have e580 : Rv h574 a0 13 = v1 := ((fxR F578 e571 rfl).trans e565)
                  obtain ⟨v581, e582⟩ : ∃ z, Iv h574 a0 4 = z := ⟨_, rfl⟩
                  have e583 : Tg h574 a0 = 4 := (fxT F578 e571)
                  have f584 := ok_I O577 e583 rI_4_4 e582
                  obtain ⟨v585, e586⟩ : ∃ z, Jv h574 a0 5 = z := ⟨_, rfl⟩
                  have f587 := inL_J O577 e586
                  obtain ⟨v588, e589⟩ : ∃ z, Rv h574 a0 6 = z := ⟨_, rfl⟩
                  have p590 := p579.2.2.1
                  rw [e582, e586] at p590
                  have p591 := p579.2.2.2
                  rw [e589] at p591
                  refine g_iconst C dX3_readFact_120 ?_
                  have e592 : Tg h574 v1 = 2006 := (fxT F578 e572)
                  exact g_iret C hr (nar_z2 (iw (il 1) (by decide) (by decide))).1 (iw (il 1) (by decide) (by decide)) ⟨O577, (((Fx.rf (wr := wr_k_readFact_0)).call F562 rfl).call F578 rfl), (iw (il 1) (by decide) (by decide)), (by unfold RInv; rw [e580, e582, e586, e589]; exact ⟨e592, p579.2.1, p590, p591⟩)⟩ (by decide) (by decide) dX3_readFact_121
            · exact (no_le (il 4) fa1 q512 (by decide)).elim
          · exact (no_eq (il 1) (il 0) q510 (by decide)).elim
        · refine g_iconst C dX3_readFact_42 ?_
          refine g_goto C 47 (by decide) dX3_readFact_43 ?_
          refine g_istore_n C [(3, .inl 1), (2, .inl 1), (0, .inr (.inr a0)), (1, .inl a1)] rfl (by decide) rfl dX3_readFact_47 ?_
          refine g_iload_n C rfl 1 rfl dX3_readFact_48 ?_
          refine g_if_ne C (iw (il 1) (by decide) (by decide)) 71 (by decide) dX3_readFact_49 (fun q593 => ?_) (fun q594 => ?_)
          · refine g_iload_n C rfl 3 rfl dX3_readFact_71 ?_
            refine g_iconst C dX3_readFact_72 ?_
            refine g_icmp_lt C (iw fa1 (by decide) (by decide)) (iw (il 4) (by decide) (by decide)) 82 (by decide) dX3_readFact_73 (fun q595 => ?_) (fun q596 => ?_)
            · refine g_iload_n C rfl 1 rfl dX3_readFact_82 ?_
              refine g_if_eq C (iw (il 1) (by decide) (by decide)) 122 (by decide) dX3_readFact_83 (fun q597 => ?_) (fun q598 => ?_)
              · exact (no_eq (il 1) (il 0) q597 (by decide)).elim
              · refine g_aload_n C rfl 2 rfl dX3_readFact_86 ?_
                refine g_aload_n C rfl 2 rfl dX3_readFact_87 ?_
                refine gf_I C fk_LandSurvey_Reader_49 rfl ta0 e5 dX3_readFact_88 ?_
                refine g_iconst C dX3_readFact_91 ?_
                refine g_icmp_ne C (iw f6 (by decide) (by decide)) (iw (il 2) (by decide) (by decide)) 103 (by decide) dX3_readFact_92 (fun q599 => ?_) (fun q600 => ?_)
                · refine g_iconst C dX3_readFact_103 ?_
                  refine g_aload_n C rfl 2 rfl dX3_readFact_104 ?_
                  refine gf_R C fk_LandSurvey_Reader_69 rfl ta0 e11 dX3_readFact_105 ?_
                  refine g_getf2 (x := .inl (wFa.getD i306 0)) C e308 (C.2.2.2.2.2.2.1.1 i306 q307).2.2 kw_2284 dX3_readFact_108 ?_
                  have f601 : (-12 : Int) ≤ ((-1) - (wFa.getD i306 0)) ∧ ((-1) - (wFa.getD i306 0)) ≤ (-1 : Int) := ia_sub (il (-1)) f506 (by decide) (by decide)
                  refine g_isub C dX3_readFact_111 ?_
                  refine g_callI (st := []) (gc_V C lk_LandSurvey_Reader_244 (k_X3_emit l D cy w z0 O ta0 (iw f601 (by decide) (by decide)) (by unfold RInv; rw [e2, e5, e8, e11]; exact ⟨t3, P_RInv.2.1, p12, p13⟩) (by omega)) ta0 rfl rfl rfl ⟨by decide, by decide⟩ (Nat.le_of_ble_eq_true rfl) dX3_readFact_112 ⟨(by decide), (by decide)⟩) (fun r602 h603 f605 K604 => ?_)
                  obtain ⟨O606, F607, f608, p609⟩ := K604
                  have e610 : Rv h603 a0 13 = v1 := ((fxR F607 ta0 rfl).trans e2)
                  have e611 : Iv h603 a0 4 = v4 := ((fxI F607 ta0 rfl).trans e5)
                  have e612 : Jv h603 a0 5 = v7 := ((fxJ F607 ta0 rfl).trans e8)
                  have e613 : Rv h603 a0 6 = v10 := ((fxR F607 ta0 rfl).trans e11)
                  have p614 := p609.2.2.1
                  rw [e611, e612] at p614
                  have p615 := p609.2.2.2
                  rw [e613] at p615
                  refine g_pop C rfl dX3_readFact_115 ?_
                  refine g_aload_n C rfl 2 rfl dX3_readFact_116 ?_
                  have e616 : Tg h603 a0 = 4 := (fxT F607 ta0)
                  have e617 : Tg h603 v1 = 2006 := (fxT F607 t3)
                  refine g_callV (st := []) (gc_V C lk_LandSurvey_Reader_46 (k_X3_advance l D cy w z0 O606 e616 (by unfold RInv; rw [e610, e611, e612, e613]; exact ⟨e617, p609.2.1, p614, p615⟩)) e616 rfl rfl rfl ⟨by decide, by decide⟩ (Nat.le_of_ble_eq_true rfl) dX3_readFact_117 ⟨(by decide), (by decide)⟩) (fun h619 K620 => ?_)
                  obtain ⟨O622, F623, p624⟩ := K620
                  have e625 : Rv h619 a0 13 = v1 := ((fxR F623 e616 rfl).trans e610)
                  obtain ⟨v626, e627⟩ : ∃ z, Iv h619 a0 4 = z := ⟨_, rfl⟩
                  have e628 : Tg h619 a0 = 4 := (fxT F623 e616)
                  have f629 := ok_I O622 e628 rI_4_4 e627
                  obtain ⟨v630, e631⟩ : ∃ z, Jv h619 a0 5 = z := ⟨_, rfl⟩
                  have f632 := inL_J O622 e631
                  obtain ⟨v633, e634⟩ : ∃ z, Rv h619 a0 6 = z := ⟨_, rfl⟩
                  have p635 := p624.2.2.1
                  rw [e627, e631] at p635
                  have p636 := p624.2.2.2
                  rw [e634] at p636
                  refine g_iconst C dX3_readFact_120 ?_
                  have e637 : Tg h619 v1 = 2006 := (fxT F623 e617)
                  exact g_iret C hr (nar_z2 (iw (il 1) (by decide) (by decide))).1 (iw (il 1) (by decide) (by decide)) ⟨O622, (((Fx.rf (wr := wr_k_readFact_0)).call F607 rfl).call F623 rfl), (iw (il 1) (by decide) (by decide)), (by unfold RInv; rw [e625, e627, e631, e634]; exact ⟨e637, p624.2.1, p635, p636⟩)⟩ (by decide) (by decide) dX3_readFact_121
                · have f638 : (2 : Int) ≤ v4 ∧ v4 ≤ (2 : Int) := ii f6 (r_eq (il 2) q600) (by decide) (by decide)
                  have f639 : (0 : Int) ≤ v7 ∧ v7 ≤ (9999 : Int) := by omega
                  refine g_aload_n C rfl 2 rfl dX3_readFact_95 ?_
                  refine gf_J C fk_LandSurvey_Reader_73 rfl ta0 e8 dX3_readFact_96 ?_
                  refine g_l2i C dX3_readFact_99 ?_
                  have f640 : (0 : Int) ≤ (l2w v7) ∧ (l2w v7) ≤ (9999 : Int) := l2w_in f639 (by decide) (by decide)
                  refine g_goto C 112 (by decide) dX3_readFact_100 ?_
                  refine g_callI (st := []) (gc_V C lk_LandSurvey_Reader_244 (k_X3_emit l D cy w z0 O ta0 (iw f640 (by decide) (by decide)) (by unfold RInv; rw [e2, e5, e8, e11]; exact ⟨t3, P_RInv.2.1, p12, p13⟩) (by omega)) ta0 rfl rfl rfl ⟨by decide, by decide⟩ (Nat.le_of_ble_eq_true rfl) dX3_readFact_112 ⟨(by decide), (by decide)⟩) (fun r641 h642 f644 K643 => ?_)
                  obtain ⟨O645, F646, f647, p648⟩ := K643
                  have e649 : Rv h642 a0 13 = v1 := ((fxR F646 ta0 rfl).trans e2)
                  have e650 : Iv h642 a0 4 = v4 := ((fxI F646 ta0 rfl).trans e5)
                  have e651 : Jv h642 a0 5 = v7 := ((fxJ F646 ta0 rfl).trans e8)
                  have e652 : Rv h642 a0 6 = v10 := ((fxR F646 ta0 rfl).trans e11)
                  have p653 := p648.2.2.1
                  rw [e650, e651] at p653
                  have p654 := p648.2.2.2
                  rw [e652] at p654
                  refine g_pop C rfl dX3_readFact_115 ?_
                  refine g_aload_n C rfl 2 rfl dX3_readFact_116 ?_
                  have e655 : Tg h642 a0 = 4 := (fxT F646 ta0)
                  have e656 : Tg h642 v1 = 2006 := (fxT F646 t3)
                  refine g_callV (st := []) (gc_V C lk_LandSurvey_Reader_46 (k_X3_advance l D cy w z0 O645 e655 (by unfold RInv; rw [e649, e650, e651, e652]; exact ⟨e656, p648.2.1, p653, p654⟩)) e655 rfl rfl rfl ⟨by decide, by decide⟩ (Nat.le_of_ble_eq_true rfl) dX3_readFact_117 ⟨(by decide), (by decide)⟩) (fun h658 K659 => ?_)
                  obtain ⟨O661, F662, p663⟩ := K659
                  have e664 : Rv h658 a0 13 = v1 := ((fxR F662 e655 rfl).trans e649)
                  obtain ⟨v665, e666⟩ : ∃ z, Iv h658 a0 4 = z := ⟨_, rfl⟩
                  have e667 : Tg h658 a0 = 4 := (fxT F662 e655)
                  have f668 := ok_I O661 e667 rI_4_4 e666
                  obtain ⟨v669, e670⟩ : ∃ z, Jv h658 a0 5 = z := ⟨_, rfl⟩
                  have f671 := inL_J O661 e670
                  obtain ⟨v672, e673⟩ : ∃ z, Rv h658 a0 6 = z := ⟨_, rfl⟩
                  have p674 := p663.2.2.1
                  rw [e666, e670] at p674
                  have p675 := p663.2.2.2
                  rw [e673] at p675
                  refine g_iconst C dX3_readFact_120 ?_
                  have e676 : Tg h658 v1 = 2006 := (fxT F662 e656)
                  exact g_iret C hr (nar_z2 (iw (il 1) (by decide) (by decide))).1 (iw (il 1) (by decide) (by decide)) ⟨O661, (((Fx.rf (wr := wr_k_readFact_0)).call F646 rfl).call F662 rfl), (iw (il 1) (by decide) (by decide)), (by unfold RInv; rw [e664, e666, e670, e673]; exact ⟨e676, p663.2.1, p674, p675⟩)⟩ (by decide) (by decide) dX3_readFact_121
            · exact (no_le (il 4) fa1 q596 (by decide)).elim
          · exact (no_eq (il 1) (il 0) q594 (by decide)).elim
def wr_k_readSum_0 : List Nat := [802, 803, 804, 805, 806, 807, 812, 4020000]
set_option maxRecDepth 100000 in
set_option maxHeartbeats 4000000 in
theorem k_readSum_0 (l : Launch) (D : va_G) (cy : Nat → ClassId) (w : Nat → Nat) (z0 : Nat)  {h : Hp} {a0 : Nat} {a1 : Int}  (O : Okh h) (ta0 : Tg h a0 = 4) (fa1 : 0 ≤ a1 ∧ a1 ≤ 0) (P_RInv : RInv w h a0) : MI l D cy w z0 yX3_readSum cX3_readSum 4 (some .boolean) 23 520 0 0 [.inr (.inr a0), .inl a1] h (fun v h1 => Okh h1 ∧ Fx wr_k_readSum_0 h h1 ∧ (0 ≤ v ∧ v ≤ 1) ∧ (RInv w h1 a0)) := by
  obtain ⟨v1, e2⟩ : ∃ z, Rv h a0 13 = z := ⟨_, rfl⟩
  have t3 := P_RInv.1
  rw [e2] at t3
  obtain ⟨v4, e5⟩ : ∃ z, Iv h a0 4 = z := ⟨_, rfl⟩
  have f6 := ok_I O ta0 rI_4_4 e5
  obtain ⟨v7, e8⟩ : ∃ z, Jv h a0 5 = z := ⟨_, rfl⟩
  have f9 := inL_J O e8
  obtain ⟨v10, e11⟩ : ∃ z, Rv h a0 6 = z := ⟨_, rfl⟩
  have p12 := P_RInv.2.2.1
  rw [e5, e8] at p12
  have p13 := P_RInv.2.2.2
  rw [e11] at p13
  refine hm_go (by decide +kernel) (Nat.le_of_ble_eq_true rfl) (fun p e s m below meth c C hr hn => ?_)
  refine g_aload_n C rfl 0 rfl dX3_readSum_0 ?_
  refine g_iload_n C rfl 1 rfl dX3_readSum_1 ?_
  refine g_callI (st := []) (gc_V C lk_LandSurvey_Reader_250 (k_readFact_0 l D cy w z0 O ta0 fa1 (by unfold RInv; rw [e2, e5, e8, e11]; exact ⟨t3, P_RInv.2.1, p12, p13⟩)) ta0 rfl rfl rfl ⟨by decide, by decide⟩ (Nat.le_of_ble_eq_true rfl) dX3_readSum_2 ⟨(by decide), (by decide)⟩) (fun r14 h15 f17 K16 => ?_)
  obtain ⟨O18, F19, f20, p21⟩ := K16
  have e22 : Rv h15 a0 13 = v1 := ((fxR F19 ta0 rfl).trans e2)
  obtain ⟨v23, e24⟩ : ∃ z, Iv h15 a0 4 = z := ⟨_, rfl⟩
  have e25 : Tg h15 a0 = 4 := (fxT F19 ta0)
  have f26 := ok_I O18 e25 rI_4_4 e24
  obtain ⟨v27, e28⟩ : ∃ z, Jv h15 a0 5 = z := ⟨_, rfl⟩
  have f29 := inL_J O18 e28
  obtain ⟨v30, e31⟩ : ∃ z, Rv h15 a0 6 = z := ⟨_, rfl⟩
  have p32 := p21.2.2.1
  rw [e24, e28] at p32
  have p33 := p21.2.2.2
  rw [e31] at p33
  refine g_if_ne C (iw f20 (by decide) (by decide)) 10 (by decide) dX3_readSum_5 (fun q34 => ?_) (fun q35 => ?_)
  · have f36 : (1 : Int) ≤ r14 ∧ r14 ≤ (1 : Int) := r_nl f20 q34
    refine g_iconst C dX3_readSum_10 ?_
    refine g_istore_n C [(2, .inl 0), (0, .inr (.inr a0)), (1, .inl a1)] rfl (by decide) rfl dX3_readSum_11 ?_
    refine GW.sub [1, 2, 0] rfl ?_
    -- loop at 12
    have L39 : ∀ (μ : Nat) (x37 : Int) (h38 : Hp), (1501 - x37).toNat = μ → Okh h38 → Fx [802, 803, 804, 805, 806, 807, 812, 4020000] h15 h38 → ((0 : Int) ≤ x37 ∧ x37 ≤ (1501 : Int)) → (RInv w h38 a0) → GW p l e (rmm 23 520 0 0) s m (List.map toV [.inr (.inr a0), .inl a1]).toArray below meth c D cy z0 4 (MQ below (QI D cy z0 (fun v h1 => Okh h1 ∧ Fx wr_k_readSum_0 h h1 ∧ (0 ≤ v ∧ v ≤ 1) ∧ (RInv w h1 a0))) (List.map toV [.inr (.inr a0), .inl a1]).toArray s 0 0 (Aof z0)) 12 [(0, .inr (.inr a0)), (1, .inl a1), (2, .inl x37)] [] h38 0 0 := by
      intro μ
      induction μ using Nat.strongRecOn with
      | ind μ ih40 =>
        intro x37 h38 hm41 O42 F43 f44 p45
        have e46 : Rv h38 a0 13 = v1 := ((fxR F43 e25 rfl).trans e22)
        obtain ⟨v47, e48⟩ : ∃ z, Iv h38 a0 4 = z := ⟨_, rfl⟩
        have e49 : Tg h38 a0 = 4 := (fxT F43 e25)
        have f50 := ok_I O42 e49 rI_4_4 e48
        obtain ⟨v51, e52⟩ : ∃ z, Jv h38 a0 5 = z := ⟨_, rfl⟩
        have f53 := inL_J O42 e52
        obtain ⟨v54, e55⟩ : ∃ z, Rv h38 a0 6 = z := ⟨_, rfl⟩
        have p56 := p45.2.2.1
        rw [e48, e52] at p56
        have p57 := p45.2.2.2
        rw [e55] at p57
        refine g_iload_n C rfl 2 rfl dX3_readSum_12 ?_
        refine g_sipush C (by decide) dX3_readSum_13 ?_
        refine g_icmp_gt C (iw f44 (by decide) (by decide)) (iw (il 1500) (by decide) (by decide)) 82 (by decide) dX3_readSum_16 (fun q58 => ?_) (fun q59 => ?_)
        · have f60 : (1501 : Int) ≤ x37 ∧ x37 ≤ (1501 : Int) := r_gt f44 (il 1500) q58 (by decide) (by decide)
          refine g_iconst C dX3_readSum_82 ?_
          have e61 : Tg h38 v1 = 2006 := (fxT F43 (fxT F19 t3))
          exact g_iret C hr (nar_z2 (iw (il 1) (by decide) (by decide))).1 (iw (il 1) (by decide) (by decide)) ⟨O42, (((Fx.rf (wr := wr_k_readSum_0)).call F19 rfl).call F43 rfl), (iw (il 1) (by decide) (by decide)), (by unfold RInv; rw [e46, e48, e52, e55]; exact ⟨e61, p45.2.1, p56, p57⟩)⟩ (by decide) (by decide) dX3_readSum_83
        · have f62 : (0 : Int) ≤ x37 ∧ x37 ≤ (1500 : Int) := r_le f44 (il 1500) q59 (by decide) (by decide)
          refine g_aload_n C rfl 0 rfl dX3_readSum_19 ?_
          refine g_bipush C (by decide) dX3_readSum_20 ?_
          refine g_callI (st := []) (gc_V C lk_LandSurvey_Reader_95 (k_X3_isNext l D cy w z0 O42 e49 (iw (il 43) (by decide) (by decide))) e49 rfl rfl rfl ⟨by decide, by decide⟩ (Nat.le_of_ble_eq_true rfl) dX3_readSum_22 ⟨(by decide), (by decide)⟩) (fun r63 h64 f66 K65 => ?_)
          obtain ⟨O67, F68, f69⟩ := K65
          refine g_if_ne C (iw f69 (by decide) (by decide)) 37 (by decide) dX3_readSum_25 (fun q70 => ?_) (fun q71 => ?_)
          · have f72 : (1 : Int) ≤ r63 ∧ r63 ≤ (1 : Int) := r_nl f69 q70
            refine g_aload_n C rfl 0 rfl dX3_readSum_37 ?_
            refine g_bipush C (by decide) dX3_readSum_38 ?_
            have e73 : Tg h64 a0 = 4 := (fxT F68 e49)
            refine g_callI (st := []) (gc_V C lk_LandSurvey_Reader_95 (k_X3_isNext l D cy w z0 O67 e73 (iw (il 43) (by decide) (by decide))) e73 rfl rfl rfl ⟨by decide, by decide⟩ (Nat.le_of_ble_eq_true rfl) dX3_readSum_40 ⟨(by decide), (by decide)⟩) (fun r74 h75 f77 K76 => ?_)
            obtain ⟨O78, F79, f80⟩ := K76
            refine g_if_eq C (iw f80 (by decide) (by decide)) 51 (by decide) dX3_readSum_43 (fun q81 => ?_) (fun q82 => ?_)
            · have f83 : (0 : Int) ≤ r74 ∧ r74 ≤ (0 : Int) := ii f80 (r_eq (il 0) q81) (by decide) (by decide)
              refine g_bipush C (by decide) dX3_readSum_51 ?_
              refine g_istore_n C [(3, .inl (-22)), (0, .inr (.inr a0)), (1, .inl a1), (2, .inl x37)] rfl (by decide) rfl dX3_readSum_53 ?_
              refine g_aload_n C rfl 1 rfl dX3_readSum_54 ?_
              have e84 : Tg h75 a0 = 4 := (fxT F79 e73)
              have e85 : Rv h75 a0 13 = v1 := ((fxR F79 e73 rfl).trans ((fxR F68 e49 rfl).trans e46))
              have e86 : Iv h75 a0 4 = v47 := ((fxI F79 e73 rfl).trans ((fxI F68 e49 rfl).trans e48))
              have e87 : Jv h75 a0 5 = v51 := ((fxJ F79 e73 rfl).trans ((fxJ F68 e49 rfl).trans e52))
              have e88 : Rv h75 a0 6 = v54 := ((fxR F79 e73 rfl).trans ((fxR F68 e49 rfl).trans e55))
              have e89 : Tg h75 v1 = 2006 := (fxT F79 (fxT F68 (fxT F43 (fxT F19 t3))))
              have e90 : Tg h38 v1 = 2006 := (fxT F43 (fxT F19 t3))
              have e91 : Rv h64 a0 13 = v1 := ((fxR F68 e49 rfl).trans e46)
              have e92 : Tg h64 v1 = 2006 := (fxT F68 e90)
              have p93 := (DOk_fx O67 F79 e73 (by rw [e91]; exact e92) rfl (DOk_fx O42 F68 e49 (by rw [e46]; exact e90) rfl p45.2.1))
              refine g_callV (st := []) (gc_V C lk_LandSurvey_Reader_46 (k_X3_advance l D cy w z0 O78 e84 (by unfold RInv; rw [e85, e86, e87, e88]; exact ⟨e89, p93, p56, p57⟩)) e84 rfl rfl rfl ⟨by decide, by decide⟩ (Nat.le_of_ble_eq_true rfl) dX3_readSum_55 ⟨(by decide), (by decide)⟩) (fun h95 K96 => ?_)
              obtain ⟨O98, F99, p100⟩ := K96
              have e101 : Rv h95 a0 13 = v1 := ((fxR F99 e84 rfl).trans e85)
              obtain ⟨v102, e103⟩ : ∃ z, Iv h95 a0 4 = z := ⟨_, rfl⟩
              have e104 : Tg h95 a0 = 4 := (fxT F99 e84)
              have f105 := ok_I O98 e104 rI_4_4 e103
              obtain ⟨v106, e107⟩ : ∃ z, Jv h95 a0 5 = z := ⟨_, rfl⟩
              have f108 := inL_J O98 e107
              obtain ⟨v109, e110⟩ : ∃ z, Rv h95 a0 6 = z := ⟨_, rfl⟩
              have p111 := p100.2.2.1
              rw [e103, e107] at p111
              have p112 := p100.2.2.2
              rw [e110] at p112
              refine g_aload_n C rfl 1 rfl dX3_readSum_58 ?_
              refine g_iload_n C rfl 2 rfl dX3_readSum_59 ?_
              have e113 : Tg h95 v1 = 2006 := (fxT F99 e89)
              refine g_callI (st := []) (gc_V C lk_LandSurvey_Reader_250 (k_readFact_0 l D cy w z0 O98 e104 fa1 (by unfold RInv; rw [e101, e103, e107, e110]; exact ⟨e113, p100.2.1, p111, p112⟩)) e104 rfl rfl rfl ⟨by decide, by decide⟩ (Nat.le_of_ble_eq_true rfl) dX3_readSum_60 ⟨(by decide), (by decide)⟩) (fun r114 h115 f117 K116 => ?_)
              obtain ⟨O118, F119, f120, p121⟩ := K116
              have e122 : Rv h115 a0 13 = v1 := ((fxR F119 e104 rfl).trans e101)
              obtain ⟨v123, e124⟩ : ∃ z, Iv h115 a0 4 = z := ⟨_, rfl⟩
              have e125 : Tg h115 a0 = 4 := (fxT F119 e104)
              have f126 := ok_I O118 e125 rI_4_4 e124
              obtain ⟨v127, e128⟩ : ∃ z, Jv h115 a0 5 = z := ⟨_, rfl⟩
              have f129 := inL_J O118 e128
              obtain ⟨v130, e131⟩ : ∃ z, Rv h115 a0 6 = z := ⟨_, rfl⟩
              have p132 := p121.2.2.1
              rw [e124, e128] at p132
              have p133 := p121.2.2.2
              rw [e131] at p133
              refine g_if_eq C (iw f120 (by decide) (by decide)) 74 (by decide) dX3_readSum_63 (fun q134 => ?_) (fun q135 => ?_)
              · have f136 : (0 : Int) ≤ r114 ∧ r114 ≤ (0 : Int) := ii f120 (r_eq (il 0) q134) (by decide) (by decide)
                refine g_iconst C dX3_readSum_74 ?_
                have e137 : Tg h115 v1 = 2006 := (fxT F119 e113)
                exact g_iret C hr (nar_z2 (iw (il 0) (by decide) (by decide))).1 (iw (il 0) (by decide) (by decide)) ⟨O118, (((((((Fx.rf (wr := wr_k_readSum_0)).call F19 rfl).call F43 rfl).call F68 rfl).call F79 rfl).call F99 rfl).call F119 rfl), (iw (il 0) (by decide) (by decide)), (by unfold RInv; rw [e122, e124, e128, e131]; exact ⟨e137, p121.2.1, p132, p133⟩)⟩ (by decide) (by decide) dX3_readSum_75
              · have f138 : (1 : Int) ≤ r114 ∧ r114 ≤ (1 : Int) := r_nl f120 q135
                refine g_aload_n C rfl 1 rfl dX3_readSum_66 ?_
                refine g_iload_n C rfl 0 rfl dX3_readSum_67 ?_
                have e139 : Tg h115 v1 = 2006 := (fxT F119 e113)
                refine g_callI (st := []) (gc_V C lk_LandSurvey_Reader_244 (k_X3_emit l D cy w z0 O118 e125 (iw (il (-22)) (by decide) (by decide)) (by unfold RInv; rw [e122, e124, e128, e131]; exact ⟨e139, p121.2.1, p132, p133⟩) (by omega)) e125 rfl rfl rfl ⟨by decide, by decide⟩ (Nat.le_of_ble_eq_true rfl) dX3_readSum_68 ⟨(by decide), (by decide)⟩) (fun r140 h141 f143 K142 => ?_)
                obtain ⟨O144, F145, f146, p147⟩ := K142
                have e148 : Rv h141 a0 13 = v1 := ((fxR F145 e125 rfl).trans e122)
                have e149 : Iv h141 a0 4 = v123 := ((fxI F145 e125 rfl).trans e124)
                have e150 : Jv h141 a0 5 = v127 := ((fxJ F145 e125 rfl).trans e128)
                have e151 : Rv h141 a0 6 = v130 := ((fxR F145 e125 rfl).trans e131)
                have p152 := p147.2.2.1
                rw [e149, e150] at p152
                have p153 := p147.2.2.2
                rw [e151] at p153
                refine g_if_ne C (iw f146 (by decide) (by decide)) 76 (by decide) dX3_readSum_71 (fun q154 => ?_) (fun q155 => ?_)
                · have f156 : (1 : Int) ≤ (x37 + 1) ∧ (x37 + 1) ≤ (1501 : Int) := ia_add f62 (il 1) (by decide) (by decide)
                  refine g_iinc C [(2, .inl (x37 + 1)), (3, .inl (-22)), (0, .inr (.inr a0)), (1, .inl a1)] 3 rfl (by decide) rfl dX3_readSum_76 ?_
                  refine g_goto C 12 (by decide) dX3_readSum_79 ?_
                  refine GW.sub [2, 3, 0] rfl ?_
                  have e157 : Tg h141 v1 = 2006 := (fxT F145 e139)
                  exact ih40 _ (by omega) (x37 + 1) h141 rfl O144 (((((F43.call F68 rfl).call F79 rfl).call F99 rfl).call F119 rfl).call F145 rfl) (iw f156 (by decide) (by decide)) (by unfold RInv; rw [e148, e149, e150, e151]; exact ⟨e157, p147.2.1, p152, p153⟩)
                · exact (no_eq f146 (il 0) q155 (by decide)).elim
            · have f158 : (1 : Int) ≤ r74 ∧ r74 ≤ (1 : Int) := r_nl f80 q82
              refine g_bipush C (by decide) dX3_readSum_46 ?_
              refine g_goto C 53 (by decide) dX3_readSum_48 ?_
              refine g_istore_n C [(3, .inl (-21)), (0, .inr (.inr a0)), (1, .inl a1), (2, .inl x37)] rfl (by decide) rfl dX3_readSum_53 ?_
              refine g_aload_n C rfl 1 rfl dX3_readSum_54 ?_
              have e159 : Tg h75 a0 = 4 := (fxT F79 e73)
              have e160 : Rv h75 a0 13 = v1 := ((fxR F79 e73 rfl).trans ((fxR F68 e49 rfl).trans e46))
              have e161 : Iv h75 a0 4 = v47 := ((fxI F79 e73 rfl).trans ((fxI F68 e49 rfl).trans e48))
              have e162 : Jv h75 a0 5 = v51 := ((fxJ F79 e73 rfl).trans ((fxJ F68 e49 rfl).trans e52))
              have e163 : Rv h75 a0 6 = v54 := ((fxR F79 e73 rfl).trans ((fxR F68 e49 rfl).trans e55))
              have e164 : Tg h75 v1 = 2006 := (fxT F79 (fxT F68 (fxT F43 (fxT F19 t3))))
              have e165 : Tg h38 v1 = 2006 := (fxT F43 (fxT F19 t3))
              have e166 : Rv h64 a0 13 = v1 := ((fxR F68 e49 rfl).trans e46)
              have e167 : Tg h64 v1 = 2006 := (fxT F68 e165)
              have p168 := (DOk_fx O67 F79 e73 (by rw [e166]; exact e167) rfl (DOk_fx O42 F68 e49 (by rw [e46]; exact e165) rfl p45.2.1))
              refine g_callV (st := []) (gc_V C lk_LandSurvey_Reader_46 (k_X3_advance l D cy w z0 O78 e159 (by unfold RInv; rw [e160, e161, e162, e163]; exact ⟨e164, p168, p56, p57⟩)) e159 rfl rfl rfl ⟨by decide, by decide⟩ (Nat.le_of_ble_eq_true rfl) dX3_readSum_55 ⟨(by decide), (by decide)⟩) (fun h170 K171 => ?_)
              obtain ⟨O173, F174, p175⟩ := K171
              have e176 : Rv h170 a0 13 = v1 := ((fxR F174 e159 rfl).trans e160)
              obtain ⟨v177, e178⟩ : ∃ z, Iv h170 a0 4 = z := ⟨_, rfl⟩
              have e179 : Tg h170 a0 = 4 := (fxT F174 e159)
              have f180 := ok_I O173 e179 rI_4_4 e178
              obtain ⟨v181, e182⟩ : ∃ z, Jv h170 a0 5 = z := ⟨_, rfl⟩
              have f183 := inL_J O173 e182
              obtain ⟨v184, e185⟩ : ∃ z, Rv h170 a0 6 = z := ⟨_, rfl⟩
              have p186 := p175.2.2.1
              rw [e178, e182] at p186
              have p187 := p175.2.2.2
              rw [e185] at p187
              refine g_aload_n C rfl 1 rfl dX3_readSum_58 ?_
              refine g_iload_n C rfl 2 rfl dX3_readSum_59 ?_
              have e188 : Tg h170 v1 = 2006 := (fxT F174 e164)
              refine g_callI (st := []) (gc_V C lk_LandSurvey_Reader_250 (k_readFact_0 l D cy w z0 O173 e179 fa1 (by unfold RInv; rw [e176, e178, e182, e185]; exact ⟨e188, p175.2.1, p186, p187⟩)) e179 rfl rfl rfl ⟨by decide, by decide⟩ (Nat.le_of_ble_eq_true rfl) dX3_readSum_60 ⟨(by decide), (by decide)⟩) (fun r189 h190 f192 K191 => ?_)
              obtain ⟨O193, F194, f195, p196⟩ := K191
              have e197 : Rv h190 a0 13 = v1 := ((fxR F194 e179 rfl).trans e176)
              obtain ⟨v198, e199⟩ : ∃ z, Iv h190 a0 4 = z := ⟨_, rfl⟩
              have e200 : Tg h190 a0 = 4 := (fxT F194 e179)
              have f201 := ok_I O193 e200 rI_4_4 e199
              obtain ⟨v202, e203⟩ : ∃ z, Jv h190 a0 5 = z := ⟨_, rfl⟩
              have f204 := inL_J O193 e203
              obtain ⟨v205, e206⟩ : ∃ z, Rv h190 a0 6 = z := ⟨_, rfl⟩
              have p207 := p196.2.2.1
              rw [e199, e203] at p207
              have p208 := p196.2.2.2
              rw [e206] at p208
              refine g_if_eq C (iw f195 (by decide) (by decide)) 74 (by decide) dX3_readSum_63 (fun q209 => ?_) (fun q210 => ?_)
              · have f211 : (0 : Int) ≤ r189 ∧ r189 ≤ (0 : Int) := ii f195 (r_eq (il 0) q209) (by decide) (by decide)
                refine g_iconst C dX3_readSum_74 ?_
                have e212 : Tg h190 v1 = 2006 := (fxT F194 e188)
                exact g_iret C hr (nar_z2 (iw (il 0) (by decide) (by decide))).1 (iw (il 0) (by decide) (by decide)) ⟨O193, (((((((Fx.rf (wr := wr_k_readSum_0)).call F19 rfl).call F43 rfl).call F68 rfl).call F79 rfl).call F174 rfl).call F194 rfl), (iw (il 0) (by decide) (by decide)), (by unfold RInv; rw [e197, e199, e203, e206]; exact ⟨e212, p196.2.1, p207, p208⟩)⟩ (by decide) (by decide) dX3_readSum_75
              · have f213 : (1 : Int) ≤ r189 ∧ r189 ≤ (1 : Int) := r_nl f195 q210
                refine g_aload_n C rfl 1 rfl dX3_readSum_66 ?_
                refine g_iload_n C rfl 0 rfl dX3_readSum_67 ?_
                have e214 : Tg h190 v1 = 2006 := (fxT F194 e188)
                refine g_callI (st := []) (gc_V C lk_LandSurvey_Reader_244 (k_X3_emit l D cy w z0 O193 e200 (iw (il (-21)) (by decide) (by decide)) (by unfold RInv; rw [e197, e199, e203, e206]; exact ⟨e214, p196.2.1, p207, p208⟩) (by omega)) e200 rfl rfl rfl ⟨by decide, by decide⟩ (Nat.le_of_ble_eq_true rfl) dX3_readSum_68 ⟨(by decide), (by decide)⟩) (fun r215 h216 f218 K217 => ?_)
                obtain ⟨O219, F220, f221, p222⟩ := K217
                have e223 : Rv h216 a0 13 = v1 := ((fxR F220 e200 rfl).trans e197)
                have e224 : Iv h216 a0 4 = v198 := ((fxI F220 e200 rfl).trans e199)
                have e225 : Jv h216 a0 5 = v202 := ((fxJ F220 e200 rfl).trans e203)
                have e226 : Rv h216 a0 6 = v205 := ((fxR F220 e200 rfl).trans e206)
                have p227 := p222.2.2.1
                rw [e224, e225] at p227
                have p228 := p222.2.2.2
                rw [e226] at p228
                refine g_if_ne C (iw f221 (by decide) (by decide)) 76 (by decide) dX3_readSum_71 (fun q229 => ?_) (fun q230 => ?_)
                · have f231 : (1 : Int) ≤ (x37 + 1) ∧ (x37 + 1) ≤ (1501 : Int) := ia_add f62 (il 1) (by decide) (by decide)
                  refine g_iinc C [(2, .inl (x37 + 1)), (3, .inl (-21)), (0, .inr (.inr a0)), (1, .inl a1)] 3 rfl (by decide) rfl dX3_readSum_76 ?_
                  refine g_goto C 12 (by decide) dX3_readSum_79 ?_
                  refine GW.sub [2, 3, 0] rfl ?_
                  have e232 : Tg h216 v1 = 2006 := (fxT F220 e214)
                  exact ih40 _ (by omega) (x37 + 1) h216 rfl O219 (((((F43.call F68 rfl).call F79 rfl).call F174 rfl).call F194 rfl).call F220 rfl) (iw f231 (by decide) (by decide)) (by unfold RInv; rw [e223, e224, e225, e226]; exact ⟨e232, p222.2.1, p227, p228⟩)
                · exact (no_eq f221 (il 0) q230 (by decide)).elim
          · have f233 : (0 : Int) ≤ r63 ∧ r63 ≤ (0 : Int) := ii f69 (r_eq (il 0) q71) (by decide) (by decide)
            refine g_aload_n C rfl 0 rfl dX3_readSum_28 ?_
            refine g_bipush C (by decide) dX3_readSum_29 ?_
            have e234 : Tg h64 a0 = 4 := (fxT F68 e49)
            refine g_callI (st := []) (gc_V C lk_LandSurvey_Reader_95 (k_X3_isNext l D cy w z0 O67 e234 (iw (il 45) (by decide) (by decide))) e234 rfl rfl rfl ⟨by decide, by decide⟩ (Nat.le_of_ble_eq_true rfl) dX3_readSum_31 ⟨(by decide), (by decide)⟩) (fun r235 h236 f238 K237 => ?_)
            obtain ⟨O239, F240, f241⟩ := K237
            refine g_if_eq C (iw f241 (by decide) (by decide)) 82 (by decide) dX3_readSum_34 (fun q242 => ?_) (fun q243 => ?_)
            · have f244 : (0 : Int) ≤ r235 ∧ r235 ≤ (0 : Int) := ii f241 (r_eq (il 0) q242) (by decide) (by decide)
              refine g_iconst C dX3_readSum_82 ?_
              have e245 : Rv h236 a0 13 = v1 := ((fxR F240 e234 rfl).trans ((fxR F68 e49 rfl).trans e46))
              have e246 : Iv h236 a0 4 = v47 := ((fxI F240 e234 rfl).trans ((fxI F68 e49 rfl).trans e48))
              have e247 : Jv h236 a0 5 = v51 := ((fxJ F240 e234 rfl).trans ((fxJ F68 e49 rfl).trans e52))
              have e248 : Rv h236 a0 6 = v54 := ((fxR F240 e234 rfl).trans ((fxR F68 e49 rfl).trans e55))
              have e249 : Tg h236 v1 = 2006 := (fxT F240 (fxT F68 (fxT F43 (fxT F19 t3))))
              have e250 : Tg h38 v1 = 2006 := (fxT F43 (fxT F19 t3))
              have e251 : Rv h64 a0 13 = v1 := ((fxR F68 e49 rfl).trans e46)
              have e252 : Tg h64 v1 = 2006 := (fxT F68 e250)
              have p253 := (DOk_fx O67 F240 e234 (by rw [e251]; exact e252) rfl (DOk_fx O42 F68 e49 (by rw [e46]; exact e250) rfl p45.2.1))
              exact g_iret C hr (nar_z2 (iw (il 1) (by decide) (by decide))).1 (iw (il 1) (by decide) (by decide)) ⟨O239, (((((Fx.rf (wr := wr_k_readSum_0)).call F19 rfl).call F43 rfl).call F68 rfl).call F240 rfl), (iw (il 1) (by decide) (by decide)), (by unfold RInv; rw [e245, e246, e247, e248]; exact ⟨e249, p253, p56, p57⟩)⟩ (by decide) (by decide) dX3_readSum_83
            · have f254 : (1 : Int) ≤ r235 ∧ r235 ≤ (1 : Int) := r_nl f241 q243
              refine g_aload_n C rfl 0 rfl dX3_readSum_37 ?_
              refine g_bipush C (by decide) dX3_readSum_38 ?_
              have e255 : Tg h236 a0 = 4 := (fxT F240 e234)
              refine g_callI (st := []) (gc_V C lk_LandSurvey_Reader_95 (k_X3_isNext l D cy w z0 O239 e255 (iw (il 43) (by decide) (by decide))) e255 rfl rfl rfl ⟨by decide, by decide⟩ (Nat.le_of_ble_eq_true rfl) dX3_readSum_40 ⟨(by decide), (by decide)⟩) (fun r256 h257 f259 K258 => ?_)
              obtain ⟨O260, F261, f262⟩ := K258
              refine g_if_eq C (iw f262 (by decide) (by decide)) 51 (by decide) dX3_readSum_43 (fun q263 => ?_) (fun q264 => ?_)
              · have f265 : (0 : Int) ≤ r256 ∧ r256 ≤ (0 : Int) := ii f262 (r_eq (il 0) q263) (by decide) (by decide)
                refine g_bipush C (by decide) dX3_readSum_51 ?_
                refine g_istore_n C [(3, .inl (-22)), (0, .inr (.inr a0)), (1, .inl a1), (2, .inl x37)] rfl (by decide) rfl dX3_readSum_53 ?_
                refine g_aload_n C rfl 1 rfl dX3_readSum_54 ?_
                have e266 : Tg h257 a0 = 4 := (fxT F261 e255)
                have e267 : Rv h257 a0 13 = v1 := ((fxR F261 e255 rfl).trans ((fxR F240 e234 rfl).trans ((fxR F68 e49 rfl).trans e46)))
                have e268 : Iv h257 a0 4 = v47 := ((fxI F261 e255 rfl).trans ((fxI F240 e234 rfl).trans ((fxI F68 e49 rfl).trans e48)))
                have e269 : Jv h257 a0 5 = v51 := ((fxJ F261 e255 rfl).trans ((fxJ F240 e234 rfl).trans ((fxJ F68 e49 rfl).trans e52)))
                have e270 : Rv h257 a0 6 = v54 := ((fxR F261 e255 rfl).trans ((fxR F240 e234 rfl).trans ((fxR F68 e49 rfl).trans e55)))
                have e271 : Tg h257 v1 = 2006 := (fxT F261 (fxT F240 (fxT F68 (fxT F43 (fxT F19 t3)))))
                have e272 : Tg h38 v1 = 2006 := (fxT F43 (fxT F19 t3))
                have e273 : Rv h64 a0 13 = v1 := ((fxR F68 e49 rfl).trans e46)
                have e274 : Tg h64 v1 = 2006 := (fxT F68 e272)
                have e275 : Rv h236 a0 13 = v1 := ((fxR F240 e234 rfl).trans e273)
                have e276 : Tg h236 v1 = 2006 := (fxT F240 e274)
                have p277 := (DOk_fx O239 F261 e255 (by rw [e275]; exact e276) rfl (DOk_fx O67 F240 e234 (by rw [e273]; exact e274) rfl (DOk_fx O42 F68 e49 (by rw [e46]; exact e272) rfl p45.2.1)))
                refine g_callV (st := []) (gc_V C lk_LandSurvey_Reader_46 (k_X3_advance l D cy w z0 O260 e266 (by unfold RInv; rw [e267, e268, e269, e270]; exact ⟨e271, p277, p56, p57⟩)) e266 rfl rfl rfl ⟨by decide, by decide⟩ (Nat.le_of_ble_eq_true rfl) dX3_readSum_55 ⟨(by decide), (by decide)⟩) (fun h279 K280 => ?_)
                obtain ⟨O282, F283, p284⟩ := K280
                have e285 : Rv h279 a0 13 = v1 := ((fxR F283 e266 rfl).trans e267)
                obtain ⟨v286, e287⟩ : ∃ z, Iv h279 a0 4 = z := ⟨_, rfl⟩
                have e288 : Tg h279 a0 = 4 := (fxT F283 e266)
                have f289 := ok_I O282 e288 rI_4_4 e287
                obtain ⟨v290, e291⟩ : ∃ z, Jv h279 a0 5 = z := ⟨_, rfl⟩
                have f292 := inL_J O282 e291
                obtain ⟨v293, e294⟩ : ∃ z, Rv h279 a0 6 = z := ⟨_, rfl⟩
                have p295 := p284.2.2.1
                rw [e287, e291] at p295
                have p296 := p284.2.2.2
                rw [e294] at p296
                refine g_aload_n C rfl 1 rfl dX3_readSum_58 ?_
                refine g_iload_n C rfl 2 rfl dX3_readSum_59 ?_
                have e297 : Tg h279 v1 = 2006 := (fxT F283 e271)
                refine g_callI (st := []) (gc_V C lk_LandSurvey_Reader_250 (k_readFact_0 l D cy w z0 O282 e288 fa1 (by unfold RInv; rw [e285, e287, e291, e294]; exact ⟨e297, p284.2.1, p295, p296⟩)) e288 rfl rfl rfl ⟨by decide, by decide⟩ (Nat.le_of_ble_eq_true rfl) dX3_readSum_60 ⟨(by decide), (by decide)⟩) (fun r298 h299 f301 K300 => ?_)
                obtain ⟨O302, F303, f304, p305⟩ := K300
                have e306 : Rv h299 a0 13 = v1 := ((fxR F303 e288 rfl).trans e285)
                obtain ⟨v307, e308⟩ : ∃ z, Iv h299 a0 4 = z := ⟨_, rfl⟩
                have e309 : Tg h299 a0 = 4 := (fxT F303 e288)
                have f310 := ok_I O302 e309 rI_4_4 e308
                obtain ⟨v311, e312⟩ : ∃ z, Jv h299 a0 5 = z := ⟨_, rfl⟩
                have f313 := inL_J O302 e312
                obtain ⟨v314, e315⟩ : ∃ z, Rv h299 a0 6 = z := ⟨_, rfl⟩
                have p316 := p305.2.2.1
                rw [e308, e312] at p316
                have p317 := p305.2.2.2
                rw [e315] at p317
                refine g_if_eq C (iw f304 (by decide) (by decide)) 74 (by decide) dX3_readSum_63 (fun q318 => ?_) (fun q319 => ?_)
                · have f320 : (0 : Int) ≤ r298 ∧ r298 ≤ (0 : Int) := ii f304 (r_eq (il 0) q318) (by decide) (by decide)
                  refine g_iconst C dX3_readSum_74 ?_
                  have e321 : Tg h299 v1 = 2006 := (fxT F303 e297)
                  exact g_iret C hr (nar_z2 (iw (il 0) (by decide) (by decide))).1 (iw (il 0) (by decide) (by decide)) ⟨O302, ((((((((Fx.rf (wr := wr_k_readSum_0)).call F19 rfl).call F43 rfl).call F68 rfl).call F240 rfl).call F261 rfl).call F283 rfl).call F303 rfl), (iw (il 0) (by decide) (by decide)), (by unfold RInv; rw [e306, e308, e312, e315]; exact ⟨e321, p305.2.1, p316, p317⟩)⟩ (by decide) (by decide) dX3_readSum_75
                · have f322 : (1 : Int) ≤ r298 ∧ r298 ≤ (1 : Int) := r_nl f304 q319
                  refine g_aload_n C rfl 1 rfl dX3_readSum_66 ?_
                  refine g_iload_n C rfl 0 rfl dX3_readSum_67 ?_
                  have e323 : Tg h299 v1 = 2006 := (fxT F303 e297)
                  refine g_callI (st := []) (gc_V C lk_LandSurvey_Reader_244 (k_X3_emit l D cy w z0 O302 e309 (iw (il (-22)) (by decide) (by decide)) (by unfold RInv; rw [e306, e308, e312, e315]; exact ⟨e323, p305.2.1, p316, p317⟩) (by omega)) e309 rfl rfl rfl ⟨by decide, by decide⟩ (Nat.le_of_ble_eq_true rfl) dX3_readSum_68 ⟨(by decide), (by decide)⟩) (fun r324 h325 f327 K326 => ?_)
                  obtain ⟨O328, F329, f330, p331⟩ := K326
                  have e332 : Rv h325 a0 13 = v1 := ((fxR F329 e309 rfl).trans e306)
                  have e333 : Iv h325 a0 4 = v307 := ((fxI F329 e309 rfl).trans e308)
                  have e334 : Jv h325 a0 5 = v311 := ((fxJ F329 e309 rfl).trans e312)
                  have e335 : Rv h325 a0 6 = v314 := ((fxR F329 e309 rfl).trans e315)
                  have p336 := p331.2.2.1
                  rw [e333, e334] at p336
                  have p337 := p331.2.2.2
                  rw [e335] at p337
                  refine g_if_ne C (iw f330 (by decide) (by decide)) 76 (by decide) dX3_readSum_71 (fun q338 => ?_) (fun q339 => ?_)
                  · have f340 : (1 : Int) ≤ (x37 + 1) ∧ (x37 + 1) ≤ (1501 : Int) := ia_add f62 (il 1) (by decide) (by decide)
                    refine g_iinc C [(2, .inl (x37 + 1)), (3, .inl (-22)), (0, .inr (.inr a0)), (1, .inl a1)] 3 rfl (by decide) rfl dX3_readSum_76 ?_
                    refine g_goto C 12 (by decide) dX3_readSum_79 ?_
                    refine GW.sub [2, 3, 0] rfl ?_
                    have e341 : Tg h325 v1 = 2006 := (fxT F329 e323)
                    exact ih40 _ (by omega) (x37 + 1) h325 rfl O328 ((((((F43.call F68 rfl).call F240 rfl).call F261 rfl).call F283 rfl).call F303 rfl).call F329 rfl) (iw f340 (by decide) (by decide)) (by unfold RInv; rw [e332, e333, e334, e335]; exact ⟨e341, p331.2.1, p336, p337⟩)
                  · exact (no_eq f330 (il 0) q339 (by decide)).elim
              · have f342 : (1 : Int) ≤ r256 ∧ r256 ≤ (1 : Int) := r_nl f262 q264
                refine g_bipush C (by decide) dX3_readSum_46 ?_
                refine g_goto C 53 (by decide) dX3_readSum_48 ?_
                refine g_istore_n C [(3, .inl (-21)), (0, .inr (.inr a0)), (1, .inl a1), (2, .inl x37)] rfl (by decide) rfl dX3_readSum_53 ?_
                refine g_aload_n C rfl 1 rfl dX3_readSum_54 ?_
                have e343 : Tg h257 a0 = 4 := (fxT F261 e255)
                have e344 : Rv h257 a0 13 = v1 := ((fxR F261 e255 rfl).trans ((fxR F240 e234 rfl).trans ((fxR F68 e49 rfl).trans e46)))
                have e345 : Iv h257 a0 4 = v47 := ((fxI F261 e255 rfl).trans ((fxI F240 e234 rfl).trans ((fxI F68 e49 rfl).trans e48)))
                have e346 : Jv h257 a0 5 = v51 := ((fxJ F261 e255 rfl).trans ((fxJ F240 e234 rfl).trans ((fxJ F68 e49 rfl).trans e52)))
                have e347 : Rv h257 a0 6 = v54 := ((fxR F261 e255 rfl).trans ((fxR F240 e234 rfl).trans ((fxR F68 e49 rfl).trans e55)))
                have e348 : Tg h257 v1 = 2006 := (fxT F261 (fxT F240 (fxT F68 (fxT F43 (fxT F19 t3)))))
                have e349 : Tg h38 v1 = 2006 := (fxT F43 (fxT F19 t3))
                have e350 : Rv h64 a0 13 = v1 := ((fxR F68 e49 rfl).trans e46)
                have e351 : Tg h64 v1 = 2006 := (fxT F68 e349)
                have e352 : Rv h236 a0 13 = v1 := ((fxR F240 e234 rfl).trans e350)
                have e353 : Tg h236 v1 = 2006 := (fxT F240 e351)
                have p354 := (DOk_fx O239 F261 e255 (by rw [e352]; exact e353) rfl (DOk_fx O67 F240 e234 (by rw [e350]; exact e351) rfl (DOk_fx O42 F68 e49 (by rw [e46]; exact e349) rfl p45.2.1)))
                refine g_callV (st := []) (gc_V C lk_LandSurvey_Reader_46 (k_X3_advance l D cy w z0 O260 e343 (by unfold RInv; rw [e344, e345, e346, e347]; exact ⟨e348, p354, p56, p57⟩)) e343 rfl rfl rfl ⟨by decide, by decide⟩ (Nat.le_of_ble_eq_true rfl) dX3_readSum_55 ⟨(by decide), (by decide)⟩) (fun h356 K357 => ?_)
                obtain ⟨O359, F360, p361⟩ := K357
                have e362 : Rv h356 a0 13 = v1 := ((fxR F360 e343 rfl).trans e344)
                obtain ⟨v363, e364⟩ : ∃ z, Iv h356 a0 4 = z := ⟨_, rfl⟩
                have e365 : Tg h356 a0 = 4 := (fxT F360 e343)
                have f366 := ok_I O359 e365 rI_4_4 e364
                obtain ⟨v367, e368⟩ : ∃ z, Jv h356 a0 5 = z := ⟨_, rfl⟩
                have f369 := inL_J O359 e368
                obtain ⟨v370, e371⟩ : ∃ z, Rv h356 a0 6 = z := ⟨_, rfl⟩
                have p372 := p361.2.2.1
                rw [e364, e368] at p372
                have p373 := p361.2.2.2
                rw [e371] at p373
                refine g_aload_n C rfl 1 rfl dX3_readSum_58 ?_
                refine g_iload_n C rfl 2 rfl dX3_readSum_59 ?_
                have e374 : Tg h356 v1 = 2006 := (fxT F360 e348)
                refine g_callI (st := []) (gc_V C lk_LandSurvey_Reader_250 (k_readFact_0 l D cy w z0 O359 e365 fa1 (by unfold RInv; rw [e362, e364, e368, e371]; exact ⟨e374, p361.2.1, p372, p373⟩)) e365 rfl rfl rfl ⟨by decide, by decide⟩ (Nat.le_of_ble_eq_true rfl) dX3_readSum_60 ⟨(by decide), (by decide)⟩) (fun r375 h376 f378 K377 => ?_)
                obtain ⟨O379, F380, f381, p382⟩ := K377
                have e383 : Rv h376 a0 13 = v1 := ((fxR F380 e365 rfl).trans e362)
                obtain ⟨v384, e385⟩ : ∃ z, Iv h376 a0 4 = z := ⟨_, rfl⟩
                have e386 : Tg h376 a0 = 4 := (fxT F380 e365)
                have f387 := ok_I O379 e386 rI_4_4 e385
                obtain ⟨v388, e389⟩ : ∃ z, Jv h376 a0 5 = z := ⟨_, rfl⟩
                have f390 := inL_J O379 e389
                obtain ⟨v391, e392⟩ : ∃ z, Rv h376 a0 6 = z := ⟨_, rfl⟩
                have p393 := p382.2.2.1
                rw [e385, e389] at p393
                have p394 := p382.2.2.2
                rw [e392] at p394
                refine g_if_eq C (iw f381 (by decide) (by decide)) 74 (by decide) dX3_readSum_63 (fun q395 => ?_) (fun q396 => ?_)
                · have f397 : (0 : Int) ≤ r375 ∧ r375 ≤ (0 : Int) := ii f381 (r_eq (il 0) q395) (by decide) (by decide)
                  refine g_iconst C dX3_readSum_74 ?_
                  have e398 : Tg h376 v1 = 2006 := (fxT F380 e374)
                  exact g_iret C hr (nar_z2 (iw (il 0) (by decide) (by decide))).1 (iw (il 0) (by decide) (by decide)) ⟨O379, ((((((((Fx.rf (wr := wr_k_readSum_0)).call F19 rfl).call F43 rfl).call F68 rfl).call F240 rfl).call F261 rfl).call F360 rfl).call F380 rfl), (iw (il 0) (by decide) (by decide)), (by unfold RInv; rw [e383, e385, e389, e392]; exact ⟨e398, p382.2.1, p393, p394⟩)⟩ (by decide) (by decide) dX3_readSum_75
                · have f399 : (1 : Int) ≤ r375 ∧ r375 ≤ (1 : Int) := r_nl f381 q396
                  refine g_aload_n C rfl 1 rfl dX3_readSum_66 ?_
                  refine g_iload_n C rfl 0 rfl dX3_readSum_67 ?_
                  have e400 : Tg h376 v1 = 2006 := (fxT F380 e374)
                  refine g_callI (st := []) (gc_V C lk_LandSurvey_Reader_244 (k_X3_emit l D cy w z0 O379 e386 (iw (il (-21)) (by decide) (by decide)) (by unfold RInv; rw [e383, e385, e389, e392]; exact ⟨e400, p382.2.1, p393, p394⟩) (by omega)) e386 rfl rfl rfl ⟨by decide, by decide⟩ (Nat.le_of_ble_eq_true rfl) dX3_readSum_68 ⟨(by decide), (by decide)⟩) (fun r401 h402 f404 K403 => ?_)
                  obtain ⟨O405, F406, f407, p408⟩ := K403
                  have e409 : Rv h402 a0 13 = v1 := ((fxR F406 e386 rfl).trans e383)
                  have e410 : Iv h402 a0 4 = v384 := ((fxI F406 e386 rfl).trans e385)
                  have e411 : Jv h402 a0 5 = v388 := ((fxJ F406 e386 rfl).trans e389)
                  have e412 : Rv h402 a0 6 = v391 := ((fxR F406 e386 rfl).trans e392)
                  have p413 := p408.2.2.1
                  rw [e410, e411] at p413
                  have p414 := p408.2.2.2
                  rw [e412] at p414
                  refine g_if_ne C (iw f407 (by decide) (by decide)) 76 (by decide) dX3_readSum_71 (fun q415 => ?_) (fun q416 => ?_)
                  · have f417 : (1 : Int) ≤ (x37 + 1) ∧ (x37 + 1) ≤ (1501 : Int) := ia_add f62 (il 1) (by decide) (by decide)
                    refine g_iinc C [(2, .inl (x37 + 1)), (3, .inl (-21)), (0, .inr (.inr a0)), (1, .inl a1)] 3 rfl (by decide) rfl dX3_readSum_76 ?_
                    refine g_goto C 12 (by decide) dX3_readSum_79 ?_
                    refine GW.sub [2, 3, 0] rfl ?_
                    have e418 : Tg h402 v1 = 2006 := (fxT F406 e400)
                    exact ih40 _ (by omega) (x37 + 1) h402 rfl O405 ((((((F43.call F68 rfl).call F240 rfl).call F261 rfl).call F360 rfl).call F380 rfl).call F406 rfl) (iw f417 (by decide) (by decide)) (by unfold RInv; rw [e409, e410, e411, e412]; exact ⟨e418, p408.2.1, p413, p414⟩)
                  · exact (no_eq f407 (il 0) q416 (by decide)).elim
    have e419 : Tg h15 v1 = 2006 := (fxT F19 t3)
    exact L39 _ 0 h15 rfl O18 Fx.rf (iw (il 0) (by decide) (by decide)) (by unfold RInv; rw [e22, e24, e28, e31]; exact ⟨e419, p21.2.1, p32, p33⟩)
  · have f420 : (0 : Int) ≤ r14 ∧ r14 ≤ (0 : Int) := ii f20 (r_eq (il 0) q35) (by decide) (by decide)
    refine g_iconst C dX3_readSum_8 ?_
    have e421 : Tg h15 v1 = 2006 := (fxT F19 t3)
    exact g_iret C hr (nar_z2 (iw (il 0) (by decide) (by decide))).1 (iw (il 0) (by decide) (by decide)) ⟨O18, ((Fx.rf (wr := wr_k_readSum_0)).call F19 rfl), (iw (il 0) (by decide) (by decide)), (by unfold RInv; rw [e22, e24, e28, e31]; exact ⟨e421, p21.2.1, p32, p33⟩)⟩ (by decide) (by decide) dX3_readSum_9
def wr_k_readTest_0 : List Nat := [802, 803, 804, 805, 806, 807, 812, 4020000]
set_option maxRecDepth 100000 in
set_option maxHeartbeats 4000000 in
theorem k_readTest_0 (l : Launch) (D : va_G) (cy : Nat → ClassId) (w : Nat → Nat) (z0 : Nat)  {h : Hp} {a0 : Nat} {a1 : Int}  (O : Okh h) (ta0 : Tg h a0 = 4) (fa1 : 0 ≤ a1 ∧ a1 ≤ 0) (P_RInv : RInv w h a0) : MI l D cy w z0 yX3_readTest cX3_readTest 3 (some .boolean) 24 543 0 0 [.inr (.inr a0), .inl a1] h (fun v h1 => Okh h1 ∧ Fx wr_k_readTest_0 h h1 ∧ (0 ≤ v ∧ v ≤ 1) ∧ (RInv w h1 a0)) := by
  obtain ⟨v1, e2⟩ : ∃ z, Rv h a0 13 = z := ⟨_, rfl⟩
  have t3 := P_RInv.1
  rw [e2] at t3
  obtain ⟨v4, e5⟩ : ∃ z, Iv h a0 4 = z := ⟨_, rfl⟩
  have f6 := ok_I O ta0 rI_4_4 e5
  obtain ⟨v7, e8⟩ : ∃ z, Jv h a0 5 = z := ⟨_, rfl⟩
  have f9 := inL_J O e8
  obtain ⟨v10, e11⟩ : ∃ z, Rv h a0 6 = z := ⟨_, rfl⟩
  have p12 := P_RInv.2.2.1
  rw [e5, e8] at p12
  have p13 := P_RInv.2.2.2
  rw [e11] at p13
  refine hm_go (by decide +kernel) (Nat.le_of_ble_eq_true rfl) (fun p e s m below meth c C hr hn => ?_)
  refine g_aload_n C rfl 0 rfl dX3_readTest_0 ?_
  refine g_iload_n C rfl 1 rfl dX3_readTest_1 ?_
  refine g_callI (st := []) (gc_V C lk_LandSurvey_Reader_247 (k_readSum_0 l D cy w z0 O ta0 fa1 (by unfold RInv; rw [e2, e5, e8, e11]; exact ⟨t3, P_RInv.2.1, p12, p13⟩)) ta0 rfl rfl rfl ⟨by decide, by decide⟩ (Nat.le_of_ble_eq_true rfl) dX3_readTest_2 ⟨(by decide), (by decide)⟩) (fun r14 h15 f17 K16 => ?_)
  obtain ⟨O18, F19, f20, p21⟩ := K16
  have e22 : Rv h15 a0 13 = v1 := ((fxR F19 ta0 rfl).trans e2)
  obtain ⟨v23, e24⟩ : ∃ z, Iv h15 a0 4 = z := ⟨_, rfl⟩
  have e25 : Tg h15 a0 = 4 := (fxT F19 ta0)
  have f26 := ok_I O18 e25 rI_4_4 e24
  obtain ⟨v27, e28⟩ : ∃ z, Jv h15 a0 5 = z := ⟨_, rfl⟩
  have f29 := inL_J O18 e28
  obtain ⟨v30, e31⟩ : ∃ z, Rv h15 a0 6 = z := ⟨_, rfl⟩
  have p32 := p21.2.2.1
  rw [e24, e28] at p32
  have p33 := p21.2.2.2
  rw [e31] at p33
  refine g_if_ne C (iw f20 (by decide) (by decide)) 10 (by decide) dX3_readTest_5 (fun q34 => ?_) (fun q35 => ?_)
  · have f36 : (1 : Int) ≤ r14 ∧ r14 ≤ (1 : Int) := r_nl f20 q34
    refine g_aload_n C rfl 0 rfl dX3_readTest_10 ?_
    refine g_bipush C (by decide) dX3_readTest_11 ?_
    refine g_callI (st := []) (gc_V C lk_LandSurvey_Reader_95 (k_X3_isNext l D cy w z0 O18 e25 (iw (il 60) (by decide) (by decide))) e25 rfl rfl rfl ⟨by decide, by decide⟩ (Nat.le_of_ble_eq_true rfl) dX3_readTest_13 ⟨(by decide), (by decide)⟩) (fun r37 h38 f40 K39 => ?_)
    obtain ⟨O41, F42, f43⟩ := K39
    refine g_if_ne C (iw f43 (by decide) (by decide)) 30 (by decide) dX3_readTest_16 (fun q44 => ?_) (fun q45 => ?_)
    · have f46 : (1 : Int) ≤ r37 ∧ r37 ≤ (1 : Int) := r_nl f43 q44
      refine g_aload_n C rfl 0 rfl dX3_readTest_30 ?_
      refine g_bipush C (by decide) dX3_readTest_31 ?_
      have e47 : Tg h38 a0 = 4 := (fxT F42 e25)
      refine g_callI (st := []) (gc_V C lk_LandSurvey_Reader_95 (k_X3_isNext l D cy w z0 O41 e47 (iw (il 60) (by decide) (by decide))) e47 rfl rfl rfl ⟨by decide, by decide⟩ (Nat.le_of_ble_eq_true rfl) dX3_readTest_33 ⟨(by decide), (by decide)⟩) (fun r48 h49 f51 K50 => ?_)
      obtain ⟨O52, F53, f54⟩ := K50
      refine g_if_eq C (iw f54 (by decide) (by decide)) 44 (by decide) dX3_readTest_36 (fun q55 => ?_) (fun q56 => ?_)
      · have f57 : (0 : Int) ≤ r48 ∧ r48 ≤ (0 : Int) := ii f54 (r_eq (il 0) q55) (by decide) (by decide)
        refine g_bipush C (by decide) dX3_readTest_44 ?_
        refine g_istore_n C [(2, .inl (-24)), (0, .inr (.inr a0)), (1, .inl a1)] rfl (by decide) rfl dX3_readTest_46 ?_
        refine g_aload_n C rfl 1 rfl dX3_readTest_47 ?_
        have e58 : Tg h49 a0 = 4 := (fxT F53 e47)
        have e59 : Rv h49 a0 13 = v1 := ((fxR F53 e47 rfl).trans ((fxR F42 e25 rfl).trans e22))
        have e60 : Iv h49 a0 4 = v23 := ((fxI F53 e47 rfl).trans ((fxI F42 e25 rfl).trans e24))
        have e61 : Jv h49 a0 5 = v27 := ((fxJ F53 e47 rfl).trans ((fxJ F42 e25 rfl).trans e28))
        have e62 : Rv h49 a0 6 = v30 := ((fxR F53 e47 rfl).trans ((fxR F42 e25 rfl).trans e31))
        have e63 : Tg h49 v1 = 2006 := (fxT F53 (fxT F42 (fxT F19 t3)))
        have e64 : Tg h15 v1 = 2006 := (fxT F19 t3)
        have e65 : Rv h38 a0 13 = v1 := ((fxR F42 e25 rfl).trans e22)
        have e66 : Tg h38 v1 = 2006 := (fxT F42 e64)
        have p67 := (DOk_fx O41 F53 e47 (by rw [e65]; exact e66) rfl (DOk_fx O18 F42 e25 (by rw [e22]; exact e64) rfl p21.2.1))
        refine g_callV (st := []) (gc_V C lk_LandSurvey_Reader_46 (k_X3_advance l D cy w z0 O52 e58 (by unfold RInv; rw [e59, e60, e61, e62]; exact ⟨e63, p67, p32, p33⟩)) e58 rfl rfl rfl ⟨by decide, by decide⟩ (Nat.le_of_ble_eq_true rfl) dX3_readTest_48 ⟨(by decide), (by decide)⟩) (fun h69 K70 => ?_)
        obtain ⟨O72, F73, p74⟩ := K70
        have e75 : Rv h69 a0 13 = v1 := ((fxR F73 e58 rfl).trans e59)
        obtain ⟨v76, e77⟩ : ∃ z, Iv h69 a0 4 = z := ⟨_, rfl⟩
        have e78 : Tg h69 a0 = 4 := (fxT F73 e58)
        have f79 := ok_I O72 e78 rI_4_4 e77
        obtain ⟨v80, e81⟩ : ∃ z, Jv h69 a0 5 = z := ⟨_, rfl⟩
        have f82 := inL_J O72 e81
        obtain ⟨v83, e84⟩ : ∃ z, Rv h69 a0 6 = z := ⟨_, rfl⟩
        have p85 := p74.2.2.1
        rw [e77, e81] at p85
        have p86 := p74.2.2.2
        rw [e84] at p86
        refine g_aload_n C rfl 1 rfl dX3_readTest_51 ?_
        refine g_iload_n C rfl 2 rfl dX3_readTest_52 ?_
        have e87 : Tg h69 v1 = 2006 := (fxT F73 e63)
        refine g_callI (st := []) (gc_V C lk_LandSurvey_Reader_247 (k_readSum_0 l D cy w z0 O72 e78 fa1 (by unfold RInv; rw [e75, e77, e81, e84]; exact ⟨e87, p74.2.1, p85, p86⟩)) e78 rfl rfl rfl ⟨by decide, by decide⟩ (Nat.le_of_ble_eq_true rfl) dX3_readTest_53 ⟨(by decide), (by decide)⟩) (fun r88 h89 f91 K90 => ?_)
        obtain ⟨O92, F93, f94, p95⟩ := K90
        have e96 : Rv h89 a0 13 = v1 := ((fxR F93 e78 rfl).trans e75)
        obtain ⟨v97, e98⟩ : ∃ z, Iv h89 a0 4 = z := ⟨_, rfl⟩
        have e99 : Tg h89 a0 = 4 := (fxT F93 e78)
        have f100 := ok_I O92 e99 rI_4_4 e98
        obtain ⟨v101, e102⟩ : ∃ z, Jv h89 a0 5 = z := ⟨_, rfl⟩
        have f103 := inL_J O92 e102
        obtain ⟨v104, e105⟩ : ∃ z, Rv h89 a0 6 = z := ⟨_, rfl⟩
        have p106 := p95.2.2.1
        rw [e98, e102] at p106
        have p107 := p95.2.2.2
        rw [e105] at p107
        refine g_if_eq C (iw f94 (by decide) (by decide)) 71 (by decide) dX3_readTest_56 (fun q108 => ?_) (fun q109 => ?_)
        · have f110 : (0 : Int) ≤ r88 ∧ r88 ≤ (0 : Int) := ii f94 (r_eq (il 0) q108) (by decide) (by decide)
          refine g_iconst C dX3_readTest_71 ?_
          have e111 : Tg h89 v1 = 2006 := (fxT F93 e87)
          exact g_iret C hr (nar_z2 (iw (il 0) (by decide) (by decide))).1 (iw (il 0) (by decide) (by decide)) ⟨O92, ((((((Fx.rf (wr := wr_k_readTest_0)).call F19 rfl).call F42 rfl).call F53 rfl).call F73 rfl).call F93 rfl), (iw (il 0) (by decide) (by decide)), (by unfold RInv; rw [e96, e98, e102, e105]; exact ⟨e111, p95.2.1, p106, p107⟩)⟩ (by decide) (by decide) dX3_readTest_72
        · have f112 : (1 : Int) ≤ r88 ∧ r88 ≤ (1 : Int) := r_nl f94 q109
          refine g_aload_n C rfl 1 rfl dX3_readTest_59 ?_
          refine g_iload_n C rfl 0 rfl dX3_readTest_60 ?_
          have e113 : Tg h89 v1 = 2006 := (fxT F93 e87)
          refine g_callI (st := []) (gc_V C lk_LandSurvey_Reader_244 (k_X3_emit l D cy w z0 O92 e99 (iw (il (-24)) (by decide) (by decide)) (by unfold RInv; rw [e96, e98, e102, e105]; exact ⟨e113, p95.2.1, p106, p107⟩) (by omega)) e99 rfl rfl rfl ⟨by decide, by decide⟩ (Nat.le_of_ble_eq_true rfl) dX3_readTest_61 ⟨(by decide), (by decide)⟩) (fun r114 h115 f117 K116 => ?_)
          obtain ⟨O118, F119, f120, p121⟩ := K116
          have e122 : Rv h115 a0 13 = v1 := ((fxR F119 e99 rfl).trans e96)
          have e123 : Iv h115 a0 4 = v97 := ((fxI F119 e99 rfl).trans e98)
          have e124 : Jv h115 a0 5 = v101 := ((fxJ F119 e99 rfl).trans e102)
          have e125 : Rv h115 a0 6 = v104 := ((fxR F119 e99 rfl).trans e105)
          have p126 := p121.2.2.1
          rw [e123, e124] at p126
          have p127 := p121.2.2.2
          rw [e125] at p127
          refine g_if_eq C (iw f120 (by decide) (by decide)) 71 (by decide) dX3_readTest_64 (fun q128 => ?_) (fun q129 => ?_)
          · exact (no_eq f120 (il 0) q128 (by decide)).elim
          · refine g_iconst C dX3_readTest_67 ?_
            refine g_goto C 72 (by decide) dX3_readTest_68 ?_
            have e130 : Tg h115 v1 = 2006 := (fxT F119 e113)
            exact g_iret C hr (nar_z2 (iw (il 1) (by decide) (by decide))).1 (iw (il 1) (by decide) (by decide)) ⟨O118, (((((((Fx.rf (wr := wr_k_readTest_0)).call F19 rfl).call F42 rfl).call F53 rfl).call F73 rfl).call F93 rfl).call F119 rfl), (iw (il 1) (by decide) (by decide)), (by unfold RInv; rw [e122, e123, e124, e125]; exact ⟨e130, p121.2.1, p126, p127⟩)⟩ (by decide) (by decide) dX3_readTest_72
      · have f131 : (1 : Int) ≤ r48 ∧ r48 ≤ (1 : Int) := r_nl f54 q56
        refine g_bipush C (by decide) dX3_readTest_39 ?_
        refine g_goto C 46 (by decide) dX3_readTest_41 ?_
        refine g_istore_n C [(2, .inl (-23)), (0, .inr (.inr a0)), (1, .inl a1)] rfl (by decide) rfl dX3_readTest_46 ?_
        refine g_aload_n C rfl 1 rfl dX3_readTest_47 ?_
        have e132 : Tg h49 a0 = 4 := (fxT F53 e47)
        have e133 : Rv h49 a0 13 = v1 := ((fxR F53 e47 rfl).trans ((fxR F42 e25 rfl).trans e22))
        have e134 : Iv h49 a0 4 = v23 := ((fxI F53 e47 rfl).trans ((fxI F42 e25 rfl).trans e24))
        have e135 : Jv h49 a0 5 = v27 := ((fxJ F53 e47 rfl).trans ((fxJ F42 e25 rfl).trans e28))
        have e136 : Rv h49 a0 6 = v30 := ((fxR F53 e47 rfl).trans ((fxR F42 e25 rfl).trans e31))
        have e137 : Tg h49 v1 = 2006 := (fxT F53 (fxT F42 (fxT F19 t3)))
        have e138 : Tg h15 v1 = 2006 := (fxT F19 t3)
        have e139 : Rv h38 a0 13 = v1 := ((fxR F42 e25 rfl).trans e22)
        have e140 : Tg h38 v1 = 2006 := (fxT F42 e138)
        have p141 := (DOk_fx O41 F53 e47 (by rw [e139]; exact e140) rfl (DOk_fx O18 F42 e25 (by rw [e22]; exact e138) rfl p21.2.1))
        refine g_callV (st := []) (gc_V C lk_LandSurvey_Reader_46 (k_X3_advance l D cy w z0 O52 e132 (by unfold RInv; rw [e133, e134, e135, e136]; exact ⟨e137, p141, p32, p33⟩)) e132 rfl rfl rfl ⟨by decide, by decide⟩ (Nat.le_of_ble_eq_true rfl) dX3_readTest_48 ⟨(by decide), (by decide)⟩) (fun h143 K144 => ?_)
        obtain ⟨O146, F147, p148⟩ := K144
        have e149 : Rv h143 a0 13 = v1 := ((fxR F147 e132 rfl).trans e133)
        obtain ⟨v150, e151⟩ : ∃ z, Iv h143 a0 4 = z := ⟨_, rfl⟩
        have e152 : Tg h143 a0 = 4 := (fxT F147 e132)
        have f153 := ok_I O146 e152 rI_4_4 e151
        obtain ⟨v154, e155⟩ : ∃ z, Jv h143 a0 5 = z := ⟨_, rfl⟩
        have f156 := inL_J O146 e155
        obtain ⟨v157, e158⟩ : ∃ z, Rv h143 a0 6 = z := ⟨_, rfl⟩
        have p159 := p148.2.2.1
        rw [e151, e155] at p159
        have p160 := p148.2.2.2
        rw [e158] at p160
        refine g_aload_n C rfl 1 rfl dX3_readTest_51 ?_
        refine g_iload_n C rfl 2 rfl dX3_readTest_52 ?_
        have e161 : Tg h143 v1 = 2006 := (fxT F147 e137)
        refine g_callI (st := []) (gc_V C lk_LandSurvey_Reader_247 (k_readSum_0 l D cy w z0 O146 e152 fa1 (by unfold RInv; rw [e149, e151, e155, e158]; exact ⟨e161, p148.2.1, p159, p160⟩)) e152 rfl rfl rfl ⟨by decide, by decide⟩ (Nat.le_of_ble_eq_true rfl) dX3_readTest_53 ⟨(by decide), (by decide)⟩) (fun r162 h163 f165 K164 => ?_)
        obtain ⟨O166, F167, f168, p169⟩ := K164
        have e170 : Rv h163 a0 13 = v1 := ((fxR F167 e152 rfl).trans e149)
        obtain ⟨v171, e172⟩ : ∃ z, Iv h163 a0 4 = z := ⟨_, rfl⟩
        have e173 : Tg h163 a0 = 4 := (fxT F167 e152)
        have f174 := ok_I O166 e173 rI_4_4 e172
        obtain ⟨v175, e176⟩ : ∃ z, Jv h163 a0 5 = z := ⟨_, rfl⟩
        have f177 := inL_J O166 e176
        obtain ⟨v178, e179⟩ : ∃ z, Rv h163 a0 6 = z := ⟨_, rfl⟩
        have p180 := p169.2.2.1
        rw [e172, e176] at p180
        have p181 := p169.2.2.2
        rw [e179] at p181
        refine g_if_eq C (iw f168 (by decide) (by decide)) 71 (by decide) dX3_readTest_56 (fun q182 => ?_) (fun q183 => ?_)
        · have f184 : (0 : Int) ≤ r162 ∧ r162 ≤ (0 : Int) := ii f168 (r_eq (il 0) q182) (by decide) (by decide)
          refine g_iconst C dX3_readTest_71 ?_
          have e185 : Tg h163 v1 = 2006 := (fxT F167 e161)
          exact g_iret C hr (nar_z2 (iw (il 0) (by decide) (by decide))).1 (iw (il 0) (by decide) (by decide)) ⟨O166, ((((((Fx.rf (wr := wr_k_readTest_0)).call F19 rfl).call F42 rfl).call F53 rfl).call F147 rfl).call F167 rfl), (iw (il 0) (by decide) (by decide)), (by unfold RInv; rw [e170, e172, e176, e179]; exact ⟨e185, p169.2.1, p180, p181⟩)⟩ (by decide) (by decide) dX3_readTest_72
        · have f186 : (1 : Int) ≤ r162 ∧ r162 ≤ (1 : Int) := r_nl f168 q183
          refine g_aload_n C rfl 1 rfl dX3_readTest_59 ?_
          refine g_iload_n C rfl 0 rfl dX3_readTest_60 ?_
          have e187 : Tg h163 v1 = 2006 := (fxT F167 e161)
          refine g_callI (st := []) (gc_V C lk_LandSurvey_Reader_244 (k_X3_emit l D cy w z0 O166 e173 (iw (il (-23)) (by decide) (by decide)) (by unfold RInv; rw [e170, e172, e176, e179]; exact ⟨e187, p169.2.1, p180, p181⟩) (by omega)) e173 rfl rfl rfl ⟨by decide, by decide⟩ (Nat.le_of_ble_eq_true rfl) dX3_readTest_61 ⟨(by decide), (by decide)⟩) (fun r188 h189 f191 K190 => ?_)
          obtain ⟨O192, F193, f194, p195⟩ := K190
          have e196 : Rv h189 a0 13 = v1 := ((fxR F193 e173 rfl).trans e170)
          have e197 : Iv h189 a0 4 = v171 := ((fxI F193 e173 rfl).trans e172)
          have e198 : Jv h189 a0 5 = v175 := ((fxJ F193 e173 rfl).trans e176)
          have e199 : Rv h189 a0 6 = v178 := ((fxR F193 e173 rfl).trans e179)
          have p200 := p195.2.2.1
          rw [e197, e198] at p200
          have p201 := p195.2.2.2
          rw [e199] at p201
          refine g_if_eq C (iw f194 (by decide) (by decide)) 71 (by decide) dX3_readTest_64 (fun q202 => ?_) (fun q203 => ?_)
          · exact (no_eq f194 (il 0) q202 (by decide)).elim
          · refine g_iconst C dX3_readTest_67 ?_
            refine g_goto C 72 (by decide) dX3_readTest_68 ?_
            have e204 : Tg h189 v1 = 2006 := (fxT F193 e187)
            exact g_iret C hr (nar_z2 (iw (il 1) (by decide) (by decide))).1 (iw (il 1) (by decide) (by decide)) ⟨O192, (((((((Fx.rf (wr := wr_k_readTest_0)).call F19 rfl).call F42 rfl).call F53 rfl).call F147 rfl).call F167 rfl).call F193 rfl), (iw (il 1) (by decide) (by decide)), (by unfold RInv; rw [e196, e197, e198, e199]; exact ⟨e204, p195.2.1, p200, p201⟩)⟩ (by decide) (by decide) dX3_readTest_72
    · have f205 : (0 : Int) ≤ r37 ∧ r37 ≤ (0 : Int) := ii f43 (r_eq (il 0) q45) (by decide) (by decide)
      refine g_aload_n C rfl 0 rfl dX3_readTest_19 ?_
      refine g_bipush C (by decide) dX3_readTest_20 ?_
      have e206 : Tg h38 a0 = 4 := (fxT F42 e25)
      refine g_callI (st := []) (gc_V C lk_LandSurvey_Reader_95 (k_X3_isNext l D cy w z0 O41 e206 (iw (il 61) (by decide) (by decide))) e206 rfl rfl rfl ⟨by decide, by decide⟩ (Nat.le_of_ble_eq_true rfl) dX3_readTest_22 ⟨(by decide), (by decide)⟩) (fun r207 h208 f210 K209 => ?_)
      obtain ⟨O211, F212, f213⟩ := K209
      refine g_if_ne C (iw f213 (by decide) (by decide)) 30 (by decide) dX3_readTest_25 (fun q214 => ?_) (fun q215 => ?_)
      · have f216 : (1 : Int) ≤ r207 ∧ r207 ≤ (1 : Int) := r_nl f213 q214
        refine g_aload_n C rfl 0 rfl dX3_readTest_30 ?_
        refine g_bipush C (by decide) dX3_readTest_31 ?_
        have e217 : Tg h208 a0 = 4 := (fxT F212 e206)
        refine g_callI (st := []) (gc_V C lk_LandSurvey_Reader_95 (k_X3_isNext l D cy w z0 O211 e217 (iw (il 60) (by decide) (by decide))) e217 rfl rfl rfl ⟨by decide, by decide⟩ (Nat.le_of_ble_eq_true rfl) dX3_readTest_33 ⟨(by decide), (by decide)⟩) (fun r218 h219 f221 K220 => ?_)
        obtain ⟨O222, F223, f224⟩ := K220
        refine g_if_eq C (iw f224 (by decide) (by decide)) 44 (by decide) dX3_readTest_36 (fun q225 => ?_) (fun q226 => ?_)
        · have f227 : (0 : Int) ≤ r218 ∧ r218 ≤ (0 : Int) := ii f224 (r_eq (il 0) q225) (by decide) (by decide)
          refine g_bipush C (by decide) dX3_readTest_44 ?_
          refine g_istore_n C [(2, .inl (-24)), (0, .inr (.inr a0)), (1, .inl a1)] rfl (by decide) rfl dX3_readTest_46 ?_
          refine g_aload_n C rfl 1 rfl dX3_readTest_47 ?_
          have e228 : Tg h219 a0 = 4 := (fxT F223 e217)
          have e229 : Rv h219 a0 13 = v1 := ((fxR F223 e217 rfl).trans ((fxR F212 e206 rfl).trans ((fxR F42 e25 rfl).trans e22)))
          have e230 : Iv h219 a0 4 = v23 := ((fxI F223 e217 rfl).trans ((fxI F212 e206 rfl).trans ((fxI F42 e25 rfl).trans e24)))
          have e231 : Jv h219 a0 5 = v27 := ((fxJ F223 e217 rfl).trans ((fxJ F212 e206 rfl).trans ((fxJ F42 e25 rfl).trans e28)))
          have e232 : Rv h219 a0 6 = v30 := ((fxR F223 e217 rfl).trans ((fxR F212 e206 rfl).trans ((fxR F42 e25 rfl).trans e31)))
          have e233 : Tg h219 v1 = 2006 := (fxT F223 (fxT F212 (fxT F42 (fxT F19 t3))))
          have e234 : Tg h15 v1 = 2006 := (fxT F19 t3)
          have e235 : Rv h38 a0 13 = v1 := ((fxR F42 e25 rfl).trans e22)
          have e236 : Tg h38 v1 = 2006 := (fxT F42 e234)
          have e237 : Rv h208 a0 13 = v1 := ((fxR F212 e206 rfl).trans e235)
          have e238 : Tg h208 v1 = 2006 := (fxT F212 e236)
          have p239 := (DOk_fx O211 F223 e217 (by rw [e237]; exact e238) rfl (DOk_fx O41 F212 e206 (by rw [e235]; exact e236) rfl (DOk_fx O18 F42 e25 (by rw [e22]; exact e234) rfl p21.2.1)))
          refine g_callV (st := []) (gc_V C lk_LandSurvey_Reader_46 (k_X3_advance l D cy w z0 O222 e228 (by unfold RInv; rw [e229, e230, e231, e232]; exact ⟨e233, p239, p32, p33⟩)) e228 rfl rfl rfl ⟨by decide, by decide⟩ (Nat.le_of_ble_eq_true rfl) dX3_readTest_48 ⟨(by decide), (by decide)⟩) (fun h241 K242 => ?_)
          obtain ⟨O244, F245, p246⟩ := K242
          have e247 : Rv h241 a0 13 = v1 := ((fxR F245 e228 rfl).trans e229)
          obtain ⟨v248, e249⟩ : ∃ z, Iv h241 a0 4 = z := ⟨_, rfl⟩
          have e250 : Tg h241 a0 = 4 := (fxT F245 e228)
          have f251 := ok_I O244 e250 rI_4_4 e249
          obtain ⟨v252, e253⟩ : ∃ z, Jv h241 a0 5 = z := ⟨_, rfl⟩
          have f254 := inL_J O244 e253
          obtain ⟨v255, e256⟩ : ∃ z, Rv h241 a0 6 = z := ⟨_, rfl⟩
          have p257 := p246.2.2.1
          rw [e249, e253] at p257
          have p258 := p246.2.2.2
          rw [e256] at p258
          refine g_aload_n C rfl 1 rfl dX3_readTest_51 ?_
          refine g_iload_n C rfl 2 rfl dX3_readTest_52 ?_
          have e259 : Tg h241 v1 = 2006 := (fxT F245 e233)
          refine g_callI (st := []) (gc_V C lk_LandSurvey_Reader_247 (k_readSum_0 l D cy w z0 O244 e250 fa1 (by unfold RInv; rw [e247, e249, e253, e256]; exact ⟨e259, p246.2.1, p257, p258⟩)) e250 rfl rfl rfl ⟨by decide, by decide⟩ (Nat.le_of_ble_eq_true rfl) dX3_readTest_53 ⟨(by decide), (by decide)⟩) (fun r260 h261 f263 K262 => ?_)
          obtain ⟨O264, F265, f266, p267⟩ := K262
          have e268 : Rv h261 a0 13 = v1 := ((fxR F265 e250 rfl).trans e247)
          obtain ⟨v269, e270⟩ : ∃ z, Iv h261 a0 4 = z := ⟨_, rfl⟩
          have e271 : Tg h261 a0 = 4 := (fxT F265 e250)
          have f272 := ok_I O264 e271 rI_4_4 e270
          obtain ⟨v273, e274⟩ : ∃ z, Jv h261 a0 5 = z := ⟨_, rfl⟩
          have f275 := inL_J O264 e274
          obtain ⟨v276, e277⟩ : ∃ z, Rv h261 a0 6 = z := ⟨_, rfl⟩
          have p278 := p267.2.2.1
          rw [e270, e274] at p278
          have p279 := p267.2.2.2
          rw [e277] at p279
          refine g_if_eq C (iw f266 (by decide) (by decide)) 71 (by decide) dX3_readTest_56 (fun q280 => ?_) (fun q281 => ?_)
          · have f282 : (0 : Int) ≤ r260 ∧ r260 ≤ (0 : Int) := ii f266 (r_eq (il 0) q280) (by decide) (by decide)
            refine g_iconst C dX3_readTest_71 ?_
            have e283 : Tg h261 v1 = 2006 := (fxT F265 e259)
            exact g_iret C hr (nar_z2 (iw (il 0) (by decide) (by decide))).1 (iw (il 0) (by decide) (by decide)) ⟨O264, (((((((Fx.rf (wr := wr_k_readTest_0)).call F19 rfl).call F42 rfl).call F212 rfl).call F223 rfl).call F245 rfl).call F265 rfl), (iw (il 0) (by decide) (by decide)), (by unfold RInv; rw [e268, e270, e274, e277]; exact ⟨e283, p267.2.1, p278, p279⟩)⟩ (by decide) (by decide) dX3_readTest_72
          · have f284 : (1 : Int) ≤ r260 ∧ r260 ≤ (1 : Int) := r_nl f266 q281
            refine g_aload_n C rfl 1 rfl dX3_readTest_59 ?_
            refine g_iload_n C rfl 0 rfl dX3_readTest_60 ?_
            have e285 : Tg h261 v1 = 2006 := (fxT F265 e259)
            refine g_callI (st := []) (gc_V C lk_LandSurvey_Reader_244 (k_X3_emit l D cy w z0 O264 e271 (iw (il (-24)) (by decide) (by decide)) (by unfold RInv; rw [e268, e270, e274, e277]; exact ⟨e285, p267.2.1, p278, p279⟩) (by omega)) e271 rfl rfl rfl ⟨by decide, by decide⟩ (Nat.le_of_ble_eq_true rfl) dX3_readTest_61 ⟨(by decide), (by decide)⟩) (fun r286 h287 f289 K288 => ?_)
            obtain ⟨O290, F291, f292, p293⟩ := K288
            have e294 : Rv h287 a0 13 = v1 := ((fxR F291 e271 rfl).trans e268)
            have e295 : Iv h287 a0 4 = v269 := ((fxI F291 e271 rfl).trans e270)
            have e296 : Jv h287 a0 5 = v273 := ((fxJ F291 e271 rfl).trans e274)
            have e297 : Rv h287 a0 6 = v276 := ((fxR F291 e271 rfl).trans e277)
            have p298 := p293.2.2.1
            rw [e295, e296] at p298
            have p299 := p293.2.2.2
            rw [e297] at p299
            refine g_if_eq C (iw f292 (by decide) (by decide)) 71 (by decide) dX3_readTest_64 (fun q300 => ?_) (fun q301 => ?_)
            · exact (no_eq f292 (il 0) q300 (by decide)).elim
            · refine g_iconst C dX3_readTest_67 ?_
              refine g_goto C 72 (by decide) dX3_readTest_68 ?_
              have e302 : Tg h287 v1 = 2006 := (fxT F291 e285)
              exact g_iret C hr (nar_z2 (iw (il 1) (by decide) (by decide))).1 (iw (il 1) (by decide) (by decide)) ⟨O290, ((((((((Fx.rf (wr := wr_k_readTest_0)).call F19 rfl).call F42 rfl).call F212 rfl).call F223 rfl).call F245 rfl).call F265 rfl).call F291 rfl), (iw (il 1) (by decide) (by decide)), (by unfold RInv; rw [e294, e295, e296, e297]; exact ⟨e302, p293.2.1, p298, p299⟩)⟩ (by decide) (by decide) dX3_readTest_72
        · have f303 : (1 : Int) ≤ r218 ∧ r218 ≤ (1 : Int) := r_nl f224 q226
          refine g_bipush C (by decide) dX3_readTest_39 ?_
          refine g_goto C 46 (by decide) dX3_readTest_41 ?_
          refine g_istore_n C [(2, .inl (-23)), (0, .inr (.inr a0)), (1, .inl a1)] rfl (by decide) rfl dX3_readTest_46 ?_
          refine g_aload_n C rfl 1 rfl dX3_readTest_47 ?_
          have e304 : Tg h219 a0 = 4 := (fxT F223 e217)
          have e305 : Rv h219 a0 13 = v1 := ((fxR F223 e217 rfl).trans ((fxR F212 e206 rfl).trans ((fxR F42 e25 rfl).trans e22)))
          have e306 : Iv h219 a0 4 = v23 := ((fxI F223 e217 rfl).trans ((fxI F212 e206 rfl).trans ((fxI F42 e25 rfl).trans e24)))
          have e307 : Jv h219 a0 5 = v27 := ((fxJ F223 e217 rfl).trans ((fxJ F212 e206 rfl).trans ((fxJ F42 e25 rfl).trans e28)))
          have e308 : Rv h219 a0 6 = v30 := ((fxR F223 e217 rfl).trans ((fxR F212 e206 rfl).trans ((fxR F42 e25 rfl).trans e31)))
          have e309 : Tg h219 v1 = 2006 := (fxT F223 (fxT F212 (fxT F42 (fxT F19 t3))))
          have e310 : Tg h15 v1 = 2006 := (fxT F19 t3)
          have e311 : Rv h38 a0 13 = v1 := ((fxR F42 e25 rfl).trans e22)
          have e312 : Tg h38 v1 = 2006 := (fxT F42 e310)
          have e313 : Rv h208 a0 13 = v1 := ((fxR F212 e206 rfl).trans e311)
          have e314 : Tg h208 v1 = 2006 := (fxT F212 e312)
          have p315 := (DOk_fx O211 F223 e217 (by rw [e313]; exact e314) rfl (DOk_fx O41 F212 e206 (by rw [e311]; exact e312) rfl (DOk_fx O18 F42 e25 (by rw [e22]; exact e310) rfl p21.2.1)))
          refine g_callV (st := []) (gc_V C lk_LandSurvey_Reader_46 (k_X3_advance l D cy w z0 O222 e304 (by unfold RInv; rw [e305, e306, e307, e308]; exact ⟨e309, p315, p32, p33⟩)) e304 rfl rfl rfl ⟨by decide, by decide⟩ (Nat.le_of_ble_eq_true rfl) dX3_readTest_48 ⟨(by decide), (by decide)⟩) (fun h317 K318 => ?_)
          obtain ⟨O320, F321, p322⟩ := K318
          have e323 : Rv h317 a0 13 = v1 := ((fxR F321 e304 rfl).trans e305)
          obtain ⟨v324, e325⟩ : ∃ z, Iv h317 a0 4 = z := ⟨_, rfl⟩
          have e326 : Tg h317 a0 = 4 := (fxT F321 e304)
          have f327 := ok_I O320 e326 rI_4_4 e325
          obtain ⟨v328, e329⟩ : ∃ z, Jv h317 a0 5 = z := ⟨_, rfl⟩
          have f330 := inL_J O320 e329
          obtain ⟨v331, e332⟩ : ∃ z, Rv h317 a0 6 = z := ⟨_, rfl⟩
          have p333 := p322.2.2.1
          rw [e325, e329] at p333
          have p334 := p322.2.2.2
          rw [e332] at p334
          refine g_aload_n C rfl 1 rfl dX3_readTest_51 ?_
          refine g_iload_n C rfl 2 rfl dX3_readTest_52 ?_
          have e335 : Tg h317 v1 = 2006 := (fxT F321 e309)
          refine g_callI (st := []) (gc_V C lk_LandSurvey_Reader_247 (k_readSum_0 l D cy w z0 O320 e326 fa1 (by unfold RInv; rw [e323, e325, e329, e332]; exact ⟨e335, p322.2.1, p333, p334⟩)) e326 rfl rfl rfl ⟨by decide, by decide⟩ (Nat.le_of_ble_eq_true rfl) dX3_readTest_53 ⟨(by decide), (by decide)⟩) (fun r336 h337 f339 K338 => ?_)
          obtain ⟨O340, F341, f342, p343⟩ := K338
          have e344 : Rv h337 a0 13 = v1 := ((fxR F341 e326 rfl).trans e323)
          obtain ⟨v345, e346⟩ : ∃ z, Iv h337 a0 4 = z := ⟨_, rfl⟩
          have e347 : Tg h337 a0 = 4 := (fxT F341 e326)
          have f348 := ok_I O340 e347 rI_4_4 e346
          obtain ⟨v349, e350⟩ : ∃ z, Jv h337 a0 5 = z := ⟨_, rfl⟩
          have f351 := inL_J O340 e350
          obtain ⟨v352, e353⟩ : ∃ z, Rv h337 a0 6 = z := ⟨_, rfl⟩
          have p354 := p343.2.2.1
          rw [e346, e350] at p354
          have p355 := p343.2.2.2
          rw [e353] at p355
          refine g_if_eq C (iw f342 (by decide) (by decide)) 71 (by decide) dX3_readTest_56 (fun q356 => ?_) (fun q357 => ?_)
          · have f358 : (0 : Int) ≤ r336 ∧ r336 ≤ (0 : Int) := ii f342 (r_eq (il 0) q356) (by decide) (by decide)
            refine g_iconst C dX3_readTest_71 ?_
            have e359 : Tg h337 v1 = 2006 := (fxT F341 e335)
            exact g_iret C hr (nar_z2 (iw (il 0) (by decide) (by decide))).1 (iw (il 0) (by decide) (by decide)) ⟨O340, (((((((Fx.rf (wr := wr_k_readTest_0)).call F19 rfl).call F42 rfl).call F212 rfl).call F223 rfl).call F321 rfl).call F341 rfl), (iw (il 0) (by decide) (by decide)), (by unfold RInv; rw [e344, e346, e350, e353]; exact ⟨e359, p343.2.1, p354, p355⟩)⟩ (by decide) (by decide) dX3_readTest_72
          · have f360 : (1 : Int) ≤ r336 ∧ r336 ≤ (1 : Int) := r_nl f342 q357
            refine g_aload_n C rfl 1 rfl dX3_readTest_59 ?_
            refine g_iload_n C rfl 0 rfl dX3_readTest_60 ?_
            have e361 : Tg h337 v1 = 2006 := (fxT F341 e335)
            refine g_callI (st := []) (gc_V C lk_LandSurvey_Reader_244 (k_X3_emit l D cy w z0 O340 e347 (iw (il (-23)) (by decide) (by decide)) (by unfold RInv; rw [e344, e346, e350, e353]; exact ⟨e361, p343.2.1, p354, p355⟩) (by omega)) e347 rfl rfl rfl ⟨by decide, by decide⟩ (Nat.le_of_ble_eq_true rfl) dX3_readTest_61 ⟨(by decide), (by decide)⟩) (fun r362 h363 f365 K364 => ?_)
            obtain ⟨O366, F367, f368, p369⟩ := K364
            have e370 : Rv h363 a0 13 = v1 := ((fxR F367 e347 rfl).trans e344)
            have e371 : Iv h363 a0 4 = v345 := ((fxI F367 e347 rfl).trans e346)
            have e372 : Jv h363 a0 5 = v349 := ((fxJ F367 e347 rfl).trans e350)
            have e373 : Rv h363 a0 6 = v352 := ((fxR F367 e347 rfl).trans e353)
            have p374 := p369.2.2.1
            rw [e371, e372] at p374
            have p375 := p369.2.2.2
            rw [e373] at p375
            refine g_if_eq C (iw f368 (by decide) (by decide)) 71 (by decide) dX3_readTest_64 (fun q376 => ?_) (fun q377 => ?_)
            · exact (no_eq f368 (il 0) q376 (by decide)).elim
            · refine g_iconst C dX3_readTest_67 ?_
              refine g_goto C 72 (by decide) dX3_readTest_68 ?_
              have e378 : Tg h363 v1 = 2006 := (fxT F367 e361)
              exact g_iret C hr (nar_z2 (iw (il 1) (by decide) (by decide))).1 (iw (il 1) (by decide) (by decide)) ⟨O366, ((((((((Fx.rf (wr := wr_k_readTest_0)).call F19 rfl).call F42 rfl).call F212 rfl).call F223 rfl).call F321 rfl).call F341 rfl).call F367 rfl), (iw (il 1) (by decide) (by decide)), (by unfold RInv; rw [e370, e371, e372, e373]; exact ⟨e378, p369.2.1, p374, p375⟩)⟩ (by decide) (by decide) dX3_readTest_72
      · have f379 : (0 : Int) ≤ r207 ∧ r207 ≤ (0 : Int) := ii f213 (r_eq (il 0) q215) (by decide) (by decide)
        refine g_iconst C dX3_readTest_28 ?_
        have e380 : Rv h208 a0 13 = v1 := ((fxR F212 e206 rfl).trans ((fxR F42 e25 rfl).trans e22))
        have e381 : Iv h208 a0 4 = v23 := ((fxI F212 e206 rfl).trans ((fxI F42 e25 rfl).trans e24))
        have e382 : Jv h208 a0 5 = v27 := ((fxJ F212 e206 rfl).trans ((fxJ F42 e25 rfl).trans e28))
        have e383 : Rv h208 a0 6 = v30 := ((fxR F212 e206 rfl).trans ((fxR F42 e25 rfl).trans e31))
        have e384 : Tg h208 v1 = 2006 := (fxT F212 (fxT F42 (fxT F19 t3)))
        have e385 : Tg h15 v1 = 2006 := (fxT F19 t3)
        have e386 : Rv h38 a0 13 = v1 := ((fxR F42 e25 rfl).trans e22)
        have e387 : Tg h38 v1 = 2006 := (fxT F42 e385)
        have p388 := (DOk_fx O41 F212 e206 (by rw [e386]; exact e387) rfl (DOk_fx O18 F42 e25 (by rw [e22]; exact e385) rfl p21.2.1))
        exact g_iret C hr (nar_z2 (iw (il 1) (by decide) (by decide))).1 (iw (il 1) (by decide) (by decide)) ⟨O211, ((((Fx.rf (wr := wr_k_readTest_0)).call F19 rfl).call F42 rfl).call F212 rfl), (iw (il 1) (by decide) (by decide)), (by unfold RInv; rw [e380, e381, e382, e383]; exact ⟨e384, p388, p32, p33⟩)⟩ (by decide) (by decide) dX3_readTest_29
  · have f389 : (0 : Int) ≤ r14 ∧ r14 ≤ (0 : Int) := ii f20 (r_eq (il 0) q35) (by decide) (by decide)
    refine g_iconst C dX3_readTest_8 ?_
    have e390 : Tg h15 v1 = 2006 := (fxT F19 t3)
    exact g_iret C hr (nar_z2 (iw (il 0) (by decide) (by decide))).1 (iw (il 0) (by decide) (by decide)) ⟨O18, ((Fx.rf (wr := wr_k_readTest_0)).call F19 rfl), (iw (il 0) (by decide) (by decide)), (by unfold RInv; rw [e22, e24, e28, e31]; exact ⟨e390, p21.2.1, p32, p33⟩)⟩ (by decide) (by decide) dX3_readTest_9
def wr_k_readTests_0 : List Nat := [802, 803, 804, 805, 806, 807, 812, 4020000]
set_option maxRecDepth 100000 in
set_option maxHeartbeats 4000000 in
theorem k_readTests_0 (l : Launch) (D : va_G) (cy : Nat → ClassId) (w : Nat → Nat) (z0 : Nat)  {h : Hp} {a0 : Nat} {a1 : Int}  (O : Okh h) (ta0 : Tg h a0 = 4) (fa1 : 0 ≤ a1 ∧ a1 ≤ 0) (P_RInv : RInv w h a0) : MI l D cy w z0 yX3_readTests cX3_readTests 4 (some .boolean) 25 565 0 0 [.inr (.inr a0), .inl a1] h (fun v h1 => Okh h1 ∧ Fx wr_k_readTests_0 h h1 ∧ (0 ≤ v ∧ v ≤ 1) ∧ (RInv w h1 a0)) := by
  obtain ⟨v1, e2⟩ : ∃ z, Rv h a0 13 = z := ⟨_, rfl⟩
  have t3 := P_RInv.1
  rw [e2] at t3
  obtain ⟨v4, e5⟩ : ∃ z, Iv h a0 4 = z := ⟨_, rfl⟩
  have f6 := ok_I O ta0 rI_4_4 e5
  obtain ⟨v7, e8⟩ : ∃ z, Jv h a0 5 = z := ⟨_, rfl⟩
  have f9 := inL_J O e8
  obtain ⟨v10, e11⟩ : ∃ z, Rv h a0 6 = z := ⟨_, rfl⟩
  have p12 := P_RInv.2.2.1
  rw [e5, e8] at p12
  have p13 := P_RInv.2.2.2
  rw [e11] at p13
  refine hm_go (by decide +kernel) (Nat.le_of_ble_eq_true rfl) (fun p e s m below meth c C hr hn => ?_)
  refine g_aload_n C rfl 0 rfl dX3_readTests_0 ?_
  refine g_iload_n C rfl 1 rfl dX3_readTests_1 ?_
  refine g_callI (st := []) (gc_V C lk_LandSurvey_Reader_235 (k_readTest_0 l D cy w z0 O ta0 fa1 (by unfold RInv; rw [e2, e5, e8, e11]; exact ⟨t3, P_RInv.2.1, p12, p13⟩)) ta0 rfl rfl rfl ⟨by decide, by decide⟩ (Nat.le_of_ble_eq_true rfl) dX3_readTests_2 ⟨(by decide), (by decide)⟩) (fun r14 h15 f17 K16 => ?_)
  obtain ⟨O18, F19, f20, p21⟩ := K16
  have e22 : Rv h15 a0 13 = v1 := ((fxR F19 ta0 rfl).trans e2)
  obtain ⟨v23, e24⟩ : ∃ z, Iv h15 a0 4 = z := ⟨_, rfl⟩
  have e25 : Tg h15 a0 = 4 := (fxT F19 ta0)
  have f26 := ok_I O18 e25 rI_4_4 e24
  obtain ⟨v27, e28⟩ : ∃ z, Jv h15 a0 5 = z := ⟨_, rfl⟩
  have f29 := inL_J O18 e28
  obtain ⟨v30, e31⟩ : ∃ z, Rv h15 a0 6 = z := ⟨_, rfl⟩
  have p32 := p21.2.2.1
  rw [e24, e28] at p32
  have p33 := p21.2.2.2
  rw [e31] at p33
  refine g_if_ne C (iw f20 (by decide) (by decide)) 10 (by decide) dX3_readTests_5 (fun q34 => ?_) (fun q35 => ?_)
  · have f36 : (1 : Int) ≤ r14 ∧ r14 ≤ (1 : Int) := r_nl f20 q34
    refine g_iconst C dX3_readTests_10 ?_
    refine g_istore_n C [(2, .inl 0), (0, .inr (.inr a0)), (1, .inl a1)] rfl (by decide) rfl dX3_readTests_11 ?_
    refine GW.sub [1, 2, 0] rfl ?_
    -- loop at 12
    have L39 : ∀ (μ : Nat) (x37 : Int) (h38 : Hp), (1501 - x37).toNat = μ → Okh h38 → Fx [802, 803, 804, 805, 806, 807, 812, 4020000] h15 h38 → ((0 : Int) ≤ x37 ∧ x37 ≤ (1501 : Int)) → (RInv w h38 a0) → GW p l e (rmm 25 565 0 0) s m (List.map toV [.inr (.inr a0), .inl a1]).toArray below meth c D cy z0 4 (MQ below (QI D cy z0 (fun v h1 => Okh h1 ∧ Fx wr_k_readTests_0 h h1 ∧ (0 ≤ v ∧ v ≤ 1) ∧ (RInv w h1 a0))) (List.map toV [.inr (.inr a0), .inl a1]).toArray s 0 0 (Aof z0)) 12 [(0, .inr (.inr a0)), (1, .inl a1), (2, .inl x37)] [] h38 0 0 := by
      intro μ
      induction μ using Nat.strongRecOn with
      | ind μ ih40 =>
        intro x37 h38 hm41 O42 F43 f44 p45
        have e46 : Rv h38 a0 13 = v1 := ((fxR F43 e25 rfl).trans e22)
        obtain ⟨v47, e48⟩ : ∃ z, Iv h38 a0 4 = z := ⟨_, rfl⟩
        have e49 : Tg h38 a0 = 4 := (fxT F43 e25)
        have f50 := ok_I O42 e49 rI_4_4 e48
        obtain ⟨v51, e52⟩ : ∃ z, Jv h38 a0 5 = z := ⟨_, rfl⟩
        have f53 := inL_J O42 e52
        obtain ⟨v54, e55⟩ : ∃ z, Rv h38 a0 6 = z := ⟨_, rfl⟩
        have p56 := p45.2.2.1
        rw [e48, e52] at p56
        have p57 := p45.2.2.2
        rw [e55] at p57
        refine g_iload_n C rfl 2 rfl dX3_readTests_12 ?_
        refine g_sipush C (by decide) dX3_readTests_13 ?_
        refine g_icmp_gt C (iw f44 (by decide) (by decide)) (iw (il 1500) (by decide) (by decide)) 85 (by decide) dX3_readTests_16 (fun q58 => ?_) (fun q59 => ?_)
        · have f60 : (1501 : Int) ≤ x37 ∧ x37 ≤ (1501 : Int) := r_gt f44 (il 1500) q58 (by decide) (by decide)
          refine g_iconst C dX3_readTests_85 ?_
          have e61 : Tg h38 v1 = 2006 := (fxT F43 (fxT F19 t3))
          exact g_iret C hr (nar_z2 (iw (il 1) (by decide) (by decide))).1 (iw (il 1) (by decide) (by decide)) ⟨O42, (((Fx.rf (wr := wr_k_readTests_0)).call F19 rfl).call F43 rfl), (iw (il 1) (by decide) (by decide)), (by unfold RInv; rw [e46, e48, e52, e55]; exact ⟨e61, p45.2.1, p56, p57⟩)⟩ (by decide) (by decide) dX3_readTests_86
        · have f62 : (0 : Int) ≤ x37 ∧ x37 ≤ (1500 : Int) := r_le f44 (il 1500) q59 (by decide) (by decide)
          refine g_aload_n C rfl 0 rfl dX3_readTests_19 ?_
          refine gf_R C fk_LandSurvey_Reader_69 rfl e49 e55 dX3_readTests_20 ?_
          refine g_gets (x := .inr (.inr (w 15 + 1))) C (C.2.2.2.2.2.2.1.1 15 (by decide)).1 kw_845 dX3_readTests_23 ?_
          refine g_acmp_eq C 39 (by decide) dX3_readTests_26 (fun q63 => ?_) (fun q64 => ?_)
          · refine g_aload_n C rfl 0 rfl dX3_readTests_39 ?_
            refine gf_R C fk_LandSurvey_Reader_69 rfl e49 e55 dX3_readTests_40 ?_
            refine g_gets (x := .inr (.inr (w 15 + 1))) C (C.2.2.2.2.2.2.1.1 15 (by decide)).1 kw_845 dX3_readTests_43 ?_
            refine g_acmp_ne C 54 (by decide) dX3_readTests_46 (fun q65 => ?_) (fun q66 => ?_)
            · refine g_bipush C (by decide) dX3_readTests_54 ?_
              refine g_istore_n C [(3, .inl (-26)), (0, .inr (.inr a0)), (1, .inl a1), (2, .inl x37)] rfl (by decide) rfl dX3_readTests_56 ?_
              refine g_aload_n C rfl 1 rfl dX3_readTests_57 ?_
              have e67 : Tg h38 v1 = 2006 := (fxT F43 (fxT F19 t3))
              refine g_callV (st := []) (gc_V C lk_LandSurvey_Reader_46 (k_X3_advance l D cy w z0 O42 e49 (by unfold RInv; rw [e46, e48, e52, e55]; exact ⟨e67, p45.2.1, p56, p57⟩)) e49 rfl rfl rfl ⟨by decide, by decide⟩ (Nat.le_of_ble_eq_true rfl) dX3_readTests_58 ⟨(by decide), (by decide)⟩) (fun h69 K70 => ?_)
              obtain ⟨O72, F73, p74⟩ := K70
              have e75 : Rv h69 a0 13 = v1 := ((fxR F73 e49 rfl).trans e46)
              obtain ⟨v76, e77⟩ : ∃ z, Iv h69 a0 4 = z := ⟨_, rfl⟩
              have e78 : Tg h69 a0 = 4 := (fxT F73 e49)
              have f79 := ok_I O72 e78 rI_4_4 e77
              obtain ⟨v80, e81⟩ : ∃ z, Jv h69 a0 5 = z := ⟨_, rfl⟩
              have f82 := inL_J O72 e81
              obtain ⟨v83, e84⟩ : ∃ z, Rv h69 a0 6 = z := ⟨_, rfl⟩
              have p85 := p74.2.2.1
              rw [e77, e81] at p85
              have p86 := p74.2.2.2
              rw [e84] at p86
              refine g_aload_n C rfl 1 rfl dX3_readTests_61 ?_
              refine g_iload_n C rfl 2 rfl dX3_readTests_62 ?_
              have e87 : Tg h69 v1 = 2006 := (fxT F73 e67)
              refine g_callI (st := []) (gc_V C lk_LandSurvey_Reader_235 (k_readTest_0 l D cy w z0 O72 e78 fa1 (by unfold RInv; rw [e75, e77, e81, e84]; exact ⟨e87, p74.2.1, p85, p86⟩)) e78 rfl rfl rfl ⟨by decide, by decide⟩ (Nat.le_of_ble_eq_true rfl) dX3_readTests_63 ⟨(by decide), (by decide)⟩) (fun r88 h89 f91 K90 => ?_)
              obtain ⟨O92, F93, f94, p95⟩ := K90
              have e96 : Rv h89 a0 13 = v1 := ((fxR F93 e78 rfl).trans e75)
              obtain ⟨v97, e98⟩ : ∃ z, Iv h89 a0 4 = z := ⟨_, rfl⟩
              have e99 : Tg h89 a0 = 4 := (fxT F93 e78)
              have f100 := ok_I O92 e99 rI_4_4 e98
              obtain ⟨v101, e102⟩ : ∃ z, Jv h89 a0 5 = z := ⟨_, rfl⟩
              have f103 := inL_J O92 e102
              obtain ⟨v104, e105⟩ : ∃ z, Rv h89 a0 6 = z := ⟨_, rfl⟩
              have p106 := p95.2.2.1
              rw [e98, e102] at p106
              have p107 := p95.2.2.2
              rw [e105] at p107
              refine g_if_eq C (iw f94 (by decide) (by decide)) 77 (by decide) dX3_readTests_66 (fun q108 => ?_) (fun q109 => ?_)
              · have f110 : (0 : Int) ≤ r88 ∧ r88 ≤ (0 : Int) := ii f94 (r_eq (il 0) q108) (by decide) (by decide)
                refine g_iconst C dX3_readTests_77 ?_
                have e111 : Tg h89 v1 = 2006 := (fxT F93 e87)
                exact g_iret C hr (nar_z2 (iw (il 0) (by decide) (by decide))).1 (iw (il 0) (by decide) (by decide)) ⟨O92, (((((Fx.rf (wr := wr_k_readTests_0)).call F19 rfl).call F43 rfl).call F73 rfl).call F93 rfl), (iw (il 0) (by decide) (by decide)), (by unfold RInv; rw [e96, e98, e102, e105]; exact ⟨e111, p95.2.1, p106, p107⟩)⟩ (by decide) (by decide) dX3_readTests_78
              · have f112 : (1 : Int) ≤ r88 ∧ r88 ≤ (1 : Int) := r_nl f94 q109
                refine g_aload_n C rfl 1 rfl dX3_readTests_69 ?_
                refine g_iload_n C rfl 0 rfl dX3_readTests_70 ?_
                have e113 : Tg h89 v1 = 2006 := (fxT F93 e87)
                refine g_callI (st := []) (gc_V C lk_LandSurvey_Reader_244 (k_X3_emit l D cy w z0 O92 e99 (iw (il (-26)) (by decide) (by decide)) (by unfold RInv; rw [e96, e98, e102, e105]; exact ⟨e113, p95.2.1, p106, p107⟩) (by omega)) e99 rfl rfl rfl ⟨by decide, by decide⟩ (Nat.le_of_ble_eq_true rfl) dX3_readTests_71 ⟨(by decide), (by decide)⟩) (fun r114 h115 f117 K116 => ?_)
                obtain ⟨O118, F119, f120, p121⟩ := K116
                have e122 : Rv h115 a0 13 = v1 := ((fxR F119 e99 rfl).trans e96)
                have e123 : Iv h115 a0 4 = v97 := ((fxI F119 e99 rfl).trans e98)
                have e124 : Jv h115 a0 5 = v101 := ((fxJ F119 e99 rfl).trans e102)
                have e125 : Rv h115 a0 6 = v104 := ((fxR F119 e99 rfl).trans e105)
                have p126 := p121.2.2.1
                rw [e123, e124] at p126
                have p127 := p121.2.2.2
                rw [e125] at p127
                refine g_if_ne C (iw f120 (by decide) (by decide)) 79 (by decide) dX3_readTests_74 (fun q128 => ?_) (fun q129 => ?_)
                · have f130 : (1 : Int) ≤ (x37 + 1) ∧ (x37 + 1) ≤ (1501 : Int) := ia_add f62 (il 1) (by decide) (by decide)
                  refine g_iinc C [(2, .inl (x37 + 1)), (3, .inl (-26)), (0, .inr (.inr a0)), (1, .inl a1)] 3 rfl (by decide) rfl dX3_readTests_79 ?_
                  refine g_goto C 12 (by decide) dX3_readTests_82 ?_
                  refine GW.sub [2, 3, 0] rfl ?_
                  have e131 : Tg h115 v1 = 2006 := (fxT F119 e113)
                  exact ih40 _ (by omega) (x37 + 1) h115 rfl O118 (((F43.call F73 rfl).call F93 rfl).call F119 rfl) (iw f130 (by decide) (by decide)) (by unfold RInv; rw [e122, e123, e124, e125]; exact ⟨e131, p121.2.1, p126, p127⟩)
                · exact (no_eq f120 (il 0) q129 (by decide)).elim
            · refine g_bipush C (by decide) dX3_readTests_49 ?_
              refine g_goto C 56 (by decide) dX3_readTests_51 ?_
              refine g_istore_n C [(3, .inl (-25)), (0, .inr (.inr a0)), (1, .inl a1), (2, .inl x37)] rfl (by decide) rfl dX3_readTests_56 ?_
              refine g_aload_n C rfl 1 rfl dX3_readTests_57 ?_
              have e132 : Tg h38 v1 = 2006 := (fxT F43 (fxT F19 t3))
              refine g_callV (st := []) (gc_V C lk_LandSurvey_Reader_46 (k_X3_advance l D cy w z0 O42 e49 (by unfold RInv; rw [e46, e48, e52, e55]; exact ⟨e132, p45.2.1, p56, p57⟩)) e49 rfl rfl rfl ⟨by decide, by decide⟩ (Nat.le_of_ble_eq_true rfl) dX3_readTests_58 ⟨(by decide), (by decide)⟩) (fun h134 K135 => ?_)
              obtain ⟨O137, F138, p139⟩ := K135
              have e140 : Rv h134 a0 13 = v1 := ((fxR F138 e49 rfl).trans e46)
              obtain ⟨v141, e142⟩ : ∃ z, Iv h134 a0 4 = z := ⟨_, rfl⟩
              have e143 : Tg h134 a0 = 4 := (fxT F138 e49)
              have f144 := ok_I O137 e143 rI_4_4 e142
              obtain ⟨v145, e146⟩ : ∃ z, Jv h134 a0 5 = z := ⟨_, rfl⟩
              have f147 := inL_J O137 e146
              obtain ⟨v148, e149⟩ : ∃ z, Rv h134 a0 6 = z := ⟨_, rfl⟩
              have p150 := p139.2.2.1
              rw [e142, e146] at p150
              have p151 := p139.2.2.2
              rw [e149] at p151
              refine g_aload_n C rfl 1 rfl dX3_readTests_61 ?_
              refine g_iload_n C rfl 2 rfl dX3_readTests_62 ?_
              have e152 : Tg h134 v1 = 2006 := (fxT F138 e132)
              refine g_callI (st := []) (gc_V C lk_LandSurvey_Reader_235 (k_readTest_0 l D cy w z0 O137 e143 fa1 (by unfold RInv; rw [e140, e142, e146, e149]; exact ⟨e152, p139.2.1, p150, p151⟩)) e143 rfl rfl rfl ⟨by decide, by decide⟩ (Nat.le_of_ble_eq_true rfl) dX3_readTests_63 ⟨(by decide), (by decide)⟩) (fun r153 h154 f156 K155 => ?_)
              obtain ⟨O157, F158, f159, p160⟩ := K155
              have e161 : Rv h154 a0 13 = v1 := ((fxR F158 e143 rfl).trans e140)
              obtain ⟨v162, e163⟩ : ∃ z, Iv h154 a0 4 = z := ⟨_, rfl⟩
              have e164 : Tg h154 a0 = 4 := (fxT F158 e143)
              have f165 := ok_I O157 e164 rI_4_4 e163
              obtain ⟨v166, e167⟩ : ∃ z, Jv h154 a0 5 = z := ⟨_, rfl⟩
              have f168 := inL_J O157 e167
              obtain ⟨v169, e170⟩ : ∃ z, Rv h154 a0 6 = z := ⟨_, rfl⟩
              have p171 := p160.2.2.1
              rw [e163, e167] at p171
              have p172 := p160.2.2.2
              rw [e170] at p172
              refine g_if_eq C (iw f159 (by decide) (by decide)) 77 (by decide) dX3_readTests_66 (fun q173 => ?_) (fun q174 => ?_)
              · have f175 : (0 : Int) ≤ r153 ∧ r153 ≤ (0 : Int) := ii f159 (r_eq (il 0) q173) (by decide) (by decide)
                refine g_iconst C dX3_readTests_77 ?_
                have e176 : Tg h154 v1 = 2006 := (fxT F158 e152)
                exact g_iret C hr (nar_z2 (iw (il 0) (by decide) (by decide))).1 (iw (il 0) (by decide) (by decide)) ⟨O157, (((((Fx.rf (wr := wr_k_readTests_0)).call F19 rfl).call F43 rfl).call F138 rfl).call F158 rfl), (iw (il 0) (by decide) (by decide)), (by unfold RInv; rw [e161, e163, e167, e170]; exact ⟨e176, p160.2.1, p171, p172⟩)⟩ (by decide) (by decide) dX3_readTests_78
              · have f177 : (1 : Int) ≤ r153 ∧ r153 ≤ (1 : Int) := r_nl f159 q174
                refine g_aload_n C rfl 1 rfl dX3_readTests_69 ?_
                refine g_iload_n C rfl 0 rfl dX3_readTests_70 ?_
                have e178 : Tg h154 v1 = 2006 := (fxT F158 e152)
                refine g_callI (st := []) (gc_V C lk_LandSurvey_Reader_244 (k_X3_emit l D cy w z0 O157 e164 (iw (il (-25)) (by decide) (by decide)) (by unfold RInv; rw [e161, e163, e167, e170]; exact ⟨e178, p160.2.1, p171, p172⟩) (by omega)) e164 rfl rfl rfl ⟨by decide, by decide⟩ (Nat.le_of_ble_eq_true rfl) dX3_readTests_71 ⟨(by decide), (by decide)⟩) (fun r179 h180 f182 K181 => ?_)
                obtain ⟨O183, F184, f185, p186⟩ := K181
                have e187 : Rv h180 a0 13 = v1 := ((fxR F184 e164 rfl).trans e161)
                have e188 : Iv h180 a0 4 = v162 := ((fxI F184 e164 rfl).trans e163)
                have e189 : Jv h180 a0 5 = v166 := ((fxJ F184 e164 rfl).trans e167)
                have e190 : Rv h180 a0 6 = v169 := ((fxR F184 e164 rfl).trans e170)
                have p191 := p186.2.2.1
                rw [e188, e189] at p191
                have p192 := p186.2.2.2
                rw [e190] at p192
                refine g_if_ne C (iw f185 (by decide) (by decide)) 79 (by decide) dX3_readTests_74 (fun q193 => ?_) (fun q194 => ?_)
                · have f195 : (1 : Int) ≤ (x37 + 1) ∧ (x37 + 1) ≤ (1501 : Int) := ia_add f62 (il 1) (by decide) (by decide)
                  refine g_iinc C [(2, .inl (x37 + 1)), (3, .inl (-25)), (0, .inr (.inr a0)), (1, .inl a1)] 3 rfl (by decide) rfl dX3_readTests_79 ?_
                  refine g_goto C 12 (by decide) dX3_readTests_82 ?_
                  refine GW.sub [2, 3, 0] rfl ?_
                  have e196 : Tg h180 v1 = 2006 := (fxT F184 e178)
                  exact ih40 _ (by omega) (x37 + 1) h180 rfl O183 (((F43.call F138 rfl).call F158 rfl).call F184 rfl) (iw f195 (by decide) (by decide)) (by unfold RInv; rw [e187, e188, e189, e190]; exact ⟨e196, p186.2.1, p191, p192⟩)
                · exact (no_eq f185 (il 0) q194 (by decide)).elim
          · refine g_aload_n C rfl 0 rfl dX3_readTests_29 ?_
            refine gf_R C fk_LandSurvey_Reader_69 rfl e49 e55 dX3_readTests_30 ?_
            refine g_gets (x := .inr (.inr (w 16 + 1))) C (C.2.2.2.2.2.2.1.1 16 (by decide)).1 kw_847 dX3_readTests_33 ?_
            refine g_acmp_ne C 85 (by decide) dX3_readTests_36 (fun q197 => ?_) (fun q198 => ?_)
            · refine g_iconst C dX3_readTests_85 ?_
              have e199 : Tg h38 v1 = 2006 := (fxT F43 (fxT F19 t3))
              exact g_iret C hr (nar_z2 (iw (il 1) (by decide) (by decide))).1 (iw (il 1) (by decide) (by decide)) ⟨O42, (((Fx.rf (wr := wr_k_readTests_0)).call F19 rfl).call F43 rfl), (iw (il 1) (by decide) (by decide)), (by unfold RInv; rw [e46, e48, e52, e55]; exact ⟨e199, p45.2.1, p56, p57⟩)⟩ (by decide) (by decide) dX3_readTests_86
            · refine g_aload_n C rfl 0 rfl dX3_readTests_39 ?_
              refine gf_R C fk_LandSurvey_Reader_69 rfl e49 e55 dX3_readTests_40 ?_
              refine g_gets (x := .inr (.inr (w 15 + 1))) C (C.2.2.2.2.2.2.1.1 15 (by decide)).1 kw_845 dX3_readTests_43 ?_
              refine g_acmp_ne C 54 (by decide) dX3_readTests_46 (fun q200 => ?_) (fun q201 => ?_)
              · refine g_bipush C (by decide) dX3_readTests_54 ?_
                refine g_istore_n C [(3, .inl (-26)), (0, .inr (.inr a0)), (1, .inl a1), (2, .inl x37)] rfl (by decide) rfl dX3_readTests_56 ?_
                refine g_aload_n C rfl 1 rfl dX3_readTests_57 ?_
                have e202 : Tg h38 v1 = 2006 := (fxT F43 (fxT F19 t3))
                refine g_callV (st := []) (gc_V C lk_LandSurvey_Reader_46 (k_X3_advance l D cy w z0 O42 e49 (by unfold RInv; rw [e46, e48, e52, e55]; exact ⟨e202, p45.2.1, p56, p57⟩)) e49 rfl rfl rfl ⟨by decide, by decide⟩ (Nat.le_of_ble_eq_true rfl) dX3_readTests_58 ⟨(by decide), (by decide)⟩) (fun h204 K205 => ?_)
                obtain ⟨O207, F208, p209⟩ := K205
                have e210 : Rv h204 a0 13 = v1 := ((fxR F208 e49 rfl).trans e46)
                obtain ⟨v211, e212⟩ : ∃ z, Iv h204 a0 4 = z := ⟨_, rfl⟩
                have e213 : Tg h204 a0 = 4 := (fxT F208 e49)
                have f214 := ok_I O207 e213 rI_4_4 e212
                obtain ⟨v215, e216⟩ : ∃ z, Jv h204 a0 5 = z := ⟨_, rfl⟩
                have f217 := inL_J O207 e216
                obtain ⟨v218, e219⟩ : ∃ z, Rv h204 a0 6 = z := ⟨_, rfl⟩
                have p220 := p209.2.2.1
                rw [e212, e216] at p220
                have p221 := p209.2.2.2
                rw [e219] at p221
                refine g_aload_n C rfl 1 rfl dX3_readTests_61 ?_
                refine g_iload_n C rfl 2 rfl dX3_readTests_62 ?_
                have e222 : Tg h204 v1 = 2006 := (fxT F208 e202)
                refine g_callI (st := []) (gc_V C lk_LandSurvey_Reader_235 (k_readTest_0 l D cy w z0 O207 e213 fa1 (by unfold RInv; rw [e210, e212, e216, e219]; exact ⟨e222, p209.2.1, p220, p221⟩)) e213 rfl rfl rfl ⟨by decide, by decide⟩ (Nat.le_of_ble_eq_true rfl) dX3_readTests_63 ⟨(by decide), (by decide)⟩) (fun r223 h224 f226 K225 => ?_)
                obtain ⟨O227, F228, f229, p230⟩ := K225
                have e231 : Rv h224 a0 13 = v1 := ((fxR F228 e213 rfl).trans e210)
                obtain ⟨v232, e233⟩ : ∃ z, Iv h224 a0 4 = z := ⟨_, rfl⟩
                have e234 : Tg h224 a0 = 4 := (fxT F228 e213)
                have f235 := ok_I O227 e234 rI_4_4 e233
                obtain ⟨v236, e237⟩ : ∃ z, Jv h224 a0 5 = z := ⟨_, rfl⟩
                have f238 := inL_J O227 e237
                obtain ⟨v239, e240⟩ : ∃ z, Rv h224 a0 6 = z := ⟨_, rfl⟩
                have p241 := p230.2.2.1
                rw [e233, e237] at p241
                have p242 := p230.2.2.2
                rw [e240] at p242
                refine g_if_eq C (iw f229 (by decide) (by decide)) 77 (by decide) dX3_readTests_66 (fun q243 => ?_) (fun q244 => ?_)
                · have f245 : (0 : Int) ≤ r223 ∧ r223 ≤ (0 : Int) := ii f229 (r_eq (il 0) q243) (by decide) (by decide)
                  refine g_iconst C dX3_readTests_77 ?_
                  have e246 : Tg h224 v1 = 2006 := (fxT F228 e222)
                  exact g_iret C hr (nar_z2 (iw (il 0) (by decide) (by decide))).1 (iw (il 0) (by decide) (by decide)) ⟨O227, (((((Fx.rf (wr := wr_k_readTests_0)).call F19 rfl).call F43 rfl).call F208 rfl).call F228 rfl), (iw (il 0) (by decide) (by decide)), (by unfold RInv; rw [e231, e233, e237, e240]; exact ⟨e246, p230.2.1, p241, p242⟩)⟩ (by decide) (by decide) dX3_readTests_78
                · have f247 : (1 : Int) ≤ r223 ∧ r223 ≤ (1 : Int) := r_nl f229 q244
                  refine g_aload_n C rfl 1 rfl dX3_readTests_69 ?_
                  refine g_iload_n C rfl 0 rfl dX3_readTests_70 ?_
                  have e248 : Tg h224 v1 = 2006 := (fxT F228 e222)
                  refine g_callI (st := []) (gc_V C lk_LandSurvey_Reader_244 (k_X3_emit l D cy w z0 O227 e234 (iw (il (-26)) (by decide) (by decide)) (by unfold RInv; rw [e231, e233, e237, e240]; exact ⟨e248, p230.2.1, p241, p242⟩) (by omega)) e234 rfl rfl rfl ⟨by decide, by decide⟩ (Nat.le_of_ble_eq_true rfl) dX3_readTests_71 ⟨(by decide), (by decide)⟩) (fun r249 h250 f252 K251 => ?_)
                  obtain ⟨O253, F254, f255, p256⟩ := K251
                  have e257 : Rv h250 a0 13 = v1 := ((fxR F254 e234 rfl).trans e231)
                  have e258 : Iv h250 a0 4 = v232 := ((fxI F254 e234 rfl).trans e233)
                  have e259 : Jv h250 a0 5 = v236 := ((fxJ F254 e234 rfl).trans e237)
                  have e260 : Rv h250 a0 6 = v239 := ((fxR F254 e234 rfl).trans e240)
                  have p261 := p256.2.2.1
                  rw [e258, e259] at p261
                  have p262 := p256.2.2.2
                  rw [e260] at p262
                  refine g_if_ne C (iw f255 (by decide) (by decide)) 79 (by decide) dX3_readTests_74 (fun q263 => ?_) (fun q264 => ?_)
                  · have f265 : (1 : Int) ≤ (x37 + 1) ∧ (x37 + 1) ≤ (1501 : Int) := ia_add f62 (il 1) (by decide) (by decide)
                    refine g_iinc C [(2, .inl (x37 + 1)), (3, .inl (-26)), (0, .inr (.inr a0)), (1, .inl a1)] 3 rfl (by decide) rfl dX3_readTests_79 ?_
                    refine g_goto C 12 (by decide) dX3_readTests_82 ?_
                    refine GW.sub [2, 3, 0] rfl ?_
                    have e266 : Tg h250 v1 = 2006 := (fxT F254 e248)
                    exact ih40 _ (by omega) (x37 + 1) h250 rfl O253 (((F43.call F208 rfl).call F228 rfl).call F254 rfl) (iw f265 (by decide) (by decide)) (by unfold RInv; rw [e257, e258, e259, e260]; exact ⟨e266, p256.2.1, p261, p262⟩)
                  · exact (no_eq f255 (il 0) q264 (by decide)).elim
              · refine g_bipush C (by decide) dX3_readTests_49 ?_
                refine g_goto C 56 (by decide) dX3_readTests_51 ?_
                refine g_istore_n C [(3, .inl (-25)), (0, .inr (.inr a0)), (1, .inl a1), (2, .inl x37)] rfl (by decide) rfl dX3_readTests_56 ?_
                refine g_aload_n C rfl 1 rfl dX3_readTests_57 ?_
                have e267 : Tg h38 v1 = 2006 := (fxT F43 (fxT F19 t3))
                refine g_callV (st := []) (gc_V C lk_LandSurvey_Reader_46 (k_X3_advance l D cy w z0 O42 e49 (by unfold RInv; rw [e46, e48, e52, e55]; exact ⟨e267, p45.2.1, p56, p57⟩)) e49 rfl rfl rfl ⟨by decide, by decide⟩ (Nat.le_of_ble_eq_true rfl) dX3_readTests_58 ⟨(by decide), (by decide)⟩) (fun h269 K270 => ?_)
                obtain ⟨O272, F273, p274⟩ := K270
                have e275 : Rv h269 a0 13 = v1 := ((fxR F273 e49 rfl).trans e46)
                obtain ⟨v276, e277⟩ : ∃ z, Iv h269 a0 4 = z := ⟨_, rfl⟩
                have e278 : Tg h269 a0 = 4 := (fxT F273 e49)
                have f279 := ok_I O272 e278 rI_4_4 e277
                obtain ⟨v280, e281⟩ : ∃ z, Jv h269 a0 5 = z := ⟨_, rfl⟩
                have f282 := inL_J O272 e281
                obtain ⟨v283, e284⟩ : ∃ z, Rv h269 a0 6 = z := ⟨_, rfl⟩
                have p285 := p274.2.2.1
                rw [e277, e281] at p285
                have p286 := p274.2.2.2
                rw [e284] at p286
                refine g_aload_n C rfl 1 rfl dX3_readTests_61 ?_
                refine g_iload_n C rfl 2 rfl dX3_readTests_62 ?_
                have e287 : Tg h269 v1 = 2006 := (fxT F273 e267)
                refine g_callI (st := []) (gc_V C lk_LandSurvey_Reader_235 (k_readTest_0 l D cy w z0 O272 e278 fa1 (by unfold RInv; rw [e275, e277, e281, e284]; exact ⟨e287, p274.2.1, p285, p286⟩)) e278 rfl rfl rfl ⟨by decide, by decide⟩ (Nat.le_of_ble_eq_true rfl) dX3_readTests_63 ⟨(by decide), (by decide)⟩) (fun r288 h289 f291 K290 => ?_)
                obtain ⟨O292, F293, f294, p295⟩ := K290
                have e296 : Rv h289 a0 13 = v1 := ((fxR F293 e278 rfl).trans e275)
                obtain ⟨v297, e298⟩ : ∃ z, Iv h289 a0 4 = z := ⟨_, rfl⟩
                have e299 : Tg h289 a0 = 4 := (fxT F293 e278)
                have f300 := ok_I O292 e299 rI_4_4 e298
                obtain ⟨v301, e302⟩ : ∃ z, Jv h289 a0 5 = z := ⟨_, rfl⟩
                have f303 := inL_J O292 e302
                obtain ⟨v304, e305⟩ : ∃ z, Rv h289 a0 6 = z := ⟨_, rfl⟩
                have p306 := p295.2.2.1
                rw [e298, e302] at p306
                have p307 := p295.2.2.2
                rw [e305] at p307
                refine g_if_eq C (iw f294 (by decide) (by decide)) 77 (by decide) dX3_readTests_66 (fun q308 => ?_) (fun q309 => ?_)
                · have f310 : (0 : Int) ≤ r288 ∧ r288 ≤ (0 : Int) := ii f294 (r_eq (il 0) q308) (by decide) (by decide)
                  refine g_iconst C dX3_readTests_77 ?_
                  have e311 : Tg h289 v1 = 2006 := (fxT F293 e287)
                  exact g_iret C hr (nar_z2 (iw (il 0) (by decide) (by decide))).1 (iw (il 0) (by decide) (by decide)) ⟨O292, (((((Fx.rf (wr := wr_k_readTests_0)).call F19 rfl).call F43 rfl).call F273 rfl).call F293 rfl), (iw (il 0) (by decide) (by decide)), (by unfold RInv; rw [e296, e298, e302, e305]; exact ⟨e311, p295.2.1, p306, p307⟩)⟩ (by decide) (by decide) dX3_readTests_78
                · have f312 : (1 : Int) ≤ r288 ∧ r288 ≤ (1 : Int) := r_nl f294 q309
                  refine g_aload_n C rfl 1 rfl dX3_readTests_69 ?_
                  refine g_iload_n C rfl 0 rfl dX3_readTests_70 ?_
                  have e313 : Tg h289 v1 = 2006 := (fxT F293 e287)
                  refine g_callI (st := []) (gc_V C lk_LandSurvey_Reader_244 (k_X3_emit l D cy w z0 O292 e299 (iw (il (-25)) (by decide) (by decide)) (by unfold RInv; rw [e296, e298, e302, e305]; exact ⟨e313, p295.2.1, p306, p307⟩) (by omega)) e299 rfl rfl rfl ⟨by decide, by decide⟩ (Nat.le_of_ble_eq_true rfl) dX3_readTests_71 ⟨(by decide), (by decide)⟩) (fun r314 h315 f317 K316 => ?_)
                  obtain ⟨O318, F319, f320, p321⟩ := K316
                  have e322 : Rv h315 a0 13 = v1 := ((fxR F319 e299 rfl).trans e296)
                  have e323 : Iv h315 a0 4 = v297 := ((fxI F319 e299 rfl).trans e298)
                  have e324 : Jv h315 a0 5 = v301 := ((fxJ F319 e299 rfl).trans e302)
                  have e325 : Rv h315 a0 6 = v304 := ((fxR F319 e299 rfl).trans e305)
                  have p326 := p321.2.2.1
                  rw [e323, e324] at p326
                  have p327 := p321.2.2.2
                  rw [e325] at p327
                  refine g_if_ne C (iw f320 (by decide) (by decide)) 79 (by decide) dX3_readTests_74 (fun q328 => ?_) (fun q329 => ?_)
                  · have f330 : (1 : Int) ≤ (x37 + 1) ∧ (x37 + 1) ≤ (1501 : Int) := ia_add f62 (il 1) (by decide) (by decide)
                    refine g_iinc C [(2, .inl (x37 + 1)), (3, .inl (-25)), (0, .inr (.inr a0)), (1, .inl a1)] 3 rfl (by decide) rfl dX3_readTests_79 ?_
                    refine g_goto C 12 (by decide) dX3_readTests_82 ?_
                    refine GW.sub [2, 3, 0] rfl ?_
                    have e331 : Tg h315 v1 = 2006 := (fxT F319 e313)
                    exact ih40 _ (by omega) (x37 + 1) h315 rfl O318 (((F43.call F273 rfl).call F293 rfl).call F319 rfl) (iw f330 (by decide) (by decide)) (by unfold RInv; rw [e322, e323, e324, e325]; exact ⟨e331, p321.2.1, p326, p327⟩)
                  · exact (no_eq f320 (il 0) q329 (by decide)).elim
    have e332 : Tg h15 v1 = 2006 := (fxT F19 t3)
    exact L39 _ 0 h15 rfl O18 Fx.rf (iw (il 0) (by decide) (by decide)) (by unfold RInv; rw [e22, e24, e28, e31]; exact ⟨e332, p21.2.1, p32, p33⟩)
  · have f333 : (0 : Int) ≤ r14 ∧ r14 ≤ (0 : Int) := ii f20 (r_eq (il 0) q35) (by decide) (by decide)
    refine g_iconst C dX3_readTests_8 ?_
    have e334 : Tg h15 v1 = 2006 := (fxT F19 t3)
    exact g_iret C hr (nar_z2 (iw (il 0) (by decide) (by decide))).1 (iw (il 0) (by decide) (by decide)) ⟨O18, ((Fx.rf (wr := wr_k_readTests_0)).call F19 rfl), (iw (il 0) (by decide) (by decide)), (by unfold RInv; rw [e22, e24, e28, e31]; exact ⟨e334, p21.2.1, p32, p33⟩)⟩ (by decide) (by decide) dX3_readTests_9
