abbrev cX3_readLine : ByteArray := prog_5_method_15_code
def yX3_readLine : MethodName := ⟨RX3, "readLine", "(I)Z"⟩
theorem okX3_readLine : yok yX3_readLine 1 := by decide +kernel
theorem dX3_readLine_0 : decode cX3_readLine 0 = .ok (.aload_n 0, 1) := by decide +kernel
theorem dX3_readLine_1 : decode cX3_readLine 1 = .ok (.getfield 103, 3) := by decide +kernel
theorem dX3_readLine_4 : decode cX3_readLine 4 = .ok (.istore_n 2, 1) := by decide +kernel
theorem dX3_readLine_5 : decode cX3_readLine 5 = .ok (.aload_n 0, 1) := by decide +kernel
theorem dX3_readLine_6 : decode cX3_readLine 6 = .ok (.getstatic 193, 3) := by decide +kernel
theorem kw_821 : Cond.fieldLink "LandSurvey$Reader" 193 "LandSurvey$Word" "WHEN" "LLandSurvey$Word;" ∈ uu := uu_in (i := 821) (by decide +kernel) (by decide +kernel)
theorem dX3_readLine_9 : decode cX3_readLine 9 = .ok (.invokevirtual 165, 3) := by decide +kernel
theorem dX3_readLine_12 : decode cX3_readLine 12 = .ok (.ifCond .eq 20, 3) := by decide +kernel
theorem dX3_readLine_32 : decode cX3_readLine 32 = .ok (.iconst 0, 1) := by decide +kernel
theorem dX3_readLine_33 : decode cX3_readLine 33 = .ok (.ireturn, 1) := by decide +kernel
theorem dX3_readLine_15 : decode cX3_readLine 15 = .ok (.aload_n 0, 1) := by decide +kernel
theorem dX3_readLine_16 : decode cX3_readLine 16 = .ok (.iconst 0, 1) := by decide +kernel
theorem dX3_readLine_17 : decode cX3_readLine 17 = .ok (.invokevirtual 196, 3) := by decide +kernel
theorem dX3_readLine_20 : decode cX3_readLine 20 = .ok (.ifCond .eq 12, 3) := by decide +kernel
theorem dX3_readLine_23 : decode cX3_readLine 23 = .ok (.aload_n 0, 1) := by decide +kernel
theorem dX3_readLine_24 : decode cX3_readLine 24 = .ok (.bipush 59, 2) := by decide +kernel
theorem dX3_readLine_26 : decode cX3_readLine 26 = .ok (.invokevirtual 169, 3) := by decide +kernel
theorem dX3_readLine_29 : decode cX3_readLine 29 = .ok (.ifCond .ne 5, 3) := by decide +kernel
theorem dX3_readLine_34 : decode cX3_readLine 34 = .ok (.aload_n 0, 1) := by decide +kernel
theorem dX3_readLine_35 : decode cX3_readLine 35 = .ok (.getfield 26, 3) := by decide +kernel
theorem dX3_readLine_38 : decode cX3_readLine 38 = .ok (.getfield 199, 3) := by decide +kernel
theorem kw_328 : Cond.fieldLink "LandSurvey$Reader" 199 "LandSurvey$Rules" "lineKind" "[I" ∈ uu := uu_in (i := 328) (by decide +kernel) (by decide +kernel)
theorem fk_LandSurvey_Reader_199 : fkR "LandSurvey$Reader" 199 5 14 RX5 TX5 19 := ⟨rfl, rfl, inX5, by decide, kw_328, by decide⟩
theorem dX3_readLine_41 : decode cX3_readLine 41 = .ok (.aload_n 0, 1) := by decide +kernel
theorem dX3_readLine_42 : decode cX3_readLine 42 = .ok (.getfield 26, 3) := by decide +kernel
theorem dX3_readLine_45 : decode cX3_readLine 45 = .ok (.getfield 181, 3) := by decide +kernel
theorem dX3_readLine_48 : decode cX3_readLine 48 = .ok (.iload_n 1, 1) := by decide +kernel
theorem dX3_readLine_49 : decode cX3_readLine 49 = .ok (.iastore, 1) := by decide +kernel
theorem dX3_readLine_50 : decode cX3_readLine 50 = .ok (.aload_n 0, 1) := by decide +kernel
theorem dX3_readLine_51 : decode cX3_readLine 51 = .ok (.getfield 26, 3) := by decide +kernel
theorem dX3_readLine_54 : decode cX3_readLine 54 = .ok (.getfield 202, 3) := by decide +kernel
theorem kw_330 : Cond.fieldLink "LandSurvey$Reader" 202 "LandSurvey$Rules" "lineSays" "[I" ∈ uu := uu_in (i := 330) (by decide +kernel) (by decide +kernel)
theorem fk_LandSurvey_Reader_202 : fkR "LandSurvey$Reader" 202 5 15 RX5 TX5 19 := ⟨rfl, rfl, inX5, by decide, kw_330, by decide⟩
theorem dX3_readLine_57 : decode cX3_readLine 57 = .ok (.aload_n 0, 1) := by decide +kernel
theorem dX3_readLine_58 : decode cX3_readLine 58 = .ok (.getfield 26, 3) := by decide +kernel
theorem dX3_readLine_61 : decode cX3_readLine 61 = .ok (.getfield 181, 3) := by decide +kernel
theorem dX3_readLine_64 : decode cX3_readLine 64 = .ok (.iload_n 2, 1) := by decide +kernel
theorem dX3_readLine_65 : decode cX3_readLine 65 = .ok (.iastore, 1) := by decide +kernel
theorem dX3_readLine_66 : decode cX3_readLine 66 = .ok (.aload_n 0, 1) := by decide +kernel
theorem dX3_readLine_67 : decode cX3_readLine 67 = .ok (.getfield 26, 3) := by decide +kernel
theorem dX3_readLine_70 : decode cX3_readLine 70 = .ok (.getfield 205, 3) := by decide +kernel
theorem kw_333 : Cond.fieldLink "LandSurvey$Reader" 205 "LandSurvey$Rules" "lineEnd" "[I" ∈ uu := uu_in (i := 333) (by decide +kernel) (by decide +kernel)
theorem fk_LandSurvey_Reader_205 : fkR "LandSurvey$Reader" 205 5 16 RX5 TX5 19 := ⟨rfl, rfl, inX5, by decide, kw_333, by decide⟩
theorem dX3_readLine_73 : decode cX3_readLine 73 = .ok (.aload_n 0, 1) := by decide +kernel
theorem dX3_readLine_74 : decode cX3_readLine 74 = .ok (.getfield 26, 3) := by decide +kernel
theorem dX3_readLine_77 : decode cX3_readLine 77 = .ok (.getfield 181, 3) := by decide +kernel
theorem dX3_readLine_80 : decode cX3_readLine 80 = .ok (.aload_n 0, 1) := by decide +kernel
theorem dX3_readLine_81 : decode cX3_readLine 81 = .ok (.getfield 36, 3) := by decide +kernel
theorem dX3_readLine_84 : decode cX3_readLine 84 = .ok (.iastore, 1) := by decide +kernel
theorem dX3_readLine_85 : decode cX3_readLine 85 = .ok (.aload_n 0, 1) := by decide +kernel
theorem dX3_readLine_86 : decode cX3_readLine 86 = .ok (.getfield 26, 3) := by decide +kernel
theorem dX3_readLine_89 : decode cX3_readLine 89 = .ok (.dup, 1) := by decide +kernel
theorem dX3_readLine_90 : decode cX3_readLine 90 = .ok (.getfield 181, 3) := by decide +kernel
theorem dX3_readLine_93 : decode cX3_readLine 93 = .ok (.iconst 1, 1) := by decide +kernel
theorem dX3_readLine_94 : decode cX3_readLine 94 = .ok (.iadd, 1) := by decide +kernel
theorem dX3_readLine_95 : decode cX3_readLine 95 = .ok (.putfield 181, 3) := by decide +kernel
theorem pk_LandSurvey_Rules_13 : pk RX5 TX5 19 13 tyX5 false := ⟨tyX5_ok, nmX5, rfl⟩
theorem dX3_readLine_98 : decode cX3_readLine 98 = .ok (.iconst 1, 1) := by decide +kernel
theorem dX3_readLine_99 : decode cX3_readLine 99 = .ok (.ireturn, 1) := by decide +kernel
abbrev cX3_readRule : ByteArray := prog_5_method_11_code
def yX3_readRule : MethodName := ⟨RX3, "readRule", "()Z"⟩
theorem okX3_readRule : yok yX3_readRule 0 := by decide +kernel
theorem dX3_readRule_0 : decode cX3_readRule 0 = .ok (.aload_n 0, 1) := by decide +kernel
theorem dX3_readRule_1 : decode cX3_readRule 1 = .ok (.getfield 69, 3) := by decide +kernel
theorem dX3_readRule_4 : decode cX3_readRule 4 = .ok (.ifnonnull 9, 3) := by decide +kernel
theorem dX3_readRule_13 : decode cX3_readRule 13 = .ok (.aload_n 0, 1) := by decide +kernel
theorem dX3_readRule_14 : decode cX3_readRule 14 = .ok (.getfield 69, 3) := by decide +kernel
theorem dX3_readRule_17 : decode cX3_readRule 17 = .ok (.getstatic 110, 3) := by decide +kernel
theorem kw_779 : Cond.fieldLink "LandSurvey$Reader" 110 "LandSurvey$Word" "ROCK" "LLandSurvey$Word;" ∈ uu := uu_in (i := 779) (by decide +kernel) (by decide +kernel)
theorem dX3_readRule_20 : decode cX3_readRule 20 = .ok (.if_acmp .ne 8, 3) := by decide +kernel
theorem dX3_readRule_28 : decode cX3_readRule 28 = .ok (.aload_n 0, 1) := by decide +kernel
theorem dX3_readRule_29 : decode cX3_readRule 29 = .ok (.getfield 69, 3) := by decide +kernel
theorem dX3_readRule_32 : decode cX3_readRule 32 = .ok (.getstatic 116, 3) := by decide +kernel
theorem kw_807 : Cond.fieldLink "LandSurvey$Reader" 116 "LandSurvey$Word" "NAME" "LLandSurvey$Word;" ∈ uu := uu_in (i := 807) (by decide +kernel) (by decide +kernel)
theorem dX3_readRule_35 : decode cX3_readRule 35 = .ok (.if_acmp .ne 32, 3) := by decide +kernel
theorem dX3_readRule_67 : decode cX3_readRule 67 = .ok (.aload_n 0, 1) := by decide +kernel
theorem dX3_readRule_68 : decode cX3_readRule 68 = .ok (.getfield 69, 3) := by decide +kernel
theorem dX3_readRule_71 : decode cX3_readRule 71 = .ok (.getstatic 128, 3) := by decide +kernel
theorem kw_849 : Cond.fieldLink "LandSurvey$Reader" 128 "LandSurvey$Word" "RANK" "LLandSurvey$Word;" ∈ uu := uu_in (i := 849) (by decide +kernel) (by decide +kernel)
theorem dX3_readRule_74 : decode cX3_readRule 74 = .ok (.if_acmp .ne 34, 3) := by decide +kernel
theorem dX3_readRule_108 : decode cX3_readRule 108 = .ok (.aload_n 0, 1) := by decide +kernel
theorem dX3_readRule_109 : decode cX3_readRule 109 = .ok (.getfield 69, 3) := by decide +kernel
theorem dX3_readRule_112 : decode cX3_readRule 112 = .ok (.getstatic 135, 3) := by decide +kernel
theorem kw_851 : Cond.fieldLink "LandSurvey$Reader" 135 "LandSurvey$Word" "DRAW" "LLandSurvey$Word;" ∈ uu := uu_in (i := 851) (by decide +kernel) (by decide +kernel)
theorem dX3_readRule_115 : decode cX3_readRule 115 = .ok (.if_acmp .ne 31, 3) := by decide +kernel
theorem dX3_readRule_146 : decode cX3_readRule 146 = .ok (.aload_n 0, 1) := by decide +kernel
theorem dX3_readRule_147 : decode cX3_readRule 147 = .ok (.getfield 69, 3) := by decide +kernel
theorem dX3_readRule_150 : decode cX3_readRule 150 = .ok (.getstatic 141, 3) := by decide +kernel
theorem kw_863 : Cond.fieldLink "LandSurvey$Reader" 141 "LandSurvey$Word" "REMAIN" "LLandSurvey$Word;" ∈ uu := uu_in (i := 863) (by decide +kernel) (by decide +kernel)
theorem dX3_readRule_153 : decode cX3_readRule 153 = .ok (.if_acmp .ne 8, 3) := by decide +kernel
theorem dX3_readRule_161 : decode cX3_readRule 161 = .ok (.aload_n 0, 1) := by decide +kernel
theorem dX3_readRule_162 : decode cX3_readRule 162 = .ok (.getfield 69, 3) := by decide +kernel
theorem dX3_readRule_165 : decode cX3_readRule 165 = .ok (.getstatic 147, 3) := by decide +kernel
theorem dX3_readRule_168 : decode cX3_readRule 168 = .ok (.if_acmp .eq 13, 3) := by decide +kernel
theorem dX3_readRule_181 : decode cX3_readRule 181 = .ok (.aload_n 0, 1) := by decide +kernel
theorem dX3_readRule_182 : decode cX3_readRule 182 = .ok (.invokevirtual 153, 3) := by decide +kernel
theorem kw_878 : Cond.code yX3_readWaterRule prog_5_method_16_code 2 (some .boolean) ∈ uu := uu_in (i := 878) (by decide +kernel) (by decide +kernel)
theorem kw_875 : Cond.methodLink "LandSurvey$Reader" 153 yX3_readWaterRule ∈ uu := uu_in (i := 875) (by decide +kernel) (by decide +kernel)
theorem kw_877 : Cond.instanceMethod yX3_readWaterRule ∈ uu := uu_in (i := 877) (by decide +kernel) (by decide +kernel)
theorem kw_19 : Cond.selects "LandSurvey$Reader" yX3_readWaterRule yX3_readWaterRule ∈ uu := uu_in (i := 19) (by decide +kernel) (by decide +kernel)
theorem lk_LandSurvey_Reader_153 : lkV "LandSurvey$Reader" 153 yX3_readWaterRule cX3_readWaterRule 2 (some .boolean) 0 := ⟨kw_875, kw_877, kw_19, kw_147, kw_878, okX3_readWaterRule⟩
theorem dX3_readRule_185 : decode cX3_readRule 185 = .ok (.goto 7, 3) := by decide +kernel
theorem dX3_readRule_192 : decode cX3_readRule 192 = .ok (.ireturn, 1) := by decide +kernel
theorem dX3_readRule_171 : decode cX3_readRule 171 = .ok (.aload_n 0, 1) := by decide +kernel
theorem dX3_readRule_172 : decode cX3_readRule 172 = .ok (.getfield 69, 3) := by decide +kernel
theorem dX3_readRule_175 : decode cX3_readRule 175 = .ok (.getstatic 150, 3) := by decide +kernel
theorem kw_873 : Cond.fieldLink "LandSurvey$Reader" 150 "LandSurvey$Word" "TIGHT" "LLandSurvey$Word;" ∈ uu := uu_in (i := 873) (by decide +kernel) (by decide +kernel)
theorem dX3_readRule_178 : decode cX3_readRule 178 = .ok (.if_acmp .ne 10, 3) := by decide +kernel
theorem dX3_readRule_188 : decode cX3_readRule 188 = .ok (.aload_n 0, 1) := by decide +kernel
theorem dX3_readRule_189 : decode cX3_readRule 189 = .ok (.invokevirtual 156, 3) := by decide +kernel
theorem kw_882 : Cond.code yX3_readSlopeRule prog_5_method_17_code 2 (some .boolean) ∈ uu := uu_in (i := 882) (by decide +kernel) (by decide +kernel)
theorem kw_879 : Cond.methodLink "LandSurvey$Reader" 156 yX3_readSlopeRule ∈ uu := uu_in (i := 879) (by decide +kernel) (by decide +kernel)
theorem kw_881 : Cond.instanceMethod yX3_readSlopeRule ∈ uu := uu_in (i := 881) (by decide +kernel) (by decide +kernel)
theorem kw_20 : Cond.selects "LandSurvey$Reader" yX3_readSlopeRule yX3_readSlopeRule ∈ uu := uu_in (i := 20) (by decide +kernel) (by decide +kernel)
theorem lk_LandSurvey_Reader_156 : lkV "LandSurvey$Reader" 156 yX3_readSlopeRule cX3_readSlopeRule 2 (some .boolean) 0 := ⟨kw_879, kw_881, kw_20, kw_147, kw_882, okX3_readSlopeRule⟩
theorem dX3_readRule_156 : decode cX3_readRule 156 = .ok (.aload_n 0, 1) := by decide +kernel
theorem dX3_readRule_157 : decode cX3_readRule 157 = .ok (.invokevirtual 144, 3) := by decide +kernel
theorem kw_868 : Cond.code yX3_readRemain prog_5_method_18_code 3 (some .boolean) ∈ uu := uu_in (i := 868) (by decide +kernel) (by decide +kernel)
theorem kw_865 : Cond.methodLink "LandSurvey$Reader" 144 yX3_readRemain ∈ uu := uu_in (i := 865) (by decide +kernel) (by decide +kernel)
theorem kw_867 : Cond.instanceMethod yX3_readRemain ∈ uu := uu_in (i := 867) (by decide +kernel) (by decide +kernel)
theorem kw_18 : Cond.selects "LandSurvey$Reader" yX3_readRemain yX3_readRemain ∈ uu := uu_in (i := 18) (by decide +kernel) (by decide +kernel)
theorem lk_LandSurvey_Reader_144 : lkV "LandSurvey$Reader" 144 yX3_readRemain cX3_readRemain 3 (some .boolean) 0 := ⟨kw_865, kw_867, kw_18, kw_147, kw_868, okX3_readRemain⟩
theorem dX3_readRule_160 : decode cX3_readRule 160 = .ok (.ireturn, 1) := by decide +kernel
theorem dX3_readRule_118 : decode cX3_readRule 118 = .ok (.aload_n 0, 1) := by decide +kernel
theorem dX3_readRule_119 : decode cX3_readRule 119 = .ok (.invokevirtual 119, 3) := by decide +kernel
theorem kw_812 : Cond.code yX3_mayAddLine prog_5_method_13_code 1 (some .boolean) ∈ uu := uu_in (i := 812) (by decide +kernel) (by decide +kernel)
theorem kw_809 : Cond.methodLink "LandSurvey$Reader" 119 yX3_mayAddLine ∈ uu := uu_in (i := 809) (by decide +kernel) (by decide +kernel)
theorem kw_811 : Cond.instanceMethod yX3_mayAddLine ∈ uu := uu_in (i := 811) (by decide +kernel) (by decide +kernel)
theorem kw_9 : Cond.selects "LandSurvey$Reader" yX3_mayAddLine yX3_mayAddLine ∈ uu := uu_in (i := 9) (by decide +kernel) (by decide +kernel)
theorem lk_LandSurvey_Reader_119 : lkV "LandSurvey$Reader" 119 yX3_mayAddLine cX3_mayAddLine 1 (some .boolean) 0 := ⟨kw_809, kw_811, kw_9, kw_147, kw_812, okX3_mayAddLine⟩
theorem dX3_readRule_122 : decode cX3_readRule 122 = .ok (.ifCond .eq 22, 3) := by decide +kernel
theorem dX3_readRule_144 : decode cX3_readRule 144 = .ok (.iconst 0, 1) := by decide +kernel
theorem dX3_readRule_145 : decode cX3_readRule 145 = .ok (.ireturn, 1) := by decide +kernel
theorem dX3_readRule_125 : decode cX3_readRule 125 = .ok (.aload_n 0, 1) := by decide +kernel
theorem dX3_readRule_126 : decode cX3_readRule 126 = .ok (.invokevirtual 138, 3) := by decide +kernel
theorem kw_856 : Cond.code yX3_takeStyle prog_5_method_14_code 1 (some .boolean) ∈ uu := uu_in (i := 856) (by decide +kernel) (by decide +kernel)
theorem kw_853 : Cond.methodLink "LandSurvey$Reader" 138 yX3_takeStyle ∈ uu := uu_in (i := 853) (by decide +kernel) (by decide +kernel)
theorem kw_855 : Cond.instanceMethod yX3_takeStyle ∈ uu := uu_in (i := 855) (by decide +kernel) (by decide +kernel)
theorem kw_17 : Cond.selects "LandSurvey$Reader" yX3_takeStyle yX3_takeStyle ∈ uu := uu_in (i := 17) (by decide +kernel) (by decide +kernel)
theorem lk_LandSurvey_Reader_138 : lkV "LandSurvey$Reader" 138 yX3_takeStyle cX3_takeStyle 1 (some .boolean) 0 := ⟨kw_853, kw_855, kw_17, kw_147, kw_856, okX3_takeStyle⟩
theorem dX3_readRule_129 : decode cX3_readRule 129 = .ok (.ifCond .eq 15, 3) := by decide +kernel
theorem dX3_readRule_132 : decode cX3_readRule 132 = .ok (.aload_n 0, 1) := by decide +kernel
theorem dX3_readRule_133 : decode cX3_readRule 133 = .ok (.iconst 2, 1) := by decide +kernel
theorem dX3_readRule_134 : decode cX3_readRule 134 = .ok (.invokevirtual 125, 3) := by decide +kernel
theorem kw_820 : Cond.code yX3_readLine prog_5_method_15_code 3 (some .boolean) ∈ uu := uu_in (i := 820) (by decide +kernel) (by decide +kernel)
theorem kw_817 : Cond.methodLink "LandSurvey$Reader" 125 yX3_readLine ∈ uu := uu_in (i := 817) (by decide +kernel) (by decide +kernel)
theorem kw_819 : Cond.instanceMethod yX3_readLine ∈ uu := uu_in (i := 819) (by decide +kernel) (by decide +kernel)
theorem kw_11 : Cond.selects "LandSurvey$Reader" yX3_readLine yX3_readLine ∈ uu := uu_in (i := 11) (by decide +kernel) (by decide +kernel)
theorem lk_LandSurvey_Reader_125 : lkV "LandSurvey$Reader" 125 yX3_readLine cX3_readLine 3 (some .boolean) 1 := ⟨kw_817, kw_819, kw_11, kw_147, kw_820, okX3_readLine⟩
theorem dX3_readRule_137 : decode cX3_readRule 137 = .ok (.ifCond .eq 7, 3) := by decide +kernel
theorem dX3_readRule_140 : decode cX3_readRule 140 = .ok (.iconst 1, 1) := by decide +kernel
theorem dX3_readRule_141 : decode cX3_readRule 141 = .ok (.goto 4, 3) := by decide +kernel
theorem dX3_readRule_77 : decode cX3_readRule 77 = .ok (.aload_n 0, 1) := by decide +kernel
theorem dX3_readRule_78 : decode cX3_readRule 78 = .ok (.invokevirtual 119, 3) := by decide +kernel
theorem dX3_readRule_81 : decode cX3_readRule 81 = .ok (.ifCond .eq 25, 3) := by decide +kernel
theorem dX3_readRule_106 : decode cX3_readRule 106 = .ok (.iconst 0, 1) := by decide +kernel
theorem dX3_readRule_107 : decode cX3_readRule 107 = .ok (.ireturn, 1) := by decide +kernel
theorem dX3_readRule_84 : decode cX3_readRule 84 = .ok (.aload_n 0, 1) := by decide +kernel
theorem dX3_readRule_85 : decode cX3_readRule 85 = .ok (.iconst 1, 1) := by decide +kernel
theorem dX3_readRule_86 : decode cX3_readRule 86 = .ok (.bipush 99, 2) := by decide +kernel
theorem dX3_readRule_88 : decode cX3_readRule 88 = .ok (.invokevirtual 131, 3) := by decide +kernel
theorem dX3_readRule_91 : decode cX3_readRule 91 = .ok (.ifCond .eq 15, 3) := by decide +kernel
theorem dX3_readRule_94 : decode cX3_readRule 94 = .ok (.aload_n 0, 1) := by decide +kernel
theorem dX3_readRule_95 : decode cX3_readRule 95 = .ok (.iconst 1, 1) := by decide +kernel
theorem dX3_readRule_96 : decode cX3_readRule 96 = .ok (.invokevirtual 125, 3) := by decide +kernel
theorem dX3_readRule_99 : decode cX3_readRule 99 = .ok (.ifCond .eq 7, 3) := by decide +kernel
theorem dX3_readRule_102 : decode cX3_readRule 102 = .ok (.iconst 1, 1) := by decide +kernel
theorem dX3_readRule_103 : decode cX3_readRule 103 = .ok (.goto 4, 3) := by decide +kernel
theorem dX3_readRule_38 : decode cX3_readRule 38 = .ok (.aload_n 0, 1) := by decide +kernel
theorem dX3_readRule_39 : decode cX3_readRule 39 = .ok (.invokevirtual 119, 3) := by decide +kernel
theorem dX3_readRule_42 : decode cX3_readRule 42 = .ok (.ifCond .eq 23, 3) := by decide +kernel
theorem dX3_readRule_65 : decode cX3_readRule 65 = .ok (.iconst 0, 1) := by decide +kernel
theorem dX3_readRule_66 : decode cX3_readRule 66 = .ok (.ireturn, 1) := by decide +kernel
theorem dX3_readRule_45 : decode cX3_readRule 45 = .ok (.aload_n 0, 1) := by decide +kernel
theorem dX3_readRule_46 : decode cX3_readRule 46 = .ok (.iconst 0, 1) := by decide +kernel
theorem dX3_readRule_47 : decode cX3_readRule 47 = .ok (.invokevirtual 122, 3) := by decide +kernel
theorem dX3_readRule_50 : decode cX3_readRule 50 = .ok (.ifCond .eq 15, 3) := by decide +kernel
theorem dX3_readRule_53 : decode cX3_readRule 53 = .ok (.aload_n 0, 1) := by decide +kernel
theorem dX3_readRule_54 : decode cX3_readRule 54 = .ok (.iconst 0, 1) := by decide +kernel
theorem dX3_readRule_55 : decode cX3_readRule 55 = .ok (.invokevirtual 125, 3) := by decide +kernel
theorem dX3_readRule_58 : decode cX3_readRule 58 = .ok (.ifCond .eq 7, 3) := by decide +kernel
theorem dX3_readRule_61 : decode cX3_readRule 61 = .ok (.iconst 1, 1) := by decide +kernel
theorem dX3_readRule_62 : decode cX3_readRule 62 = .ok (.goto 4, 3) := by decide +kernel
theorem dX3_readRule_23 : decode cX3_readRule 23 = .ok (.aload_n 0, 1) := by decide +kernel
theorem dX3_readRule_24 : decode cX3_readRule 24 = .ok (.invokevirtual 113, 3) := by decide +kernel
theorem kw_784 : Cond.code yX3_readRock prog_5_method_12_code 4 (some .boolean) ∈ uu := uu_in (i := 784) (by decide +kernel) (by decide +kernel)
theorem kw_781 : Cond.methodLink "LandSurvey$Reader" 113 yX3_readRock ∈ uu := uu_in (i := 781) (by decide +kernel) (by decide +kernel)
theorem kw_783 : Cond.instanceMethod yX3_readRock ∈ uu := uu_in (i := 783) (by decide +kernel) (by decide +kernel)
theorem kw_4 : Cond.selects "LandSurvey$Reader" yX3_readRock yX3_readRock ∈ uu := uu_in (i := 4) (by decide +kernel) (by decide +kernel)
theorem lk_LandSurvey_Reader_113 : lkV "LandSurvey$Reader" 113 yX3_readRock cX3_readRock 4 (some .boolean) 0 := ⟨kw_781, kw_783, kw_4, kw_147, kw_784, okX3_readRock⟩
theorem dX3_readRule_27 : decode cX3_readRule 27 = .ok (.ireturn, 1) := by decide +kernel
theorem dX3_readRule_7 : decode cX3_readRule 7 = .ok (.aload_n 0, 1) := by decide +kernel
theorem dX3_readRule_8 : decode cX3_readRule 8 = .ok (.iconst 1, 1) := by decide +kernel
theorem dX3_readRule_9 : decode cX3_readRule 9 = .ok (.invokevirtual 99, 3) := by decide +kernel
theorem dX3_readRule_12 : decode cX3_readRule 12 = .ok (.ireturn, 1) := by decide +kernel
def wr_k_X3_readLine : List Nat := [802, 803, 804, 805, 806, 807, 812, 401213, 4020000, 6220000, 6620000, 7020000]
set_option maxRecDepth 100000 in
set_option maxHeartbeats 4000000 in
theorem k_X3_readLine (l : Launch) (D : va_G) (cy : Nat → ClassId) (w : Nat → Nat) (z0 : Nat) {h : Hp} {a0 : Nat} {a1 : Int}  (O : Okh h) (ta0 : Tg h a0 = 4) (fa1 : 0 ≤ a1 ∧ a1 ≤ 2) (P_RInv : RInv w h a0) (P_sy : 0 ≤ Iv h a0 8 ∧ Iv h a0 8 ≤ 99 ∧ (a1 = 0 → Iv h a0 8 ≤ 9)) : MI l D cy w z0 yX3_readLine cX3_readLine 3 (some .boolean) 26 588 0 0 [.inr (.inr a0), .inl a1] h (fun v h1 => Okh h1 ∧ Fx wr_k_X3_readLine h h1 ∧ (0 ≤ v ∧ v ≤ 1) ∧ (RInv w h1 a0)) := by
  obtain ⟨v1, e2⟩ : ∃ z, Rv h a0 13 = z := ⟨_, rfl⟩
  have t3 := P_RInv.1
  rw [e2] at t3
  obtain ⟨v4, e5⟩ : ∃ z, Iv h a0 4 = z := ⟨_, rfl⟩
  have f6 := ok_I O ta0 rI_4_4 e5
  obtain ⟨v7, e8⟩ : ∃ z, Jv h a0 5 = z := ⟨_, rfl⟩
  have f9 := inL_J O e8
  obtain ⟨v10, e11⟩ : ∃ z, Rv h a0 6 = z := ⟨_, rfl⟩
  have p12 := P_RInv.2.2.1
  rw [e5, e8] at p12
  have p13 := P_RInv.2.2.2
  rw [e11] at p13
  obtain ⟨v14, e15⟩ : ∃ z, Iv h a0 8 = z := ⟨_, rfl⟩
  have f16 := ok_I O ta0 rI_4_8 e15
  rw [e15] at P_sy
  refine hm_go (by decide +kernel) (Nat.le_of_ble_eq_true rfl) (fun p e s m below meth c C hr hn => ?_)
  refine g_aload_n C rfl 0 rfl dX3_readLine_0 ?_
  refine gf_I C fk_LandSurvey_Reader_103 rfl ta0 e15 dX3_readLine_1 ?_
  refine g_istore_n C [(2, .inl v14), (0, .inr (.inr a0)), (1, .inl a1)] rfl (by decide) rfl dX3_readLine_4 ?_
  refine g_aload_n C rfl 1 rfl dX3_readLine_5 ?_
  refine g_gets (x := .inr (.inr (w 3 + 1))) C (C.2.2.2.2.2.2.1.1 3 (by decide)).1 kw_821 dX3_readLine_6 ?_
  refine g_callI (st := []) (gc_V C lk_LandSurvey_Reader_165 (k_X3_takeOnly_ l D cy w z0 (w 3 + 1) O ta0 (by unfold RInv; rw [e2, e5, e8, e11]; exact ⟨t3, P_RInv.2.1, by omega, p13⟩)) ta0 rfl rfl rfl ⟨by decide, by decide⟩ (Nat.le_of_ble_eq_true rfl) dX3_readLine_9 ⟨(by decide), (by decide)⟩) (fun r17 h18 f20 K19 => ?_)
  obtain ⟨O21, F22, f23, p24⟩ := K19
  have e25 : Rv h18 a0 13 = v1 := ((fxR F22 ta0 rfl).trans e2)
  obtain ⟨v26, e27⟩ : ∃ z, Iv h18 a0 4 = z := ⟨_, rfl⟩
  have e28 : Tg h18 a0 = 4 := (fxT F22 ta0)
  have f29 := ok_I O21 e28 rI_4_4 e27
  obtain ⟨v30, e31⟩ : ∃ z, Jv h18 a0 5 = z := ⟨_, rfl⟩
  have f32 := inL_J O21 e31
  obtain ⟨v33, e34⟩ : ∃ z, Rv h18 a0 6 = z := ⟨_, rfl⟩
  have p35 := p24.2.2.1
  rw [e27, e31] at p35
  have p36 := p24.2.2.2
  rw [e34] at p36
  refine g_if_eq C (iw f23 (by decide) (by decide)) 32 (by decide) dX3_readLine_12 (fun q37 => ?_) (fun q38 => ?_)
  · have f39 : (0 : Int) ≤ r17 ∧ r17 ≤ (0 : Int) := ii f23 (r_eq (il 0) q37) (by decide) (by decide)
    refine g_iconst C dX3_readLine_32 ?_
    have e40 : Tg h18 v1 = 2006 := (fxT F22 t3)
    exact g_iret C hr (nar_z2 (iw (il 0) (by decide) (by decide))).1 (iw (il 0) (by decide) (by decide)) ⟨O21, ((Fx.rf (wr := wr_k_X3_readLine)).call F22 rfl), (iw (il 0) (by decide) (by decide)), (by unfold RInv; rw [e25, e27, e31, e34]; exact ⟨e40, p24.2.1, by omega, p36⟩)⟩ (by decide) (by decide) dX3_readLine_33
  · have f41 : (1 : Int) ≤ r17 ∧ r17 ≤ (1 : Int) := r_nl f23 q38
    refine g_aload_n C rfl 1 rfl dX3_readLine_15 ?_
    refine g_iconst C dX3_readLine_16 ?_
    have e42 : Tg h18 v1 = 2006 := (fxT F22 t3)
    refine g_callI (st := []) (gc_V C lk_LandSurvey_Reader_196 (k_readTests_0 l D cy w z0 O21 e28 (il 0) (by unfold RInv; rw [e25, e27, e31, e34]; exact ⟨e42, p24.2.1, by omega, p36⟩)) e28 rfl rfl rfl ⟨by decide, by decide⟩ (Nat.le_of_ble_eq_true rfl) dX3_readLine_17 ⟨(by decide), (by decide)⟩) (fun r43 h44 f46 K45 => ?_)
    obtain ⟨O47, F48, f49, p50⟩ := K45
    have e51 : Rv h44 a0 13 = v1 := ((fxR F48 e28 rfl).trans e25)
    obtain ⟨v52, e53⟩ : ∃ z, Iv h44 a0 4 = z := ⟨_, rfl⟩
    have e54 : Tg h44 a0 = 4 := (fxT F48 e28)
    have f55 := ok_I O47 e54 rI_4_4 e53
    obtain ⟨v56, e57⟩ : ∃ z, Jv h44 a0 5 = z := ⟨_, rfl⟩
    have f58 := inL_J O47 e57
    obtain ⟨v59, e60⟩ : ∃ z, Rv h44 a0 6 = z := ⟨_, rfl⟩
    have p61 := p50.2.2.1
    rw [e53, e57] at p61
    have p62 := p50.2.2.2
    rw [e60] at p62
    refine g_if_eq C (iw f49 (by decide) (by decide)) 32 (by decide) dX3_readLine_20 (fun q63 => ?_) (fun q64 => ?_)
    · have f65 : (0 : Int) ≤ r43 ∧ r43 ≤ (0 : Int) := ii f49 (r_eq (il 0) q63) (by decide) (by decide)
      refine g_iconst C dX3_readLine_32 ?_
      have e66 : Tg h44 v1 = 2006 := (fxT F48 e42)
      exact g_iret C hr (nar_z2 (iw (il 0) (by decide) (by decide))).1 (iw (il 0) (by decide) (by decide)) ⟨O47, (((Fx.rf (wr := wr_k_X3_readLine)).call F22 rfl).call F48 rfl), (iw (il 0) (by decide) (by decide)), (by unfold RInv; rw [e51, e53, e57, e60]; exact ⟨e66, p50.2.1, by omega, p62⟩)⟩ (by decide) (by decide) dX3_readLine_33
    · have f67 : (1 : Int) ≤ r43 ∧ r43 ≤ (1 : Int) := r_nl f49 q64
      refine g_aload_n C rfl 1 rfl dX3_readLine_23 ?_
      refine g_bipush C (by decide) dX3_readLine_24 ?_
      have e68 : Tg h44 v1 = 2006 := (fxT F48 e42)
      refine g_callI (st := []) (gc_V C lk_LandSurvey_Reader_169 (k_X3_takeOnly l D cy w z0 O47 e54 (iw (il 59) (by decide) (by decide)) (by unfold RInv; rw [e51, e53, e57, e60]; exact ⟨e68, p50.2.1, by omega, p62⟩)) e54 rfl rfl rfl ⟨by decide, by decide⟩ (Nat.le_of_ble_eq_true rfl) dX3_readLine_26 ⟨(by decide), (by decide)⟩) (fun r69 h70 f72 K71 => ?_)
      obtain ⟨O73, F74, f75, p76⟩ := K71
      have e77 : Rv h70 a0 13 = v1 := ((fxR F74 e54 rfl).trans e51)
      obtain ⟨v78, e79⟩ : ∃ z, Iv h70 a0 4 = z := ⟨_, rfl⟩
      have e80 : Tg h70 a0 = 4 := (fxT F74 e54)
      have f81 := ok_I O73 e80 rI_4_4 e79
      obtain ⟨v82, e83⟩ : ∃ z, Jv h70 a0 5 = z := ⟨_, rfl⟩
      have f84 := inL_J O73 e83
      obtain ⟨v85, e86⟩ : ∃ z, Rv h70 a0 6 = z := ⟨_, rfl⟩
      have p87 := p76.2.2.1
      rw [e79, e83] at p87
      have p88 := p76.2.2.2
      rw [e86] at p88
      refine g_if_ne C (iw f75 (by decide) (by decide)) 34 (by decide) dX3_readLine_29 (fun q89 => ?_) (fun q90 => ?_)
      · have f91 : (1 : Int) ≤ r69 ∧ r69 ≤ (1 : Int) := r_nl f75 q89
        obtain ⟨v92, e93⟩ : ∃ z, Rv h70 v1 14 = z := ⟨_, rfl⟩
        have e94 : Tg h70 v1 = 2006 := (fxT F74 e68)
        have t95 := ok_R O73 e94 rE_2006_14 e93
        have l96 := ok_L O73 e94 rE_2006_14 e93
        obtain ⟨v97, e98⟩ : ∃ z, Rv h70 v1 15 = z := ⟨_, rfl⟩
        have t99 := ok_R O73 e94 rE_2006_15 e98
        have l100 := ok_L O73 e94 rE_2006_15 e98
        obtain ⟨v101, e102⟩ : ∃ z, Rv h70 v1 16 = z := ⟨_, rfl⟩
        have t103 := ok_R O73 e94 rE_2006_16 e102
        have l104 := ok_L O73 e94 rE_2006_16 e102
        obtain ⟨v105, e106⟩ : ∃ z, Iv h70 v1 13 = z := ⟨_, rfl⟩
        have f107 := ok_I O73 e94 rI_2006_13 e106
        obtain ⟨v108, e109⟩ : ∃ z, Iv h70 a0 12 = z := ⟨_, rfl⟩
        have f110 := ok_I O73 e80 rI_4_12 e109
        refine g_aload_n C rfl 1 rfl dX3_readLine_34 ?_
        refine gf_R C fk_LandSurvey_Reader_26 rfl e80 e77 dX3_readLine_35 ?_
        refine gf_R C fk_LandSurvey_Reader_199 rfl e94 e93 dX3_readLine_38 ?_
        refine g_aload_n C rfl 1 rfl dX3_readLine_41 ?_
        refine gf_R C fk_LandSurvey_Reader_26 rfl e80 e77 dX3_readLine_42 ?_
        refine gf_I C fk_LandSurvey_Reader_181 rfl e94 e106 dX3_readLine_45 ?_
        refine g_iload_n C rfl 2 rfl dX3_readLine_48 ?_
        refine g_iast C t95 rfl l96 (by omega) (iw fa1 (by decide) (by decide)) dX3_readLine_49 (fun h112 hh111 => ?_)
        have O113 := O73.pIa t95 ar_31100 hh111 rI_31100_0 fa1 nofun
        refine g_aload_n C rfl 1 rfl dX3_readLine_50 ?_
        have e114 : Tg h112 a0 = 4 := ((pIT hh111).trans e80)
        have e115 : Rv h112 a0 13 = v1 := ((pIR hh111).trans e77)
        refine gf_R C fk_LandSurvey_Reader_26 rfl e114 e115 dX3_readLine_51 ?_
        have e116 : Tg h112 v1 = 2006 := ((pIT hh111).trans e94)
        have e117 : Rv h112 v1 15 = v97 := ((pIR hh111).trans e98)
        refine gf_R C fk_LandSurvey_Reader_202 rfl e116 e117 dX3_readLine_54 ?_
        refine g_aload_n C rfl 1 rfl dX3_readLine_57 ?_
        refine gf_R C fk_LandSurvey_Reader_26 rfl e114 e115 dX3_readLine_58 ?_
        have e118 : Iv h112 v1 13 = v105 := ((pI_n hh111 (ne_tag e94 t95 (by decide))).trans e106)
        refine gf_I C fk_LandSurvey_Reader_181 rfl e116 e118 dX3_readLine_61 ?_
        refine g_iload_n C rfl 0 rfl dX3_readLine_64 ?_
        have e119 : Tg h112 v97 = 33100 := ((pIT hh111).trans t99)
        have e120 : Ln h112 v97 = 24 := ((pIL hh111).trans l100)
        refine g_iast C e119 rfl e120 (by omega) f16 dX3_readLine_65 (fun h122 hh121 => ?_)
        have O123 := O113.pIa e119 ar_33100 hh121 rI_33100_0 (by omega) nofun
        refine g_aload_n C rfl 1 rfl dX3_readLine_66 ?_
        have e124 : Tg h122 a0 = 4 := ((pIT hh121).trans e114)
        have e125 : Rv h122 a0 13 = v1 := ((pIR hh121).trans e115)
        refine gf_R C fk_LandSurvey_Reader_26 rfl e124 e125 dX3_readLine_67 ?_
        have e126 : Tg h122 v1 = 2006 := ((pIT hh121).trans e116)
        have e127 : Rv h122 v1 16 = v101 := ((pIR hh121).trans ((pIR hh111).trans e102))
        refine gf_R C fk_LandSurvey_Reader_205 rfl e126 e127 dX3_readLine_70 ?_
        refine g_aload_n C rfl 1 rfl dX3_readLine_73 ?_
        refine gf_R C fk_LandSurvey_Reader_26 rfl e124 e125 dX3_readLine_74 ?_
        have e128 : Iv h122 v1 13 = v105 := ((pI_n hh121 (ne_tag e116 e119 (by decide))).trans e118)
        refine gf_I C fk_LandSurvey_Reader_181 rfl e126 e128 dX3_readLine_77 ?_
        refine g_aload_n C rfl 1 rfl dX3_readLine_80 ?_
        have e129 : Iv h122 a0 12 = v108 := ((pI_n hh121 (ne_tag e114 e119 (by decide))).trans ((pI_n hh111 (ne_tag e80 t95 (by decide))).trans e109))
        refine gf_I C fk_LandSurvey_Reader_36 rfl e124 e129 dX3_readLine_81 ?_
        have e130 : Tg h122 v101 = 35100 := ((pIT hh121).trans ((pIT hh111).trans t103))
        have e131 : Ln h122 v101 = 24 := ((pIL hh121).trans ((pIL hh111).trans l104))
        refine g_iast C e130 rfl e131 (by omega) (iw f110 (by decide) (by decide)) dX3_readLine_84 (fun h133 hh132 => ?_)
        have O134 := O123.pIa e130 ar_35100 hh132 rI_35100_0 f110 nofun
        refine g_aload_n C rfl 1 rfl dX3_readLine_85 ?_
        have e135 : Tg h133 a0 = 4 := ((pIT hh132).trans e124)
        have e136 : Rv h133 a0 13 = v1 := ((pIR hh132).trans e125)
        refine gf_R C fk_LandSurvey_Reader_26 rfl e135 e136 dX3_readLine_86 ?_
        refine g_dup C rfl dX3_readLine_89 ?_
        have e137 : Tg h133 v1 = 2006 := ((pIT hh132).trans e126)
        have e138 : Iv h133 v1 13 = v105 := ((pI_n hh132 (ne_tag e126 e130 (by decide))).trans e128)
        refine gf_I C fk_LandSurvey_Reader_181 rfl e137 e138 dX3_readLine_90 ?_
        refine g_iconst C dX3_readLine_93 ?_
        have f139 : (1 : Int) ≤ (v105 + 1) ∧ (v105 + 1) ≤ (25 : Int) := ia_add f107 (il 1) (by decide) (by decide)
        refine g_iadd C dX3_readLine_94 ?_
        refine gp_I C fk_LandSurvey_Reader_181 pk_LandSurvey_Rules_13 rfl e137 (iw f139 (by decide) (by decide)) (nf_i _) dX3_readLine_95 (fun h141 hh140 => ?_)
        have O142 := O134.pI e137 hh140 rI_2006_13 (by omega) nofun
        refine g_iconst C dX3_readLine_98 ?_
        have e143 : Rv h141 a0 13 = v1 := ((pIR hh140).trans e136)
        have e144 : Iv h141 a0 4 = v78 := ((pI_n hh140 (ne_tag e135 e137 (by decide))).trans ((pI_n hh132 (ne_tag e124 e130 (by decide))).trans ((pI_n hh121 (ne_tag e114 e119 (by decide))).trans ((pI_n hh111 (ne_tag e80 t95 (by decide))).trans e79))))
        have e145 : Jv h141 a0 5 = v82 := ((pIJ hh140).trans ((pIJ hh132).trans ((pIJ hh121).trans ((pIJ hh111).trans e83))))
        have e146 : Rv h141 a0 6 = v85 := ((pIR hh140).trans ((pIR hh132).trans ((pIR hh121).trans ((pIR hh111).trans e86))))
        have e147 : Tg h141 v1 = 2006 := ((pIT hh140).trans e137)
        exact g_iret C hr (nar_z2 (iw (il 1) (by decide) (by decide))).1 (iw (il 1) (by decide) (by decide)) ⟨O142, ((((((((Fx.rf (wr := wr_k_X3_readLine)).call F22 rfl).call F48 rfl).call F74 rfl).pIa t95 ar_31100 hh111 rfl).pIa e119 ar_33100 hh121 rfl).pIa e130 ar_35100 hh132 rfl).pI e137 hh140 rfl), (iw (il 1) (by decide) (by decide)), (by unfold RInv; rw [e143, e144, e145, e146]; exact ⟨e147, (DOk_line O73 e80 e77 e94 e93 e98 e102 e106 (by omega) hh111 hh121 e109 hh132 hh140 (by omega) p76.2.1), by omega, p88⟩)⟩ (by decide) (by decide) dX3_readLine_99
      · have f148 : (0 : Int) ≤ r69 ∧ r69 ≤ (0 : Int) := ii f75 (r_eq (il 0) q90) (by decide) (by decide)
        refine g_iconst C dX3_readLine_32 ?_
        have e149 : Tg h70 v1 = 2006 := (fxT F74 e68)
        exact g_iret C hr (nar_z2 (iw (il 0) (by decide) (by decide))).1 (iw (il 0) (by decide) (by decide)) ⟨O73, ((((Fx.rf (wr := wr_k_X3_readLine)).call F22 rfl).call F48 rfl).call F74 rfl), (iw (il 0) (by decide) (by decide)), (by unfold RInv; rw [e77, e79, e83, e86]; exact ⟨e149, p76.2.1, by omega, p88⟩)⟩ (by decide) (by decide) dX3_readLine_33
def wr_k_X3_readRule : List Nat := [802, 803, 804, 805, 806, 807, 808, 809, 810, 812, 401200, 401207, 401208, 401209, 401210, 401213, 4020000, 4620400, 4820000, 5020000, 5620000, 5820000, 6220000, 6620000, 7020000]
set_option maxRecDepth 100000 in
set_option maxHeartbeats 4000000 in
theorem k_X3_readRule (l : Launch) (D : va_G) (cy : Nat → ClassId) (w : Nat → Nat) (z0 : Nat) {h : Hp} {a0 : Nat}  (O : Okh h) (ta0 : Tg h a0 = 4) (P_RInv : RInv w h a0) : MI l D cy w z0 yX3_readRule cX3_readRule 1 (some .boolean) 27 610 0 0 [.inr (.inr a0)] h (fun v h1 => Okh h1 ∧ Fx wr_k_X3_readRule h h1 ∧ (0 ≤ v ∧ v ≤ 1) ∧ (RInv w h1 a0)) := by
  obtain ⟨v1, e2⟩ : ∃ z, Rv h a0 13 = z := ⟨_, rfl⟩
  have t3 := P_RInv.1
  rw [e2] at t3
  obtain ⟨v4, e5⟩ : ∃ z, Iv h a0 4 = z := ⟨_, rfl⟩
  have f6 := ok_I O ta0 rI_4_4 e5
  obtain ⟨v7, e8⟩ : ∃ z, Jv h a0 5 = z := ⟨_, rfl⟩
  have f9 := inL_J O e8
  obtain ⟨v10, e11⟩ : ∃ z, Rv h a0 6 = z := ⟨_, rfl⟩
  have p12 := P_RInv.2.2.1
  rw [e5, e8] at p12
  have p13 := P_RInv.2.2.2
  rw [e11] at p13
  refine hm_go (by decide +kernel) (Nat.le_of_ble_eq_true rfl) (fun p e s m below meth c C hr hn => ?_)
  refine g_aload_n C rfl 0 rfl dX3_readRule_0 ?_
  refine gf_R C fk_LandSurvey_Reader_69 rfl ta0 e11 dX3_readRule_1 ?_
  refine g_ifnonnull C 13 (by decide) dX3_readRule_4 (fun q14 => ?_) (fun q15 => ?_)
  · refine g_aload_n C rfl 0 rfl dX3_readRule_13 ?_
    refine gf_R C fk_LandSurvey_Reader_69 rfl ta0 e11 dX3_readRule_14 ?_
    refine g_gets (x := .inr (.inr (w 0 + 1))) C (C.2.2.2.2.2.2.1.1 0 (by decide)).1 kw_779 dX3_readRule_17 ?_
    refine g_acmp_ne C 28 (by decide) dX3_readRule_20 (fun q16 => ?_) (fun q17 => ?_)
    · refine g_aload_n C rfl 0 rfl dX3_readRule_28 ?_
      refine gf_R C fk_LandSurvey_Reader_69 rfl ta0 e11 dX3_readRule_29 ?_
      refine g_gets (x := .inr (.inr (w 2 + 1))) C (C.2.2.2.2.2.2.1.1 2 (by decide)).1 kw_807 dX3_readRule_32 ?_
      refine g_acmp_ne C 67 (by decide) dX3_readRule_35 (fun q18 => ?_) (fun q19 => ?_)
      · refine g_aload_n C rfl 0 rfl dX3_readRule_67 ?_
        refine gf_R C fk_LandSurvey_Reader_69 rfl ta0 e11 dX3_readRule_68 ?_
        refine g_gets (x := .inr (.inr (w 4 + 1))) C (C.2.2.2.2.2.2.1.1 4 (by decide)).1 kw_849 dX3_readRule_71 ?_
        refine g_acmp_ne C 108 (by decide) dX3_readRule_74 (fun q20 => ?_) (fun q21 => ?_)
        · refine g_aload_n C rfl 0 rfl dX3_readRule_108 ?_
          refine gf_R C fk_LandSurvey_Reader_69 rfl ta0 e11 dX3_readRule_109 ?_
          refine g_gets (x := .inr (.inr (w 5 + 1))) C (C.2.2.2.2.2.2.1.1 5 (by decide)).1 kw_851 dX3_readRule_112 ?_
          refine g_acmp_ne C 146 (by decide) dX3_readRule_115 (fun q22 => ?_) (fun q23 => ?_)
          · refine g_aload_n C rfl 0 rfl dX3_readRule_146 ?_
            refine gf_R C fk_LandSurvey_Reader_69 rfl ta0 e11 dX3_readRule_147 ?_
            refine g_gets (x := .inr (.inr (w 13 + 1))) C (C.2.2.2.2.2.2.1.1 13 (by decide)).1 kw_863 dX3_readRule_150 ?_
            refine g_acmp_ne C 161 (by decide) dX3_readRule_153 (fun q24 => ?_) (fun q25 => ?_)
            · refine g_aload_n C rfl 0 rfl dX3_readRule_161 ?_
              refine gf_R C fk_LandSurvey_Reader_69 rfl ta0 e11 dX3_readRule_162 ?_
              refine g_gets (x := .inr (.inr (w 11 + 1))) C (C.2.2.2.2.2.2.1.1 11 (by decide)).1 kw_871 dX3_readRule_165 ?_
              refine g_acmp_eq C 181 (by decide) dX3_readRule_168 (fun q26 => ?_) (fun q27 => ?_)
              · refine g_aload_n C rfl 0 rfl dX3_readRule_181 ?_
                refine g_callI (st := []) (gc_V C lk_LandSurvey_Reader_153 (k_X3_readWaterRule l D cy w z0 O ta0 (by unfold RInv; rw [e2, e5, e8, e11]; exact ⟨t3, P_RInv.2.1, by omega, p13⟩)) ta0 rfl rfl rfl ⟨by decide, by decide⟩ (Nat.le_of_ble_eq_true rfl) dX3_readRule_182 ⟨(by decide), (by decide)⟩) (fun r28 h29 f31 K30 => ?_)
                obtain ⟨O32, F33, f34, p35⟩ := K30
                have e36 : Rv h29 a0 13 = v1 := ((fxR F33 ta0 rfl).trans e2)
                obtain ⟨v37, e38⟩ : ∃ z, Iv h29 a0 4 = z := ⟨_, rfl⟩
                have e39 : Tg h29 a0 = 4 := (fxT F33 ta0)
                have f40 := ok_I O32 e39 rI_4_4 e38
                obtain ⟨v41, e42⟩ : ∃ z, Jv h29 a0 5 = z := ⟨_, rfl⟩
                have f43 := inL_J O32 e42
                obtain ⟨v44, e45⟩ : ∃ z, Rv h29 a0 6 = z := ⟨_, rfl⟩
                have p46 := p35.2.2.1
                rw [e38, e42] at p46
                have p47 := p35.2.2.2
                rw [e45] at p47
                refine g_goto C 192 (by decide) dX3_readRule_185 ?_
                have e48 : Tg h29 v1 = 2006 := (fxT F33 t3)
                exact g_iret C hr (nar_z2 f34).1 (iw f34 (by decide) (by decide)) ⟨O32, ((Fx.rf (wr := wr_k_X3_readRule)).call F33 rfl), f34, (by unfold RInv; rw [e36, e38, e42, e45]; exact ⟨e48, p35.2.1, by omega, p47⟩)⟩ (by decide) (by decide) dX3_readRule_192
              · refine g_aload_n C rfl 0 rfl dX3_readRule_171 ?_
                refine gf_R C fk_LandSurvey_Reader_69 rfl ta0 e11 dX3_readRule_172 ?_
                refine g_gets (x := .inr (.inr (w 12 + 1))) C (C.2.2.2.2.2.2.1.1 12 (by decide)).1 kw_873 dX3_readRule_175 ?_
                refine g_acmp_ne C 188 (by decide) dX3_readRule_178 (fun q49 => ?_) (fun q50 => ?_)
                · refine g_aload_n C rfl 0 rfl dX3_readRule_188 ?_
                  refine g_callI (st := []) (gc_V C lk_LandSurvey_Reader_156 (k_X3_readSlopeRule l D cy w z0 O ta0 (by unfold RInv; rw [e2, e5, e8, e11]; exact ⟨t3, P_RInv.2.1, by omega, p13⟩)) ta0 rfl rfl rfl ⟨by decide, by decide⟩ (Nat.le_of_ble_eq_true rfl) dX3_readRule_189 ⟨(by decide), (by decide)⟩) (fun r51 h52 f54 K53 => ?_)
                  obtain ⟨O55, F56, f57, p58⟩ := K53
                  have e59 : Rv h52 a0 13 = v1 := ((fxR F56 ta0 rfl).trans e2)
                  obtain ⟨v60, e61⟩ : ∃ z, Iv h52 a0 4 = z := ⟨_, rfl⟩
                  have e62 : Tg h52 a0 = 4 := (fxT F56 ta0)
                  have f63 := ok_I O55 e62 rI_4_4 e61
                  obtain ⟨v64, e65⟩ : ∃ z, Jv h52 a0 5 = z := ⟨_, rfl⟩
                  have f66 := inL_J O55 e65
                  obtain ⟨v67, e68⟩ : ∃ z, Rv h52 a0 6 = z := ⟨_, rfl⟩
                  have p69 := p58.2.2.1
                  rw [e61, e65] at p69
                  have p70 := p58.2.2.2
                  rw [e68] at p70
                  have e71 : Tg h52 v1 = 2006 := (fxT F56 t3)
                  exact g_iret C hr (nar_z2 f57).1 (iw f57 (by decide) (by decide)) ⟨O55, ((Fx.rf (wr := wr_k_X3_readRule)).call F56 rfl), f57, (by unfold RInv; rw [e59, e61, e65, e68]; exact ⟨e71, p58.2.1, by omega, p70⟩)⟩ (by decide) (by decide) dX3_readRule_192
                · refine g_aload_n C rfl 0 rfl dX3_readRule_181 ?_
                  refine g_callI (st := []) (gc_V C lk_LandSurvey_Reader_153 (k_X3_readWaterRule l D cy w z0 O ta0 (by unfold RInv; rw [e2, e5, e8, e11]; exact ⟨t3, P_RInv.2.1, by omega, p13⟩)) ta0 rfl rfl rfl ⟨by decide, by decide⟩ (Nat.le_of_ble_eq_true rfl) dX3_readRule_182 ⟨(by decide), (by decide)⟩) (fun r72 h73 f75 K74 => ?_)
                  obtain ⟨O76, F77, f78, p79⟩ := K74
                  have e80 : Rv h73 a0 13 = v1 := ((fxR F77 ta0 rfl).trans e2)
                  obtain ⟨v81, e82⟩ : ∃ z, Iv h73 a0 4 = z := ⟨_, rfl⟩
                  have e83 : Tg h73 a0 = 4 := (fxT F77 ta0)
                  have f84 := ok_I O76 e83 rI_4_4 e82
                  obtain ⟨v85, e86⟩ : ∃ z, Jv h73 a0 5 = z := ⟨_, rfl⟩
                  have f87 := inL_J O76 e86
                  obtain ⟨v88, e89⟩ : ∃ z, Rv h73 a0 6 = z := ⟨_, rfl⟩
                  have p90 := p79.2.2.1
                  rw [e82, e86] at p90
                  have p91 := p79.2.2.2
                  rw [e89] at p91
                  refine g_goto C 192 (by decide) dX3_readRule_185 ?_
                  have e92 : Tg h73 v1 = 2006 := (fxT F77 t3)
                  exact g_iret C hr (nar_z2 f78).1 (iw f78 (by decide) (by decide)) ⟨O76, ((Fx.rf (wr := wr_k_X3_readRule)).call F77 rfl), f78, (by unfold RInv; rw [e80, e82, e86, e89]; exact ⟨e92, p79.2.1, by omega, p91⟩)⟩ (by decide) (by decide) dX3_readRule_192
            · refine g_aload_n C rfl 0 rfl dX3_readRule_156 ?_
              refine g_callI (st := []) (gc_V C lk_LandSurvey_Reader_144 (k_X3_readRemain l D cy w z0 O ta0 (by unfold RInv; rw [e2, e5, e8, e11]; exact ⟨t3, P_RInv.2.1, by omega, p13⟩)) ta0 rfl rfl rfl ⟨by decide, by decide⟩ (Nat.le_of_ble_eq_true rfl) dX3_readRule_157 ⟨(by decide), (by decide)⟩) (fun r93 h94 f96 K95 => ?_)
              obtain ⟨O97, F98, f99, p100⟩ := K95
              have e101 : Rv h94 a0 13 = v1 := ((fxR F98 ta0 rfl).trans e2)
              obtain ⟨v102, e103⟩ : ∃ z, Iv h94 a0 4 = z := ⟨_, rfl⟩
              have e104 : Tg h94 a0 = 4 := (fxT F98 ta0)
              have f105 := ok_I O97 e104 rI_4_4 e103
              obtain ⟨v106, e107⟩ : ∃ z, Jv h94 a0 5 = z := ⟨_, rfl⟩
              have f108 := inL_J O97 e107
              obtain ⟨v109, e110⟩ : ∃ z, Rv h94 a0 6 = z := ⟨_, rfl⟩
              have p111 := p100.2.2.1
              rw [e103, e107] at p111
              have p112 := p100.2.2.2
              rw [e110] at p112
              have e113 : Tg h94 v1 = 2006 := (fxT F98 t3)
              exact g_iret C hr (nar_z2 f99).1 (iw f99 (by decide) (by decide)) ⟨O97, ((Fx.rf (wr := wr_k_X3_readRule)).call F98 rfl), f99, (by unfold RInv; rw [e101, e103, e107, e110]; exact ⟨e113, p100.2.1, by omega, p112⟩)⟩ (by decide) (by decide) dX3_readRule_160
          · refine g_aload_n C rfl 0 rfl dX3_readRule_118 ?_
            refine g_callI (st := []) (gc_V C lk_LandSurvey_Reader_119 (k_X3_mayAddLine l D cy w z0 O ta0 (by unfold RInv; rw [e2, e5, e8, e11]; exact ⟨t3, P_RInv.2.1, by omega, p13⟩)) ta0 rfl rfl rfl ⟨by decide, by decide⟩ (Nat.le_of_ble_eq_true rfl) dX3_readRule_119 ⟨(by decide), (by decide)⟩) (fun r114 h115 f117 K116 => ?_)
            obtain ⟨O118, F119, f120, p121⟩ := K116
            have e122 : Rv h115 a0 13 = v1 := ((fxR F119 ta0 rfl).trans e2)
            obtain ⟨v123, e124⟩ : ∃ z, Iv h115 a0 4 = z := ⟨_, rfl⟩
            have e125 : Tg h115 a0 = 4 := (fxT F119 ta0)
            have f126 := ok_I O118 e125 rI_4_4 e124
            obtain ⟨v127, e128⟩ : ∃ z, Jv h115 a0 5 = z := ⟨_, rfl⟩
            have f129 := inL_J O118 e128
            obtain ⟨v130, e131⟩ : ∃ z, Rv h115 a0 6 = z := ⟨_, rfl⟩
            have p132 := p121.2.2.1
            rw [e124, e128] at p132
            have p133 := p121.2.2.2
            rw [e131] at p133
            refine g_if_eq C (iw f120 (by decide) (by decide)) 144 (by decide) dX3_readRule_122 (fun q134 => ?_) (fun q135 => ?_)
            · have f136 : (0 : Int) ≤ r114 ∧ r114 ≤ (0 : Int) := ii f120 (r_eq (il 0) q134) (by decide) (by decide)
              refine g_iconst C dX3_readRule_144 ?_
              have e137 : Tg h115 v1 = 2006 := (fxT F119 t3)
              exact g_iret C hr (nar_z2 (iw (il 0) (by decide) (by decide))).1 (iw (il 0) (by decide) (by decide)) ⟨O118, ((Fx.rf (wr := wr_k_X3_readRule)).call F119 rfl), (iw (il 0) (by decide) (by decide)), (by unfold RInv; rw [e122, e124, e128, e131]; exact ⟨e137, p121.2.1, by omega, p133⟩)⟩ (by decide) (by decide) dX3_readRule_145
            · have f138 : (1 : Int) ≤ r114 ∧ r114 ≤ (1 : Int) := r_nl f120 q135
              refine g_aload_n C rfl 0 rfl dX3_readRule_125 ?_
              have e139 : Tg h115 v1 = 2006 := (fxT F119 t3)
              refine g_callI (st := []) (gc_V C lk_LandSurvey_Reader_138 (k_X3_takeStyle l D cy w z0 O118 e125 (by unfold RInv; rw [e122, e124, e128, e131]; exact ⟨e139, p121.2.1, by omega, p133⟩)) e125 rfl rfl rfl ⟨by decide, by decide⟩ (Nat.le_of_ble_eq_true rfl) dX3_readRule_126 ⟨(by decide), (by decide)⟩) (fun r140 h141 f143 K142 => ?_)
              obtain ⟨O144, F145, f146, p147, p148⟩ := K142
              have e149 : Rv h141 a0 13 = v1 := ((fxR F145 e125 rfl).trans e122)
              obtain ⟨v150, e151⟩ : ∃ z, Iv h141 a0 4 = z := ⟨_, rfl⟩
              have e152 : Tg h141 a0 = 4 := (fxT F145 e125)
              have f153 := ok_I O144 e152 rI_4_4 e151
              obtain ⟨v154, e155⟩ : ∃ z, Jv h141 a0 5 = z := ⟨_, rfl⟩
              have f156 := inL_J O144 e155
              obtain ⟨v157, e158⟩ : ∃ z, Rv h141 a0 6 = z := ⟨_, rfl⟩
              have p159 := p147.2.2.1
              rw [e151, e155] at p159
              have p160 := p147.2.2.2
              rw [e158] at p160
              obtain ⟨v161, e162⟩ : ∃ z, Iv h141 a0 8 = z := ⟨_, rfl⟩
              have f163 := ok_I O144 e152 rI_4_8 e162
              rw [e162] at p148
              refine g_if_eq C (iw f146 (by decide) (by decide)) 144 (by decide) dX3_readRule_129 (fun q164 => ?_) (fun q165 => ?_)
              · have f166 : (0 : Int) ≤ r140 ∧ r140 ≤ (0 : Int) := ii f146 (r_eq (il 0) q164) (by decide) (by decide)
                refine g_iconst C dX3_readRule_144 ?_
                have e167 : Tg h141 v1 = 2006 := (fxT F145 e139)
                exact g_iret C hr (nar_z2 (iw (il 0) (by decide) (by decide))).1 (iw (il 0) (by decide) (by decide)) ⟨O144, (((Fx.rf (wr := wr_k_X3_readRule)).call F119 rfl).call F145 rfl), (iw (il 0) (by decide) (by decide)), (by unfold RInv; rw [e149, e151, e155, e158]; exact ⟨e167, p147.2.1, by omega, p160⟩)⟩ (by decide) (by decide) dX3_readRule_145
              · have f168 : (1 : Int) ≤ r140 ∧ r140 ≤ (1 : Int) := r_nl f146 q165
                refine g_aload_n C rfl 0 rfl dX3_readRule_132 ?_
                refine g_iconst C dX3_readRule_133 ?_
                have e169 : Tg h141 v1 = 2006 := (fxT F145 e139)
                refine g_callI (st := []) (gc_V C lk_LandSurvey_Reader_125 (k_X3_readLine l D cy w z0 O144 e152 (iw (il 2) (by decide) (by decide)) (by unfold RInv; rw [e149, e151, e155, e158]; exact ⟨e169, p147.2.1, by omega, p160⟩) (by rw [e162]; omega)) e152 rfl rfl rfl ⟨by decide, by decide⟩ (Nat.le_of_ble_eq_true rfl) dX3_readRule_134 ⟨(by decide), (by decide)⟩) (fun r170 h171 f173 K172 => ?_)
                obtain ⟨O174, F175, f176, p177⟩ := K172
                have e178 : Rv h171 a0 13 = v1 := ((fxR F175 e152 rfl).trans e149)
                obtain ⟨v179, e180⟩ : ∃ z, Iv h171 a0 4 = z := ⟨_, rfl⟩
                have e181 : Tg h171 a0 = 4 := (fxT F175 e152)
                have f182 := ok_I O174 e181 rI_4_4 e180
                obtain ⟨v183, e184⟩ : ∃ z, Jv h171 a0 5 = z := ⟨_, rfl⟩
                have f185 := inL_J O174 e184
                obtain ⟨v186, e187⟩ : ∃ z, Rv h171 a0 6 = z := ⟨_, rfl⟩
                have p188 := p177.2.2.1
                rw [e180, e184] at p188
                have p189 := p177.2.2.2
                rw [e187] at p189
                refine g_if_eq C (iw f176 (by decide) (by decide)) 144 (by decide) dX3_readRule_137 (fun q190 => ?_) (fun q191 => ?_)
                · have f192 : (0 : Int) ≤ r170 ∧ r170 ≤ (0 : Int) := ii f176 (r_eq (il 0) q190) (by decide) (by decide)
                  refine g_iconst C dX3_readRule_144 ?_
                  have e193 : Tg h171 v1 = 2006 := (fxT F175 e169)
                  exact g_iret C hr (nar_z2 (iw (il 0) (by decide) (by decide))).1 (iw (il 0) (by decide) (by decide)) ⟨O174, ((((Fx.rf (wr := wr_k_X3_readRule)).call F119 rfl).call F145 rfl).call F175 rfl), (iw (il 0) (by decide) (by decide)), (by unfold RInv; rw [e178, e180, e184, e187]; exact ⟨e193, p177.2.1, by omega, p189⟩)⟩ (by decide) (by decide) dX3_readRule_145
                · have f194 : (1 : Int) ≤ r170 ∧ r170 ≤ (1 : Int) := r_nl f176 q191
                  refine g_iconst C dX3_readRule_140 ?_
                  refine g_goto C 145 (by decide) dX3_readRule_141 ?_
                  have e195 : Tg h171 v1 = 2006 := (fxT F175 e169)
                  exact g_iret C hr (nar_z2 (iw (il 1) (by decide) (by decide))).1 (iw (il 1) (by decide) (by decide)) ⟨O174, ((((Fx.rf (wr := wr_k_X3_readRule)).call F119 rfl).call F145 rfl).call F175 rfl), (iw (il 1) (by decide) (by decide)), (by unfold RInv; rw [e178, e180, e184, e187]; exact ⟨e195, p177.2.1, by omega, p189⟩)⟩ (by decide) (by decide) dX3_readRule_145
        · refine g_aload_n C rfl 0 rfl dX3_readRule_77 ?_
          refine g_callI (st := []) (gc_V C lk_LandSurvey_Reader_119 (k_X3_mayAddLine l D cy w z0 O ta0 (by unfold RInv; rw [e2, e5, e8, e11]; exact ⟨t3, P_RInv.2.1, by omega, p13⟩)) ta0 rfl rfl rfl ⟨by decide, by decide⟩ (Nat.le_of_ble_eq_true rfl) dX3_readRule_78 ⟨(by decide), (by decide)⟩) (fun r196 h197 f199 K198 => ?_)
          obtain ⟨O200, F201, f202, p203⟩ := K198
          have e204 : Rv h197 a0 13 = v1 := ((fxR F201 ta0 rfl).trans e2)
          obtain ⟨v205, e206⟩ : ∃ z, Iv h197 a0 4 = z := ⟨_, rfl⟩
          have e207 : Tg h197 a0 = 4 := (fxT F201 ta0)
          have f208 := ok_I O200 e207 rI_4_4 e206
          obtain ⟨v209, e210⟩ : ∃ z, Jv h197 a0 5 = z := ⟨_, rfl⟩
          have f211 := inL_J O200 e210
          obtain ⟨v212, e213⟩ : ∃ z, Rv h197 a0 6 = z := ⟨_, rfl⟩
          have p214 := p203.2.2.1
          rw [e206, e210] at p214
          have p215 := p203.2.2.2
          rw [e213] at p215
          refine g_if_eq C (iw f202 (by decide) (by decide)) 106 (by decide) dX3_readRule_81 (fun q216 => ?_) (fun q217 => ?_)
          · have f218 : (0 : Int) ≤ r196 ∧ r196 ≤ (0 : Int) := ii f202 (r_eq (il 0) q216) (by decide) (by decide)
            refine g_iconst C dX3_readRule_106 ?_
            have e219 : Tg h197 v1 = 2006 := (fxT F201 t3)
            exact g_iret C hr (nar_z2 (iw (il 0) (by decide) (by decide))).1 (iw (il 0) (by decide) (by decide)) ⟨O200, ((Fx.rf (wr := wr_k_X3_readRule)).call F201 rfl), (iw (il 0) (by decide) (by decide)), (by unfold RInv; rw [e204, e206, e210, e213]; exact ⟨e219, p203.2.1, by omega, p215⟩)⟩ (by decide) (by decide) dX3_readRule_107
          · have f220 : (1 : Int) ≤ r196 ∧ r196 ≤ (1 : Int) := r_nl f202 q217
            refine g_aload_n C rfl 0 rfl dX3_readRule_84 ?_
            refine g_iconst C dX3_readRule_85 ?_
            refine g_bipush C (by decide) dX3_readRule_86 ?_
            have e221 : Tg h197 v1 = 2006 := (fxT F201 t3)
            refine g_callI (st := []) (gc_V C lk_LandSurvey_Reader_131 (k_X3_takeNumberWithin l D cy w z0 O200 e207 (iw (il 1) (by decide) (by decide)) (iw (il 99) (by decide) (by decide)) (by unfold RInv; rw [e204, e206, e210, e213]; exact ⟨e221, p203.2.1, by omega, p215⟩)) e207 rfl rfl rfl ⟨by decide, by decide⟩ (Nat.le_of_ble_eq_true rfl) dX3_readRule_88 ⟨(by decide), (by decide)⟩) (fun r222 h223 f225 K224 => ?_)
            obtain ⟨O226, F227, f228, p229, p230⟩ := K224
            have e231 : Rv h223 a0 13 = v1 := ((fxR F227 e207 rfl).trans e204)
            obtain ⟨v232, e233⟩ : ∃ z, Iv h223 a0 4 = z := ⟨_, rfl⟩
            have e234 : Tg h223 a0 = 4 := (fxT F227 e207)
            have f235 := ok_I O226 e234 rI_4_4 e233
            obtain ⟨v236, e237⟩ : ∃ z, Jv h223 a0 5 = z := ⟨_, rfl⟩
            have f238 := inL_J O226 e237
            obtain ⟨v239, e240⟩ : ∃ z, Rv h223 a0 6 = z := ⟨_, rfl⟩
            have p241 := p229.2.2.1
            rw [e233, e237] at p241
            have p242 := p229.2.2.2
            rw [e240] at p242
            obtain ⟨v243, e244⟩ : ∃ z, Iv h223 a0 8 = z := ⟨_, rfl⟩
            have f245 := ok_I O226 e234 rI_4_8 e244
            rw [e244] at p230
            refine g_if_eq C (iw f228 (by decide) (by decide)) 106 (by decide) dX3_readRule_91 (fun q246 => ?_) (fun q247 => ?_)
            · have f248 : (0 : Int) ≤ r222 ∧ r222 ≤ (0 : Int) := ii f228 (r_eq (il 0) q246) (by decide) (by decide)
              refine g_iconst C dX3_readRule_106 ?_
              have e249 : Tg h223 v1 = 2006 := (fxT F227 e221)
              exact g_iret C hr (nar_z2 (iw (il 0) (by decide) (by decide))).1 (iw (il 0) (by decide) (by decide)) ⟨O226, (((Fx.rf (wr := wr_k_X3_readRule)).call F201 rfl).call F227 rfl), (iw (il 0) (by decide) (by decide)), (by unfold RInv; rw [e231, e233, e237, e240]; exact ⟨e249, p229.2.1, by omega, p242⟩)⟩ (by decide) (by decide) dX3_readRule_107
            · have f250 : (1 : Int) ≤ r222 ∧ r222 ≤ (1 : Int) := r_nl f228 q247
              refine g_aload_n C rfl 0 rfl dX3_readRule_94 ?_
              refine g_iconst C dX3_readRule_95 ?_
              have e251 : Tg h223 v1 = 2006 := (fxT F227 e221)
              refine g_callI (st := []) (gc_V C lk_LandSurvey_Reader_125 (k_X3_readLine l D cy w z0 O226 e234 (iw (il 1) (by decide) (by decide)) (by unfold RInv; rw [e231, e233, e237, e240]; exact ⟨e251, p229.2.1, by omega, p242⟩) (by rw [e244]; omega)) e234 rfl rfl rfl ⟨by decide, by decide⟩ (Nat.le_of_ble_eq_true rfl) dX3_readRule_96 ⟨(by decide), (by decide)⟩) (fun r252 h253 f255 K254 => ?_)
              obtain ⟨O256, F257, f258, p259⟩ := K254
              have e260 : Rv h253 a0 13 = v1 := ((fxR F257 e234 rfl).trans e231)
              obtain ⟨v261, e262⟩ : ∃ z, Iv h253 a0 4 = z := ⟨_, rfl⟩
              have e263 : Tg h253 a0 = 4 := (fxT F257 e234)
              have f264 := ok_I O256 e263 rI_4_4 e262
              obtain ⟨v265, e266⟩ : ∃ z, Jv h253 a0 5 = z := ⟨_, rfl⟩
              have f267 := inL_J O256 e266
              obtain ⟨v268, e269⟩ : ∃ z, Rv h253 a0 6 = z := ⟨_, rfl⟩
              have p270 := p259.2.2.1
              rw [e262, e266] at p270
              have p271 := p259.2.2.2
              rw [e269] at p271
              refine g_if_eq C (iw f258 (by decide) (by decide)) 106 (by decide) dX3_readRule_99 (fun q272 => ?_) (fun q273 => ?_)
              · have f274 : (0 : Int) ≤ r252 ∧ r252 ≤ (0 : Int) := ii f258 (r_eq (il 0) q272) (by decide) (by decide)
                refine g_iconst C dX3_readRule_106 ?_
                have e275 : Tg h253 v1 = 2006 := (fxT F257 e251)
                exact g_iret C hr (nar_z2 (iw (il 0) (by decide) (by decide))).1 (iw (il 0) (by decide) (by decide)) ⟨O256, ((((Fx.rf (wr := wr_k_X3_readRule)).call F201 rfl).call F227 rfl).call F257 rfl), (iw (il 0) (by decide) (by decide)), (by unfold RInv; rw [e260, e262, e266, e269]; exact ⟨e275, p259.2.1, by omega, p271⟩)⟩ (by decide) (by decide) dX3_readRule_107
              · have f276 : (1 : Int) ≤ r252 ∧ r252 ≤ (1 : Int) := r_nl f258 q273
                refine g_iconst C dX3_readRule_102 ?_
                refine g_goto C 107 (by decide) dX3_readRule_103 ?_
                have e277 : Tg h253 v1 = 2006 := (fxT F257 e251)
                exact g_iret C hr (nar_z2 (iw (il 1) (by decide) (by decide))).1 (iw (il 1) (by decide) (by decide)) ⟨O256, ((((Fx.rf (wr := wr_k_X3_readRule)).call F201 rfl).call F227 rfl).call F257 rfl), (iw (il 1) (by decide) (by decide)), (by unfold RInv; rw [e260, e262, e266, e269]; exact ⟨e277, p259.2.1, by omega, p271⟩)⟩ (by decide) (by decide) dX3_readRule_107
      · refine g_aload_n C rfl 0 rfl dX3_readRule_38 ?_
        refine g_callI (st := []) (gc_V C lk_LandSurvey_Reader_119 (k_X3_mayAddLine l D cy w z0 O ta0 (by unfold RInv; rw [e2, e5, e8, e11]; exact ⟨t3, P_RInv.2.1, by omega, p13⟩)) ta0 rfl rfl rfl ⟨by decide, by decide⟩ (Nat.le_of_ble_eq_true rfl) dX3_readRule_39 ⟨(by decide), (by decide)⟩) (fun r278 h279 f281 K280 => ?_)
        obtain ⟨O282, F283, f284, p285⟩ := K280
        have e286 : Rv h279 a0 13 = v1 := ((fxR F283 ta0 rfl).trans e2)
        obtain ⟨v287, e288⟩ : ∃ z, Iv h279 a0 4 = z := ⟨_, rfl⟩
        have e289 : Tg h279 a0 = 4 := (fxT F283 ta0)
        have f290 := ok_I O282 e289 rI_4_4 e288
        obtain ⟨v291, e292⟩ : ∃ z, Jv h279 a0 5 = z := ⟨_, rfl⟩
        have f293 := inL_J O282 e292
        obtain ⟨v294, e295⟩ : ∃ z, Rv h279 a0 6 = z := ⟨_, rfl⟩
        have p296 := p285.2.2.1
        rw [e288, e292] at p296
        have p297 := p285.2.2.2
        rw [e295] at p297
        refine g_if_eq C (iw f284 (by decide) (by decide)) 65 (by decide) dX3_readRule_42 (fun q298 => ?_) (fun q299 => ?_)
        · have f300 : (0 : Int) ≤ r278 ∧ r278 ≤ (0 : Int) := ii f284 (r_eq (il 0) q298) (by decide) (by decide)
          refine g_iconst C dX3_readRule_65 ?_
          have e301 : Tg h279 v1 = 2006 := (fxT F283 t3)
          exact g_iret C hr (nar_z2 (iw (il 0) (by decide) (by decide))).1 (iw (il 0) (by decide) (by decide)) ⟨O282, ((Fx.rf (wr := wr_k_X3_readRule)).call F283 rfl), (iw (il 0) (by decide) (by decide)), (by unfold RInv; rw [e286, e288, e292, e295]; exact ⟨e301, p285.2.1, by omega, p297⟩)⟩ (by decide) (by decide) dX3_readRule_66
        · have f302 : (1 : Int) ≤ r278 ∧ r278 ≤ (1 : Int) := r_nl f284 q299
          refine g_aload_n C rfl 0 rfl dX3_readRule_45 ?_
          refine g_iconst C dX3_readRule_46 ?_
          have e303 : Tg h279 v1 = 2006 := (fxT F283 t3)
          refine g_callI (st := []) (gc_V C lk_LandSurvey_Reader_122 (k_X3_takeRockNotYounger l D cy w z0 O282 e289 (iw (il 0) (by decide) (by decide)) (by unfold RInv; rw [e286, e288, e292, e295]; exact ⟨e303, p285.2.1, by omega, p297⟩)) e289 rfl rfl rfl ⟨by decide, by decide⟩ (Nat.le_of_ble_eq_true rfl) dX3_readRule_47 ⟨(by decide), (by decide)⟩) (fun r304 h305 f307 K306 => ?_)
          obtain ⟨O308, F309, f310, p311, p312⟩ := K306
          have e313 : Rv h305 a0 13 = v1 := ((fxR F309 e289 rfl).trans e286)
          obtain ⟨v314, e315⟩ : ∃ z, Iv h305 a0 4 = z := ⟨_, rfl⟩
          have e316 : Tg h305 a0 = 4 := (fxT F309 e289)
          have f317 := ok_I O308 e316 rI_4_4 e315
          obtain ⟨v318, e319⟩ : ∃ z, Jv h305 a0 5 = z := ⟨_, rfl⟩
          have f320 := inL_J O308 e319
          obtain ⟨v321, e322⟩ : ∃ z, Rv h305 a0 6 = z := ⟨_, rfl⟩
          have p323 := p311.2.2.1
          rw [e315, e319] at p323
          have p324 := p311.2.2.2
          rw [e322] at p324
          obtain ⟨v325, e326⟩ : ∃ z, Iv h305 a0 8 = z := ⟨_, rfl⟩
          have f327 := ok_I O308 e316 rI_4_8 e326
          rw [e326] at p312
          refine g_if_eq C (iw f310 (by decide) (by decide)) 65 (by decide) dX3_readRule_50 (fun q328 => ?_) (fun q329 => ?_)
          · have f330 : (0 : Int) ≤ r304 ∧ r304 ≤ (0 : Int) := ii f310 (r_eq (il 0) q328) (by decide) (by decide)
            refine g_iconst C dX3_readRule_65 ?_
            have e331 : Tg h305 v1 = 2006 := (fxT F309 e303)
            exact g_iret C hr (nar_z2 (iw (il 0) (by decide) (by decide))).1 (iw (il 0) (by decide) (by decide)) ⟨O308, (((Fx.rf (wr := wr_k_X3_readRule)).call F283 rfl).call F309 rfl), (iw (il 0) (by decide) (by decide)), (by unfold RInv; rw [e313, e315, e319, e322]; exact ⟨e331, p311.2.1, by omega, p324⟩)⟩ (by decide) (by decide) dX3_readRule_66
          · have f332 : (1 : Int) ≤ r304 ∧ r304 ≤ (1 : Int) := r_nl f310 q329
            refine g_aload_n C rfl 0 rfl dX3_readRule_53 ?_
            refine g_iconst C dX3_readRule_54 ?_
            have e333 : Tg h305 v1 = 2006 := (fxT F309 e303)
            refine g_callI (st := []) (gc_V C lk_LandSurvey_Reader_125 (k_X3_readLine l D cy w z0 O308 e316 (iw (il 0) (by decide) (by decide)) (by unfold RInv; rw [e313, e315, e319, e322]; exact ⟨e333, p311.2.1, by omega, p324⟩) (by rw [e326]; omega)) e316 rfl rfl rfl ⟨by decide, by decide⟩ (Nat.le_of_ble_eq_true rfl) dX3_readRule_55 ⟨(by decide), (by decide)⟩) (fun r334 h335 f337 K336 => ?_)
            obtain ⟨O338, F339, f340, p341⟩ := K336
            have e342 : Rv h335 a0 13 = v1 := ((fxR F339 e316 rfl).trans e313)
            obtain ⟨v343, e344⟩ : ∃ z, Iv h335 a0 4 = z := ⟨_, rfl⟩
            have e345 : Tg h335 a0 = 4 := (fxT F339 e316)
            have f346 := ok_I O338 e345 rI_4_4 e344
            obtain ⟨v347, e348⟩ : ∃ z, Jv h335 a0 5 = z := ⟨_, rfl⟩
            have f349 := inL_J O338 e348
            obtain ⟨v350, e351⟩ : ∃ z, Rv h335 a0 6 = z := ⟨_, rfl⟩
            have p352 := p341.2.2.1
            rw [e344, e348] at p352
            have p353 := p341.2.2.2
            rw [e351] at p353
            refine g_if_eq C (iw f340 (by decide) (by decide)) 65 (by decide) dX3_readRule_58 (fun q354 => ?_) (fun q355 => ?_)
            · have f356 : (0 : Int) ≤ r334 ∧ r334 ≤ (0 : Int) := ii f340 (r_eq (il 0) q354) (by decide) (by decide)
              refine g_iconst C dX3_readRule_65 ?_
              have e357 : Tg h335 v1 = 2006 := (fxT F339 e333)
              exact g_iret C hr (nar_z2 (iw (il 0) (by decide) (by decide))).1 (iw (il 0) (by decide) (by decide)) ⟨O338, ((((Fx.rf (wr := wr_k_X3_readRule)).call F283 rfl).call F309 rfl).call F339 rfl), (iw (il 0) (by decide) (by decide)), (by unfold RInv; rw [e342, e344, e348, e351]; exact ⟨e357, p341.2.1, by omega, p353⟩)⟩ (by decide) (by decide) dX3_readRule_66
            · have f358 : (1 : Int) ≤ r334 ∧ r334 ≤ (1 : Int) := r_nl f340 q355
              refine g_iconst C dX3_readRule_61 ?_
              refine g_goto C 66 (by decide) dX3_readRule_62 ?_
              have e359 : Tg h335 v1 = 2006 := (fxT F339 e333)
              exact g_iret C hr (nar_z2 (iw (il 1) (by decide) (by decide))).1 (iw (il 1) (by decide) (by decide)) ⟨O338, ((((Fx.rf (wr := wr_k_X3_readRule)).call F283 rfl).call F309 rfl).call F339 rfl), (iw (il 1) (by decide) (by decide)), (by unfold RInv; rw [e342, e344, e348, e351]; exact ⟨e359, p341.2.1, by omega, p353⟩)⟩ (by decide) (by decide) dX3_readRule_66
    · refine g_aload_n C rfl 0 rfl dX3_readRule_23 ?_
      refine g_callI (st := []) (gc_V C lk_LandSurvey_Reader_113 (k_X3_readRock l D cy w z0 O ta0 (by unfold RInv; rw [e2, e5, e8, e11]; exact ⟨t3, P_RInv.2.1, by omega, p13⟩)) ta0 rfl rfl rfl ⟨by decide, by decide⟩ (Nat.le_of_ble_eq_true rfl) dX3_readRule_24 ⟨(by decide), (by decide)⟩) (fun r360 h361 f363 K362 => ?_)
      obtain ⟨O364, F365, f366, p367⟩ := K362
      have e368 : Rv h361 a0 13 = v1 := ((fxR F365 ta0 rfl).trans e2)
      obtain ⟨v369, e370⟩ : ∃ z, Iv h361 a0 4 = z := ⟨_, rfl⟩
      have e371 : Tg h361 a0 = 4 := (fxT F365 ta0)
      have f372 := ok_I O364 e371 rI_4_4 e370
      obtain ⟨v373, e374⟩ : ∃ z, Jv h361 a0 5 = z := ⟨_, rfl⟩
      have f375 := inL_J O364 e374
      obtain ⟨v376, e377⟩ : ∃ z, Rv h361 a0 6 = z := ⟨_, rfl⟩
      have p378 := p367.2.2.1
      rw [e370, e374] at p378
      have p379 := p367.2.2.2
      rw [e377] at p379
      have e380 : Tg h361 v1 = 2006 := (fxT F365 t3)
      exact g_iret C hr (nar_z2 f366).1 (iw f366 (by decide) (by decide)) ⟨O364, ((Fx.rf (wr := wr_k_X3_readRule)).call F365 rfl), f366, (by unfold RInv; rw [e368, e370, e374, e377]; exact ⟨e380, p367.2.1, by omega, p379⟩)⟩ (by decide) (by decide) dX3_readRule_27
  · refine g_aload_n C rfl 0 rfl dX3_readRule_7 ?_
    refine g_iconst C dX3_readRule_8 ?_
    refine g_callI (st := []) (gc_V C lk_LandSurvey_Reader_99 (k_X3_wrong l D cy w z0 O ta0 (iw (il 1) (by decide) (by decide))) ta0 rfl rfl rfl ⟨by decide, by decide⟩ (Nat.le_of_ble_eq_true rfl) dX3_readRule_9 ⟨(by decide), (by decide)⟩) (fun r381 h382 f384 K383 => ?_)
    obtain ⟨O385, F386, f387⟩ := K383
    have e388 : Rv h382 a0 13 = v1 := ((fxR F386 ta0 rfl).trans e2)
    have e389 : Iv h382 a0 4 = v4 := ((fxI F386 ta0 rfl).trans e5)
    have e390 : Jv h382 a0 5 = v7 := ((fxJ F386 ta0 rfl).trans e8)
    have e391 : Rv h382 a0 6 = v10 := ((fxR F386 ta0 rfl).trans e11)
    have e392 : Tg h382 v1 = 2006 := (fxT F386 t3)
    have p393 := (DOk_fx O F386 ta0 (by rw [e2]; exact t3) rfl P_RInv.2.1)
    exact g_iret C hr (nar_z2 (iw f387 (by decide) (by decide))).1 (iw f387 (by decide) (by decide)) ⟨O385, ((Fx.rf (wr := wr_k_X3_readRule)).call F386 rfl), (iw f387 (by decide) (by decide)), (by unfold RInv; rw [e388, e389, e390, e391]; exact ⟨e392, p393, by omega, p13⟩)⟩ (by decide) (by decide) dX3_readRule_12
