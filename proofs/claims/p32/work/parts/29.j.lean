abbrev cX3_readLine : ByteArray := prog_5_method_15_code
def yX3_readLine : MethodName := ⟨RX3, "readLine", "(I)Z"⟩
theorem okX3_readLine : yok yX3_readLine 1 := by decide +kernel
theorem dX3_readLine_0 : decode cX3_readLine 0 = .ok (.aload_n 0, 1) := by decide +kernel
theorem dX3_readLine_1 : decode cX3_readLine 1 = .ok (.getfield 103, 3) := by decide +kernel
theorem dX3_readLine_4 : decode cX3_readLine 4 = .ok (.istore_n 2, 1) := by decide +kernel
theorem dX3_readLine_5 : decode cX3_readLine 5 = .ok (.aload_n 0, 1) := by decide +kernel
theorem dX3_readLine_6 : decode cX3_readLine 6 = .ok (.getstatic 193, 3) := by decide +kernel
theorem kw_821 : Cond.fieldLink "LandSurvey$Reader" 193 "LandSurvey$Word" "WHEN" "LLandSurvey$Word;" ∈ uu := uu_in (i := 821) (by decide +kernel) (by decide +kernel)
theorem dX3_readLine_9 : decode cX3_readLine 9 = .ok (.invokevirtual 165, 3) := by decide +kernel
theorem dX3_readLine_12 : decode cX3_readLine 12 = .ok (.ifCond .eq 20, 3) := by decide +kernel
theorem dX3_readLine_32 : decode cX3_readLine 32 = .ok (.iconst 0, 1) := by decide +kernel
theorem dX3_readLine_33 : decode cX3_readLine 33 = .ok (.ireturn, 1) := by decide +kernel
theorem dX3_readLine_15 : decode cX3_readLine 15 = .ok (.aload_n 0, 1) := by decide +kernel
theorem dX3_readLine_16 : decode cX3_readLine 16 = .ok (.iconst 0, 1) := by decide +kernel
theorem dX3_readLine_17 : decode cX3_readLine 17 = .ok (.invokevirtual 196, 3) := by decide +kernel
theorem dX3_readLine_20 : decode cX3_readLine 20 = .ok (.ifCond .eq 12, 3) := by decide +kernel
theorem dX3_readLine_23 : decode cX3_readLine 23 = .ok (.aload_n 0, 1) := by decide +kernel
theorem dX3_readLine_24 : decode cX3_readLine 24 = .ok (.bipush 59, 2) := by decide +kernel
theorem dX3_readLine_26 : decode cX3_readLine 26 = .ok (.invokevirtual 169, 3) := by decide +kernel
theorem dX3_readLine_29 : decode cX3_readLine 29 = .ok (.ifCond .ne 5, 3) := by decide +kernel
theorem dX3_readLine_34 : decode cX3_readLine 34 = .ok (.aload_n 0, 1) := by decide +kernel
theorem dX3_readLine_35 : decode cX3_readLine 35 = .ok (.getfield 26, 3) := by decide +kernel
theorem dX3_readLine_38 : decode cX3_readLine 38 = .ok (.getfield 199, 3) := by decide +kernel
theorem kw_328 : Cond.fieldLink "LandSurvey$Reader" 199 "LandSurvey$Rules" "lineKind" "[I" ∈ uu := uu_in (i := 328) (by decide +kernel) (by decide +kernel)
theorem fk_LandSurvey_Reader_199 : fkR "LandSurvey$Reader" 199 5 14 RX5 TX5 19 := ⟨rfl, rfl, inX5, by decide, kw_328, by decide⟩
theorem dX3_readLine_41 : decode cX3_readLine 41 = .ok (.aload_n 0, 1) := by decide +kernel
theorem dX3_readLine_42 : decode cX3_readLine 42 = .ok (.getfield 26, 3) := by decide +kernel
theorem dX3_readLine_45 : decode cX3_readLine 45 = .ok (.getfield 181, 3) := by decide +kernel
theorem dX3_readLine_48 : decode cX3_readLine 48 = .ok (.iload_n 1, 1) := by decide +kernel
theorem dX3_readLine_49 : decode cX3_readLine 49 = .ok (.iastore, 1) := by decide +kernel
theorem dX3_readLine_50 : decode cX3_readLine 50 = .ok (.aload_n 0, 1) := by decide +kernel
theorem dX3_readLine_51 : decode cX3_readLine 51 = .ok (.getfield 26, 3) := by decide +kernel
theorem dX3_readLine_54 : decode cX3_readLine 54 = .ok (.getfield 202, 3) := by decide +kernel
theorem kw_330 : Cond.fieldLink "LandSurvey$Reader" 202 "LandSurvey$Rules" "lineSays" "[I" ∈ uu := uu_in (i := 330) (by decide +kernel) (by decide +kernel)
theorem fk_LandSurvey_Reader_202 : fkR "LandSurvey$Reader" 202 5 15 RX5 TX5 19 := ⟨rfl, rfl, inX5, by decide, kw_330, by decide⟩
theorem dX3_readLine_57 : decode cX3_readLine 57 = .ok (.aload_n 0, 1) := by decide +kernel
theorem dX3_readLine_58 : decode cX3_readLine 58 = .ok (.getfield 26, 3) := by decide +kernel
theorem dX3_readLine_61 : decode cX3_readLine 61 = .ok (.getfield 181, 3) := by decide +kernel
theorem dX3_readLine_64 : decode cX3_readLine 64 = .ok (.iload_n 2, 1) := by decide +kernel
theorem dX3_readLine_65 : decode cX3_readLine 65 = .ok (.iastore, 1) := by decide +kernel
theorem dX3_readLine_66 : decode cX3_readLine 66 = .ok (.aload_n 0, 1) := by decide +kernel
theorem dX3_readLine_67 : decode cX3_readLine 67 = .ok (.getfield 26, 3) := by decide +kernel
theorem dX3_readLine_70 : decode cX3_readLine 70 = .ok (.getfield 205, 3) := by decide +kernel
theorem kw_333 : Cond.fieldLink "LandSurvey$Reader" 205 "LandSurvey$Rules" "lineEnd" "[I" ∈ uu := uu_in (i := 333) (by decide +kernel) (by decide +kernel)
theorem fk_LandSurvey_Reader_205 : fkR "LandSurvey$Reader" 205 5 16 RX5 TX5 19 := ⟨rfl, rfl, inX5, by decide, kw_333, by decide⟩
theorem dX3_readLine_73 : decode cX3_readLine 73 = .ok (.aload_n 0, 1) := by decide +kernel
theorem dX3_readLine_74 : decode cX3_readLine 74 = .ok (.getfield 26, 3) := by decide +kernel
theorem dX3_readLine_77 : decode cX3_readLine 77 = .ok (.getfield 181, 3) := by decide +kernel
theorem dX3_readLine_80 : decode cX3_readLine 80 = .ok (.aload_n 0, 1) := by decide +kernel
theorem dX3_readLine_81 : decode cX3_readLine 81 = .ok (.getfield 36, 3) := by decide +kernel
theorem dX3_readLine_84 : decode cX3_readLine 84 = .ok (.iastore, 1) := by decide +kernel
theorem dX3_readLine_85 : decode cX3_readLine 85 = .ok (.aload_n 0, 1) := by decide +kernel
theorem dX3_readLine_86 : decode cX3_readLine 86 = .ok (.getfield 26, 3) := by decide +kernel
theorem dX3_readLine_89 : decode cX3_readLine 89 = .ok (.dup, 1) := by decide +kernel
theorem dX3_readLine_90 : decode cX3_readLine 90 = .ok (.getfield 181, 3) := by decide +kernel
theorem dX3_readLine_93 : decode cX3_readLine 93 = .ok (.iconst 1, 1) := by decide +kernel
theorem dX3_readLine_94 : decode cX3_readLine 94 = .ok (.iadd, 1) := by decide +kernel
theorem dX3_readLine_95 : decode cX3_readLine 95 = .ok (.putfield 181, 3) := by decide +kernel
theorem pk_LandSurvey_Rules_13 : pk RX5 TX5 19 13 tyX5 false := ⟨tyX5_ok, nmX5, rfl⟩
theorem dX3_readLine_98 : decode cX3_readLine 98 = .ok (.iconst 1, 1) := by decide +kernel
theorem dX3_readLine_99 : decode cX3_readLine 99 = .ok (.ireturn, 1) := by decide +kernel
abbrev cX3_readRule : ByteArray := prog_5_method_11_code
def yX3_readRule : MethodName := ⟨RX3, "readRule", "()Z"⟩
theorem okX3_readRule : yok yX3_readRule 0 := by decide +kernel
theorem dX3_readRule_0 : decode cX3_readRule 0 = .ok (.aload_n 0, 1) := by decide +kernel
theorem dX3_readRule_1 : decode cX3_readRule 1 = .ok (.getfield 69, 3) := by decide +kernel
theorem dX3_readRule_4 : decode cX3_readRule 4 = .ok (.ifnonnull 9, 3) := by decide +kernel
theorem dX3_readRule_13 : decode cX3_readRule 13 = .ok (.aload_n 0, 1) := by decide +kernel
theorem dX3_readRule_14 : decode cX3_readRule 14 = .ok (.getfield 69, 3) := by decide +kernel
theorem dX3_readRule_17 : decode cX3_readRule 17 = .ok (.getstatic 110, 3) := by decide +kernel
theorem kw_779 : Cond.fieldLink "LandSurvey$Reader" 110 "LandSurvey$Word" "ROCK" "LLandSurvey$Word;" ∈ uu := uu_in (i := 779) (by decide +kernel) (by decide +kernel)
theorem dX3_readRule_20 : decode cX3_readRule 20 = .ok (.if_acmp .ne 8, 3) := by decide +kernel
theorem dX3_readRule_28 : decode cX3_readRule 28 = .ok (.aload_n 0, 1) := by decide +kernel
theorem dX3_readRule_29 : decode cX3_readRule 29 = .ok (.getfield 69, 3) := by decide +kernel
theorem dX3_readRule_32 : decode cX3_readRule 32 = .ok (.getstatic 116, 3) := by decide +kernel
theorem kw_807 : Cond.fieldLink "LandSurvey$Reader" 116 "LandSurvey$Word" "NAME" "LLandSurvey$Word;" ∈ uu := uu_in (i := 807) (by decide +kernel) (by decide +kernel)
theorem dX3_readRule_35 : decode cX3_readRule 35 = .ok (.if_acmp .ne 32, 3) := by decide +kernel
theorem dX3_readRule_67 : decode cX3_readRule 67 = .ok (.aload_n 0, 1) := by decide +kernel
theorem dX3_readRule_68 : decode cX3_readRule 68 = .ok (.getfield 69, 3) := by decide +kernel
theorem dX3_readRule_71 : decode cX3_readRule 71 = .ok (.getstatic 128, 3) := by decide +kernel
theorem kw_849 : Cond.fieldLink "LandSurvey$Reader" 128 "LandSurvey$Word" "RANK" "LLandSurvey$Word;" ∈ uu := uu_in (i := 849) (by decide +kernel) (by decide +kernel)
theorem dX3_readRule_74 : decode cX3_readRule 74 = .ok (.if_acmp .ne 34, 3) := by decide +kernel
theorem dX3_readRule_108 : decode cX3_readRule 108 = .ok (.aload_n 0, 1) := by decide +kernel
theorem dX3_readRule_109 : decode cX3_readRule 109 = .ok (.getfield 69, 3) := by decide +kernel
theorem dX3_readRule_112 : decode cX3_readRule 112 = .ok (.getstatic 135, 3) := by decide +kernel
theorem kw_851 : Cond.fieldLink "LandSurvey$Reader" 135 "LandSurvey$Word" "DRAW" "LLandSurvey$Word;" ∈ uu := uu_in (i := 851) (by decide +kernel) (by decide +kernel)
theorem dX3_readRule_115 : decode cX3_readRule 115 = .ok (.if_acmp .ne 31, 3) := by decide +kernel
theorem dX3_readRule_146 : decode cX3_readRule 146 = .ok (.aload_n 0, 1) := by decide +kernel
theorem dX3_readRule_147 : decode cX3_readRule 147 = .ok (.getfield 69, 3) := by decide +kernel
theorem dX3_readRule_150 : decode cX3_readRule 150 = .ok (.getstatic 141, 3) := by decide +kernel
theorem kw_863 : Cond.fieldLink "LandSurvey$Reader" 141 "LandSurvey$Word" "REMAIN" "LLandSurvey$Word;" ∈ uu := uu_in (i := 863) (by decide +kernel) (by decide +kernel)
theorem dX3_readRule_153 : decode cX3_readRule 153 = .ok (.if_acmp .ne 8, 3) := by decide +kernel
theorem dX3_readRule_161 : decode cX3_readRule 161 = .ok (.aload_n 0, 1) := by decide +kernel
theorem dX3_readRule_162 : decode cX3_readRule 162 = .ok (.getfield 69, 3) := by decide +kernel
theorem dX3_readRule_165 : decode cX3_readRule 165 = .ok (.getstatic 147, 3) := by decide +kernel
theorem dX3_readRule_168 : decode cX3_readRule 168 = .ok (.if_acmp .eq 13, 3) := by decide +kernel
theorem dX3_readRule_181 : decode cX3_readRule 181 = .ok (.aload_n 0, 1) := by decide +kernel
theorem dX3_readRule_182 : decode cX3_readRule 182 = .ok (.invokevirtual 153, 3) := by decide +kernel
theorem kw_878 : Cond.code yX3_readWaterRule prog_5_method_16_code 2 (some .boolean) ∈ uu := uu_in (i := 878) (by decide +kernel) (by decide +kernel)
theorem kw_875 : Cond.methodLink "LandSurvey$Reader" 153 yX3_readWaterRule ∈ uu := uu_in (i := 875) (by decide +kernel) (by decide +kernel)
theorem kw_877 : Cond.instanceMethod yX3_readWaterRule ∈ uu := uu_in (i := 877) (by decide +kernel) (by decide +kernel)
theorem kw_19 : Cond.selects "LandSurvey$Reader" yX3_readWaterRule yX3_readWaterRule ∈ uu := uu_in (i := 19) (by decide +kernel) (by decide +kernel)
theorem lk_LandSurvey_Reader_153 : lkV "LandSurvey$Reader" 153 yX3_readWaterRule cX3_readWaterRule 2 (some .boolean) 0 := ⟨kw_875, kw_877, kw_19, kw_147, kw_878, okX3_readWaterRule⟩
theorem dX3_readRule_185 : decode cX3_readRule 185 = .ok (.goto 7, 3) := by decide +kernel
theorem dX3_readRule_192 : decode cX3_readRule 192 = .ok (.ireturn, 1) := by decide +kernel
theorem dX3_readRule_171 : decode cX3_readRule 171 = .ok (.aload_n 0, 1) := by decide +kernel
theorem dX3_readRule_172 : decode cX3_readRule 172 = .ok (.getfield 69, 3) := by decide +kernel
theorem dX3_readRule_175 : decode cX3_readRule 175 = .ok (.getstatic 150, 3) := by decide +kernel
theorem kw_873 : Cond.fieldLink "LandSurvey$Reader" 150 "LandSurvey$Word" "TIGHT" "LLandSurvey$Word;" ∈ uu := uu_in (i := 873) (by decide +kernel) (by decide +kernel)
theorem dX3_readRule_178 : decode cX3_readRule 178 = .ok (.if_acmp .ne 10, 3) := by decide +kernel
theorem dX3_readRule_188 : decode cX3_readRule 188 = .ok (.aload_n 0, 1) := by decide +kernel
theorem dX3_readRule_189 : decode cX3_readRule 189 = .ok (.invokevirtual 156, 3) := by decide +kernel
theorem kw_882 : Cond.code yX3_readSlopeRule prog_5_method_17_code 2 (some .boolean) ∈ uu := uu_in (i := 882) (by decide +kernel) (by decide +kernel)
theorem kw_879 : Cond.methodLink "LandSurvey$Reader" 156 yX3_readSlopeRule ∈ uu := uu_in (i := 879) (by decide +kernel) (by decide +kernel)
theorem kw_881 : Cond.instanceMethod yX3_readSlopeRule ∈ uu := uu_in (i := 881) (by decide +kernel) (by decide +kernel)
theorem kw_20 : Cond.selects "LandSurvey$Reader" yX3_readSlopeRule yX3_readSlopeRule ∈ uu := uu_in (i := 20) (by decide +kernel) (by decide +kernel)
theorem lk_LandSurvey_Reader_156 : lkV "LandSurvey$Reader" 156 yX3_readSlopeRule cX3_readSlopeRule 2 (some .boolean) 0 := ⟨kw_879, kw_881, kw_20, kw_147, kw_882, okX3_readSlopeRule⟩
theorem dX3_readRule_156 : decode cX3_readRule 156 = .ok (.aload_n 0, 1) := by decide +kernel
theorem dX3_readRule_157 : decode cX3_readRule 157 = .ok (.invokevirtual 144, 3) := by decide +kernel
theorem kw_868 : Cond.code yX3_readRemain prog_5_method_18_code 3 (some .boolean) ∈ uu := uu_in (i := 868) (by decide +kernel) (by decide +kernel)
theorem kw_865 : Cond.methodLink "LandSurvey$Reader" 144 yX3_readRemain ∈ uu := uu_in (i := 865) (by decide +kernel) (by decide +kernel)
theorem kw_867 : Cond.instanceMethod yX3_readRemain ∈ uu := uu_in (i := 867) (by decide +kernel) (by decide +kernel)
theorem kw_18 : Cond.selects "LandSurvey$Reader" yX3_readRemain yX3_readRemain ∈ uu := uu_in (i := 18) (by decide +kernel) (by decide +kernel)
theorem lk_LandSurvey_Reader_144 : lkV "LandSurvey$Reader" 144 yX3_readRemain cX3_readRemain 3 (some .boolean) 0 := ⟨kw_865, kw_867, kw_18, kw_147, kw_868, okX3_readRemain⟩
theorem dX3_readRule_160 : decode cX3_readRule 160 = .ok (.ireturn, 1) := by decide +kernel
theorem dX3_readRule_118 : decode cX3_readRule 118 = .ok (.aload_n 0, 1) := by decide +kernel
theorem dX3_readRule_119 : decode cX3_readRule 119 = .ok (.invokevirtual 119, 3) := by decide +kernel
theorem kw_812 : Cond.code yX3_mayAddLine prog_5_method_13_code 1 (some .boolean) ∈ uu := uu_in (i := 812) (by decide +kernel) (by decide +kernel)
theorem kw_809 : Cond.methodLink "LandSurvey$Reader" 119 yX3_mayAddLine ∈ uu := uu_in (i := 809) (by decide +kernel) (by decide +kernel)
theorem kw_811 : Cond.instanceMethod yX3_mayAddLine ∈ uu := uu_in (i := 811) (by decide +kernel) (by decide +kernel)
theorem kw_9 : Cond.selects "LandSurvey$Reader" yX3_mayAddLine yX3_mayAddLine ∈ uu := uu_in (i := 9) (by decide +kernel) (by decide +kernel)
theorem lk_LandSurvey_Reader_119 : lkV "LandSurvey$Reader" 119 yX3_mayAddLine cX3_mayAddLine 1 (some .boolean) 0 := ⟨kw_809, kw_811, kw_9, kw_147, kw_812, okX3_mayAddLine⟩
theorem dX3_readRule_122 : decode cX3_readRule 122 = .ok (.ifCond .eq 22, 3) := by decide +kernel
theorem dX3_readRule_144 : decode cX3_readRule 144 = .ok (.iconst 0, 1) := by decide +kernel
theorem dX3_readRule_145 : decode cX3_readRule 145 = .ok (.ireturn, 1) := by decide +kernel
theorem dX3_readRule_125 : decode cX3_readRule 125 = .ok (.aload_n 0, 1) := by decide +kernel
theorem dX3_readRule_126 : decode cX3_readRule 126 = .ok (.invokevirtual 138, 3) := by decide +kernel
theorem kw_856 : Cond.code yX3_takeStyle prog_5_method_14_code 1 (some .boolean) ∈ uu := uu_in (i := 856) (by decide +kernel) (by decide +kernel)
theorem kw_853 : Cond.methodLink "LandSurvey$Reader" 138 yX3_takeStyle ∈ uu := uu_in (i := 853) (by decide +kernel) (by decide +kernel)
theorem kw_855 : Cond.instanceMethod yX3_takeStyle ∈ uu := uu_in (i := 855) (by decide +kernel) (by decide +kernel)
theorem kw_17 : Cond.selects "LandSurvey$Reader" yX3_takeStyle yX3_takeStyle ∈ uu := uu_in (i := 17) (by decide +kernel) (by decide +kernel)
theorem lk_LandSurvey_Reader_138 : lkV "LandSurvey$Reader" 138 yX3_takeStyle cX3_takeStyle 1 (some .boolean) 0 := ⟨kw_853, kw_855, kw_17, kw_147, kw_856, okX3_takeStyle⟩
theorem dX3_readRule_129 : decode cX3_readRule 129 = .ok (.ifCond .eq 15, 3) := by decide +kernel
theorem dX3_readRule_132 : decode cX3_readRule 132 = .ok (.aload_n 0, 1) := by decide +kernel
theorem dX3_readRule_133 : decode cX3_readRule 133 = .ok (.iconst 2, 1) := by decide +kernel
theorem dX3_readRule_134 : decode cX3_readRule 134 = .ok (.invokevirtual 125, 3) := by decide +kernel
theorem kw_820 : Cond.code yX3_readLine prog_5_method_15_code 3 (some .boolean) ∈ uu := uu_in (i := 820) (by decide +kernel) (by decide +kernel)
theorem kw_817 : Cond.methodLink "LandSurvey$Reader" 125 yX3_readLine ∈ uu := uu_in (i := 817) (by decide +kernel) (by decide +kernel)
theorem kw_819 : Cond.instanceMethod yX3_readLine ∈ uu := uu_in (i := 819) (by decide +kernel) (by decide +kernel)
theorem kw_11 : Cond.selects "LandSurvey$Reader" yX3_readLine yX3_readLine ∈ uu := uu_in (i := 11) (by decide +kernel) (by decide +kernel)
theorem lk_LandSurvey_Reader_125 : lkV "LandSurvey$Reader" 125 yX3_readLine cX3_readLine 3 (some .boolean) 1 := ⟨kw_817, kw_819, kw_11, kw_147, kw_820, okX3_readLine⟩
theorem dX3_readRule_137 : decode cX3_readRule 137 = .ok (.ifCond .eq 7, 3) := by decide +kernel
theorem dX3_readRule_140 : decode cX3_readRule 140 = .ok (.iconst 1, 1) := by decide +kernel
theorem dX3_readRule_141 : decode cX3_readRule 141 = .ok (.goto 4, 3) := by decide +kernel
theorem dX3_readRule_77 : decode cX3_readRule 77 = .ok (.aload_n 0, 1) := by decide +kernel
theorem dX3_readRule_78 : decode cX3_readRule 78 = .ok (.invokevirtual 119, 3) := by decide +kernel
theorem dX3_readRule_81 : decode cX3_readRule 81 = .ok (.ifCond .eq 25, 3) := by decide +kernel
theorem dX3_readRule_106 : decode cX3_readRule 106 = .ok (.iconst 0, 1) := by decide +kernel
theorem dX3_readRule_107 : decode cX3_readRule 107 = .ok (.ireturn, 1) := by decide +kernel
theorem dX3_readRule_84 : decode cX3_readRule 84 = .ok (.aload_n 0, 1) := by decide +kernel
theorem dX3_readRule_85 : decode cX3_readRule 85 = .ok (.iconst 1, 1) := by decide +kernel
theorem dX3_readRule_86 : decode cX3_readRule 86 = .ok (.bipush 99, 2) := by decide +kernel
theorem dX3_readRule_88 : decode cX3_readRule 88 = .ok (.invokevirtual 131, 3) := by decide +kernel
theorem dX3_readRule_91 : decode cX3_readRule 91 = .ok (.ifCond .eq 15, 3) := by decide +kernel
theorem dX3_readRule_94 : decode cX3_readRule 94 = .ok (.aload_n 0, 1) := by decide +kernel
theorem dX3_readRule_95 : decode cX3_readRule 95 = .ok (.iconst 1, 1) := by decide +kernel
theorem dX3_readRule_96 : decode cX3_readRule 96 = .ok (.invokevirtual 125, 3) := by decide +kernel
theorem dX3_readRule_99 : decode cX3_readRule 99 = .ok (.ifCond .eq 7, 3) := by decide +kernel
theorem dX3_readRule_102 : decode cX3_readRule 102 = .ok (.iconst 1, 1) := by decide +kernel
theorem dX3_readRule_103 : decode cX3_readRule 103 = .ok (.goto 4, 3) := by decide +kernel
theorem dX3_readRule_38 : decode cX3_readRule 38 = .ok (.aload_n 0, 1) := by decide +kernel
theorem dX3_readRule_39 : decode cX3_readRule 39 = .ok (.invokevirtual 119, 3) := by decide +kernel
theorem dX3_readRule_42 : decode cX3_readRule 42 = .ok (.ifCond .eq 23, 3) := by decide +kernel
theorem dX3_readRule_65 : decode cX3_readRule 65 = .ok (.iconst 0, 1) := by decide +kernel
theorem dX3_readRule_66 : decode cX3_readRule 66 = .ok (.ireturn, 1) := by decide +kernel
theorem dX3_readRule_45 : decode cX3_readRule 45 = .ok (.aload_n 0, 1) := by decide +kernel
theorem dX3_readRule_46 : decode cX3_readRule 46 = .ok (.iconst 0, 1) := by decide +kernel
theorem dX3_readRule_47 : decode cX3_readRule 47 = .ok (.invokevirtual 122, 3) := by decide +kernel
theorem dX3_readRule_50 : decode cX3_readRule 50 = .ok (.ifCond .eq 15, 3) := by decide +kernel
theorem dX3_readRule_53 : decode cX3_readRule 53 = .ok (.aload_n 0, 1) := by decide +kernel
theorem dX3_readRule_54 : decode cX3_readRule 54 = .ok (.iconst 0, 1) := by decide +kernel
theorem dX3_readRule_55 : decode cX3_readRule 55 = .ok (.invokevirtual 125, 3) := by decide +kernel
theorem dX3_readRule_58 : decode cX3_readRule 58 = .ok (.ifCond .eq 7, 3) := by decide +kernel
theorem dX3_readRule_61 : decode cX3_readRule 61 = .ok (.iconst 1, 1) := by decide +kernel
theorem dX3_readRule_62 : decode cX3_readRule 62 = .ok (.goto 4, 3) := by decide +kernel
theorem dX3_readRule_23 : decode cX3_readRule 23 = .ok (.aload_n 0, 1) := by decide +kernel
theorem dX3_readRule_24 : decode cX3_readRule 24 = .ok (.invokevirtual 113, 3) := by decide +kernel
theorem kw_784 : Cond.code yX3_readRock prog_5_method_12_code 4 (some .boolean) ∈ uu := uu_in (i := 784) (by decide +kernel) (by decide +kernel)
theorem kw_781 : Cond.methodLink "LandSurvey$Reader" 113 yX3_readRock ∈ uu := uu_in (i := 781) (by decide +kernel) (by decide +kernel)
theorem kw_783 : Cond.instanceMethod yX3_readRock ∈ uu := uu_in (i := 783) (by decide +kernel) (by decide +kernel)
theorem kw_4 : Cond.selects "LandSurvey$Reader" yX3_readRock yX3_readRock ∈ uu := uu_in (i := 4) (by decide +kernel) (by decide +kernel)
theorem lk_LandSurvey_Reader_113 : lkV "LandSurvey$Reader" 113 yX3_readRock cX3_readRock 4 (some .boolean) 0 := ⟨kw_781, kw_783, kw_4, kw_147, kw_784, okX3_readRock⟩
theorem dX3_readRule_27 : decode cX3_readRule 27 = .ok (.ireturn, 1) := by decide +kernel
theorem dX3_readRule_7 : decode cX3_readRule 7 = .ok (.aload_n 0, 1) := by decide +kernel
theorem dX3_readRule_8 : decode cX3_readRule 8 = .ok (.iconst 1, 1) := by decide +kernel
theorem dX3_readRule_9 : decode cX3_readRule 9 = .ok (.invokevirtual 99, 3) := by decide +kernel
theorem dX3_readRule_12 : decode cX3_readRule 12 = .ok (.ireturn, 1) := by decide +kernel
def wr_k2_mayAddLine : List Nat := [802, 803, 804, 805, 806, 807]
set_option maxRecDepth 100000 in
set_option maxHeartbeats 4000000 in
theorem k2_mayAddLine (l : Launch) (D : va_G) (cy : Nat → ClassId) (w : Nat → Nat) (z0 : Nat)  {h : Hp} {a0 : Nat}  (O : Okh h) (ta0 : Tg h a0 = 4) (P_RInv : RInv w h a0) : MI l D cy w z0 yX3_mayAddLine cX3_mayAddLine 1 (some .boolean) 5 112 0 0 [.inr (.inr a0)] h (fun v h1 => Okh h1 ∧ Fx wr_k2_mayAddLine h h1 ∧ (0 ≤ v ∧ v ≤ 1) ∧ (RInv w h1 a0) ∧ (v = 1 → Iv h1 (Rv h1 a0 13) 13 < 24)) := by
  obtain ⟨v1, e2⟩ : ∃ z, Rv h a0 13 = z := ⟨_, rfl⟩
  have t3 := P_RInv.1
  rw [e2] at t3
  obtain ⟨v4, e5⟩ : ∃ z, Iv h a0 4 = z := ⟨_, rfl⟩
  have f6 := ok_I O ta0 rI_4_4 e5
  obtain ⟨v7, e8⟩ : ∃ z, Jv h a0 5 = z := ⟨_, rfl⟩
  have f9 := inL_J O e8
  obtain ⟨v10, e11⟩ : ∃ z, Rv h a0 6 = z := ⟨_, rfl⟩
  have p12 := P_RInv.2.2.1
  rw [e5, e8] at p12
  have p13 := P_RInv.2.2.2
  rw [e11] at p13
  refine hm_go (by decide +kernel) (Nat.le_of_ble_eq_true rfl) (fun p e s m below meth c C hr hn => ?_)
  refine g_aload_n C rfl 0 rfl dX3_mayAddLine_0 ?_
  refine gf_R C fk_LandSurvey_Reader_26 rfl ta0 e2 dX3_mayAddLine_1 ?_
  obtain ⟨v14, e15⟩ : ∃ z, Iv h v1 13 = z := ⟨_, rfl⟩
  have f16 := ok_I O t3 rI_2006_13 e15
  refine gf_I C fk_LandSurvey_Reader_181 rfl t3 e15 dX3_mayAddLine_4 ?_
  refine g_bipush C (by decide) dX3_mayAddLine_7 ?_
  refine g_icmp_lt C (iw f16 (by decide) (by decide)) (iw (il 24) (by decide) (by decide)) 18 (by decide) dX3_mayAddLine_9 (fun q17 => ?_) (fun q18 => ?_)
  · have f19 : (0 : Int) ≤ v14 ∧ v14 ≤ (23 : Int) := r_lt f16 (il 24) q17 (by decide) (by decide)
    refine g_aload_n C rfl 0 rfl dX3_mayAddLine_18 ?_
    refine g_callV (st := []) (gc_V C lk_LandSurvey_Reader_46 (k_X3_advance l D cy w z0 O ta0 (by unfold RInv; rw [e2, e5, e8, e11]; exact ⟨t3, P_RInv.2.1, p12, p13⟩)) ta0 rfl rfl rfl ⟨by decide, by decide⟩ (Nat.le_of_ble_eq_true rfl) dX3_mayAddLine_19 ⟨(by decide), (by decide)⟩) (fun h21 K22 => ?_)
    obtain ⟨O24, F25, p26⟩ := K22
    have e27 : Rv h21 a0 13 = v1 := ((fxR F25 ta0 rfl).trans e2)
    obtain ⟨v28, e29⟩ : ∃ z, Iv h21 a0 4 = z := ⟨_, rfl⟩
    have e30 : Tg h21 a0 = 4 := (fxT F25 ta0)
    have f31 := ok_I O24 e30 rI_4_4 e29
    obtain ⟨v32, e33⟩ : ∃ z, Jv h21 a0 5 = z := ⟨_, rfl⟩
    have f34 := inL_J O24 e33
    obtain ⟨v35, e36⟩ : ∃ z, Rv h21 a0 6 = z := ⟨_, rfl⟩
    have p37 := p26.2.2.1
    rw [e29, e33] at p37
    have p38 := p26.2.2.2
    rw [e36] at p38
    refine g_iconst C dX3_mayAddLine_22 ?_
    have e39 : Tg h21 v1 = 2006 := (fxT F25 t3)
    have e40 : Iv h21 v1 13 = v14 := ((fxI F25 t3 rfl).trans e15)
    exact g_iret C hr (nar_z2 (iw (il 1) (by decide) (by decide))).1 (iw (il 1) (by decide) (by decide)) ⟨O24, ((Fx.rf (wr := wr_k2_mayAddLine)).call F25 rfl), (iw (il 1) (by decide) (by decide)), (by unfold RInv; rw [e27, e29, e33, e36]; exact ⟨e39, p26.2.1, p37, p38⟩), (fun _ => by rw [e27, e40]; omega)⟩ (by decide) (by decide) dX3_mayAddLine_23
  · have f41 : (24 : Int) ≤ v14 ∧ v14 ≤ (24 : Int) := r_ge f16 (il 24) q18 (by decide) (by decide)
    refine g_aload_n C rfl 0 rfl dX3_mayAddLine_12 ?_
    refine g_iconst C dX3_mayAddLine_13 ?_
    refine g_callI (st := []) (gc_V C lk_LandSurvey_Reader_99 (k_X3_wrong l D cy w z0 O ta0 (iw (il 5) (by decide) (by decide))) ta0 rfl rfl rfl ⟨by decide, by decide⟩ (Nat.le_of_ble_eq_true rfl) dX3_mayAddLine_14 ⟨(by decide), (by decide)⟩) (fun r42 h43 f45 K44 => ?_)
    obtain ⟨O46, F47, f48⟩ := K44
    have e49 : Rv h43 a0 13 = v1 := ((fxR F47 ta0 rfl).trans e2)
    have e50 : Iv h43 a0 4 = v4 := ((fxI F47 ta0 rfl).trans e5)
    have e51 : Jv h43 a0 5 = v7 := ((fxJ F47 ta0 rfl).trans e8)
    have e52 : Rv h43 a0 6 = v10 := ((fxR F47 ta0 rfl).trans e11)
    have e53 : Tg h43 v1 = 2006 := (fxT F47 t3)
    have p54 := (DOk_fx O F47 ta0 (by rw [e2]; exact t3) rfl P_RInv.2.1)
    exact g_iret C hr (nar_z2 (iw f48 (by decide) (by decide))).1 (iw f48 (by decide) (by decide)) ⟨O46, ((Fx.rf (wr := wr_k2_mayAddLine)).call F47 rfl), (iw f48 (by decide) (by decide)), (by unfold RInv; rw [e49, e50, e51, e52]; exact ⟨e53, p54, p12, p13⟩), (by omega)⟩ (by decide) (by decide) dX3_mayAddLine_17
def wr_k_X3_readLine : List Nat := [802, 803, 804, 805, 806, 807, 812, 401213, 4020000, 6220000, 6620000, 7020000]
set_option maxRecDepth 100000 in
set_option maxHeartbeats 4000000 in
theorem k_X3_readLine (l : Launch) (D : va_G) (cy : Nat → ClassId) (w : Nat → Nat) (z0 : Nat)  {h : Hp} {a0 : Nat} {a1 : Int}  (O : Okh h) (ta0 : Tg h a0 = 4) (fa1 : 0 ≤ a1 ∧ a1 ≤ 2) (P_RInv : RInv w h a0) (P_sy : 0 ≤ Iv h a0 8 ∧ Iv h a0 8 ≤ 99 ∧ (a1 = 0 → Iv h a0 8 ≤ 9)) (P_ln : Iv h (Rv h a0 13) 13 < 24) : MI l D cy w z0 yX3_readLine cX3_readLine 3 (some .boolean) 26 588 0 0 [.inr (.inr a0), .inl a1] h (fun v h1 => Okh h1 ∧ Fx wr_k_X3_readLine h h1 ∧ (0 ≤ v ∧ v ≤ 1) ∧ (RInv w h1 a0)) := by
  obtain ⟨v1, e2⟩ : ∃ z, Rv h a0 13 = z := ⟨_, rfl⟩
  have t3 := P_RInv.1
  rw [e2] at t3
  obtain ⟨v4, e5⟩ : ∃ z, Iv h a0 4 = z := ⟨_, rfl⟩
  have f6 := ok_I O ta0 rI_4_4 e5
  obtain ⟨v7, e8⟩ : ∃ z, Jv h a0 5 = z := ⟨_, rfl⟩
  have f9 := inL_J O e8
  obtain ⟨v10, e11⟩ : ∃ z, Rv h a0 6 = z := ⟨_, rfl⟩
  have p12 := P_RInv.2.2.1
  rw [e5, e8] at p12
  have p13 := P_RInv.2.2.2
  rw [e11] at p13
  obtain ⟨v14, e15⟩ : ∃ z, Iv h a0 8 = z := ⟨_, rfl⟩
  have f16 := ok_I O ta0 rI_4_8 e15
  rw [e15] at P_sy
  obtain ⟨v17, e18⟩ : ∃ z, Iv h v1 13 = z := ⟨_, rfl⟩
  have f19 := ok_I O t3 rI_2006_13 e18
  rw [e2, e18] at P_ln
  have f20 : (0 : Int) ≤ v17 ∧ v17 ≤ (23 : Int) := by omega
  refine hm_go (by decide +kernel) (Nat.le_of_ble_eq_true rfl) (fun p e s m below meth c C hr hn => ?_)
  refine g_aload_n C rfl 0 rfl dX3_readLine_0 ?_
  refine gf_I C fk_LandSurvey_Reader_103 rfl ta0 e15 dX3_readLine_1 ?_
  refine g_istore_n C [(2, .inl v14), (0, .inr (.inr a0)), (1, .inl a1)] rfl (by decide) rfl dX3_readLine_4 ?_
  refine g_aload_n C rfl 1 rfl dX3_readLine_5 ?_
  refine g_gets (x := .inr (.inr (w 3 + 1))) C (C.2.2.2.2.2.2.1.1 3 (by decide)).1 kw_821 dX3_readLine_6 ?_
  refine g_callI (st := []) (gc_V C lk_LandSurvey_Reader_165 (k_X3_takeOnly_ l D cy w z0 (w 3 + 1) O ta0 (by unfold RInv; rw [e2, e5, e8, e11]; exact ⟨t3, P_RInv.2.1, p12, p13⟩)) ta0 rfl rfl rfl ⟨by decide, by decide⟩ (Nat.le_of_ble_eq_true rfl) dX3_readLine_9 ⟨(by decide), (by decide)⟩) (fun r21 h22 f24 K23 => ?_)
  obtain ⟨O25, F26, f27, p28⟩ := K23
  have e29 : Rv h22 a0 13 = v1 := ((fxR F26 ta0 rfl).trans e2)
  obtain ⟨v30, e31⟩ : ∃ z, Iv h22 a0 4 = z := ⟨_, rfl⟩
  have e32 : Tg h22 a0 = 4 := (fxT F26 ta0)
  have f33 := ok_I O25 e32 rI_4_4 e31
  obtain ⟨v34, e35⟩ : ∃ z, Jv h22 a0 5 = z := ⟨_, rfl⟩
  have f36 := inL_J O25 e35
  obtain ⟨v37, e38⟩ : ∃ z, Rv h22 a0 6 = z := ⟨_, rfl⟩
  have p39 := p28.2.2.1
  rw [e31, e35] at p39
  have p40 := p28.2.2.2
  rw [e38] at p40
  refine g_if_eq C (iw f27 (by decide) (by decide)) 32 (by decide) dX3_readLine_12 (fun q41 => ?_) (fun q42 => ?_)
  · have f43 : (0 : Int) ≤ r21 ∧ r21 ≤ (0 : Int) := ii f27 (r_eq (il 0) q41) (by decide) (by decide)
    refine g_iconst C dX3_readLine_32 ?_
    have e44 : Tg h22 v1 = 2006 := (fxT F26 t3)
    exact g_iret C hr (nar_z2 (iw (il 0) (by decide) (by decide))).1 (iw (il 0) (by decide) (by decide)) ⟨O25, ((Fx.rf (wr := wr_k_X3_readLine)).call F26 rfl), (iw (il 0) (by decide) (by decide)), (by unfold RInv; rw [e29, e31, e35, e38]; exact ⟨e44, p28.2.1, p39, p40⟩)⟩ (by decide) (by decide) dX3_readLine_33
  · have f45 : (1 : Int) ≤ r21 ∧ r21 ≤ (1 : Int) := r_nl f27 q42
    refine g_aload_n C rfl 1 rfl dX3_readLine_15 ?_
    refine g_iconst C dX3_readLine_16 ?_
    have e46 : Tg h22 v1 = 2006 := (fxT F26 t3)
    refine g_callI (st := []) (gc_V C lk_LandSurvey_Reader_196 (k_readTests_0 l D cy w z0 O25 e32 (il 0) (by unfold RInv; rw [e29, e31, e35, e38]; exact ⟨e46, p28.2.1, p39, p40⟩)) e32 rfl rfl rfl ⟨by decide, by decide⟩ (Nat.le_of_ble_eq_true rfl) dX3_readLine_17 ⟨(by decide), (by decide)⟩) (fun r47 h48 f50 K49 => ?_)
    obtain ⟨O51, F52, f53, p54⟩ := K49
    have e55 : Rv h48 a0 13 = v1 := ((fxR F52 e32 rfl).trans e29)
    obtain ⟨v56, e57⟩ : ∃ z, Iv h48 a0 4 = z := ⟨_, rfl⟩
    have e58 : Tg h48 a0 = 4 := (fxT F52 e32)
    have f59 := ok_I O51 e58 rI_4_4 e57
    obtain ⟨v60, e61⟩ : ∃ z, Jv h48 a0 5 = z := ⟨_, rfl⟩
    have f62 := inL_J O51 e61
    obtain ⟨v63, e64⟩ : ∃ z, Rv h48 a0 6 = z := ⟨_, rfl⟩
    have p65 := p54.2.2.1
    rw [e57, e61] at p65
    have p66 := p54.2.2.2
    rw [e64] at p66
    refine g_if_eq C (iw f53 (by decide) (by decide)) 32 (by decide) dX3_readLine_20 (fun q67 => ?_) (fun q68 => ?_)
    · have f69 : (0 : Int) ≤ r47 ∧ r47 ≤ (0 : Int) := ii f53 (r_eq (il 0) q67) (by decide) (by decide)
      refine g_iconst C dX3_readLine_32 ?_
      have e70 : Tg h48 v1 = 2006 := (fxT F52 e46)
      exact g_iret C hr (nar_z2 (iw (il 0) (by decide) (by decide))).1 (iw (il 0) (by decide) (by decide)) ⟨O51, (((Fx.rf (wr := wr_k_X3_readLine)).call F26 rfl).call F52 rfl), (iw (il 0) (by decide) (by decide)), (by unfold RInv; rw [e55, e57, e61, e64]; exact ⟨e70, p54.2.1, p65, p66⟩)⟩ (by decide) (by decide) dX3_readLine_33
    · have f71 : (1 : Int) ≤ r47 ∧ r47 ≤ (1 : Int) := r_nl f53 q68
      refine g_aload_n C rfl 1 rfl dX3_readLine_23 ?_
      refine g_bipush C (by decide) dX3_readLine_24 ?_
      have e72 : Tg h48 v1 = 2006 := (fxT F52 e46)
      refine g_callI (st := []) (gc_V C lk_LandSurvey_Reader_169 (k_X3_takeOnly l D cy w z0 O51 e58 (iw (il 59) (by decide) (by decide)) (by unfold RInv; rw [e55, e57, e61, e64]; exact ⟨e72, p54.2.1, p65, p66⟩)) e58 rfl rfl rfl ⟨by decide, by decide⟩ (Nat.le_of_ble_eq_true rfl) dX3_readLine_26 ⟨(by decide), (by decide)⟩) (fun r73 h74 f76 K75 => ?_)
      obtain ⟨O77, F78, f79, p80⟩ := K75
      have e81 : Rv h74 a0 13 = v1 := ((fxR F78 e58 rfl).trans e55)
      obtain ⟨v82, e83⟩ : ∃ z, Iv h74 a0 4 = z := ⟨_, rfl⟩
      have e84 : Tg h74 a0 = 4 := (fxT F78 e58)
      have f85 := ok_I O77 e84 rI_4_4 e83
      obtain ⟨v86, e87⟩ : ∃ z, Jv h74 a0 5 = z := ⟨_, rfl⟩
      have f88 := inL_J O77 e87
      obtain ⟨v89, e90⟩ : ∃ z, Rv h74 a0 6 = z := ⟨_, rfl⟩
      have p91 := p80.2.2.1
      rw [e83, e87] at p91
      have p92 := p80.2.2.2
      rw [e90] at p92
      refine g_if_ne C (iw f79 (by decide) (by decide)) 34 (by decide) dX3_readLine_29 (fun q93 => ?_) (fun q94 => ?_)
      · have f95 : (1 : Int) ≤ r73 ∧ r73 ≤ (1 : Int) := r_nl f79 q93
        obtain ⟨v96, e97⟩ : ∃ z, Rv h74 v1 14 = z := ⟨_, rfl⟩
        have e98 : Tg h74 v1 = 2006 := (fxT F78 e72)
        have t99 := ok_R O77 e98 rE_2006_14 e97
        have l100 := ok_L O77 e98 rE_2006_14 e97
        obtain ⟨v101, e102⟩ : ∃ z, Rv h74 v1 15 = z := ⟨_, rfl⟩
        have t103 := ok_R O77 e98 rE_2006_15 e102
        have l104 := ok_L O77 e98 rE_2006_15 e102
        obtain ⟨v105, e106⟩ : ∃ z, Rv h74 v1 16 = z := ⟨_, rfl⟩
        have t107 := ok_R O77 e98 rE_2006_16 e106
        have l108 := ok_L O77 e98 rE_2006_16 e106
        have e109 : Iv h74 v1 13 = v17 := ((fxI F78 e72 rfl).trans ((fxI F52 e46 rfl).trans ((fxI F26 t3 rfl).trans e18)))
        obtain ⟨v110, e111⟩ : ∃ z, Iv h74 a0 12 = z := ⟨_, rfl⟩
        have f112 := ok_I O77 e84 rI_4_12 e111
        refine g_aload_n C rfl 1 rfl dX3_readLine_34 ?_
        refine gf_R C fk_LandSurvey_Reader_26 rfl e84 e81 dX3_readLine_35 ?_
        refine gf_R C fk_LandSurvey_Reader_199 rfl e98 e97 dX3_readLine_38 ?_
        refine g_aload_n C rfl 1 rfl dX3_readLine_41 ?_
        refine gf_R C fk_LandSurvey_Reader_26 rfl e84 e81 dX3_readLine_42 ?_
        refine gf_I C fk_LandSurvey_Reader_181 rfl e98 e109 dX3_readLine_45 ?_
        refine g_iload_n C rfl 2 rfl dX3_readLine_48 ?_
        refine g_iast C t99 rfl l100 (ix f20 (by decide) (by decide)) (iw fa1 (by decide) (by decide)) dX3_readLine_49 (fun h114 hh113 => ?_)
        have O115 := O77.pIa t99 ar_31100 hh113 rI_31100_0 fa1 nofun
        refine g_aload_n C rfl 1 rfl dX3_readLine_50 ?_
        have e116 : Tg h114 a0 = 4 := ((pIT hh113).trans e84)
        have e117 : Rv h114 a0 13 = v1 := ((pIR hh113).trans e81)
        refine gf_R C fk_LandSurvey_Reader_26 rfl e116 e117 dX3_readLine_51 ?_
        have e118 : Tg h114 v1 = 2006 := ((pIT hh113).trans e98)
        have e119 : Rv h114 v1 15 = v101 := ((pIR hh113).trans e102)
        refine gf_R C fk_LandSurvey_Reader_202 rfl e118 e119 dX3_readLine_54 ?_
        refine g_aload_n C rfl 1 rfl dX3_readLine_57 ?_
        refine gf_R C fk_LandSurvey_Reader_26 rfl e116 e117 dX3_readLine_58 ?_
        have e120 : Iv h114 v1 13 = v17 := ((pI_n hh113 (ne_tag e98 t99 (by decide))).trans e109)
        refine gf_I C fk_LandSurvey_Reader_181 rfl e118 e120 dX3_readLine_61 ?_
        refine g_iload_n C rfl 0 rfl dX3_readLine_64 ?_
        have e121 : Tg h114 v101 = 33100 := ((pIT hh113).trans t103)
        have e122 : Ln h114 v101 = 24 := ((pIL hh113).trans l104)
        refine g_iast C e121 rfl e122 (ix f20 (by decide) (by decide)) f16 dX3_readLine_65 (fun h124 hh123 => ?_)
        have O125 := O115.pIa e121 ar_33100 hh123 rI_33100_0 (by omega) nofun
        refine g_aload_n C rfl 1 rfl dX3_readLine_66 ?_
        have e126 : Tg h124 a0 = 4 := ((pIT hh123).trans e116)
        have e127 : Rv h124 a0 13 = v1 := ((pIR hh123).trans e117)
        refine gf_R C fk_LandSurvey_Reader_26 rfl e126 e127 dX3_readLine_67 ?_
        have e128 : Tg h124 v1 = 2006 := ((pIT hh123).trans e118)
        have e129 : Rv h124 v1 16 = v105 := ((pIR hh123).trans ((pIR hh113).trans e106))
        refine gf_R C fk_LandSurvey_Reader_205 rfl e128 e129 dX3_readLine_70 ?_
        refine g_aload_n C rfl 1 rfl dX3_readLine_73 ?_
        refine gf_R C fk_LandSurvey_Reader_26 rfl e126 e127 dX3_readLine_74 ?_
        have e130 : Iv h124 v1 13 = v17 := ((pI_n hh123 (ne_tag e118 e121 (by decide))).trans e120)
        refine gf_I C fk_LandSurvey_Reader_181 rfl e128 e130 dX3_readLine_77 ?_
        refine g_aload_n C rfl 1 rfl dX3_readLine_80 ?_
        have e131 : Iv h124 a0 12 = v110 := ((pI_n hh123 (ne_tag e116 e121 (by decide))).trans ((pI_n hh113 (ne_tag e84 t99 (by decide))).trans e111))
        refine gf_I C fk_LandSurvey_Reader_36 rfl e126 e131 dX3_readLine_81 ?_
        have e132 : Tg h124 v105 = 35100 := ((pIT hh123).trans ((pIT hh113).trans t107))
        have e133 : Ln h124 v105 = 24 := ((pIL hh123).trans ((pIL hh113).trans l108))
        refine g_iast C e132 rfl e133 (ix f20 (by decide) (by decide)) (iw f112 (by decide) (by decide)) dX3_readLine_84 (fun h135 hh134 => ?_)
        have O136 := O125.pIa e132 ar_35100 hh134 rI_35100_0 f112 nofun
        refine g_aload_n C rfl 1 rfl dX3_readLine_85 ?_
        have e137 : Tg h135 a0 = 4 := ((pIT hh134).trans e126)
        have e138 : Rv h135 a0 13 = v1 := ((pIR hh134).trans e127)
        refine gf_R C fk_LandSurvey_Reader_26 rfl e137 e138 dX3_readLine_86 ?_
        refine g_dup C rfl dX3_readLine_89 ?_
        have e139 : Tg h135 v1 = 2006 := ((pIT hh134).trans e128)
        have e140 : Iv h135 v1 13 = v17 := ((pI_n hh134 (ne_tag e128 e132 (by decide))).trans e130)
        refine gf_I C fk_LandSurvey_Reader_181 rfl e139 e140 dX3_readLine_90 ?_
        refine g_iconst C dX3_readLine_93 ?_
        have f141 : (1 : Int) ≤ (v17 + 1) ∧ (v17 + 1) ≤ (24 : Int) := ia_add f20 (il 1) (by decide) (by decide)
        refine g_iadd C dX3_readLine_94 ?_
        refine gp_I C fk_LandSurvey_Reader_181 pk_LandSurvey_Rules_13 rfl e139 (iw f141 (by decide) (by decide)) (nf_i _) dX3_readLine_95 (fun h143 hh142 => ?_)
        have O144 := O136.pI e139 hh142 rI_2006_13 (iw f141 (by decide) (by decide)) nofun
        refine g_iconst C dX3_readLine_98 ?_
        have e145 : Rv h143 a0 13 = v1 := ((pIR hh142).trans e138)
        have e146 : Iv h143 a0 4 = v82 := ((pI_n hh142 (ne_tag e137 e139 (by decide))).trans ((pI_n hh134 (ne_tag e126 e132 (by decide))).trans ((pI_n hh123 (ne_tag e116 e121 (by decide))).trans ((pI_n hh113 (ne_tag e84 t99 (by decide))).trans e83))))
        have e147 : Jv h143 a0 5 = v86 := ((pIJ hh142).trans ((pIJ hh134).trans ((pIJ hh123).trans ((pIJ hh113).trans e87))))
        have e148 : Rv h143 a0 6 = v89 := ((pIR hh142).trans ((pIR hh134).trans ((pIR hh123).trans ((pIR hh113).trans e90))))
        have e149 : Tg h143 v1 = 2006 := ((pIT hh142).trans e139)
        exact g_iret C hr (nar_z2 (iw (il 1) (by decide) (by decide))).1 (iw (il 1) (by decide) (by decide)) ⟨O144, ((((((((Fx.rf (wr := wr_k_X3_readLine)).call F26 rfl).call F52 rfl).call F78 rfl).pIa t99 ar_31100 hh113 rfl).pIa e121 ar_33100 hh123 rfl).pIa e132 ar_35100 hh134 rfl).pI e139 hh142 rfl), (iw (il 1) (by decide) (by decide)), (by unfold RInv; rw [e145, e146, e147, e148]; exact ⟨e149, (DOk_line O77 e84 e81 e98 e97 e102 e106 e109 (by omega) hh113 hh123 e111 hh134 hh142 (by omega) p80.2.1), p91, p92⟩)⟩ (by decide) (by decide) dX3_readLine_99
      · have f150 : (0 : Int) ≤ r73 ∧ r73 ≤ (0 : Int) := ii f79 (r_eq (il 0) q94) (by decide) (by decide)
        refine g_iconst C dX3_readLine_32 ?_
        have e151 : Tg h74 v1 = 2006 := (fxT F78 e72)
        exact g_iret C hr (nar_z2 (iw (il 0) (by decide) (by decide))).1 (iw (il 0) (by decide) (by decide)) ⟨O77, ((((Fx.rf (wr := wr_k_X3_readLine)).call F26 rfl).call F52 rfl).call F78 rfl), (iw (il 0) (by decide) (by decide)), (by unfold RInv; rw [e81, e83, e87, e90]; exact ⟨e151, p80.2.1, p91, p92⟩)⟩ (by decide) (by decide) dX3_readLine_33
def wr_k_X3_readRule : List Nat := [802, 803, 804, 805, 806, 807, 808, 809, 810, 812, 401200, 401207, 401208, 401209, 401210, 401213, 4020000, 4620400, 4820000, 5020000, 5620000, 5820000, 6220000, 6620000, 7020000]
set_option maxRecDepth 100000 in
set_option maxHeartbeats 4000000 in
theorem k_X3_readRule (l : Launch) (D : va_G) (cy : Nat → ClassId) (w : Nat → Nat) (z0 : Nat)  {h : Hp} {a0 : Nat}  (O : Okh h) (ta0 : Tg h a0 = 4) (P_RInv : RInv w h a0) : MI l D cy w z0 yX3_readRule cX3_readRule 1 (some .boolean) 27 610 0 0 [.inr (.inr a0)] h (fun v h1 => Okh h1 ∧ Fx wr_k_X3_readRule h h1 ∧ (0 ≤ v ∧ v ≤ 1) ∧ (RInv w h1 a0)) := by
  obtain ⟨v1, e2⟩ : ∃ z, Rv h a0 13 = z := ⟨_, rfl⟩
  have t3 := P_RInv.1
  rw [e2] at t3
  obtain ⟨v4, e5⟩ : ∃ z, Iv h a0 4 = z := ⟨_, rfl⟩
  have f6 := ok_I O ta0 rI_4_4 e5
  obtain ⟨v7, e8⟩ : ∃ z, Jv h a0 5 = z := ⟨_, rfl⟩
  have f9 := inL_J O e8
  obtain ⟨v10, e11⟩ : ∃ z, Rv h a0 6 = z := ⟨_, rfl⟩
  have p12 := P_RInv.2.2.1
  rw [e5, e8] at p12
  have p13 := P_RInv.2.2.2
  rw [e11] at p13
  refine hm_go (by decide +kernel) (Nat.le_of_ble_eq_true rfl) (fun p e s m below meth c C hr hn => ?_)
  refine g_aload_n C rfl 0 rfl dX3_readRule_0 ?_
  refine gf_R C fk_LandSurvey_Reader_69 rfl ta0 e11 dX3_readRule_1 ?_
  refine g_ifnonnull C 13 (by decide) dX3_readRule_4 (fun q14 => ?_) (fun q15 => ?_)
  · refine g_aload_n C rfl 0 rfl dX3_readRule_13 ?_
    refine gf_R C fk_LandSurvey_Reader_69 rfl ta0 e11 dX3_readRule_14 ?_
    refine g_gets (x := .inr (.inr (w 0 + 1))) C (C.2.2.2.2.2.2.1.1 0 (by decide)).1 kw_779 dX3_readRule_17 ?_
    refine g_acmp_ne C 28 (by decide) dX3_readRule_20 (fun q16 => ?_) (fun q17 => ?_)
    · refine g_aload_n C rfl 0 rfl dX3_readRule_28 ?_
      refine gf_R C fk_LandSurvey_Reader_69 rfl ta0 e11 dX3_readRule_29 ?_
      refine g_gets (x := .inr (.inr (w 2 + 1))) C (C.2.2.2.2.2.2.1.1 2 (by decide)).1 kw_807 dX3_readRule_32 ?_
      refine g_acmp_ne C 67 (by decide) dX3_readRule_35 (fun q18 => ?_) (fun q19 => ?_)
      · refine g_aload_n C rfl 0 rfl dX3_readRule_67 ?_
        refine gf_R C fk_LandSurvey_Reader_69 rfl ta0 e11 dX3_readRule_68 ?_
        refine g_gets (x := .inr (.inr (w 4 + 1))) C (C.2.2.2.2.2.2.1.1 4 (by decide)).1 kw_849 dX3_readRule_71 ?_
        refine g_acmp_ne C 108 (by decide) dX3_readRule_74 (fun q20 => ?_) (fun q21 => ?_)
        · refine g_aload_n C rfl 0 rfl dX3_readRule_108 ?_
          refine gf_R C fk_LandSurvey_Reader_69 rfl ta0 e11 dX3_readRule_109 ?_
          refine g_gets (x := .inr (.inr (w 5 + 1))) C (C.2.2.2.2.2.2.1.1 5 (by decide)).1 kw_851 dX3_readRule_112 ?_
          refine g_acmp_ne C 146 (by decide) dX3_readRule_115 (fun q22 => ?_) (fun q23 => ?_)
          · refine g_aload_n C rfl 0 rfl dX3_readRule_146 ?_
            refine gf_R C fk_LandSurvey_Reader_69 rfl ta0 e11 dX3_readRule_147 ?_
            refine g_gets (x := .inr (.inr (w 13 + 1))) C (C.2.2.2.2.2.2.1.1 13 (by decide)).1 kw_863 dX3_readRule_150 ?_
            refine g_acmp_ne C 161 (by decide) dX3_readRule_153 (fun q24 => ?_) (fun q25 => ?_)
            · refine g_aload_n C rfl 0 rfl dX3_readRule_161 ?_
              refine gf_R C fk_LandSurvey_Reader_69 rfl ta0 e11 dX3_readRule_162 ?_
              refine g_gets (x := .inr (.inr (w 11 + 1))) C (C.2.2.2.2.2.2.1.1 11 (by decide)).1 kw_871 dX3_readRule_165 ?_
              refine g_acmp_eq C 181 (by decide) dX3_readRule_168 (fun q26 => ?_) (fun q27 => ?_)
              · refine g_aload_n C rfl 0 rfl dX3_readRule_181 ?_
                refine g_callI (st := []) (gc_V C lk_LandSurvey_Reader_153 (k_X3_readWaterRule l D cy w z0 O ta0 (by unfold RInv; rw [e2, e5, e8, e11]; exact ⟨t3, P_RInv.2.1, p12, p13⟩)) ta0 rfl rfl rfl ⟨by decide, by decide⟩ (Nat.le_of_ble_eq_true rfl) dX3_readRule_182 ⟨(by decide), (by decide)⟩) (fun r28 h29 f31 K30 => ?_)
                obtain ⟨O32, F33, f34, p35⟩ := K30
                have e36 : Rv h29 a0 13 = v1 := ((fxR F33 ta0 rfl).trans e2)
                obtain ⟨v37, e38⟩ : ∃ z, Iv h29 a0 4 = z := ⟨_, rfl⟩
                have e39 : Tg h29 a0 = 4 := (fxT F33 ta0)
                have f40 := ok_I O32 e39 rI_4_4 e38
                obtain ⟨v41, e42⟩ : ∃ z, Jv h29 a0 5 = z := ⟨_, rfl⟩
                have f43 := inL_J O32 e42
                obtain ⟨v44, e45⟩ : ∃ z, Rv h29 a0 6 = z := ⟨_, rfl⟩
                have p46 := p35.2.2.1
                rw [e38, e42] at p46
                have p47 := p35.2.2.2
                rw [e45] at p47
                refine g_goto C 192 (by decide) dX3_readRule_185 ?_
                have e48 : Tg h29 v1 = 2006 := (fxT F33 t3)
                exact g_iret C hr (nar_z2 f34).1 (iw f34 (by decide) (by decide)) ⟨O32, ((Fx.rf (wr := wr_k_X3_readRule)).call F33 rfl), f34, (by unfold RInv; rw [e36, e38, e42, e45]; exact ⟨e48, p35.2.1, p46, p47⟩)⟩ (by decide) (by decide) dX3_readRule_192
              · refine g_aload_n C rfl 0 rfl dX3_readRule_171 ?_
                refine gf_R C fk_LandSurvey_Reader_69 rfl ta0 e11 dX3_readRule_172 ?_
                refine g_gets (x := .inr (.inr (w 12 + 1))) C (C.2.2.2.2.2.2.1.1 12 (by decide)).1 kw_873 dX3_readRule_175 ?_
                refine g_acmp_ne C 188 (by decide) dX3_readRule_178 (fun q49 => ?_) (fun q50 => ?_)
                · refine g_aload_n C rfl 0 rfl dX3_readRule_188 ?_
                  refine g_callI (st := []) (gc_V C lk_LandSurvey_Reader_156 (k_X3_readSlopeRule l D cy w z0 O ta0 (by unfold RInv; rw [e2, e5, e8, e11]; exact ⟨t3, P_RInv.2.1, p12, p13⟩)) ta0 rfl rfl rfl ⟨by decide, by decide⟩ (Nat.le_of_ble_eq_true rfl) dX3_readRule_189 ⟨(by decide), (by decide)⟩) (fun r51 h52 f54 K53 => ?_)
                  obtain ⟨O55, F56, f57, p58⟩ := K53
                  have e59 : Rv h52 a0 13 = v1 := ((fxR F56 ta0 rfl).trans e2)
                  obtain ⟨v60, e61⟩ : ∃ z, Iv h52 a0 4 = z := ⟨_, rfl⟩
                  have e62 : Tg h52 a0 = 4 := (fxT F56 ta0)
                  have f63 := ok_I O55 e62 rI_4_4 e61
                  obtain ⟨v64, e65⟩ : ∃ z, Jv h52 a0 5 = z := ⟨_, rfl⟩
                  have f66 := inL_J O55 e65
                  obtain ⟨v67, e68⟩ : ∃ z, Rv h52 a0 6 = z := ⟨_, rfl⟩
                  have p69 := p58.2.2.1
                  rw [e61, e65] at p69
                  have p70 := p58.2.2.2
                  rw [e68] at p70
                  have e71 : Tg h52 v1 = 2006 := (fxT F56 t3)
                  exact g_iret C hr (nar_z2 f57).1 (iw f57 (by decide) (by decide)) ⟨O55, ((Fx.rf (wr := wr_k_X3_readRule)).call F56 rfl), f57, (by unfold RInv; rw [e59, e61, e65, e68]; exact ⟨e71, p58.2.1, p69, p70⟩)⟩ (by decide) (by decide) dX3_readRule_192
                · refine g_aload_n C rfl 0 rfl dX3_readRule_181 ?_
                  refine g_callI (st := []) (gc_V C lk_LandSurvey_Reader_153 (k_X3_readWaterRule l D cy w z0 O ta0 (by unfold RInv; rw [e2, e5, e8, e11]; exact ⟨t3, P_RInv.2.1, p12, p13⟩)) ta0 rfl rfl rfl ⟨by decide, by decide⟩ (Nat.le_of_ble_eq_true rfl) dX3_readRule_182 ⟨(by decide), (by decide)⟩) (fun r72 h73 f75 K74 => ?_)
                  obtain ⟨O76, F77, f78, p79⟩ := K74
                  have e80 : Rv h73 a0 13 = v1 := ((fxR F77 ta0 rfl).trans e2)
                  obtain ⟨v81, e82⟩ : ∃ z, Iv h73 a0 4 = z := ⟨_, rfl⟩
                  have e83 : Tg h73 a0 = 4 := (fxT F77 ta0)
                  have f84 := ok_I O76 e83 rI_4_4 e82
                  obtain ⟨v85, e86⟩ : ∃ z, Jv h73 a0 5 = z := ⟨_, rfl⟩
                  have f87 := inL_J O76 e86
                  obtain ⟨v88, e89⟩ : ∃ z, Rv h73 a0 6 = z := ⟨_, rfl⟩
                  have p90 := p79.2.2.1
                  rw [e82, e86] at p90
                  have p91 := p79.2.2.2
                  rw [e89] at p91
                  refine g_goto C 192 (by decide) dX3_readRule_185 ?_
                  have e92 : Tg h73 v1 = 2006 := (fxT F77 t3)
                  exact g_iret C hr (nar_z2 f78).1 (iw f78 (by decide) (by decide)) ⟨O76, ((Fx.rf (wr := wr_k_X3_readRule)).call F77 rfl), f78, (by unfold RInv; rw [e80, e82, e86, e89]; exact ⟨e92, p79.2.1, p90, p91⟩)⟩ (by decide) (by decide) dX3_readRule_192
            · refine g_aload_n C rfl 0 rfl dX3_readRule_156 ?_
              refine g_callI (st := []) (gc_V C lk_LandSurvey_Reader_144 (k_X3_readRemain l D cy w z0 O ta0 (by unfold RInv; rw [e2, e5, e8, e11]; exact ⟨t3, P_RInv.2.1, p12, p13⟩)) ta0 rfl rfl rfl ⟨by decide, by decide⟩ (Nat.le_of_ble_eq_true rfl) dX3_readRule_157 ⟨(by decide), (by decide)⟩) (fun r93 h94 f96 K95 => ?_)
              obtain ⟨O97, F98, f99, p100⟩ := K95
              have e101 : Rv h94 a0 13 = v1 := ((fxR F98 ta0 rfl).trans e2)
              obtain ⟨v102, e103⟩ : ∃ z, Iv h94 a0 4 = z := ⟨_, rfl⟩
              have e104 : Tg h94 a0 = 4 := (fxT F98 ta0)
              have f105 := ok_I O97 e104 rI_4_4 e103
              obtain ⟨v106, e107⟩ : ∃ z, Jv h94 a0 5 = z := ⟨_, rfl⟩
              have f108 := inL_J O97 e107
              obtain ⟨v109, e110⟩ : ∃ z, Rv h94 a0 6 = z := ⟨_, rfl⟩
              have p111 := p100.2.2.1
              rw [e103, e107] at p111
              have p112 := p100.2.2.2
              rw [e110] at p112
              have e113 : Tg h94 v1 = 2006 := (fxT F98 t3)
              exact g_iret C hr (nar_z2 f99).1 (iw f99 (by decide) (by decide)) ⟨O97, ((Fx.rf (wr := wr_k_X3_readRule)).call F98 rfl), f99, (by unfold RInv; rw [e101, e103, e107, e110]; exact ⟨e113, p100.2.1, p111, p112⟩)⟩ (by decide) (by decide) dX3_readRule_160
          · refine g_aload_n C rfl 0 rfl dX3_readRule_118 ?_
            refine g_callI (st := []) (gc_V C lk_LandSurvey_Reader_119 (k2_mayAddLine l D cy w z0 O ta0 (by unfold RInv; rw [e2, e5, e8, e11]; exact ⟨t3, P_RInv.2.1, p12, p13⟩)) ta0 rfl rfl rfl ⟨by decide, by decide⟩ (Nat.le_of_ble_eq_true rfl) dX3_readRule_119 ⟨(by decide), (by decide)⟩) (fun r114 h115 f117 K116 => ?_)
            obtain ⟨O118, F119, f120, p121, p122⟩ := K116
            have e123 : Rv h115 a0 13 = v1 := ((fxR F119 ta0 rfl).trans e2)
            obtain ⟨v124, e125⟩ : ∃ z, Iv h115 a0 4 = z := ⟨_, rfl⟩
            have e126 : Tg h115 a0 = 4 := (fxT F119 ta0)
            have f127 := ok_I O118 e126 rI_4_4 e125
            obtain ⟨v128, e129⟩ : ∃ z, Jv h115 a0 5 = z := ⟨_, rfl⟩
            have f130 := inL_J O118 e129
            obtain ⟨v131, e132⟩ : ∃ z, Rv h115 a0 6 = z := ⟨_, rfl⟩
            have p133 := p121.2.2.1
            rw [e125, e129] at p133
            have p134 := p121.2.2.2
            rw [e132] at p134
            obtain ⟨v135, e136⟩ : ∃ z, Iv h115 v1 13 = z := ⟨_, rfl⟩
            have e137 : Tg h115 v1 = 2006 := (fxT F119 t3)
            have f138 := ok_I O118 e137 rI_2006_13 e136
            rw [e123, e136] at p122
            refine g_if_eq C (iw f120 (by decide) (by decide)) 144 (by decide) dX3_readRule_122 (fun q139 => ?_) (fun q140 => ?_)
            · have f141 : (0 : Int) ≤ r114 ∧ r114 ≤ (0 : Int) := ii f120 (r_eq (il 0) q139) (by decide) (by decide)
              refine g_iconst C dX3_readRule_144 ?_
              exact g_iret C hr (nar_z2 (iw (il 0) (by decide) (by decide))).1 (iw (il 0) (by decide) (by decide)) ⟨O118, ((Fx.rf (wr := wr_k_X3_readRule)).call F119 rfl), (iw (il 0) (by decide) (by decide)), (by unfold RInv; rw [e123, e125, e129, e132]; exact ⟨e137, p121.2.1, p133, p134⟩)⟩ (by decide) (by decide) dX3_readRule_145
            · have f142 : (1 : Int) ≤ r114 ∧ r114 ≤ (1 : Int) := r_nl f120 q140
              refine g_aload_n C rfl 0 rfl dX3_readRule_125 ?_
              refine g_callI (st := []) (gc_V C lk_LandSurvey_Reader_138 (k_X3_takeStyle l D cy w z0 O118 e126 (by unfold RInv; rw [e123, e125, e129, e132]; exact ⟨e137, p121.2.1, p133, p134⟩)) e126 rfl rfl rfl ⟨by decide, by decide⟩ (Nat.le_of_ble_eq_true rfl) dX3_readRule_126 ⟨(by decide), (by decide)⟩) (fun r143 h144 f146 K145 => ?_)
              obtain ⟨O147, F148, f149, p150, p151⟩ := K145
              have e152 : Rv h144 a0 13 = v1 := ((fxR F148 e126 rfl).trans e123)
              obtain ⟨v153, e154⟩ : ∃ z, Iv h144 a0 4 = z := ⟨_, rfl⟩
              have e155 : Tg h144 a0 = 4 := (fxT F148 e126)
              have f156 := ok_I O147 e155 rI_4_4 e154
              obtain ⟨v157, e158⟩ : ∃ z, Jv h144 a0 5 = z := ⟨_, rfl⟩
              have f159 := inL_J O147 e158
              obtain ⟨v160, e161⟩ : ∃ z, Rv h144 a0 6 = z := ⟨_, rfl⟩
              have p162 := p150.2.2.1
              rw [e154, e158] at p162
              have p163 := p150.2.2.2
              rw [e161] at p163
              obtain ⟨v164, e165⟩ : ∃ z, Iv h144 a0 8 = z := ⟨_, rfl⟩
              have f166 := ok_I O147 e155 rI_4_8 e165
              rw [e165] at p151
              refine g_if_eq C (iw f149 (by decide) (by decide)) 144 (by decide) dX3_readRule_129 (fun q167 => ?_) (fun q168 => ?_)
              · have f169 : (0 : Int) ≤ r143 ∧ r143 ≤ (0 : Int) := ii f149 (r_eq (il 0) q167) (by decide) (by decide)
                refine g_iconst C dX3_readRule_144 ?_
                have e170 : Tg h144 v1 = 2006 := (fxT F148 e137)
                exact g_iret C hr (nar_z2 (iw (il 0) (by decide) (by decide))).1 (iw (il 0) (by decide) (by decide)) ⟨O147, (((Fx.rf (wr := wr_k_X3_readRule)).call F119 rfl).call F148 rfl), (iw (il 0) (by decide) (by decide)), (by unfold RInv; rw [e152, e154, e158, e161]; exact ⟨e170, p150.2.1, p162, p163⟩)⟩ (by decide) (by decide) dX3_readRule_145
              · have f171 : (1 : Int) ≤ r143 ∧ r143 ≤ (1 : Int) := r_nl f149 q168
                refine g_aload_n C rfl 0 rfl dX3_readRule_132 ?_
                refine g_iconst C dX3_readRule_133 ?_
                have e172 : Tg h144 v1 = 2006 := (fxT F148 e137)
                have e173 : Iv h144 v1 13 = v135 := ((fxI F148 e137 rfl).trans e136)
                refine g_callI (st := []) (gc_V C lk_LandSurvey_Reader_125 (k_X3_readLine l D cy w z0 O147 e155 (iw (il 2) (by decide) (by decide)) (by unfold RInv; rw [e152, e154, e158, e161]; exact ⟨e172, p150.2.1, p162, p163⟩) (by rw [e165]; omega) (by rw [e152, e173]; omega)) e155 rfl rfl rfl ⟨by decide, by decide⟩ (Nat.le_of_ble_eq_true rfl) dX3_readRule_134 ⟨(by decide), (by decide)⟩) (fun r174 h175 f177 K176 => ?_)
                obtain ⟨O178, F179, f180, p181⟩ := K176
                have e182 : Rv h175 a0 13 = v1 := ((fxR F179 e155 rfl).trans e152)
                obtain ⟨v183, e184⟩ : ∃ z, Iv h175 a0 4 = z := ⟨_, rfl⟩
                have e185 : Tg h175 a0 = 4 := (fxT F179 e155)
                have f186 := ok_I O178 e185 rI_4_4 e184
                obtain ⟨v187, e188⟩ : ∃ z, Jv h175 a0 5 = z := ⟨_, rfl⟩
                have f189 := inL_J O178 e188
                obtain ⟨v190, e191⟩ : ∃ z, Rv h175 a0 6 = z := ⟨_, rfl⟩
                have p192 := p181.2.2.1
                rw [e184, e188] at p192
                have p193 := p181.2.2.2
                rw [e191] at p193
                refine g_if_eq C (iw f180 (by decide) (by decide)) 144 (by decide) dX3_readRule_137 (fun q194 => ?_) (fun q195 => ?_)
                · have f196 : (0 : Int) ≤ r174 ∧ r174 ≤ (0 : Int) := ii f180 (r_eq (il 0) q194) (by decide) (by decide)
                  refine g_iconst C dX3_readRule_144 ?_
                  have e197 : Tg h175 v1 = 2006 := (fxT F179 e172)
                  exact g_iret C hr (nar_z2 (iw (il 0) (by decide) (by decide))).1 (iw (il 0) (by decide) (by decide)) ⟨O178, ((((Fx.rf (wr := wr_k_X3_readRule)).call F119 rfl).call F148 rfl).call F179 rfl), (iw (il 0) (by decide) (by decide)), (by unfold RInv; rw [e182, e184, e188, e191]; exact ⟨e197, p181.2.1, p192, p193⟩)⟩ (by decide) (by decide) dX3_readRule_145
                · have f198 : (1 : Int) ≤ r174 ∧ r174 ≤ (1 : Int) := r_nl f180 q195
                  refine g_iconst C dX3_readRule_140 ?_
                  refine g_goto C 145 (by decide) dX3_readRule_141 ?_
                  have e199 : Tg h175 v1 = 2006 := (fxT F179 e172)
                  exact g_iret C hr (nar_z2 (iw (il 1) (by decide) (by decide))).1 (iw (il 1) (by decide) (by decide)) ⟨O178, ((((Fx.rf (wr := wr_k_X3_readRule)).call F119 rfl).call F148 rfl).call F179 rfl), (iw (il 1) (by decide) (by decide)), (by unfold RInv; rw [e182, e184, e188, e191]; exact ⟨e199, p181.2.1, p192, p193⟩)⟩ (by decide) (by decide) dX3_readRule_145
        · refine g_aload_n C rfl 0 rfl dX3_readRule_77 ?_
          refine g_callI (st := []) (gc_V C lk_LandSurvey_Reader_119 (k2_mayAddLine l D cy w z0 O ta0 (by unfold RInv; rw [e2, e5, e8, e11]; exact ⟨t3, P_RInv.2.1, p12, p13⟩)) ta0 rfl rfl rfl ⟨by decide, by decide⟩ (Nat.le_of_ble_eq_true rfl) dX3_readRule_78 ⟨(by decide), (by decide)⟩) (fun r200 h201 f203 K202 => ?_)
          obtain ⟨O204, F205, f206, p207, p208⟩ := K202
          have e209 : Rv h201 a0 13 = v1 := ((fxR F205 ta0 rfl).trans e2)
          obtain ⟨v210, e211⟩ : ∃ z, Iv h201 a0 4 = z := ⟨_, rfl⟩
          have e212 : Tg h201 a0 = 4 := (fxT F205 ta0)
          have f213 := ok_I O204 e212 rI_4_4 e211
          obtain ⟨v214, e215⟩ : ∃ z, Jv h201 a0 5 = z := ⟨_, rfl⟩
          have f216 := inL_J O204 e215
          obtain ⟨v217, e218⟩ : ∃ z, Rv h201 a0 6 = z := ⟨_, rfl⟩
          have p219 := p207.2.2.1
          rw [e211, e215] at p219
          have p220 := p207.2.2.2
          rw [e218] at p220
          obtain ⟨v221, e222⟩ : ∃ z, Iv h201 v1 13 = z := ⟨_, rfl⟩
          have e223 : Tg h201 v1 = 2006 := (fxT F205 t3)
          have f224 := ok_I O204 e223 rI_2006_13 e222
          rw [e209, e222] at p208
          refine g_if_eq C (iw f206 (by decide) (by decide)) 106 (by decide) dX3_readRule_81 (fun q225 => ?_) (fun q226 => ?_)
          · have f227 : (0 : Int) ≤ r200 ∧ r200 ≤ (0 : Int) := ii f206 (r_eq (il 0) q225) (by decide) (by decide)
            refine g_iconst C dX3_readRule_106 ?_
            exact g_iret C hr (nar_z2 (iw (il 0) (by decide) (by decide))).1 (iw (il 0) (by decide) (by decide)) ⟨O204, ((Fx.rf (wr := wr_k_X3_readRule)).call F205 rfl), (iw (il 0) (by decide) (by decide)), (by unfold RInv; rw [e209, e211, e215, e218]; exact ⟨e223, p207.2.1, p219, p220⟩)⟩ (by decide) (by decide) dX3_readRule_107
          · have f228 : (1 : Int) ≤ r200 ∧ r200 ≤ (1 : Int) := r_nl f206 q226
            refine g_aload_n C rfl 0 rfl dX3_readRule_84 ?_
            refine g_iconst C dX3_readRule_85 ?_
            refine g_bipush C (by decide) dX3_readRule_86 ?_
            refine g_callI (st := []) (gc_V C lk_LandSurvey_Reader_131 (k_X3_takeNumberWithin l D cy w z0 O204 e212 (iw (il 1) (by decide) (by decide)) (iw (il 99) (by decide) (by decide)) (by unfold RInv; rw [e209, e211, e215, e218]; exact ⟨e223, p207.2.1, p219, p220⟩)) e212 rfl rfl rfl ⟨by decide, by decide⟩ (Nat.le_of_ble_eq_true rfl) dX3_readRule_88 ⟨(by decide), (by decide)⟩) (fun r229 h230 f232 K231 => ?_)
            obtain ⟨O233, F234, f235, p236, p237⟩ := K231
            have e238 : Rv h230 a0 13 = v1 := ((fxR F234 e212 rfl).trans e209)
            obtain ⟨v239, e240⟩ : ∃ z, Iv h230 a0 4 = z := ⟨_, rfl⟩
            have e241 : Tg h230 a0 = 4 := (fxT F234 e212)
            have f242 := ok_I O233 e241 rI_4_4 e240
            obtain ⟨v243, e244⟩ : ∃ z, Jv h230 a0 5 = z := ⟨_, rfl⟩
            have f245 := inL_J O233 e244
            obtain ⟨v246, e247⟩ : ∃ z, Rv h230 a0 6 = z := ⟨_, rfl⟩
            have p248 := p236.2.2.1
            rw [e240, e244] at p248
            have p249 := p236.2.2.2
            rw [e247] at p249
            obtain ⟨v250, e251⟩ : ∃ z, Iv h230 a0 8 = z := ⟨_, rfl⟩
            have f252 := ok_I O233 e241 rI_4_8 e251
            rw [e251] at p237
            refine g_if_eq C (iw f235 (by decide) (by decide)) 106 (by decide) dX3_readRule_91 (fun q253 => ?_) (fun q254 => ?_)
            · have f255 : (0 : Int) ≤ r229 ∧ r229 ≤ (0 : Int) := ii f235 (r_eq (il 0) q253) (by decide) (by decide)
              refine g_iconst C dX3_readRule_106 ?_
              have e256 : Tg h230 v1 = 2006 := (fxT F234 e223)
              exact g_iret C hr (nar_z2 (iw (il 0) (by decide) (by decide))).1 (iw (il 0) (by decide) (by decide)) ⟨O233, (((Fx.rf (wr := wr_k_X3_readRule)).call F205 rfl).call F234 rfl), (iw (il 0) (by decide) (by decide)), (by unfold RInv; rw [e238, e240, e244, e247]; exact ⟨e256, p236.2.1, p248, p249⟩)⟩ (by decide) (by decide) dX3_readRule_107
            · have f257 : (1 : Int) ≤ r229 ∧ r229 ≤ (1 : Int) := r_nl f235 q254
              refine g_aload_n C rfl 0 rfl dX3_readRule_94 ?_
              refine g_iconst C dX3_readRule_95 ?_
              have e258 : Tg h230 v1 = 2006 := (fxT F234 e223)
              have e259 : Iv h230 v1 13 = v221 := ((fxI F234 e223 rfl).trans e222)
              refine g_callI (st := []) (gc_V C lk_LandSurvey_Reader_125 (k_X3_readLine l D cy w z0 O233 e241 (iw (il 1) (by decide) (by decide)) (by unfold RInv; rw [e238, e240, e244, e247]; exact ⟨e258, p236.2.1, p248, p249⟩) (by rw [e251]; omega) (by rw [e238, e259]; omega)) e241 rfl rfl rfl ⟨by decide, by decide⟩ (Nat.le_of_ble_eq_true rfl) dX3_readRule_96 ⟨(by decide), (by decide)⟩) (fun r260 h261 f263 K262 => ?_)
              obtain ⟨O264, F265, f266, p267⟩ := K262
              have e268 : Rv h261 a0 13 = v1 := ((fxR F265 e241 rfl).trans e238)
              obtain ⟨v269, e270⟩ : ∃ z, Iv h261 a0 4 = z := ⟨_, rfl⟩
              have e271 : Tg h261 a0 = 4 := (fxT F265 e241)
              have f272 := ok_I O264 e271 rI_4_4 e270
              obtain ⟨v273, e274⟩ : ∃ z, Jv h261 a0 5 = z := ⟨_, rfl⟩
              have f275 := inL_J O264 e274
              obtain ⟨v276, e277⟩ : ∃ z, Rv h261 a0 6 = z := ⟨_, rfl⟩
              have p278 := p267.2.2.1
              rw [e270, e274] at p278
              have p279 := p267.2.2.2
              rw [e277] at p279
              refine g_if_eq C (iw f266 (by decide) (by decide)) 106 (by decide) dX3_readRule_99 (fun q280 => ?_) (fun q281 => ?_)
              · have f282 : (0 : Int) ≤ r260 ∧ r260 ≤ (0 : Int) := ii f266 (r_eq (il 0) q280) (by decide) (by decide)
                refine g_iconst C dX3_readRule_106 ?_
                have e283 : Tg h261 v1 = 2006 := (fxT F265 e258)
                exact g_iret C hr (nar_z2 (iw (il 0) (by decide) (by decide))).1 (iw (il 0) (by decide) (by decide)) ⟨O264, ((((Fx.rf (wr := wr_k_X3_readRule)).call F205 rfl).call F234 rfl).call F265 rfl), (iw (il 0) (by decide) (by decide)), (by unfold RInv; rw [e268, e270, e274, e277]; exact ⟨e283, p267.2.1, p278, p279⟩)⟩ (by decide) (by decide) dX3_readRule_107
              · have f284 : (1 : Int) ≤ r260 ∧ r260 ≤ (1 : Int) := r_nl f266 q281
                refine g_iconst C dX3_readRule_102 ?_
                refine g_goto C 107 (by decide) dX3_readRule_103 ?_
                have e285 : Tg h261 v1 = 2006 := (fxT F265 e258)
                exact g_iret C hr (nar_z2 (iw (il 1) (by decide) (by decide))).1 (iw (il 1) (by decide) (by decide)) ⟨O264, ((((Fx.rf (wr := wr_k_X3_readRule)).call F205 rfl).call F234 rfl).call F265 rfl), (iw (il 1) (by decide) (by decide)), (by unfold RInv; rw [e268, e270, e274, e277]; exact ⟨e285, p267.2.1, p278, p279⟩)⟩ (by decide) (by decide) dX3_readRule_107
      · refine g_aload_n C rfl 0 rfl dX3_readRule_38 ?_
        refine g_callI (st := []) (gc_V C lk_LandSurvey_Reader_119 (k2_mayAddLine l D cy w z0 O ta0 (by unfold RInv; rw [e2, e5, e8, e11]; exact ⟨t3, P_RInv.2.1, p12, p13⟩)) ta0 rfl rfl rfl ⟨by decide, by decide⟩ (Nat.le_of_ble_eq_true rfl) dX3_readRule_39 ⟨(by decide), (by decide)⟩) (fun r286 h287 f289 K288 => ?_)
        obtain ⟨O290, F291, f292, p293, p294⟩ := K288
        have e295 : Rv h287 a0 13 = v1 := ((fxR F291 ta0 rfl).trans e2)
        obtain ⟨v296, e297⟩ : ∃ z, Iv h287 a0 4 = z := ⟨_, rfl⟩
        have e298 : Tg h287 a0 = 4 := (fxT F291 ta0)
        have f299 := ok_I O290 e298 rI_4_4 e297
        obtain ⟨v300, e301⟩ : ∃ z, Jv h287 a0 5 = z := ⟨_, rfl⟩
        have f302 := inL_J O290 e301
        obtain ⟨v303, e304⟩ : ∃ z, Rv h287 a0 6 = z := ⟨_, rfl⟩
        have p305 := p293.2.2.1
        rw [e297, e301] at p305
        have p306 := p293.2.2.2
        rw [e304] at p306
        obtain ⟨v307, e308⟩ : ∃ z, Iv h287 v1 13 = z := ⟨_, rfl⟩
        have e309 : Tg h287 v1 = 2006 := (fxT F291 t3)
        have f310 := ok_I O290 e309 rI_2006_13 e308
        rw [e295, e308] at p294
        refine g_if_eq C (iw f292 (by decide) (by decide)) 65 (by decide) dX3_readRule_42 (fun q311 => ?_) (fun q312 => ?_)
        · have f313 : (0 : Int) ≤ r286 ∧ r286 ≤ (0 : Int) := ii f292 (r_eq (il 0) q311) (by decide) (by decide)
          refine g_iconst C dX3_readRule_65 ?_
          exact g_iret C hr (nar_z2 (iw (il 0) (by decide) (by decide))).1 (iw (il 0) (by decide) (by decide)) ⟨O290, ((Fx.rf (wr := wr_k_X3_readRule)).call F291 rfl), (iw (il 0) (by decide) (by decide)), (by unfold RInv; rw [e295, e297, e301, e304]; exact ⟨e309, p293.2.1, p305, p306⟩)⟩ (by decide) (by decide) dX3_readRule_66
        · have f314 : (1 : Int) ≤ r286 ∧ r286 ≤ (1 : Int) := r_nl f292 q312
          refine g_aload_n C rfl 0 rfl dX3_readRule_45 ?_
          refine g_iconst C dX3_readRule_46 ?_
          refine g_callI (st := []) (gc_V C lk_LandSurvey_Reader_122 (k_X3_takeRockNotYounger l D cy w z0 O290 e298 (iw (il 0) (by decide) (by decide)) (by unfold RInv; rw [e295, e297, e301, e304]; exact ⟨e309, p293.2.1, p305, p306⟩)) e298 rfl rfl rfl ⟨by decide, by decide⟩ (Nat.le_of_ble_eq_true rfl) dX3_readRule_47 ⟨(by decide), (by decide)⟩) (fun r315 h316 f318 K317 => ?_)
          obtain ⟨O319, F320, f321, p322, p323⟩ := K317
          have e324 : Rv h316 a0 13 = v1 := ((fxR F320 e298 rfl).trans e295)
          obtain ⟨v325, e326⟩ : ∃ z, Iv h316 a0 4 = z := ⟨_, rfl⟩
          have e327 : Tg h316 a0 = 4 := (fxT F320 e298)
          have f328 := ok_I O319 e327 rI_4_4 e326
          obtain ⟨v329, e330⟩ : ∃ z, Jv h316 a0 5 = z := ⟨_, rfl⟩
          have f331 := inL_J O319 e330
          obtain ⟨v332, e333⟩ : ∃ z, Rv h316 a0 6 = z := ⟨_, rfl⟩
          have p334 := p322.2.2.1
          rw [e326, e330] at p334
          have p335 := p322.2.2.2
          rw [e333] at p335
          obtain ⟨v336, e337⟩ : ∃ z, Iv h316 a0 8 = z := ⟨_, rfl⟩
          have f338 := ok_I O319 e327 rI_4_8 e337
          rw [e337] at p323
          refine g_if_eq C (iw f321 (by decide) (by decide)) 65 (by decide) dX3_readRule_50 (fun q339 => ?_) (fun q340 => ?_)
          · have f341 : (0 : Int) ≤ r315 ∧ r315 ≤ (0 : Int) := ii f321 (r_eq (il 0) q339) (by decide) (by decide)
            refine g_iconst C dX3_readRule_65 ?_
            have e342 : Tg h316 v1 = 2006 := (fxT F320 e309)
            exact g_iret C hr (nar_z2 (iw (il 0) (by decide) (by decide))).1 (iw (il 0) (by decide) (by decide)) ⟨O319, (((Fx.rf (wr := wr_k_X3_readRule)).call F291 rfl).call F320 rfl), (iw (il 0) (by decide) (by decide)), (by unfold RInv; rw [e324, e326, e330, e333]; exact ⟨e342, p322.2.1, p334, p335⟩)⟩ (by decide) (by decide) dX3_readRule_66
          · have f343 : (1 : Int) ≤ r315 ∧ r315 ≤ (1 : Int) := r_nl f321 q340
            refine g_aload_n C rfl 0 rfl dX3_readRule_53 ?_
            refine g_iconst C dX3_readRule_54 ?_
            have e344 : Tg h316 v1 = 2006 := (fxT F320 e309)
            have e345 : Iv h316 v1 13 = v307 := ((fxI F320 e309 rfl).trans e308)
            refine g_callI (st := []) (gc_V C lk_LandSurvey_Reader_125 (k_X3_readLine l D cy w z0 O319 e327 (iw (il 0) (by decide) (by decide)) (by unfold RInv; rw [e324, e326, e330, e333]; exact ⟨e344, p322.2.1, p334, p335⟩) (by rw [e337]; omega) (by rw [e324, e345]; omega)) e327 rfl rfl rfl ⟨by decide, by decide⟩ (Nat.le_of_ble_eq_true rfl) dX3_readRule_55 ⟨(by decide), (by decide)⟩) (fun r346 h347 f349 K348 => ?_)
            obtain ⟨O350, F351, f352, p353⟩ := K348
            have e354 : Rv h347 a0 13 = v1 := ((fxR F351 e327 rfl).trans e324)
            obtain ⟨v355, e356⟩ : ∃ z, Iv h347 a0 4 = z := ⟨_, rfl⟩
            have e357 : Tg h347 a0 = 4 := (fxT F351 e327)
            have f358 := ok_I O350 e357 rI_4_4 e356
            obtain ⟨v359, e360⟩ : ∃ z, Jv h347 a0 5 = z := ⟨_, rfl⟩
            have f361 := inL_J O350 e360
            obtain ⟨v362, e363⟩ : ∃ z, Rv h347 a0 6 = z := ⟨_, rfl⟩
            have p364 := p353.2.2.1
            rw [e356, e360] at p364
            have p365 := p353.2.2.2
            rw [e363] at p365
            refine g_if_eq C (iw f352 (by decide) (by decide)) 65 (by decide) dX3_readRule_58 (fun q366 => ?_) (fun q367 => ?_)
            · have f368 : (0 : Int) ≤ r346 ∧ r346 ≤ (0 : Int) := ii f352 (r_eq (il 0) q366) (by decide) (by decide)
              refine g_iconst C dX3_readRule_65 ?_
              have e369 : Tg h347 v1 = 2006 := (fxT F351 e344)
              exact g_iret C hr (nar_z2 (iw (il 0) (by decide) (by decide))).1 (iw (il 0) (by decide) (by decide)) ⟨O350, ((((Fx.rf (wr := wr_k_X3_readRule)).call F291 rfl).call F320 rfl).call F351 rfl), (iw (il 0) (by decide) (by decide)), (by unfold RInv; rw [e354, e356, e360, e363]; exact ⟨e369, p353.2.1, p364, p365⟩)⟩ (by decide) (by decide) dX3_readRule_66
            · have f370 : (1 : Int) ≤ r346 ∧ r346 ≤ (1 : Int) := r_nl f352 q367
              refine g_iconst C dX3_readRule_61 ?_
              refine g_goto C 66 (by decide) dX3_readRule_62 ?_
              have e371 : Tg h347 v1 = 2006 := (fxT F351 e344)
              exact g_iret C hr (nar_z2 (iw (il 1) (by decide) (by decide))).1 (iw (il 1) (by decide) (by decide)) ⟨O350, ((((Fx.rf (wr := wr_k_X3_readRule)).call F291 rfl).call F320 rfl).call F351 rfl), (iw (il 1) (by decide) (by decide)), (by unfold RInv; rw [e354, e356, e360, e363]; exact ⟨e371, p353.2.1, p364, p365⟩)⟩ (by decide) (by decide) dX3_readRule_66
    · refine g_aload_n C rfl 0 rfl dX3_readRule_23 ?_
      refine g_callI (st := []) (gc_V C lk_LandSurvey_Reader_113 (k_X3_readRock l D cy w z0 O ta0 (by unfold RInv; rw [e2, e5, e8, e11]; exact ⟨t3, P_RInv.2.1, p12, p13⟩)) ta0 rfl rfl rfl ⟨by decide, by decide⟩ (Nat.le_of_ble_eq_true rfl) dX3_readRule_24 ⟨(by decide), (by decide)⟩) (fun r372 h373 f375 K374 => ?_)
      obtain ⟨O376, F377, f378, p379⟩ := K374
      have e380 : Rv h373 a0 13 = v1 := ((fxR F377 ta0 rfl).trans e2)
      obtain ⟨v381, e382⟩ : ∃ z, Iv h373 a0 4 = z := ⟨_, rfl⟩
      have e383 : Tg h373 a0 = 4 := (fxT F377 ta0)
      have f384 := ok_I O376 e383 rI_4_4 e382
      obtain ⟨v385, e386⟩ : ∃ z, Jv h373 a0 5 = z := ⟨_, rfl⟩
      have f387 := inL_J O376 e386
      obtain ⟨v388, e389⟩ : ∃ z, Rv h373 a0 6 = z := ⟨_, rfl⟩
      have p390 := p379.2.2.1
      rw [e382, e386] at p390
      have p391 := p379.2.2.2
      rw [e389] at p391
      have e392 : Tg h373 v1 = 2006 := (fxT F377 t3)
      exact g_iret C hr (nar_z2 f378).1 (iw f378 (by decide) (by decide)) ⟨O376, ((Fx.rf (wr := wr_k_X3_readRule)).call F377 rfl), f378, (by unfold RInv; rw [e380, e382, e386, e389]; exact ⟨e392, p379.2.1, p390, p391⟩)⟩ (by decide) (by decide) dX3_readRule_27
  · refine g_aload_n C rfl 0 rfl dX3_readRule_7 ?_
    refine g_iconst C dX3_readRule_8 ?_
    refine g_callI (st := []) (gc_V C lk_LandSurvey_Reader_99 (k_X3_wrong l D cy w z0 O ta0 (iw (il 1) (by decide) (by decide))) ta0 rfl rfl rfl ⟨by decide, by decide⟩ (Nat.le_of_ble_eq_true rfl) dX3_readRule_9 ⟨(by decide), (by decide)⟩) (fun r393 h394 f396 K395 => ?_)
    obtain ⟨O397, F398, f399⟩ := K395
    have e400 : Rv h394 a0 13 = v1 := ((fxR F398 ta0 rfl).trans e2)
    have e401 : Iv h394 a0 4 = v4 := ((fxI F398 ta0 rfl).trans e5)
    have e402 : Jv h394 a0 5 = v7 := ((fxJ F398 ta0 rfl).trans e8)
    have e403 : Rv h394 a0 6 = v10 := ((fxR F398 ta0 rfl).trans e11)
    have e404 : Tg h394 v1 = 2006 := (fxT F398 t3)
    have p405 := (DOk_fx O F398 ta0 (by rw [e2]; exact t3) rfl P_RInv.2.1)
    exact g_iret C hr (nar_z2 (iw f399 (by decide) (by decide))).1 (iw f399 (by decide) (by decide)) ⟨O397, ((Fx.rf (wr := wr_k_X3_readRule)).call F398 rfl), (iw f399 (by decide) (by decide)), (by unfold RInv; rw [e400, e401, e402, e403]; exact ⟨e404, p405, p12, p13⟩)⟩ (by decide) (by decide) dX3_readRule_12
