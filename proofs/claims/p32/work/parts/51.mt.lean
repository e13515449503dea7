abbrev cX11_look : ByteArray := prog_1_method_15_code
def yX11_look : MethodName := ⟨RX11, "look", "(II)I"⟩
theorem okX11_look : yok yX11_look 2 := by decide +kernel
theorem dX11_look_0 : decode cX11_look 0 = .ok (.aload_n 0, 1) := by decide +kernel
theorem dX11_look_1 : decode cX11_look 1 = .ok (.iload_n 1, 1) := by decide +kernel
theorem dX11_look_2 : decode cX11_look 2 = .ok (.invokevirtual 108, 3) := by decide +kernel
theorem dX11_look_5 : decode cX11_look 5 = .ok (.ifCond .eq 13, 3) := by decide +kernel
theorem dX11_look_18 : decode cX11_look 18 = .ok (.new 166, 3) := by decide +kernel
theorem kw_1369 : Cond.classLink "LandSurvey" 166 "java/util/NoSuchElementException" ∈ uu := uu_in (i := 1369) (by decide +kernel) (by decide +kernel)
theorem kw_167 : Cond.initialized "java/util/NoSuchElementException" ∈ uu := uu_in (i := 167) (by decide +kernel) (by decide +kernel)
theorem dX11_look_21 : decode cX11_look 21 = .ok (.dup, 1) := by decide +kernel
theorem dX11_look_22 : decode cX11_look 22 = .ok (.invokespecial 168, 3) := by decide +kernel
theorem dX11_look_25 : decode cX11_look 25 = .ok (.athrow, 1) := by decide +kernel
theorem dX11_look_8 : decode cX11_look 8 = .ok (.iload_n 2, 1) := by decide +kernel
theorem dX11_look_9 : decode cX11_look 9 = .ok (.ifCond .lt 9, 3) := by decide +kernel
theorem dX11_look_12 : decode cX11_look 12 = .ok (.iload_n 2, 1) := by decide +kernel
theorem dX11_look_13 : decode cX11_look 13 = .ok (.bipush 7, 2) := by decide +kernel
theorem dX11_look_15 : decode cX11_look 15 = .ok (.if_icmp .le 11, 3) := by decide +kernel
theorem dX11_look_26 : decode cX11_look 26 = .ok (.aload_n 0, 1) := by decide +kernel
theorem dX11_look_27 : decode cX11_look 27 = .ok (.invokevirtual 169, 3) := by decide +kernel
theorem dX11_look_30 : decode cX11_look 30 = .ok (.aload_n 0, 1) := by decide +kernel
theorem dX11_look_31 : decode cX11_look 31 = .ok (.getfield 22, 3) := by decide +kernel
theorem dX11_look_34 : decode cX11_look 34 = .ok (.iload_n 1, 1) := by decide +kernel
theorem dX11_look_35 : decode cX11_look 35 = .ok (.aaload, 1) := by decide +kernel
theorem dX11_look_36 : decode cX11_look 36 = .ok (.astore_n 3, 1) := by decide +kernel
theorem dX11_look_37 : decode cX11_look 37 = .ok (.iload_n 2, 1) := by decide +kernel
theorem dX11_look_38 : decode cX11_look 38 = .ok (.iconst 5, 1) := by decide +kernel
theorem dX11_look_39 : decode cX11_look 39 = .ok (.if_icmp .lt 18, 3) := by decide +kernel
theorem dX11_look_57 : decode cX11_look 57 = .ok (.iload_n 2, 1) := by decide +kernel
theorem dX11_look_58 : decode cX11_look 58 = .ok (.tableswitch 103 0 6 #[42, 47, 52, 65, 79, 93, 98], 42) := by decide +kernel
theorem dX11_look_100 : decode cX11_look 100 = .ok (.aload_n 3, 1) := by decide +kernel
theorem dX11_look_101 : decode cX11_look 101 = .ok (.getfield 175, 3) := by decide +kernel
theorem dX11_look_104 : decode cX11_look 104 = .ok (.ireturn, 1) := by decide +kernel
theorem dX11_look_105 : decode cX11_look 105 = .ok (.aload_n 3, 1) := by decide +kernel
theorem dX11_look_106 : decode cX11_look 106 = .ok (.getfield 178, 3) := by decide +kernel
theorem dX11_look_109 : decode cX11_look 109 = .ok (.ireturn, 1) := by decide +kernel
theorem dX11_look_110 : decode cX11_look 110 = .ok (.aload_n 3, 1) := by decide +kernel
theorem dX11_look_111 : decode cX11_look 111 = .ok (.getfield 172, 3) := by decide +kernel
theorem dX11_look_114 : decode cX11_look 114 = .ok (.ifCond .eq 7, 3) := by decide +kernel
theorem dX11_look_121 : decode cX11_look 121 = .ok (.iconst 0, 1) := by decide +kernel
theorem dX11_look_122 : decode cX11_look 122 = .ok (.ireturn, 1) := by decide +kernel
theorem dX11_look_117 : decode cX11_look 117 = .ok (.iconst 1, 1) := by decide +kernel
theorem dX11_look_118 : decode cX11_look 118 = .ok (.goto 4, 3) := by decide +kernel
theorem dX11_look_123 : decode cX11_look 123 = .ok (.aload_n 0, 1) := by decide +kernel
theorem dX11_look_124 : decode cX11_look 124 = .ok (.aload_n 3, 1) := by decide +kernel
theorem dX11_look_125 : decode cX11_look 125 = .ok (.invokevirtual 181, 3) := by decide +kernel
theorem dX11_look_128 : decode cX11_look 128 = .ok (.ifCond .eq 7, 3) := by decide +kernel
theorem dX11_look_135 : decode cX11_look 135 = .ok (.iconst 0, 1) := by decide +kernel
theorem dX11_look_136 : decode cX11_look 136 = .ok (.ireturn, 1) := by decide +kernel
theorem dX11_look_131 : decode cX11_look 131 = .ok (.iconst 1, 1) := by decide +kernel
theorem dX11_look_132 : decode cX11_look 132 = .ok (.goto 4, 3) := by decide +kernel
theorem dX11_look_137 : decode cX11_look 137 = .ok (.aload_n 0, 1) := by decide +kernel
theorem dX11_look_138 : decode cX11_look 138 = .ok (.iload_n 1, 1) := by decide +kernel
theorem dX11_look_139 : decode cX11_look 139 = .ok (.invokevirtual 185, 3) := by decide +kernel
theorem kw_1433 : Cond.code yX11_isDoubtedInBest prog_1_method_49_code 2 (some .boolean) ∈ uu := uu_in (i := 1433) (by decide +kernel) (by decide +kernel)
theorem kw_1430 : Cond.methodLink "LandSurvey" 185 yX11_isDoubtedInBest ∈ uu := uu_in (i := 1430) (by decide +kernel) (by decide +kernel)
theorem kw_1432 : Cond.instanceMethod yX11_isDoubtedInBest ∈ uu := uu_in (i := 1432) (by decide +kernel) (by decide +kernel)
theorem kw_61 : Cond.selects "LandSurvey" yX11_isDoubtedInBest yX11_isDoubtedInBest ∈ uu := uu_in (i := 61) (by decide +kernel) (by decide +kernel)
theorem lk_LandSurvey_185 : lkV "LandSurvey" 185 yX11_isDoubtedInBest cX11_isDoubtedInBest 2 (some .boolean) 1 := ⟨kw_1430, kw_1432, kw_61, kw_144, kw_1433, okX11_isDoubtedInBest⟩
theorem dX11_look_142 : decode cX11_look 142 = .ok (.ifCond .eq 7, 3) := by decide +kernel
theorem dX11_look_149 : decode cX11_look 149 = .ok (.iconst 0, 1) := by decide +kernel
theorem dX11_look_150 : decode cX11_look 150 = .ok (.ireturn, 1) := by decide +kernel
theorem dX11_look_145 : decode cX11_look 145 = .ok (.iconst 1, 1) := by decide +kernel
theorem dX11_look_146 : decode cX11_look 146 = .ok (.goto 4, 3) := by decide +kernel
theorem dX11_look_42 : decode cX11_look 42 = .ok (.aload_n 3, 1) := by decide +kernel
theorem dX11_look_43 : decode cX11_look 43 = .ok (.getfield 172, 3) := by decide +kernel
theorem dX11_look_46 : decode cX11_look 46 = .ok (.ifCond .ne 11, 3) := by decide +kernel
theorem dX11_look_151 : decode cX11_look 151 = .ok (.aload_n 3, 1) := by decide +kernel
theorem dX11_look_152 : decode cX11_look 152 = .ok (.getfield 188, 3) := by decide +kernel
theorem dX11_look_155 : decode cX11_look 155 = .ok (.ireturn, 1) := by decide +kernel
theorem dX11_look_156 : decode cX11_look 156 = .ok (.aload_n 3, 1) := by decide +kernel
theorem dX11_look_157 : decode cX11_look 157 = .ok (.getfield 191, 3) := by decide +kernel
theorem dX11_look_160 : decode cX11_look 160 = .ok (.ireturn, 1) := by decide +kernel
theorem dX11_look_161 : decode cX11_look 161 = .ok (.aload_n 3, 1) := by decide +kernel
theorem dX11_look_162 : decode cX11_look 162 = .ok (.getfield 194, 3) := by decide +kernel
theorem dX11_look_165 : decode cX11_look 165 = .ok (.ireturn, 1) := by decide +kernel
theorem dX11_look_49 : decode cX11_look 49 = .ok (.new 166, 3) := by decide +kernel
theorem dX11_look_52 : decode cX11_look 52 = .ok (.dup, 1) := by decide +kernel
theorem dX11_look_53 : decode cX11_look 53 = .ok (.invokespecial 168, 3) := by decide +kernel
theorem dX11_look_56 : decode cX11_look 56 = .ok (.athrow, 1) := by decide +kernel
abbrev cX11_base : ByteArray := prog_1_method_20_code
def yX11_base : MethodName := ⟨RX11, "base", "(IIII)I"⟩
theorem okX11_base : yok yX11_base 4 := by decide +kernel
theorem dX11_base_0 : decode cX11_base 0 = .ok (.iload_n 2, 1) := by decide +kernel
theorem dX11_base_1 : decode cX11_base 1 = .ok (.iload_n 3, 1) := by decide +kernel
theorem dX11_base_2 : decode cX11_base 2 = .ok (.invokestatic 85, 3) := by decide +kernel
theorem dX11_base_5 : decode cX11_base 5 = .ok (.istore 5, 2) := by decide +kernel
theorem dX11_base_7 : decode cX11_base 7 = .ok (.iload 5, 2) := by decide +kernel
theorem dX11_base_9 : decode cX11_base 9 = .ok (.iconst (-1), 1) := by decide +kernel
theorem dX11_base_10 : decode cX11_base 10 = .ok (.if_icmp .eq 14, 3) := by decide +kernel
theorem dX11_base_24 : decode cX11_base 24 = .ok (.new 166, 3) := by decide +kernel
theorem dX11_base_27 : decode cX11_base 27 = .ok (.dup, 1) := by decide +kernel
theorem dX11_base_28 : decode cX11_base 28 = .ok (.invokespecial 168, 3) := by decide +kernel
theorem dX11_base_31 : decode cX11_base 31 = .ok (.athrow, 1) := by decide +kernel
theorem dX11_base_13 : decode cX11_base 13 = .ok (.iload 4, 2) := by decide +kernel
theorem dX11_base_15 : decode cX11_base 15 = .ok (.ifCond .lt 9, 3) := by decide +kernel
theorem dX11_base_18 : decode cX11_base 18 = .ok (.iload 4, 2) := by decide +kernel
theorem dX11_base_20 : decode cX11_base 20 = .ok (.iconst 1, 1) := by decide +kernel
theorem dX11_base_21 : decode cX11_base 21 = .ok (.if_icmp .le 11, 3) := by decide +kernel
theorem dX11_base_32 : decode cX11_base 32 = .ok (.aload_n 0, 1) := by decide +kernel
theorem dX11_base_33 : decode cX11_base 33 = .ok (.iload_n 1, 1) := by decide +kernel
theorem dX11_base_34 : decode cX11_base 34 = .ok (.invokevirtual 197, 3) := by decide +kernel
theorem dX11_base_37 : decode cX11_base 37 = .ok (.astore 6, 2) := by decide +kernel
theorem dX11_base_39 : decode cX11_base 39 = .ok (.aload 6, 2) := by decide +kernel
theorem dX11_base_41 : decode cX11_base 41 = .ok (.ifnull 11, 3) := by decide +kernel
theorem dX11_base_52 : decode cX11_base 52 = .ok (.new 166, 3) := by decide +kernel
theorem dX11_base_55 : decode cX11_base 55 = .ok (.dup, 1) := by decide +kernel
theorem dX11_base_56 : decode cX11_base 56 = .ok (.invokespecial 168, 3) := by decide +kernel
theorem dX11_base_59 : decode cX11_base 59 = .ok (.athrow, 1) := by decide +kernel
theorem dX11_base_44 : decode cX11_base 44 = .ok (.aload 6, 2) := by decide +kernel
theorem dX11_base_46 : decode cX11_base 46 = .ok (.getfield 237, 3) := by decide +kernel
theorem dX11_base_49 : decode cX11_base 49 = .ok (.ifCond .ne 11, 3) := by decide +kernel
theorem dX11_base_60 : decode cX11_base 60 = .ok (.aload 6, 2) := by decide +kernel
theorem dX11_base_62 : decode cX11_base 62 = .ok (.getfield 240, 3) := by decide +kernel
theorem dX11_base_65 : decode cX11_base 65 = .ok (.ifCond .ne 12, 3) := by decide +kernel
theorem dX11_base_77 : decode cX11_base 77 = .ok (.iload 4, 2) := by decide +kernel
theorem dX11_base_79 : decode cX11_base 79 = .ok (.ifCond .ne 14, 3) := by decide +kernel
theorem dX11_base_93 : decode cX11_base 93 = .ok (.aload 6, 2) := by decide +kernel
theorem dX11_base_95 : decode cX11_base 95 = .ok (.getfield 250, 3) := by decide +kernel
theorem dX11_base_98 : decode cX11_base 98 = .ok (.iload 5, 2) := by decide +kernel
theorem dX11_base_100 : decode cX11_base 100 = .ok (.iaload, 1) := by decide +kernel
theorem dX11_base_101 : decode cX11_base 101 = .ok (.ireturn, 1) := by decide +kernel
theorem dX11_base_82 : decode cX11_base 82 = .ok (.aload 6, 2) := by decide +kernel
theorem dX11_base_84 : decode cX11_base 84 = .ok (.getfield 247, 3) := by decide +kernel
theorem dX11_base_87 : decode cX11_base 87 = .ok (.iload 5, 2) := by decide +kernel
theorem dX11_base_89 : decode cX11_base 89 = .ok (.iaload, 1) := by decide +kernel
theorem dX11_base_90 : decode cX11_base 90 = .ok (.goto 11, 3) := by decide +kernel
theorem dX11_base_68 : decode cX11_base 68 = .ok (.aload_n 0, 1) := by decide +kernel
theorem dX11_base_69 : decode cX11_base 69 = .ok (.getfield 64, 3) := by decide +kernel
theorem dX11_base_72 : decode cX11_base 72 = .ok (.aload 6, 2) := by decide +kernel
theorem dX11_base_74 : decode cX11_base 74 = .ok (.invokevirtual 243, 3) := by decide +kernel
abbrev cX11_deep : ByteArray := prog_1_method_23_code
def yX11_deep : MethodName := ⟨RX11, "deep", "(IIII)I"⟩
theorem okX11_deep : yok yX11_deep 4 := by decide +kernel
theorem dX11_deep_0 : decode cX11_deep 0 = .ok (.iload_n 1, 1) := by decide +kernel
theorem dX11_deep_1 : decode cX11_deep 1 = .ok (.iload_n 2, 1) := by decide +kernel
theorem dX11_deep_2 : decode cX11_deep 2 = .ok (.invokestatic 85, 3) := by decide +kernel
theorem dX11_deep_5 : decode cX11_deep 5 = .ok (.istore 5, 2) := by decide +kernel
theorem dX11_deep_7 : decode cX11_deep 7 = .ok (.iload 5, 2) := by decide +kernel
theorem dX11_deep_9 : decode cX11_deep 9 = .ok (.iconst (-1), 1) := by decide +kernel
theorem dX11_deep_10 : decode cX11_deep 10 = .ok (.if_icmp .eq 36, 3) := by decide +kernel
theorem dX11_deep_46 : decode cX11_deep 46 = .ok (.new 166, 3) := by decide +kernel
theorem dX11_deep_49 : decode cX11_deep 49 = .ok (.dup, 1) := by decide +kernel
theorem dX11_deep_50 : decode cX11_deep 50 = .ok (.invokespecial 168, 3) := by decide +kernel
theorem dX11_deep_53 : decode cX11_deep 53 = .ok (.athrow, 1) := by decide +kernel
theorem dX11_deep_13 : decode cX11_deep 13 = .ok (.iload 4, 2) := by decide +kernel
theorem dX11_deep_15 : decode cX11_deep 15 = .ok (.ifCond .lt 31, 3) := by decide +kernel
theorem dX11_deep_18 : decode cX11_deep 18 = .ok (.iload 4, 2) := by decide +kernel
theorem dX11_deep_20 : decode cX11_deep 20 = .ok (.iconst 1, 1) := by decide +kernel
theorem dX11_deep_21 : decode cX11_deep 21 = .ok (.if_icmp .gt 25, 3) := by decide +kernel
theorem dX11_deep_24 : decode cX11_deep 24 = .ok (.aload_n 0, 1) := by decide +kernel
theorem dX11_deep_25 : decode cX11_deep 25 = .ok (.invokevirtual 253, 3) := by decide +kernel
theorem dX11_deep_28 : decode cX11_deep 28 = .ok (.ifCond .eq 18, 3) := by decide +kernel
theorem dX11_deep_31 : decode cX11_deep 31 = .ok (.aload_n 0, 1) := by decide +kernel
theorem dX11_deep_32 : decode cX11_deep 32 = .ok (.iload_n 3, 1) := by decide +kernel
theorem dX11_deep_33 : decode cX11_deep 33 = .ok (.invokevirtual 272, 3) := by decide +kernel
theorem dX11_deep_36 : decode cX11_deep 36 = .ok (.ifCond .eq 10, 3) := by decide +kernel
theorem dX11_deep_39 : decode cX11_deep 39 = .ok (.aload_n 0, 1) := by decide +kernel
theorem dX11_deep_40 : decode cX11_deep 40 = .ok (.invokevirtual 275, 3) := by decide +kernel
theorem dX11_deep_43 : decode cX11_deep 43 = .ok (.ifCond .ne 11, 3) := by decide +kernel
theorem dX11_deep_54 : decode cX11_deep 54 = .ok (.iload 4, 2) := by decide +kernel
theorem dX11_deep_56 : decode cX11_deep 56 = .ok (.ifCond .ne 13, 3) := by decide +kernel
theorem dX11_deep_69 : decode cX11_deep 69 = .ok (.aload_n 0, 1) := by decide +kernel
theorem dX11_deep_70 : decode cX11_deep 70 = .ok (.iload 5, 2) := by decide +kernel
theorem dX11_deep_72 : decode cX11_deep 72 = .ok (.iload_n 3, 1) := by decide +kernel
theorem dX11_deep_73 : decode cX11_deep 73 = .ok (.invokevirtual 281, 3) := by decide +kernel
theorem kw_1451 : Cond.code yX11_greatestTop prog_1_method_68_code 3 (some .int) ∈ uu := uu_in (i := 1451) (by decide +kernel) (by decide +kernel)
theorem kw_1448 : Cond.methodLink "LandSurvey" 281 yX11_greatestTop ∈ uu := uu_in (i := 1448) (by decide +kernel) (by decide +kernel)
theorem kw_1450 : Cond.instanceMethod yX11_greatestTop ∈ uu := uu_in (i := 1450) (by decide +kernel) (by decide +kernel)
theorem kw_62 : Cond.selects "LandSurvey" yX11_greatestTop yX11_greatestTop ∈ uu := uu_in (i := 62) (by decide +kernel) (by decide +kernel)
theorem lk_LandSurvey_281 : lkV "LandSurvey" 281 yX11_greatestTop cX11_greatestTop 3 (some .int) 2 := ⟨kw_1448, kw_1450, kw_62, kw_144, kw_1451, okX11_greatestTop⟩
theorem dX11_deep_76 : decode cX11_deep 76 = .ok (.ireturn, 1) := by decide +kernel
theorem dX11_deep_59 : decode cX11_deep 59 = .ok (.aload_n 0, 1) := by decide +kernel
theorem dX11_deep_60 : decode cX11_deep 60 = .ok (.iload 5, 2) := by decide +kernel
theorem dX11_deep_62 : decode cX11_deep 62 = .ok (.iload_n 3, 1) := by decide +kernel
theorem dX11_deep_63 : decode cX11_deep 63 = .ok (.invokevirtual 278, 3) := by decide +kernel
theorem dX11_deep_66 : decode cX11_deep 66 = .ok (.goto 10, 3) := by decide +kernel
abbrev cX11_habit : ByteArray := prog_1_method_31_code
def yX11_habit : MethodName := ⟨RX11, "habit", "(I)I"⟩
theorem okX11_habit : yok yX11_habit 1 := by decide +kernel
theorem dX11_habit_0 : decode cX11_habit 0 = .ok (.iload_n 1, 1) := by decide +kernel
theorem dX11_habit_1 : decode cX11_habit 1 = .ok (.invokestatic 315, 3) := by decide +kernel
theorem dX11_habit_4 : decode cX11_habit 4 = .ok (.ifCond .ne 11, 3) := by decide +kernel
theorem dX11_habit_15 : decode cX11_habit 15 = .ok (.aload_n 0, 1) := by decide +kernel
theorem dX11_habit_16 : decode cX11_habit 16 = .ok (.invokevirtual 169, 3) := by decide +kernel
theorem dX11_habit_19 : decode cX11_habit 19 = .ok (.iconst 0, 1) := by decide +kernel
theorem dX11_habit_20 : decode cX11_habit 20 = .ok (.istore_n 2, 1) := by decide +kernel
theorem dX11_habit_21 : decode cX11_habit 21 = .ok (.iconst 0, 1) := by decide +kernel
theorem dX11_habit_22 : decode cX11_habit 22 = .ok (.istore_n 3, 1) := by decide +kernel
theorem dX11_habit_23 : decode cX11_habit 23 = .ok (.iconst 0, 1) := by decide +kernel
theorem dX11_habit_24 : decode cX11_habit 24 = .ok (.istore 4, 2) := by decide +kernel
theorem dX11_habit_26 : decode cX11_habit 26 = .ok (.iload 4, 2) := by decide +kernel
theorem dX11_habit_28 : decode cX11_habit 28 = .ok (.aload_n 0, 1) := by decide +kernel
theorem dX11_habit_29 : decode cX11_habit 29 = .ok (.getfield 102, 3) := by decide +kernel
theorem dX11_habit_32 : decode cX11_habit 32 = .ok (.if_icmp .ge 102, 3) := by decide +kernel
theorem dX11_habit_134 : decode cX11_habit 134 = .ok (.iload_n 2, 1) := by decide +kernel
theorem dX11_habit_135 : decode cX11_habit 135 = .ok (.iconst 3, 1) := by decide +kernel
theorem dX11_habit_136 : decode cX11_habit 136 = .ok (.if_icmp .lt 13, 3) := by decide +kernel
theorem dX11_habit_149 : decode cX11_habit 149 = .ok (.iconst 0, 1) := by decide +kernel
theorem dX11_habit_150 : decode cX11_habit 150 = .ok (.ireturn, 1) := by decide +kernel
theorem dX11_habit_139 : decode cX11_habit 139 = .ok (.iconst 2, 1) := by decide +kernel
theorem dX11_habit_140 : decode cX11_habit 140 = .ok (.iload_n 3, 1) := by decide +kernel
theorem dX11_habit_141 : decode cX11_habit 141 = .ok (.invokestatic 325, 3) := by decide +kernel
abbrev cJ9_abs_0f7a4 : ByteArray := prog_21_method_59_code
def yJ9_abs_0f7a4 : MethodName := ⟨"java/lang/Math", "abs", "(I)I"⟩
theorem okJ9_abs_0f7a4 : yok yJ9_abs_0f7a4 1 := by decide +kernel
theorem kw_1459 : Cond.methodLink "LandSurvey" 325 yJ9_abs_0f7a4 ∈ uu := uu_in (i := 1459) (by decide +kernel) (by decide +kernel)
theorem kw_1460 : Cond.static yJ9_abs_0f7a4 ∈ uu := uu_in (i := 1460) (by decide +kernel) (by decide +kernel)
theorem kw_1461 : Cond.code yJ9_abs_0f7a4 prog_21_method_59_code 1 (some .int) ∈ uu := uu_in (i := 1461) (by decide +kernel) (by decide +kernel)
theorem dX11_habit_144 : decode cX11_habit 144 = .ok (.imul, 1) := by decide +kernel
theorem dX11_habit_145 : decode cX11_habit 145 = .ok (.iload_n 2, 1) := by decide +kernel
theorem dX11_habit_146 : decode cX11_habit 146 = .ok (.if_icmp .gt 5, 3) := by decide +kernel
theorem dX11_habit_151 : decode cX11_habit 151 = .ok (.iload_n 3, 1) := by decide +kernel
theorem dX11_habit_152 : decode cX11_habit 152 = .ok (.ifCond .le 7, 3) := by decide +kernel
theorem dX11_habit_159 : decode cX11_habit 159 = .ok (.iconst (-1), 1) := by decide +kernel
theorem dX11_habit_160 : decode cX11_habit 160 = .ok (.ireturn, 1) := by decide +kernel
theorem dX11_habit_155 : decode cX11_habit 155 = .ok (.iconst 1, 1) := by decide +kernel
theorem dX11_habit_156 : decode cX11_habit 156 = .ok (.goto 4, 3) := by decide +kernel
theorem dX11_habit_35 : decode cX11_habit 35 = .ok (.iconst 0, 1) := by decide +kernel
theorem dX11_habit_36 : decode cX11_habit 36 = .ok (.istore 5, 2) := by decide +kernel
theorem dX11_habit_38 : decode cX11_habit 38 = .ok (.iload 5, 2) := by decide +kernel
theorem dX11_habit_40 : decode cX11_habit 40 = .ok (.aload_n 0, 1) := by decide +kernel
theorem dX11_habit_41 : decode cX11_habit 41 = .ok (.getfield 102, 3) := by decide +kernel
theorem dX11_habit_44 : decode cX11_habit 44 = .ok (.if_icmp .ge 84, 3) := by decide +kernel
theorem dX11_habit_128 : decode cX11_habit 128 = .ok (.iinc 4 1, 3) := by decide +kernel
theorem dX11_habit_131 : decode cX11_habit 131 = .ok (.goto (-105), 3) := by decide +kernel
theorem dX11_habit_47 : decode cX11_habit 47 = .ok (.aload_n 0, 1) := by decide +kernel
theorem dX11_habit_48 : decode cX11_habit 48 = .ok (.getfield 22, 3) := by decide +kernel
theorem dX11_habit_51 : decode cX11_habit 51 = .ok (.iload 4, 2) := by decide +kernel
theorem dX11_habit_53 : decode cX11_habit 53 = .ok (.aaload, 1) := by decide +kernel
theorem dX11_habit_54 : decode cX11_habit 54 = .ok (.getfield 318, 3) := by decide +kernel
theorem dX11_habit_57 : decode cX11_habit 57 = .ok (.iload_n 1, 1) := by decide +kernel
theorem dX11_habit_58 : decode cX11_habit 58 = .ok (.if_icmp .ne 64, 3) := by decide +kernel
theorem dX11_habit_122 : decode cX11_habit 122 = .ok (.iinc 5 1, 3) := by decide +kernel
theorem dX11_habit_125 : decode cX11_habit 125 = .ok (.goto (-87), 3) := by decide +kernel
theorem dX11_habit_61 : decode cX11_habit 61 = .ok (.aload_n 0, 1) := by decide +kernel
theorem dX11_habit_62 : decode cX11_habit 62 = .ok (.getfield 22, 3) := by decide +kernel
theorem dX11_habit_65 : decode cX11_habit 65 = .ok (.iload 5, 2) := by decide +kernel
theorem dX11_habit_67 : decode cX11_habit 67 = .ok (.aaload, 1) := by decide +kernel
theorem dX11_habit_68 : decode cX11_habit 68 = .ok (.getfield 318, 3) := by decide +kernel
theorem dX11_habit_71 : decode cX11_habit 71 = .ok (.iload_n 1, 1) := by decide +kernel
theorem dX11_habit_72 : decode cX11_habit 72 = .ok (.if_icmp .eq 50, 3) := by decide +kernel
theorem dX11_habit_75 : decode cX11_habit 75 = .ok (.aload_n 0, 1) := by decide +kernel
theorem dX11_habit_76 : decode cX11_habit 76 = .ok (.getfield 22, 3) := by decide +kernel
theorem dX11_habit_79 : decode cX11_habit 79 = .ok (.iload 4, 2) := by decide +kernel
theorem dX11_habit_81 : decode cX11_habit 81 = .ok (.aaload, 1) := by decide +kernel
theorem dX11_habit_82 : decode cX11_habit 82 = .ok (.aload_n 0, 1) := by decide +kernel
theorem dX11_habit_83 : decode cX11_habit 83 = .ok (.getfield 22, 3) := by decide +kernel
theorem dX11_habit_86 : decode cX11_habit 86 = .ok (.iload 5, 2) := by decide +kernel
theorem dX11_habit_88 : decode cX11_habit 88 = .ok (.aaload, 1) := by decide +kernel
theorem dX11_habit_89 : decode cX11_habit 89 = .ok (.invokestatic 321, 3) := by decide +kernel
theorem dX11_habit_92 : decode cX11_habit 92 = .ok (.ifCond .eq 30, 3) := by decide +kernel
theorem dX11_habit_95 : decode cX11_habit 95 = .ok (.iinc 2 1, 3) := by decide +kernel
theorem dX11_habit_98 : decode cX11_habit 98 = .ok (.iload_n 3, 1) := by decide +kernel
theorem dX11_habit_99 : decode cX11_habit 99 = .ok (.aload_n 0, 1) := by decide +kernel
theorem dX11_habit_100 : decode cX11_habit 100 = .ok (.getfield 22, 3) := by decide +kernel
theorem dX11_habit_103 : decode cX11_habit 103 = .ok (.iload 4, 2) := by decide +kernel
theorem dX11_habit_105 : decode cX11_habit 105 = .ok (.aaload, 1) := by decide +kernel
theorem dX11_habit_106 : decode cX11_habit 106 = .ok (.getfield 175, 3) := by decide +kernel
theorem dX11_habit_109 : decode cX11_habit 109 = .ok (.aload_n 0, 1) := by decide +kernel
theorem dX11_habit_110 : decode cX11_habit 110 = .ok (.getfield 22, 3) := by decide +kernel
theorem dX11_habit_113 : decode cX11_habit 113 = .ok (.iload 5, 2) := by decide +kernel
theorem dX11_habit_115 : decode cX11_habit 115 = .ok (.aaload, 1) := by decide +kernel
theorem dX11_habit_116 : decode cX11_habit 116 = .ok (.getfield 175, 3) := by decide +kernel
theorem dX11_habit_119 : decode cX11_habit 119 = .ok (.isub, 1) := by decide +kernel
theorem dX11_habit_120 : decode cX11_habit 120 = .ok (.iadd, 1) := by decide +kernel
theorem dX11_habit_121 : decode cX11_habit 121 = .ok (.istore_n 3, 1) := by decide +kernel
theorem dX11_habit_7 : decode cX11_habit 7 = .ok (.new 166, 3) := by decide +kernel
theorem dX11_habit_10 : decode cX11_habit 10 = .ok (.dup, 1) := by decide +kernel
theorem dX11_habit_11 : decode cX11_habit 11 = .ok (.invokespecial 168, 3) := by decide +kernel
theorem dX11_habit_14 : decode cX11_habit 14 = .ok (.athrow, 1) := by decide +kernel
def wr_k_X11_look : List Nat := [401, 402, 403, 404, 405, 406, 1403, 1404, 1405, 1412, 1813, 1814, 1815, 1816, 1817, 1818, 2003, 2207, 2215, 2216, 2217, 200400, 200407, 200408, 7420000, 8020000, 8220400, 8420400, 8620000, 9020000, 9220400, 9420000, 9821400, 10020000, 1000000002, 1000001002, 1000010100, 1000011100]
set_option maxRecDepth 100000 in
set_option maxHeartbeats 4000000 in
theorem k_X11_look (l : Launch) (hst : l.stackTraces = false) (D : va_G) (cy : Nat → ClassId) (w : Nat → Nat) (z0 : Nat)  {h : Hp} {a0 : Nat} {a1 : Int} {a2 : Int}  (O : Okh h) (ta0 : Tg h a0 = 11) (fa1 : (-2147483648) ≤ a1 ∧ a1 ≤ 2147483647) (fa2 : (-2147483648) ≤ a2 ∧ a2 ≤ 2147483647) (P_XInv : XInv h a0) : MX l D cy w z0 yX11_look cX11_look 4 (some .int) 11 300 97 6438 [.inr (.inr a0), .inl a1, .inl a2] h (fun v h1 => Okh h1 ∧ Fx wr_k_X11_look h h1 ∧ ((-2147483648) ≤ v ∧ v ≤ 2147483647) ∧ (XInv h1 a0)) (fun h1 => Okh h1 ∧ Fx wr_k_X11_look h h1 ∧ (XInv h1 a0)) := by
  obtain ⟨v1, e2⟩ : ∃ z, Rv h a0 3 = z := ⟨_, rfl⟩
  have t3 := ok_R O ta0 rE_11_3 e2
  have l4 := ok_L O ta0 rE_11_3 e2
  obtain ⟨v5, e6⟩ : ∃ z, Iv h a0 4 = z := ⟨_, rfl⟩
  have f7 := ok_I O ta0 rI_11_4 e6
  obtain ⟨v8, e9⟩ : ∃ z, Rv h a0 8 = z := ⟨_, rfl⟩
  have t10 := ok_R O ta0 rE_11_8 e9
  have l11 := ok_L O ta0 rE_11_8 e9
  obtain ⟨v12, e13⟩ : ∃ z, Iv h a0 9 = z := ⟨_, rfl⟩
  have f14 := ok_I O ta0 rI_11_9 e13
  obtain ⟨v15, e16⟩ : ∃ z, Rv h a0 11 = z := ⟨_, rfl⟩
  have t17 := ok_R O ta0 rE_11_11 e16
  have l18 := ok_L O ta0 rE_11_11 e16
  obtain ⟨v19, e20⟩ : ∃ z, Iv h a0 12 = z := ⟨_, rfl⟩
  have f21 := ok_I O ta0 rI_11_12 e20
  obtain ⟨v22, e23⟩ : ∃ z, Iv h a0 15 = z := ⟨_, rfl⟩
  have f24 := ok_I O ta0 rI_11_15 e23
  obtain ⟨v25, e26⟩ : ∃ z, Rv h a0 14 = z := ⟨_, rfl⟩
  have t27 := ok_R O ta0 rE_11_14 e26
  have l28 := ok_L O ta0 rE_11_14 e26
  obtain ⟨v29, e30⟩ : ∃ z, Rv h a0 13 = z := ⟨_, rfl⟩
  have t31 := ok_R O ta0 rE_11_13 e30
  obtain ⟨v32, e33⟩ : ∃ z, Rv h a0 6 = z := ⟨_, rfl⟩
  have t34 := ok_R O ta0 rE_11_6 e33
  obtain ⟨v35, e36⟩ : ∃ z, Rv h a0 7 = z := ⟨_, rfl⟩
  have t37 := ok_R O ta0 rE_11_7 e36
  have p49 := P_XInv
  unfold XInv at p49
  rw [e2, e6, e9, e13, e16, e20, e23, e26, e30, e33, e36] at p49
  obtain ⟨p38, p39, p40, p41, p42, p43, p44, p45, p46, p47, p48⟩ := p49
  obtain ⟨v50, e51⟩ : ∃ z, Iv h v29 3 = z := ⟨_, rfl⟩
  have f52 := ok_I O t31 rI_7_3 e51
  obtain ⟨v53, e54⟩ : ∃ z, Iv h v29 4 = z := ⟨_, rfl⟩
  have f55 := ok_I O t31 rI_7_4 e54
  rw [e51] at p44
  rw [e54] at p45
  refine xm_go (by decide +kernel) (Nat.le_of_ble_eq_true rfl) (fun p e s m below meth c C hr hT => ?_)
  refine g_aload_n C rfl 0 rfl dX11_look_0 ?_
  refine g_iload_n C rfl 1 rfl dX11_look_1 ?_
  refine g_callI (st := []) (gc_V C lk_LandSurvey_108 (k_X11_isSight l D cy w z0 O ta0 fa1) ta0 rfl rfl rfl ⟨by decide, by decide⟩ (Nat.le_of_ble_eq_true rfl) dX11_look_2 ⟨(by decide), (by decide)⟩) (fun r56 h57 f59 K58 => ?_)
  obtain ⟨O60, F61, f62, p63⟩ := K58
  refine g_if_eq C (iw f62 (by decide) (by decide)) 18 (by decide) dX11_look_5 (fun q64 => ?_) (fun q65 => ?_)
  · have f66 : (0 : Int) ≤ r56 ∧ r56 ≤ (0 : Int) := ii f62 (r_eq (il 0) q64) (by decide) (by decide)
    have p67 := (XInv_fx O F61 ta0 rfl P_XInv)
    exact g_throw C hst hT kw_1369 kw_167 dX11_look_18 dX11_look_21 dX11_look_22 dX11_look_25 ⟨O60, ((Fx.rf (wr := wr_k_X11_look)).call F61 rfl), p67⟩ (by decide) (Nat.le_of_ble_eq_true rfl) (by decide) (by decide) (by decide) (by decide)
  · have f68 : (1 : Int) ≤ r56 ∧ r56 ≤ (1 : Int) := r_nl f62 q65
    refine g_iload_n C rfl 2 rfl dX11_look_8 ?_
    refine g_if_lt C fa2 18 (by decide) dX11_look_9 (fun q69 => ?_) (fun q70 => ?_)
    · have f71 : (-2147483648 : Int) ≤ a2 ∧ a2 ≤ (-1 : Int) := r_lt fa2 (il 0) q69 (by decide) (by decide)
      have p72 := (XInv_fx O F61 ta0 rfl P_XInv)
      exact g_throw C hst hT kw_1369 kw_167 dX11_look_18 dX11_look_21 dX11_look_22 dX11_look_25 ⟨O60, ((Fx.rf (wr := wr_k_X11_look)).call F61 rfl), p72⟩ (by decide) (Nat.le_of_ble_eq_true rfl) (by decide) (by decide) (by decide) (by decide)
    · have f73 : (0 : Int) ≤ a2 ∧ a2 ≤ (2147483647 : Int) := r_ge fa2 (il 0) q70 (by decide) (by decide)
      refine g_iload_n C rfl 2 rfl dX11_look_12 ?_
      refine g_bipush C (by decide) dX11_look_13 ?_
      refine g_icmp_le C (iw f73 (by decide) (by decide)) (iw (il 7) (by decide) (by decide)) 26 (by decide) dX11_look_15 (fun q74 => ?_) (fun q75 => ?_)
      · have f76 : (0 : Int) ≤ a2 ∧ a2 ≤ (7 : Int) := r_le f73 (il 7) q74 (by decide) (by decide)
        refine g_aload_n C rfl 0 rfl dX11_look_26 ?_
        have e77 : Tg h57 a0 = 11 := (fxT F61 ta0)
        have p78 := (XInv_fx O F61 ta0 rfl P_XInv)
        refine g_callV (st := []) (gc_V C lk_LandSurvey_169 (k_X11_settle l D cy w z0 O60 e77 p78) e77 rfl rfl rfl ⟨by decide, by decide⟩ (Nat.le_of_ble_eq_true rfl) dX11_look_27 ⟨(by decide), (by decide)⟩) (fun h80 K81 => ?_)
        obtain ⟨O83, F84, p85, p86⟩ := K81
        have e87 : Rv h80 a0 3 = v1 := ((fxR F84 e77 rfl).trans ((fxR F61 ta0 rfl).trans e2))
        have e88 : Iv h80 a0 4 = v5 := ((fxI F84 e77 rfl).trans ((fxI F61 ta0 rfl).trans e6))
        have e89 : Rv h80 a0 8 = v8 := ((fxR F84 e77 rfl).trans ((fxR F61 ta0 rfl).trans e9))
        have e90 : Iv h80 a0 9 = v12 := ((fxI F84 e77 rfl).trans ((fxI F61 ta0 rfl).trans e13))
        have e91 : Rv h80 a0 11 = v15 := ((fxR F84 e77 rfl).trans ((fxR F61 ta0 rfl).trans e16))
        have e92 : Iv h80 a0 12 = v19 := ((fxI F84 e77 rfl).trans ((fxI F61 ta0 rfl).trans e20))
        have e93 : Rv h80 a0 14 = v25 := ((fxR F84 e77 rfl).trans ((fxR F61 ta0 rfl).trans e26))
        have e94 : Rv h80 a0 13 = v29 := ((fxR F84 e77 rfl).trans ((fxR F61 ta0 rfl).trans e30))
        have e95 : Rv h80 a0 6 = v32 := ((fxR F84 e77 rfl).trans ((fxR F61 ta0 rfl).trans e33))
        obtain ⟨v96, e97⟩ : ∃ z, Rv h80 a0 7 = z := ⟨_, rfl⟩
        have e98 : Tg h80 a0 = 11 := (fxT F84 e77)
        have t99 := ok_R O83 e98 rE_11_7 e97
        have p111 := p85
        unfold XInv at p111
        rw [e87, e88, e89, e90, e91, e92, p86, e93, e94, e95, e97] at p111
        obtain ⟨p100, p101, p102, p103, p104, p105, p106, p107, p108, p109, p110⟩ := p111
        have e112 : Tg h57 v29 = 7 := (fxT F61 t31)
        obtain ⟨v113, e114⟩ : ∃ z, Iv h80 v29 3 = z := ⟨_, rfl⟩
        have e115 : Tg h80 v29 = 7 := (fxT F84 e112)
        have f116 := ok_I O83 e115 rI_7_3 e114
        obtain ⟨v117, e118⟩ : ∃ z, Iv h80 v29 4 = z := ⟨_, rfl⟩
        have f119 := ok_I O83 e115 rI_7_4 e118
        rw [e114] at p106
        rw [e118] at p107
        have p120 := p103 (by omega)
        refine g_aload_n C rfl 0 rfl dX11_look_30 ?_
        refine gf_R C fk_LandSurvey_22 rfl e98 e87 dX11_look_31 ?_
        refine g_iload_n C rfl 1 rfl dX11_look_34 ?_
        have e121 : Tg h80 v1 = 38104 := (fxT F84 (fxT F61 t3))
        have e122 : Tg h57 v1 = 38104 := (fxT F61 t3)
        have e123 : Ln h80 v1 = 40 := ((fxL F84 e122).trans ((fxL F61 t3).trans l4))
        obtain ⟨v124, e125⟩ : ∃ z, Rv h80 v1 a1.toNat = z := ⟨_, rfl⟩
        refine g_aald (t := 4) C e121 rfl (by decide) rfl e123 (by omega) e125 dX11_look_35 ?_
        have q126 := nn_get p100.nn (by omega) e125
        have t127 := ok_Na O83 e121 ar_38104 rE_38104_0 e125 q126
        refine g_astore_n C [(3, .inr (.inr v124)), (0, .inr (.inr a0)), (1, .inl a1), (2, .inl a2)] rfl (by decide) rfl dX11_look_36 ?_
        refine g_iload_n C rfl 3 rfl dX11_look_37 ?_
        refine g_iconst C dX11_look_38 ?_
        refine g_icmp_lt C (iw f76 (by decide) (by decide)) (iw (il 5) (by decide) (by decide)) 57 (by decide) dX11_look_39 (fun q128 => ?_) (fun q129 => ?_)
        · have f130 : (0 : Int) ≤ a2 ∧ a2 ≤ (4 : Int) := r_lt f76 (il 5) q128 (by decide) (by decide)
          refine g_iload_n C rfl 3 rfl dX11_look_57 ?_
          rcases Classical.em (a2 = 0) with q131 | q132
          · refine g_tin (kv := 0) C q131 (by decide) 100 (by decide) (by decide) rfl (by decide) dX11_look_58 ?_
            have f133 : (0 : Int) ≤ a2 ∧ a2 ≤ (0 : Int) := ii f130 (r_eq (il 0) q131) (by decide) (by decide)
            refine g_aload_n C rfl 0 rfl dX11_look_100 ?_
            obtain ⟨v134, e135⟩ : ∃ z, Iv h80 v124 14 = z := ⟨_, rfl⟩
            have f136 := ok_I O83 t127 rI_9_14 e135
            refine gf_I C fk_LandSurvey_175 rfl t127 e135 dX11_look_101 ?_
            exact g_xr (g_iret C hr rfl (iw f136 (by decide) (by decide)) ⟨O83, (((Fx.rf (wr := wr_k_X11_look)).call F61 rfl).call F84 rfl), (iw f136 (by decide) (by decide)), p85⟩ (by decide) (by decide) dX11_look_104)
          · rcases Classical.em (a2 = 1) with q137 | q138
            · refine g_tin (kv := 1) C q137 (by decide) 105 (by decide) (by decide) rfl (by decide) dX11_look_58 ?_
              have f139 : (1 : Int) ≤ a2 ∧ a2 ≤ (1 : Int) := ii f130 (r_eq (il 1) q137) (by decide) (by decide)
              refine g_aload_n C rfl 0 rfl dX11_look_105 ?_
              obtain ⟨v140, e141⟩ : ∃ z, Iv h80 v124 15 = z := ⟨_, rfl⟩
              have f142 := ok_I O83 t127 rI_9_15 e141
              refine gf_I C fk_LandSurvey_178 rfl t127 e141 dX11_look_106 ?_
              exact g_xr (g_iret C hr rfl (iw f142 (by decide) (by decide)) ⟨O83, (((Fx.rf (wr := wr_k_X11_look)).call F61 rfl).call F84 rfl), (iw f142 (by decide) (by decide)), p85⟩ (by decide) (by decide) dX11_look_109)
            · rcases Classical.em (a2 = 2) with q143 | q144
              · refine g_tin (kv := 2) C q143 (by decide) 110 (by decide) (by decide) rfl (by decide) dX11_look_58 ?_
                have f145 : (2 : Int) ≤ a2 ∧ a2 ≤ (2 : Int) := ii f130 (r_eq (il 2) q143) (by decide) (by decide)
                refine g_aload_n C rfl 0 rfl dX11_look_110 ?_
                obtain ⟨v146, e147⟩ : ∃ z, Iv h80 v124 16 = z := ⟨_, rfl⟩
                have f148 := ok_I O83 t127 rI_9_16 e147
                refine gf_I C fk_LandSurvey_172 rfl t127 e147 dX11_look_111 ?_
                refine g_if_eq C (iw f148 (by decide) (by decide)) 121 (by decide) dX11_look_114 (fun q149 => ?_) (fun q150 => ?_)
                · have f151 : (0 : Int) ≤ v146 ∧ v146 ≤ (0 : Int) := ii f148 (r_eq (il 0) q149) (by decide) (by decide)
                  refine g_iconst C dX11_look_121 ?_
                  exact g_xr (g_iret C hr rfl (iw (il 0) (by decide) (by decide)) ⟨O83, (((Fx.rf (wr := wr_k_X11_look)).call F61 rfl).call F84 rfl), (iw (il 0) (by decide) (by decide)), p85⟩ (by decide) (by decide) dX11_look_122)
                · have f152 : (1 : Int) ≤ v146 ∧ v146 ≤ (1 : Int) := r_nl f148 q150
                  refine g_iconst C dX11_look_117 ?_
                  refine g_goto C 122 (by decide) dX11_look_118 ?_
                  exact g_xr (g_iret C hr rfl (iw (il 1) (by decide) (by decide)) ⟨O83, (((Fx.rf (wr := wr_k_X11_look)).call F61 rfl).call F84 rfl), (iw (il 1) (by decide) (by decide)), p85⟩ (by decide) (by decide) dX11_look_122)
              · rcases Classical.em (a2 = 3) with q153 | q154
                · refine g_tin (kv := 3) C q153 (by decide) 123 (by decide) (by decide) rfl (by decide) dX11_look_58 ?_
                  have f155 : (3 : Int) ≤ a2 ∧ a2 ≤ (3 : Int) := ii f130 (r_eq (il 3) q153) (by decide) (by decide)
                  refine g_aload_n C rfl 1 rfl dX11_look_123 ?_
                  refine g_aload_n C rfl 0 rfl dX11_look_124 ?_
                  refine g_callI (st := []) (gc_V C lk_LandSurvey_181 (k_X11_agesQuarrelIn l D cy w z0 O83 e98 t127) e98 rfl rfl rfl ⟨by decide, by decide⟩ (Nat.le_of_ble_eq_true rfl) dX11_look_125 ⟨(by decide), (by decide)⟩) (fun r156 h157 f159 K158 => ?_)
                  obtain ⟨O160, F161, f162⟩ := K158
                  refine g_if_eq C (iw f162 (by decide) (by decide)) 135 (by decide) dX11_look_128 (fun q163 => ?_) (fun q164 => ?_)
                  · have f165 : (0 : Int) ≤ r156 ∧ r156 ≤ (0 : Int) := ii f162 (r_eq (il 0) q163) (by decide) (by decide)
                    refine g_iconst C dX11_look_135 ?_
                    have p166 := (XInv_fx O83 F161 e98 rfl p85)
                    exact g_xr (g_iret C hr rfl (iw (il 0) (by decide) (by decide)) ⟨O160, ((((Fx.rf (wr := wr_k_X11_look)).call F61 rfl).call F84 rfl).call F161 rfl), (iw (il 0) (by decide) (by decide)), p166⟩ (by decide) (by decide) dX11_look_136)
                  · have f167 : (1 : Int) ≤ r156 ∧ r156 ≤ (1 : Int) := r_nl f162 q164
                    refine g_iconst C dX11_look_131 ?_
                    refine g_goto C 136 (by decide) dX11_look_132 ?_
                    have p168 := (XInv_fx O83 F161 e98 rfl p85)
                    exact g_xr (g_iret C hr rfl (iw (il 1) (by decide) (by decide)) ⟨O160, ((((Fx.rf (wr := wr_k_X11_look)).call F61 rfl).call F84 rfl).call F161 rfl), (iw (il 1) (by decide) (by decide)), p168⟩ (by decide) (by decide) dX11_look_136)
                · rcases Classical.em (a2 = 4) with q169 | q170
                  · refine g_tin (kv := 4) C q169 (by decide) 137 (by decide) (by decide) rfl (by decide) dX11_look_58 ?_
                    have f171 : (4 : Int) ≤ a2 ∧ a2 ≤ (4 : Int) := ii f130 (r_eq (il 4) q169) (by decide) (by decide)
                    refine g_aload_n C rfl 1 rfl dX11_look_137 ?_
                    refine g_iload_n C rfl 2 rfl dX11_look_138 ?_
                    refine g_callI (st := []) (gc_V C lk_LandSurvey_185 (k_X11_isDoubtedInBest l D cy w z0 O83 e98 fa1 p85) e98 rfl rfl rfl ⟨by decide, by decide⟩ (Nat.le_of_ble_eq_true rfl) dX11_look_139 ⟨(by decide), (by decide)⟩) (fun r172 h173 f175 K174 => ?_)
                    obtain ⟨O176, F177, f178, p179⟩ := K174
                    have e180 : Rv h173 a0 3 = v1 := ((fxR F177 e98 rfl).trans e87)
                    have e181 : Iv h173 a0 4 = v5 := ((fxI F177 e98 rfl).trans e88)
                    have e182 : Rv h173 a0 8 = v8 := ((fxR F177 e98 rfl).trans e89)
                    have e183 : Iv h173 a0 9 = v12 := ((fxI F177 e98 rfl).trans e90)
                    have e184 : Rv h173 a0 11 = v15 := ((fxR F177 e98 rfl).trans e91)
                    have e185 : Iv h173 a0 12 = v19 := ((fxI F177 e98 rfl).trans e92)
                    obtain ⟨v186, e187⟩ : ∃ z, Iv h173 a0 15 = z := ⟨_, rfl⟩
                    have e188 : Tg h173 a0 = 11 := (fxT F177 e98)
                    have f189 := ok_I O176 e188 rI_11_15 e187
                    have e190 : Rv h173 a0 14 = v25 := ((fxR F177 e98 rfl).trans e93)
                    have e191 : Rv h173 a0 13 = v29 := ((fxR F177 e98 rfl).trans e94)
                    have e192 : Rv h173 a0 6 = v32 := ((fxR F177 e98 rfl).trans e95)
                    obtain ⟨v193, e194⟩ : ∃ z, Rv h173 a0 7 = z := ⟨_, rfl⟩
                    have t195 := ok_R O176 e188 rE_11_7 e194
                    have p207 := p179
                    unfold XInv at p207
                    rw [e180, e181, e182, e183, e184, e185, e187, e190, e191, e192, e194] at p207
                    obtain ⟨p196, p197, p198, p199, p200, p201, p202, p203, p204, p205, p206⟩ := p207
                    obtain ⟨v208, e209⟩ : ∃ z, Iv h173 v29 3 = z := ⟨_, rfl⟩
                    have e210 : Tg h173 v29 = 7 := (fxT F177 e115)
                    have f211 := ok_I O176 e210 rI_7_3 e209
                    obtain ⟨v212, e213⟩ : ∃ z, Iv h173 v29 4 = z := ⟨_, rfl⟩
                    have f214 := ok_I O176 e210 rI_7_4 e213
                    rw [e209] at p202
                    rw [e213] at p203
                    refine g_if_eq C (iw f178 (by decide) (by decide)) 149 (by decide) dX11_look_142 (fun q215 => ?_) (fun q216 => ?_)
                    · have f217 : (0 : Int) ≤ r172 ∧ r172 ≤ (0 : Int) := ii f178 (r_eq (il 0) q215) (by decide) (by decide)
                      refine g_iconst C dX11_look_149 ?_
                      exact g_xr (g_iret C hr rfl (iw (il 0) (by decide) (by decide)) ⟨O176, ((((Fx.rf (wr := wr_k_X11_look)).call F61 rfl).call F84 rfl).call F177 rfl), (iw (il 0) (by decide) (by decide)), p179⟩ (by decide) (by decide) dX11_look_150)
                    · have f218 : (1 : Int) ≤ r172 ∧ r172 ≤ (1 : Int) := r_nl f178 q216
                      refine g_iconst C dX11_look_145 ?_
                      refine g_goto C 150 (by decide) dX11_look_146 ?_
                      exact g_xr (g_iret C hr rfl (iw (il 1) (by decide) (by decide)) ⟨O176, ((((Fx.rf (wr := wr_k_X11_look)).call F61 rfl).call F84 rfl).call F177 rfl), (iw (il 1) (by decide) (by decide)), p179⟩ (by decide) (by decide) dX11_look_150)
                  · omega
        · have f219 : (5 : Int) ≤ a2 ∧ a2 ≤ (7 : Int) := r_ge f76 (il 5) q129 (by decide) (by decide)
          refine g_aload_n C rfl 0 rfl dX11_look_42 ?_
          obtain ⟨v220, e221⟩ : ∃ z, Iv h80 v124 16 = z := ⟨_, rfl⟩
          have f222 := ok_I O83 t127 rI_9_16 e221
          refine gf_I C fk_LandSurvey_172 rfl t127 e221 dX11_look_43 ?_
          refine g_if_ne C (iw f222 (by decide) (by decide)) 57 (by decide) dX11_look_46 (fun q223 => ?_) (fun q224 => ?_)
          · have f225 : (1 : Int) ≤ v220 ∧ v220 ≤ (1 : Int) := r_nl f222 q223
            refine g_iload_n C rfl 3 rfl dX11_look_57 ?_
            rcases Classical.em (a2 = 5) with q226 | q227
            · refine g_tin (kv := 5) C q226 (by decide) 151 (by decide) (by decide) rfl (by decide) dX11_look_58 ?_
              have f228 : (5 : Int) ≤ a2 ∧ a2 ≤ (5 : Int) := ii f219 (r_eq (il 5) q226) (by decide) (by decide)
              refine g_aload_n C rfl 0 rfl dX11_look_151 ?_
              obtain ⟨v229, e230⟩ : ∃ z, Iv h80 v124 17 = z := ⟨_, rfl⟩
              have f231 := ok_I O83 t127 rI_9_17 e230
              refine gf_I C fk_LandSurvey_188 rfl t127 e230 dX11_look_152 ?_
              exact g_xr (g_iret C hr rfl f231 ⟨O83, (((Fx.rf (wr := wr_k_X11_look)).call F61 rfl).call F84 rfl), f231, p85⟩ (by decide) (by decide) dX11_look_155)
            · rcases Classical.em (a2 = 6) with q232 | q233
              · refine g_tin (kv := 6) C q232 (by decide) 156 (by decide) (by decide) rfl (by decide) dX11_look_58 ?_
                have f234 : (6 : Int) ≤ a2 ∧ a2 ≤ (6 : Int) := ii f219 (r_eq (il 6) q232) (by decide) (by decide)
                refine g_aload_n C rfl 0 rfl dX11_look_156 ?_
                obtain ⟨v235, e236⟩ : ∃ z, Iv h80 v124 18 = z := ⟨_, rfl⟩
                have f237 := ok_I O83 t127 rI_9_18 e236
                refine gf_I C fk_LandSurvey_191 rfl t127 e236 dX11_look_157 ?_
                exact g_xr (g_iret C hr rfl f237 ⟨O83, (((Fx.rf (wr := wr_k_X11_look)).call F61 rfl).call F84 rfl), f237, p85⟩ (by decide) (by decide) dX11_look_160)
              · refine g_tout C (iw f219 (by decide) (by decide)) 161 (by omega) (by decide) dX11_look_58 ?_
                refine g_aload_n C rfl 0 rfl dX11_look_161 ?_
                obtain ⟨v238, e239⟩ : ∃ z, Iv h80 v124 13 = z := ⟨_, rfl⟩
                have f240 := ok_I O83 t127 rI_9_13 e239
                refine gf_I C fk_LandSurvey_194 rfl t127 e239 dX11_look_162 ?_
                exact g_xr (g_iret C hr rfl (iw f240 (by decide) (by decide)) ⟨O83, (((Fx.rf (wr := wr_k_X11_look)).call F61 rfl).call F84 rfl), (iw f240 (by decide) (by decide)), p85⟩ (by decide) (by decide) dX11_look_165)
          · have f241 : (0 : Int) ≤ v220 ∧ v220 ≤ (0 : Int) := ii f222 (r_eq (il 0) q224) (by decide) (by decide)
            exact g_throw C hst hT kw_1369 kw_167 dX11_look_49 dX11_look_52 dX11_look_53 dX11_look_56 ⟨O83, (((Fx.rf (wr := wr_k_X11_look)).call F61 rfl).call F84 rfl), p85⟩ (by decide) (Nat.le_of_ble_eq_true rfl) (by decide) (by decide) (by decide) (by decide)
      · have f242 : (8 : Int) ≤ a2 ∧ a2 ≤ (2147483647 : Int) := r_gt f73 (il 7) q75 (by decide) (by decide)
        have p243 := (XInv_fx O F61 ta0 rfl P_XInv)
        exact g_throw C hst hT kw_1369 kw_167 dX11_look_18 dX11_look_21 dX11_look_22 dX11_look_25 ⟨O60, ((Fx.rf (wr := wr_k_X11_look)).call F61 rfl), p243⟩ (by decide) (Nat.le_of_ble_eq_true rfl) (by decide) (by decide) (by decide) (by decide)
def wr_k_X11_base : List Nat := [401, 402, 403, 404, 405, 406, 1403, 1404, 1405, 1412, 1813, 1814, 1815, 1816, 1817, 1818, 2003, 2207, 2215, 2216, 200400, 200407, 200408, 2020000, 2220000, 7420000, 8020000, 8220400, 8420400, 8620000, 9020000, 9220400, 9420000, 9821400, 10020000, 1000000002, 1000001002, 1000010100, 1000011100]
set_option maxRecDepth 100000 in
set_option maxHeartbeats 4000000 in
theorem k_X11_base (l : Launch) (hst : l.stackTraces = false) (D : va_G) (cy : Nat → ClassId) (w : Nat → Nat) (z0 : Nat)  {h : Hp} {a0 : Nat} {a1 : Int} {a2 : Int} {a3 : Int} {a4 : Int}  (O : Okh h) (ta0 : Tg h a0 = 11) (fa1 : (-2147483648) ≤ a1 ∧ a1 ≤ 2147483647) (fa2 : (-2147483648) ≤ a2 ∧ a2 ≤ 2147483647) (fa3 : (-2147483648) ≤ a3 ∧ a3 ≤ 2147483647) (fa4 : (-2147483648) ≤ a4 ∧ a4 ≤ 2147483647) (P_XInv : XInv h a0) : MX l D cy w z0 yX11_base cX11_base 7 (some .int) 10 279 97 6438 [.inr (.inr a0), .inl a1, .inl a2, .inl a3, .inl a4] h (fun v h1 => Okh h1 ∧ Fx wr_k_X11_base h h1 ∧ ((-2147483648) ≤ v ∧ v ≤ 2147483647) ∧ (XInv h1 a0)) (fun h1 => Okh h1 ∧ Fx wr_k_X11_base h h1 ∧ (XInv h1 a0)) := by
  obtain ⟨v1, e2⟩ : ∃ z, Rv h a0 3 = z := ⟨_, rfl⟩
  have t3 := ok_R O ta0 rE_11_3 e2
  have l4 := ok_L O ta0 rE_11_3 e2
  obtain ⟨v5, e6⟩ : ∃ z, Iv h a0 4 = z := ⟨_, rfl⟩
  have f7 := ok_I O ta0 rI_11_4 e6
  obtain ⟨v8, e9⟩ : ∃ z, Rv h a0 8 = z := ⟨_, rfl⟩
  have t10 := ok_R O ta0 rE_11_8 e9
  have l11 := ok_L O ta0 rE_11_8 e9
  obtain ⟨v12, e13⟩ : ∃ z, Iv h a0 9 = z := ⟨_, rfl⟩
  have f14 := ok_I O ta0 rI_11_9 e13
  obtain ⟨v15, e16⟩ : ∃ z, Rv h a0 11 = z := ⟨_, rfl⟩
  have t17 := ok_R O ta0 rE_11_11 e16
  have l18 := ok_L O ta0 rE_11_11 e16
  obtain ⟨v19, e20⟩ : ∃ z, Iv h a0 12 = z := ⟨_, rfl⟩
  have f21 := ok_I O ta0 rI_11_12 e20
  obtain ⟨v22, e23⟩ : ∃ z, Iv h a0 15 = z := ⟨_, rfl⟩
  have f24 := ok_I O ta0 rI_11_15 e23
  obtain ⟨v25, e26⟩ : ∃ z, Rv h a0 14 = z := ⟨_, rfl⟩
  have t27 := ok_R O ta0 rE_11_14 e26
  have l28 := ok_L O ta0 rE_11_14 e26
  obtain ⟨v29, e30⟩ : ∃ z, Rv h a0 13 = z := ⟨_, rfl⟩
  have t31 := ok_R O ta0 rE_11_13 e30
  obtain ⟨v32, e33⟩ : ∃ z, Rv h a0 6 = z := ⟨_, rfl⟩
  have t34 := ok_R O ta0 rE_11_6 e33
  obtain ⟨v35, e36⟩ : ∃ z, Rv h a0 7 = z := ⟨_, rfl⟩
  have t37 := ok_R O ta0 rE_11_7 e36
  have p49 := P_XInv
  unfold XInv at p49
  rw [e2, e6, e9, e13, e16, e20, e23, e26, e30, e33, e36] at p49
  obtain ⟨p38, p39, p40, p41, p42, p43, p44, p45, p46, p47, p48⟩ := p49
  obtain ⟨v50, e51⟩ : ∃ z, Iv h v29 3 = z := ⟨_, rfl⟩
  have f52 := ok_I O t31 rI_7_3 e51
  obtain ⟨v53, e54⟩ : ∃ z, Iv h v29 4 = z := ⟨_, rfl⟩
  have f55 := ok_I O t31 rI_7_4 e54
  rw [e51] at p44
  rw [e54] at p45
  refine xm_go (by decide +kernel) (Nat.le_of_ble_eq_true rfl) (fun p e s m below meth c C hr hT => ?_)
  refine g_iload_n C rfl 2 rfl dX11_base_0 ?_
  refine g_iload_n C rfl 3 rfl dX11_base_1 ?_
  refine g_callI (st := []) (gc_S C lk_LandSurvey_85 (k_X11_cellAt l D cy w z0 O fa2 fa3) rfl ⟨by decide, by decide⟩ (Nat.le_of_ble_eq_true rfl) dX11_base_2 ⟨(by decide), (by decide)⟩) (fun r56 h57 f59 K58 => ?_)
  obtain ⟨O60, F61, f62, p63⟩ := K58
  refine g_istore C [(5, .inl r56), (0, .inr (.inr a0)), (1, .inl a1), (2, .inl a2), (3, .inl a3), (4, .inl a4)] (by decide) rfl dX11_base_5 ?_
  refine g_iload C 0 rfl dX11_base_7 ?_
  refine g_iconst C dX11_base_9 ?_
  refine g_icmp_eq C (iw f62 (by decide) (by decide)) (iw (il (-1)) (by decide) (by decide)) 24 (by decide) dX11_base_10 (fun q64 => ?_) (fun q65 => ?_)
  · have f66 : (-1 : Int) ≤ r56 ∧ r56 ≤ (-1 : Int) := ii f62 (r_eq (il (-1)) q64) (by decide) (by decide)
    have p67 := (XInv_fx O F61 ta0 rfl P_XInv)
    exact g_throw C hst hT kw_1369 kw_167 dX11_base_24 dX11_base_27 dX11_base_28 dX11_base_31 ⟨O60, ((Fx.rf (wr := wr_k_X11_base)).call F61 rfl), p67⟩ (by decide) (Nat.le_of_ble_eq_true rfl) (by decide) (by decide) (by decide) (by decide)
  · have f68 : (0 : Int) ≤ r56 ∧ r56 ≤ (95 : Int) := r_nl f62 q65
    refine g_iload C 5 rfl dX11_base_13 ?_
    refine g_if_lt C fa4 24 (by decide) dX11_base_15 (fun q69 => ?_) (fun q70 => ?_)
    · have f71 : (-2147483648 : Int) ≤ a4 ∧ a4 ≤ (-1 : Int) := r_lt fa4 (il 0) q69 (by decide) (by decide)
      have p72 := (XInv_fx O F61 ta0 rfl P_XInv)
      exact g_throw C hst hT kw_1369 kw_167 dX11_base_24 dX11_base_27 dX11_base_28 dX11_base_31 ⟨O60, ((Fx.rf (wr := wr_k_X11_base)).call F61 rfl), p72⟩ (by decide) (Nat.le_of_ble_eq_true rfl) (by decide) (by decide) (by decide) (by decide)
    · have f73 : (0 : Int) ≤ a4 ∧ a4 ≤ (2147483647 : Int) := r_ge fa4 (il 0) q70 (by decide) (by decide)
      refine g_iload C 5 rfl dX11_base_18 ?_
      refine g_iconst C dX11_base_20 ?_
      refine g_icmp_le C (iw f73 (by decide) (by decide)) (iw (il 1) (by decide) (by decide)) 32 (by decide) dX11_base_21 (fun q74 => ?_) (fun q75 => ?_)
      · have f76 : (0 : Int) ≤ a4 ∧ a4 ≤ (1 : Int) := r_le f73 (il 1) q74 (by decide) (by decide)
        refine g_aload_n C rfl 1 rfl dX11_base_32 ?_
        refine g_iload_n C rfl 2 rfl dX11_base_33 ?_
        have e77 : Tg h57 a0 = 11 := (fxT F61 ta0)
        have p78 := (XInv_fx O F61 ta0 rfl P_XInv)
        refine g_callR (st := []) (gc_V C lk_LandSurvey_197 (k_X11_groundOf l D cy w z0 O60 e77 fa1 p78) e77 rfl rfl rfl ⟨by decide, by decide⟩ (Nat.le_of_ble_eq_true rfl) dX11_base_34 ⟨(by decide), (by decide)⟩) (fun r79 h80 K81 => ?_)
        obtain ⟨O83, F84, p85, p86⟩ := K81
        have e87 : Rv h80 a0 3 = v1 := ((fxR F84 e77 rfl).trans ((fxR F61 ta0 rfl).trans e2))
        have e88 : Iv h80 a0 4 = v5 := ((fxI F84 e77 rfl).trans ((fxI F61 ta0 rfl).trans e6))
        have e89 : Rv h80 a0 8 = v8 := ((fxR F84 e77 rfl).trans ((fxR F61 ta0 rfl).trans e9))
        have e90 : Iv h80 a0 9 = v12 := ((fxI F84 e77 rfl).trans ((fxI F61 ta0 rfl).trans e13))
        have e91 : Rv h80 a0 11 = v15 := ((fxR F84 e77 rfl).trans ((fxR F61 ta0 rfl).trans e16))
        have e92 : Iv h80 a0 12 = v19 := ((fxI F84 e77 rfl).trans ((fxI F61 ta0 rfl).trans e20))
        obtain ⟨v93, e94⟩ : ∃ z, Iv h80 a0 15 = z := ⟨_, rfl⟩
        have e95 : Tg h80 a0 = 11 := (fxT F84 e77)
        have f96 := ok_I O83 e95 rI_11_15 e94
        have e97 : Rv h80 a0 14 = v25 := ((fxR F84 e77 rfl).trans ((fxR F61 ta0 rfl).trans e26))
        have e98 : Rv h80 a0 13 = v29 := ((fxR F84 e77 rfl).trans ((fxR F61 ta0 rfl).trans e30))
        have e99 : Rv h80 a0 6 = v32 := ((fxR F84 e77 rfl).trans ((fxR F61 ta0 rfl).trans e33))
        obtain ⟨v100, e101⟩ : ∃ z, Rv h80 a0 7 = z := ⟨_, rfl⟩
        have t102 := ok_R O83 e95 rE_11_7 e101
        have p114 := p85
        unfold XInv at p114
        rw [e87, e88, e89, e90, e91, e92, e94, e97, e98, e99, e101] at p114
        obtain ⟨p103, p104, p105, p106, p107, p108, p109, p110, p111, p112, p113⟩ := p114
        have e115 : Tg h57 v29 = 7 := (fxT F61 t31)
        obtain ⟨v116, e117⟩ : ∃ z, Iv h80 v29 3 = z := ⟨_, rfl⟩
        have e118 : Tg h80 v29 = 7 := (fxT F84 e115)
        have f119 := ok_I O83 e118 rI_7_3 e117
        obtain ⟨v120, e121⟩ : ∃ z, Iv h80 v29 4 = z := ⟨_, rfl⟩
        have f122 := ok_I O83 e118 rI_7_4 e121
        rw [e117] at p109
        rw [e121] at p110
        refine g_astore C [(6, .inr (.inr r79)), (5, .inl r56), (0, .inr (.inr a0)), (1, .inl a1), (2, .inl a2), (3, .inl a3), (4, .inl a4)] (by decide) rfl dX11_base_37 ?_
        refine g_aload C 0 rfl dX11_base_39 ?_
        refine g_ifnull C 52 (by decide) dX11_base_41 (fun q123 => ?_) (fun q124 => ?_)
        · exact g_throw C hst hT kw_1369 kw_167 dX11_base_52 dX11_base_55 dX11_base_56 dX11_base_59 ⟨O83, (((Fx.rf (wr := wr_k_X11_base)).call F61 rfl).call F84 rfl), p85⟩ (by decide) (Nat.le_of_ble_eq_true rfl) (by decide) (by decide) (by decide) (by decide)
        · have t125 := p86.resolve_left q124
          refine g_aload C 0 rfl dX11_base_44 ?_
          obtain ⟨v126, e127⟩ : ∃ z, Iv h80 r79 5 = z := ⟨_, rfl⟩
          have f128 := ok_I O83 t125 rI_2_5 e127
          refine gf_I C fk_LandSurvey_237 rfl t125 e127 dX11_base_46 ?_
          refine g_if_ne C (iw f128 (by decide) (by decide)) 60 (by decide) dX11_base_49 (fun q129 => ?_) (fun q130 => ?_)
          · have f131 : (1 : Int) ≤ v126 ∧ v126 ≤ (1 : Int) := r_nl f128 q129
            refine g_aload C 0 rfl dX11_base_60 ?_
            obtain ⟨v132, e133⟩ : ∃ z, Iv h80 r79 6 = z := ⟨_, rfl⟩
            have f134 := ok_I O83 t125 rI_2_6 e133
            refine gf_I C fk_LandSurvey_240 rfl t125 e133 dX11_base_62 ?_
            refine g_if_ne C (iw f134 (by decide) (by decide)) 77 (by decide) dX11_base_65 (fun q135 => ?_) (fun q136 => ?_)
            · have f137 : (1 : Int) ≤ v132 ∧ v132 ≤ (1 : Int) := r_nl f134 q135
              refine g_iload C 6 rfl dX11_base_77 ?_
              refine g_if_ne C (iw f76 (by decide) (by decide)) 93 (by decide) dX11_base_79 (fun q138 => ?_) (fun q139 => ?_)
              · have f140 : (1 : Int) ≤ a4 ∧ a4 ≤ (1 : Int) := r_nl f76 q138
                refine g_aload C 0 rfl dX11_base_93 ?_
                obtain ⟨v141, e142⟩ : ∃ z, Rv h80 r79 8 = z := ⟨_, rfl⟩
                have t143 := ok_R O83 t125 rE_2_8 e142
                have l144 := ok_L O83 t125 rE_2_8 e142
                refine gf_R C fk_LandSurvey_250 rfl t125 e142 dX11_base_95 ?_
                refine g_iload C 1 rfl dX11_base_98 ?_
                obtain ⟨v145, e146⟩ : ∃ z, Iv h80 v141 r56.toNat = z := ⟨_, rfl⟩
                have f147 := ok_Ia O83 t143 ar_11100 rI_11100_0 e146
                refine g_iald C t143 rfl l144 (ix f68 (by decide) (by decide)) e146 dX11_base_100 ?_
                exact g_xr (g_iret C hr rfl f147 ⟨O83, (((Fx.rf (wr := wr_k_X11_base)).call F61 rfl).call F84 rfl), f147, p85⟩ (by decide) (by decide) dX11_base_101)
              · have f148 : (0 : Int) ≤ a4 ∧ a4 ≤ (0 : Int) := ii f76 (r_eq (il 0) q139) (by decide) (by decide)
                refine g_aload C 0 rfl dX11_base_82 ?_
                obtain ⟨v149, e150⟩ : ∃ z, Rv h80 r79 7 = z := ⟨_, rfl⟩
                have t151 := ok_R O83 t125 rE_2_7 e150
                have l152 := ok_L O83 t125 rE_2_7 e150
                refine gf_R C fk_LandSurvey_247 rfl t125 e150 dX11_base_84 ?_
                refine g_iload C 1 rfl dX11_base_87 ?_
                obtain ⟨v153, e154⟩ : ∃ z, Iv h80 v149 r56.toNat = z := ⟨_, rfl⟩
                have f155 := ok_Ia O83 t151 ar_10100 rI_10100_0 e154
                refine g_iald C t151 rfl l152 (ix f68 (by decide) (by decide)) e154 dX11_base_89 ?_
                refine g_goto C 101 (by decide) dX11_base_90 ?_
                exact g_xr (g_iret C hr rfl f155 ⟨O83, (((Fx.rf (wr := wr_k_X11_base)).call F61 rfl).call F84 rfl), f155, p85⟩ (by decide) (by decide) dX11_base_101)
            · have f156 : (0 : Int) ≤ v132 ∧ v132 ≤ (0 : Int) := ii f134 (r_eq (il 0) q136) (by decide) (by decide)
              refine g_aload_n C rfl 2 rfl dX11_base_68 ?_
              refine gf_R C fk_LandSurvey_64 rfl e95 e98 dX11_base_69 ?_
              refine g_aload C 0 rfl dX11_base_72 ?_
              refine g_callV (st := []) (gc_V C lk_LandSurvey_243 (k_X6_span l D cy w z0 O83 e118 t125 ⟨by rw [p107, e117]; exact (SOK_le p103 p109), by rw [p108, e121]; exact (BOK_le p104 p110)⟩) e118 rfl rfl rfl ⟨by decide, by decide⟩ (Nat.le_of_ble_eq_true rfl) dX11_base_74 ⟨(by decide), (by decide)⟩) (fun h158 K159 => ?_)
              obtain ⟨O161, F162⟩ := K159
              refine g_iload C 6 rfl dX11_base_77 ?_
              refine g_if_ne C (iw f76 (by decide) (by decide)) 93 (by decide) dX11_base_79 (fun q163 => ?_) (fun q164 => ?_)
              · have f165 : (1 : Int) ≤ a4 ∧ a4 ≤ (1 : Int) := r_nl f76 q163
                refine g_aload C 0 rfl dX11_base_93 ?_
                have e166 : Tg h158 r79 = 2 := (fxT F162 t125)
                obtain ⟨v167, e168⟩ : ∃ z, Rv h158 r79 8 = z := ⟨_, rfl⟩
                have t169 := ok_R O161 e166 rE_2_8 e168
                have l170 := ok_L O161 e166 rE_2_8 e168
                refine gf_R C fk_LandSurvey_250 rfl e166 e168 dX11_base_95 ?_
                refine g_iload C 1 rfl dX11_base_98 ?_
                obtain ⟨v171, e172⟩ : ∃ z, Iv h158 v167 r56.toNat = z := ⟨_, rfl⟩
                have f173 := ok_Ia O161 t169 ar_11100 rI_11100_0 e172
                refine g_iald C t169 rfl l170 (ix f68 (by decide) (by decide)) e172 dX11_base_100 ?_
                have p174 := (XInv_fx O83 F162 e95 rfl p85)
                exact g_xr (g_iret C hr rfl f173 ⟨O161, ((((Fx.rf (wr := wr_k_X11_base)).call F61 rfl).call F84 rfl).call F162 rfl), f173, p174⟩ (by decide) (by decide) dX11_base_101)
              · have f175 : (0 : Int) ≤ a4 ∧ a4 ≤ (0 : Int) := ii f76 (r_eq (il 0) q164) (by decide) (by decide)
                refine g_aload C 0 rfl dX11_base_82 ?_
                have e176 : Tg h158 r79 = 2 := (fxT F162 t125)
                obtain ⟨v177, e178⟩ : ∃ z, Rv h158 r79 7 = z := ⟨_, rfl⟩
                have t179 := ok_R O161 e176 rE_2_7 e178
                have l180 := ok_L O161 e176 rE_2_7 e178
                refine gf_R C fk_LandSurvey_247 rfl e176 e178 dX11_base_84 ?_
                refine g_iload C 1 rfl dX11_base_87 ?_
                obtain ⟨v181, e182⟩ : ∃ z, Iv h158 v177 r56.toNat = z := ⟨_, rfl⟩
                have f183 := ok_Ia O161 t179 ar_10100 rI_10100_0 e182
                refine g_iald C t179 rfl l180 (ix f68 (by decide) (by decide)) e182 dX11_base_89 ?_
                refine g_goto C 101 (by decide) dX11_base_90 ?_
                have p184 := (XInv_fx O83 F162 e95 rfl p85)
                exact g_xr (g_iret C hr rfl f183 ⟨O161, ((((Fx.rf (wr := wr_k_X11_base)).call F61 rfl).call F84 rfl).call F162 rfl), f183, p184⟩ (by decide) (by decide) dX11_base_101)
          · have f185 : (0 : Int) ≤ v126 ∧ v126 ≤ (0 : Int) := ii f128 (r_eq (il 0) q130) (by decide) (by decide)
            exact g_throw C hst hT kw_1369 kw_167 dX11_base_52 dX11_base_55 dX11_base_56 dX11_base_59 ⟨O83, (((Fx.rf (wr := wr_k_X11_base)).call F61 rfl).call F84 rfl), p85⟩ (by decide) (Nat.le_of_ble_eq_true rfl) (by decide) (by decide) (by decide) (by decide)
      · have f186 : (2 : Int) ≤ a4 ∧ a4 ≤ (2147483647 : Int) := r_gt f73 (il 1) q75 (by decide) (by decide)
        have p187 := (XInv_fx O F61 ta0 rfl P_XInv)
        exact g_throw C hst hT kw_1369 kw_167 dX11_base_24 dX11_base_27 dX11_base_28 dX11_base_31 ⟨O60, ((Fx.rf (wr := wr_k_X11_base)).call F61 rfl), p187⟩ (by decide) (Nat.le_of_ble_eq_true rfl) (by decide) (by decide) (by decide) (by decide)
def wr_k_X11_deep : List Nat := [401, 402, 403, 404, 405, 406, 1403, 1404, 1405, 1412, 1813, 1814, 1815, 1816, 1817, 1818, 2003, 2207, 2215, 2216, 2217, 200400, 200407, 200408, 2020000, 2220000, 7420000, 8020000, 8220400, 8420400, 8620000, 9020000, 9220400, 9420000, 9821400, 10020000, 1000000002, 1000001002, 1000010100, 1000011100]
set_option maxRecDepth 100000 in
set_option maxHeartbeats 4000000 in
theorem k_X11_deep (l : Launch) (hst : l.stackTraces = false) (D : va_G) (cy : Nat → ClassId) (w : Nat → Nat) (z0 : Nat)  {h : Hp} {a0 : Nat} {a1 : Int} {a2 : Int} {a3 : Int} {a4 : Int}  (O : Okh h) (ta0 : Tg h a0 = 11) (fa1 : (-2147483648) ≤ a1 ∧ a1 ≤ 2147483647) (fa2 : (-2147483648) ≤ a2 ∧ a2 ≤ 2147483647) (fa3 : (-2147483648) ≤ a3 ∧ a3 ≤ 2147483647) (fa4 : (-2147483648) ≤ a4 ∧ a4 ≤ 2147483647) (P_XInv : XInv h a0) : MX l D cy w z0 yX11_deep cX11_deep 6 (some .int) 11 300 97 6438 [.inr (.inr a0), .inl a1, .inl a2, .inl a3, .inl a4] h (fun v h1 => Okh h1 ∧ Fx wr_k_X11_deep h h1 ∧ ((-2147483648) ≤ v ∧ v ≤ 2147483647) ∧ (XInv h1 a0)) (fun h1 => Okh h1 ∧ Fx wr_k_X11_deep h h1 ∧ (XInv h1 a0)) := by
  obtain ⟨v1, e2⟩ : ∃ z, Rv h a0 3 = z := ⟨_, rfl⟩
  have t3 := ok_R O ta0 rE_11_3 e2
  have l4 := ok_L O ta0 rE_11_3 e2
  obtain ⟨v5, e6⟩ : ∃ z, Iv h a0 4 = z := ⟨_, rfl⟩
  have f7 := ok_I O ta0 rI_11_4 e6
  obtain ⟨v8, e9⟩ : ∃ z, Rv h a0 8 = z := ⟨_, rfl⟩
  have t10 := ok_R O ta0 rE_11_8 e9
  have l11 := ok_L O ta0 rE_11_8 e9
  obtain ⟨v12, e13⟩ : ∃ z, Iv h a0 9 = z := ⟨_, rfl⟩
  have f14 := ok_I O ta0 rI_11_9 e13
  obtain ⟨v15, e16⟩ : ∃ z, Rv h a0 11 = z := ⟨_, rfl⟩
  have t17 := ok_R O ta0 rE_11_11 e16
  have l18 := ok_L O ta0 rE_11_11 e16
  obtain ⟨v19, e20⟩ : ∃ z, Iv h a0 12 = z := ⟨_, rfl⟩
  have f21 := ok_I O ta0 rI_11_12 e20
  obtain ⟨v22, e23⟩ : ∃ z, Iv h a0 15 = z := ⟨_, rfl⟩
  have f24 := ok_I O ta0 rI_11_15 e23
  obtain ⟨v25, e26⟩ : ∃ z, Rv h a0 14 = z := ⟨_, rfl⟩
  have t27 := ok_R O ta0 rE_11_14 e26
  have l28 := ok_L O ta0 rE_11_14 e26
  obtain ⟨v29, e30⟩ : ∃ z, Rv h a0 13 = z := ⟨_, rfl⟩
  have t31 := ok_R O ta0 rE_11_13 e30
  obtain ⟨v32, e33⟩ : ∃ z, Rv h a0 6 = z := ⟨_, rfl⟩
  have t34 := ok_R O ta0 rE_11_6 e33
  obtain ⟨v35, e36⟩ : ∃ z, Rv h a0 7 = z := ⟨_, rfl⟩
  have t37 := ok_R O ta0 rE_11_7 e36
  have p49 := P_XInv
  unfold XInv at p49
  rw [e2, e6, e9, e13, e16, e20, e23, e26, e30, e33, e36] at p49
  obtain ⟨p38, p39, p40, p41, p42, p43, p44, p45, p46, p47, p48⟩ := p49
  obtain ⟨v50, e51⟩ : ∃ z, Iv h v29 3 = z := ⟨_, rfl⟩
  have f52 := ok_I O t31 rI_7_3 e51
  obtain ⟨v53, e54⟩ : ∃ z, Iv h v29 4 = z := ⟨_, rfl⟩
  have f55 := ok_I O t31 rI_7_4 e54
  rw [e51] at p44
  rw [e54] at p45
  refine xm_go (by decide +kernel) (Nat.le_of_ble_eq_true rfl) (fun p e s m below meth c C hr hT => ?_)
  refine g_iload_n C rfl 1 rfl dX11_deep_0 ?_
  refine g_iload_n C rfl 2 rfl dX11_deep_1 ?_
  refine g_callI (st := []) (gc_S C lk_LandSurvey_85 (k_X11_cellAt l D cy w z0 O fa1 fa2) rfl ⟨by decide, by decide⟩ (Nat.le_of_ble_eq_true rfl) dX11_deep_2 ⟨(by decide), (by decide)⟩) (fun r56 h57 f59 K58 => ?_)
  obtain ⟨O60, F61, f62, p63⟩ := K58
  refine g_istore C [(5, .inl r56), (0, .inr (.inr a0)), (1, .inl a1), (2, .inl a2), (3, .inl a3), (4, .inl a4)] (by decide) rfl dX11_deep_5 ?_
  refine g_iload C 0 rfl dX11_deep_7 ?_
  refine g_iconst C dX11_deep_9 ?_
  refine g_icmp_eq C (iw f62 (by decide) (by decide)) (iw (il (-1)) (by decide) (by decide)) 46 (by decide) dX11_deep_10 (fun q64 => ?_) (fun q65 => ?_)
  · have f66 : (-1 : Int) ≤ r56 ∧ r56 ≤ (-1 : Int) := ii f62 (r_eq (il (-1)) q64) (by decide) (by decide)
    have p67 := (XInv_fx O F61 ta0 rfl P_XInv)
    exact g_throw C hst hT kw_1369 kw_167 dX11_deep_46 dX11_deep_49 dX11_deep_50 dX11_deep_53 ⟨O60, ((Fx.rf (wr := wr_k_X11_deep)).call F61 rfl), p67⟩ (by decide) (Nat.le_of_ble_eq_true rfl) (by decide) (by decide) (by decide) (by decide)
  · have f68 : (0 : Int) ≤ r56 ∧ r56 ≤ (95 : Int) := r_nl f62 q65
    refine g_iload C 5 rfl dX11_deep_13 ?_
    refine g_if_lt C fa4 46 (by decide) dX11_deep_15 (fun q69 => ?_) (fun q70 => ?_)
    · have f71 : (-2147483648 : Int) ≤ a4 ∧ a4 ≤ (-1 : Int) := r_lt fa4 (il 0) q69 (by decide) (by decide)
      have p72 := (XInv_fx O F61 ta0 rfl P_XInv)
      exact g_throw C hst hT kw_1369 kw_167 dX11_deep_46 dX11_deep_49 dX11_deep_50 dX11_deep_53 ⟨O60, ((Fx.rf (wr := wr_k_X11_deep)).call F61 rfl), p72⟩ (by decide) (Nat.le_of_ble_eq_true rfl) (by decide) (by decide) (by decide) (by decide)
    · have f73 : (0 : Int) ≤ a4 ∧ a4 ≤ (2147483647 : Int) := r_ge fa4 (il 0) q70 (by decide) (by decide)
      refine g_iload C 5 rfl dX11_deep_18 ?_
      refine g_iconst C dX11_deep_20 ?_
      refine g_icmp_gt C (iw f73 (by decide) (by decide)) (iw (il 1) (by decide) (by decide)) 46 (by decide) dX11_deep_21 (fun q74 => ?_) (fun q75 => ?_)
      · have f76 : (2 : Int) ≤ a4 ∧ a4 ≤ (2147483647 : Int) := r_gt f73 (il 1) q74 (by decide) (by decide)
        have p77 := (XInv_fx O F61 ta0 rfl P_XInv)
        exact g_throw C hst hT kw_1369 kw_167 dX11_deep_46 dX11_deep_49 dX11_deep_50 dX11_deep_53 ⟨O60, ((Fx.rf (wr := wr_k_X11_deep)).call F61 rfl), p77⟩ (by decide) (Nat.le_of_ble_eq_true rfl) (by decide) (by decide) (by decide) (by decide)
      · have f78 : (0 : Int) ≤ a4 ∧ a4 ≤ (1 : Int) := r_le f73 (il 1) q75 (by decide) (by decide)
        refine g_aload_n C rfl 1 rfl dX11_deep_24 ?_
        have e79 : Tg h57 a0 = 11 := (fxT F61 ta0)
        have p80 := (XInv_fx O F61 ta0 rfl P_XInv)
        refine g_callI (st := []) (gc_V C lk_LandSurvey_253 (k_X11_prepare l D cy w z0 O60 e79 p80) e79 rfl rfl rfl ⟨by decide, by decide⟩ (Nat.le_of_ble_eq_true rfl) dX11_deep_25 ⟨(by decide), (by decide)⟩) (fun r81 h82 f84 K83 => ?_)
        obtain ⟨O85, F86, f87, p88, p89, p90⟩ := K83
        obtain ⟨v91, e92⟩ : ∃ z, Rv h82 a0 17 = z := ⟨_, rfl⟩
        have e93 : Tg h82 a0 = 11 := (fxT F86 e79)
        rw [e92] at p90
        have e94 : Rv h82 a0 3 = v1 := ((fxR F86 e79 rfl).trans ((fxR F61 ta0 rfl).trans e2))
        have e95 : Iv h82 a0 4 = v5 := ((fxI F86 e79 rfl).trans ((fxI F61 ta0 rfl).trans e6))
        have e96 : Rv h82 a0 8 = v8 := ((fxR F86 e79 rfl).trans ((fxR F61 ta0 rfl).trans e9))
        have e97 : Iv h82 a0 9 = v12 := ((fxI F86 e79 rfl).trans ((fxI F61 ta0 rfl).trans e13))
        have e98 : Rv h82 a0 11 = v15 := ((fxR F86 e79 rfl).trans ((fxR F61 ta0 rfl).trans e16))
        have e99 : Iv h82 a0 12 = v19 := ((fxI F86 e79 rfl).trans ((fxI F61 ta0 rfl).trans e20))
        have e100 : Rv h82 a0 14 = v25 := ((fxR F86 e79 rfl).trans ((fxR F61 ta0 rfl).trans e26))
        have e101 : Rv h82 a0 13 = v29 := ((fxR F86 e79 rfl).trans ((fxR F61 ta0 rfl).trans e30))
        have e102 : Rv h82 a0 6 = v32 := ((fxR F86 e79 rfl).trans ((fxR F61 ta0 rfl).trans e33))
        obtain ⟨v103, e104⟩ : ∃ z, Rv h82 a0 7 = z := ⟨_, rfl⟩
        have t105 := ok_R O85 e93 rE_11_7 e104
        have p117 := p88
        unfold XInv at p117
        rw [e94, e95, e96, e97, e98, e99, p89, e100, e101, e102, e104] at p117
        obtain ⟨p106, p107, p108, p109, p110, p111, p112, p113, p114, p115, p116⟩ := p117
        have e118 : Tg h57 v29 = 7 := (fxT F61 t31)
        obtain ⟨v119, e120⟩ : ∃ z, Iv h82 v29 3 = z := ⟨_, rfl⟩
        have e121 : Tg h82 v29 = 7 := (fxT F86 e118)
        have f122 := ok_I O85 e121 rI_7_3 e120
        obtain ⟨v123, e124⟩ : ∃ z, Iv h82 v29 4 = z := ⟨_, rfl⟩
        have f125 := ok_I O85 e121 rI_7_4 e124
        rw [e120] at p112
        rw [e124] at p113
        have p126 := p109 (by omega)
        refine g_if_eq C (iw f87 (by decide) (by decide)) 46 (by decide) dX11_deep_28 (fun q127 => ?_) (fun q128 => ?_)
        · have f129 : (0 : Int) ≤ r81 ∧ r81 ≤ (0 : Int) := ii f87 (r_eq (il 0) q127) (by decide) (by decide)
          exact g_throw C hst hT kw_1369 kw_167 dX11_deep_46 dX11_deep_49 dX11_deep_50 dX11_deep_53 ⟨O85, (((Fx.rf (wr := wr_k_X11_deep)).call F61 rfl).call F86 rfl), p88⟩ (by decide) (Nat.le_of_ble_eq_true rfl) (by decide) (by decide) (by decide) (by decide)
        · have f130 : (1 : Int) ≤ r81 ∧ r81 ≤ (1 : Int) := r_nl f87 q128
          refine g_aload_n C rfl 1 rfl dX11_deep_31 ?_
          refine g_iload_n C rfl 4 rfl dX11_deep_32 ?_
          refine g_callI (st := []) (gc_V C lk_LandSurvey_272 (k_X11_isRock l D cy w z0 O85 e93 fa3) e93 rfl rfl rfl ⟨by decide, by decide⟩ (Nat.le_of_ble_eq_true rfl) dX11_deep_33 ⟨(by decide), (by decide)⟩) (fun r131 h132 f134 K133 => ?_)
          obtain ⟨O135, F136, f137, p138⟩ := K133
          refine g_if_eq C (iw f137 (by decide) (by decide)) 46 (by decide) dX11_deep_36 (fun q139 => ?_) (fun q140 => ?_)
          · have f141 : (0 : Int) ≤ r131 ∧ r131 ≤ (0 : Int) := ii f137 (r_eq (il 0) q139) (by decide) (by decide)
            have p142 := (XInv_fx O85 F136 e93 rfl p88)
            exact g_throw C hst hT kw_1369 kw_167 dX11_deep_46 dX11_deep_49 dX11_deep_50 dX11_deep_53 ⟨O135, ((((Fx.rf (wr := wr_k_X11_deep)).call F61 rfl).call F86 rfl).call F136 rfl), p142⟩ (by decide) (Nat.le_of_ble_eq_true rfl) (by decide) (by decide) (by decide) (by decide)
          · have f143 : (1 : Int) ≤ r131 ∧ r131 ≤ (1 : Int) := r_nl f137 q140
            refine g_aload_n C rfl 1 rfl dX11_deep_39 ?_
            have e144 : Tg h132 a0 = 11 := (fxT F136 e93)
            have e145 : Iv h132 a0 15 = 1 := ((fxI F136 e93 rfl).trans p89)
            have p146 := (XInv_fx O85 F136 e93 rfl p88)
            refine g_callI (st := []) (gc_V C lk_LandSurvey_275 (k_X11_allKeptKnown l D cy w z0 O135 e144 e145 p146) e144 rfl rfl rfl ⟨by decide, by decide⟩ (Nat.le_of_ble_eq_true rfl) dX11_deep_40 ⟨(by decide), (by decide)⟩) (fun r147 h148 f150 K149 => ?_)
            obtain ⟨O151, F152, f153⟩ := K149
            refine g_if_ne C (iw f153 (by decide) (by decide)) 54 (by decide) dX11_deep_43 (fun q154 => ?_) (fun q155 => ?_)
            · have f156 : (1 : Int) ≤ r147 ∧ r147 ≤ (1 : Int) := r_nl f153 q154
              refine g_iload C 5 rfl dX11_deep_54 ?_
              refine g_if_ne C (iw f78 (by decide) (by decide)) 69 (by decide) dX11_deep_56 (fun q157 => ?_) (fun q158 => ?_)
              · have f159 : (1 : Int) ≤ a4 ∧ a4 ≤ (1 : Int) := r_nl f78 q157
                refine g_aload_n C rfl 1 rfl dX11_deep_69 ?_
                refine g_iload C 0 rfl dX11_deep_70 ?_
                refine g_iload_n C rfl 4 rfl dX11_deep_72 ?_
                have e160 : Tg h148 a0 = 11 := (fxT F152 e144)
                have e161 : Iv h148 a0 15 = 1 := ((fxI F152 e144 rfl).trans e145)
                have p162 := (XInv_fx O135 F152 e144 rfl p146)
                refine g_callI (st := []) (gc_V C lk_LandSurvey_281 (k_X11_greatestTop l D cy w z0 O151 e160 f68 (by omega) e161 p162) e160 rfl rfl rfl ⟨by decide, by decide⟩ (Nat.le_of_ble_eq_true rfl) dX11_deep_73 ⟨(by decide), (by decide)⟩) (fun r163 h164 f166 K165 => ?_)
                obtain ⟨O167, F168, f169⟩ := K165
                have p170 := (XInv_fx O151 F168 e160 rfl p162)
                exact g_xr (g_iret C hr rfl f169 ⟨O167, ((((((Fx.rf (wr := wr_k_X11_deep)).call F61 rfl).call F86 rfl).call F136 rfl).call F152 rfl).call F168 rfl), f169, p170⟩ (by decide) (by decide) dX11_deep_76)
              · have f171 : (0 : Int) ≤ a4 ∧ a4 ≤ (0 : Int) := ii f78 (r_eq (il 0) q158) (by decide) (by decide)
                refine g_aload_n C rfl 1 rfl dX11_deep_59 ?_
                refine g_iload C 0 rfl dX11_deep_60 ?_
                refine g_iload_n C rfl 4 rfl dX11_deep_62 ?_
                have e172 : Tg h148 a0 = 11 := (fxT F152 e144)
                have e173 : Iv h148 a0 15 = 1 := ((fxI F152 e144 rfl).trans e145)
                have p174 := (XInv_fx O135 F152 e144 rfl p146)
                refine g_callI (st := []) (gc_V C lk_LandSurvey_278 (k_X11_leastTop l D cy w z0 O151 e172 f68 (by omega) e173 p174) e172 rfl rfl rfl ⟨by decide, by decide⟩ (Nat.le_of_ble_eq_true rfl) dX11_deep_63 ⟨(by decide), (by decide)⟩) (fun r175 h176 f178 K177 => ?_)
                obtain ⟨O179, F180, f181⟩ := K177
                refine g_goto C 76 (by decide) dX11_deep_66 ?_
                have p182 := (XInv_fx O151 F180 e172 rfl p174)
                exact g_xr (g_iret C hr rfl f181 ⟨O179, ((((((Fx.rf (wr := wr_k_X11_deep)).call F61 rfl).call F86 rfl).call F136 rfl).call F152 rfl).call F180 rfl), f181, p182⟩ (by decide) (by decide) dX11_deep_76)
            · have f183 : (0 : Int) ≤ r147 ∧ r147 ≤ (0 : Int) := ii f153 (r_eq (il 0) q155) (by decide) (by decide)
              have p184 := (XInv_fx O135 F152 e144 rfl p146)
              exact g_throw C hst hT kw_1369 kw_167 dX11_deep_46 dX11_deep_49 dX11_deep_50 dX11_deep_53 ⟨O151, (((((Fx.rf (wr := wr_k_X11_deep)).call F61 rfl).call F86 rfl).call F136 rfl).call F152 rfl), p184⟩ (by decide) (Nat.le_of_ble_eq_true rfl) (by decide) (by decide) (by decide) (by decide)
def wr_k_X11_habit : List Nat := [401, 1403, 1404, 1405, 1813, 1814, 1815, 1816, 1817, 1818, 2207, 2215, 2216, 200400, 200407, 200408, 7420000, 9821400, 10020000, 1000000002, 1000001002, 1000010100, 1000011100]
set_option maxRecDepth 100000 in
set_option maxHeartbeats 4000000 in
theorem k_X11_habit (l : Launch) (hst : l.stackTraces = false) (D : va_G) (cy : Nat → ClassId) (w : Nat → Nat) (z0 : Nat)  {h : Hp} {a0 : Nat} {a1 : Int}  (O : Okh h) (ta0 : Tg h a0 = 11) (fa1 : (-2147483648) ≤ a1 ∧ a1 ≤ 2147483647) (P_XInv : XInv h a0) : MX l D cy w z0 yX11_habit cX11_habit 6 (some .int) 6 116 97 6438 [.inr (.inr a0), .inl a1] h (fun v h1 => Okh h1 ∧ Fx wr_k_X11_habit h h1 ∧ ((-2147483648) ≤ v ∧ v ≤ 2147483647) ∧ (XInv h1 a0)) (fun h1 => Okh h1 ∧ Fx wr_k_X11_habit h h1 ∧ (XInv h1 a0)) := by
  obtain ⟨v1, e2⟩ : ∃ z, Rv h a0 3 = z := ⟨_, rfl⟩
  have t3 := ok_R O ta0 rE_11_3 e2
  have l4 := ok_L O ta0 rE_11_3 e2
  obtain ⟨v5, e6⟩ : ∃ z, Iv h a0 4 = z := ⟨_, rfl⟩
  have f7 := ok_I O ta0 rI_11_4 e6
  obtain ⟨v8, e9⟩ : ∃ z, Rv h a0 8 = z := ⟨_, rfl⟩
  have t10 := ok_R O ta0 rE_11_8 e9
  have l11 := ok_L O ta0 rE_11_8 e9
  obtain ⟨v12, e13⟩ : ∃ z, Iv h a0 9 = z := ⟨_, rfl⟩
  have f14 := ok_I O ta0 rI_11_9 e13
  obtain ⟨v15, e16⟩ : ∃ z, Rv h a0 11 = z := ⟨_, rfl⟩
  have t17 := ok_R O ta0 rE_11_11 e16
  have l18 := ok_L O ta0 rE_11_11 e16
  obtain ⟨v19, e20⟩ : ∃ z, Iv h a0 12 = z := ⟨_, rfl⟩
  have f21 := ok_I O ta0 rI_11_12 e20
  obtain ⟨v22, e23⟩ : ∃ z, Iv h a0 15 = z := ⟨_, rfl⟩
  have f24 := ok_I O ta0 rI_11_15 e23
  obtain ⟨v25, e26⟩ : ∃ z, Rv h a0 14 = z := ⟨_, rfl⟩
  have t27 := ok_R O ta0 rE_11_14 e26
  have l28 := ok_L O ta0 rE_11_14 e26
  obtain ⟨v29, e30⟩ : ∃ z, Rv h a0 13 = z := ⟨_, rfl⟩
  have t31 := ok_R O ta0 rE_11_13 e30
  obtain ⟨v32, e33⟩ : ∃ z, Rv h a0 6 = z := ⟨_, rfl⟩
  have t34 := ok_R O ta0 rE_11_6 e33
  obtain ⟨v35, e36⟩ : ∃ z, Rv h a0 7 = z := ⟨_, rfl⟩
  have t37 := ok_R O ta0 rE_11_7 e36
  have p49 := P_XInv
  unfold XInv at p49
  rw [e2, e6, e9, e13, e16, e20, e23, e26, e30, e33, e36] at p49
  obtain ⟨p38, p39, p40, p41, p42, p43, p44, p45, p46, p47, p48⟩ := p49
  obtain ⟨v50, e51⟩ : ∃ z, Iv h v29 3 = z := ⟨_, rfl⟩
  have f52 := ok_I O t31 rI_7_3 e51
  obtain ⟨v53, e54⟩ : ∃ z, Iv h v29 4 = z := ⟨_, rfl⟩
  have f55 := ok_I O t31 rI_7_4 e54
  rw [e51] at p44
  rw [e54] at p45
  refine xm_go (by decide +kernel) (Nat.le_of_ble_eq_true rfl) (fun p e s m below meth c C hr hT => ?_)
  refine g_iload_n C rfl 1 rfl dX11_habit_0 ?_
  refine g_callI (st := []) (gc_S C lk_LandSurvey_315 (k_X11_isHand l D cy w z0 O fa1) rfl ⟨by decide, by decide⟩ (Nat.le_of_ble_eq_true rfl) dX11_habit_1 ⟨(by decide), (by decide)⟩) (fun r56 h57 f59 K58 => ?_)
  obtain ⟨O60, F61, f62⟩ := K58
  refine g_if_ne C (iw f62 (by decide) (by decide)) 15 (by decide) dX11_habit_4 (fun q63 => ?_) (fun q64 => ?_)
  · have f65 : (1 : Int) ≤ r56 ∧ r56 ≤ (1 : Int) := r_nl f62 q63
    refine g_aload_n C rfl 0 rfl dX11_habit_15 ?_
    have e66 : Tg h57 a0 = 11 := (fxT F61 ta0)
    have p67 := (XInv_fx O F61 ta0 rfl P_XInv)
    refine g_callV (st := []) (gc_V C lk_LandSurvey_169 (k_X11_settle l D cy w z0 O60 e66 p67) e66 rfl rfl rfl ⟨by decide, by decide⟩ (Nat.le_of_ble_eq_true rfl) dX11_habit_16 ⟨(by decide), (by decide)⟩) (fun h69 K70 => ?_)
    obtain ⟨O72, F73, p74, p75⟩ := K70
    have e76 : Rv h69 a0 3 = v1 := ((fxR F73 e66 rfl).trans ((fxR F61 ta0 rfl).trans e2))
    have e77 : Iv h69 a0 4 = v5 := ((fxI F73 e66 rfl).trans ((fxI F61 ta0 rfl).trans e6))
    have e78 : Rv h69 a0 8 = v8 := ((fxR F73 e66 rfl).trans ((fxR F61 ta0 rfl).trans e9))
    have e79 : Iv h69 a0 9 = v12 := ((fxI F73 e66 rfl).trans ((fxI F61 ta0 rfl).trans e13))
    have e80 : Rv h69 a0 11 = v15 := ((fxR F73 e66 rfl).trans ((fxR F61 ta0 rfl).trans e16))
    have e81 : Iv h69 a0 12 = v19 := ((fxI F73 e66 rfl).trans ((fxI F61 ta0 rfl).trans e20))
    have e82 : Rv h69 a0 14 = v25 := ((fxR F73 e66 rfl).trans ((fxR F61 ta0 rfl).trans e26))
    have e83 : Rv h69 a0 13 = v29 := ((fxR F73 e66 rfl).trans ((fxR F61 ta0 rfl).trans e30))
    have e84 : Rv h69 a0 6 = v32 := ((fxR F73 e66 rfl).trans ((fxR F61 ta0 rfl).trans e33))
    obtain ⟨v85, e86⟩ : ∃ z, Rv h69 a0 7 = z := ⟨_, rfl⟩
    have e87 : Tg h69 a0 = 11 := (fxT F73 e66)
    have t88 := ok_R O72 e87 rE_11_7 e86
    have p100 := p74
    unfold XInv at p100
    rw [e76, e77, e78, e79, e80, e81, p75, e82, e83, e84, e86] at p100
    obtain ⟨p89, p90, p91, p92, p93, p94, p95, p96, p97, p98, p99⟩ := p100
    have e101 : Tg h57 v29 = 7 := (fxT F61 t31)
    obtain ⟨v102, e103⟩ : ∃ z, Iv h69 v29 3 = z := ⟨_, rfl⟩
    have e104 : Tg h69 v29 = 7 := (fxT F73 e101)
    have f105 := ok_I O72 e104 rI_7_3 e103
    obtain ⟨v106, e107⟩ : ∃ z, Iv h69 v29 4 = z := ⟨_, rfl⟩
    have f108 := ok_I O72 e104 rI_7_4 e107
    rw [e103] at p95
    rw [e107] at p96
    have p109 := p92 (by omega)
    refine g_iconst C dX11_habit_19 ?_
    refine g_istore_n C [(2, .inl 0), (0, .inr (.inr a0)), (1, .inl a1)] rfl (by decide) rfl dX11_habit_20 ?_
    refine g_iconst C dX11_habit_21 ?_
    refine g_istore_n C [(3, .inl 0), (2, .inl 0), (0, .inr (.inr a0)), (1, .inl a1)] rfl (by decide) rfl dX11_habit_22 ?_
    refine g_iconst C dX11_habit_23 ?_
    refine g_istore C [(4, .inl 0), (3, .inl 0), (2, .inl 0), (0, .inr (.inr a0)), (1, .inl a1)] (by decide) rfl dX11_habit_24 ?_
    refine GW.sub [3, 4, 2, 1, 0] rfl ?_
    -- loop at 26
    have L114 : ∀ (μ : Nat) (x110 : Int) (x111 : Int) (x112 : Int) (h113 : Hp), (40 - x112).toNat = μ → Okh h113 → Fx [] h69 h113 → ((-2147483648 : Int) ≤ x110 ∧ x110 ≤ (2147483647 : Int)) → ((-2147483648 : Int) ≤ x111 ∧ x111 ≤ (2147483647 : Int)) → ((0 : Int) ≤ x112 ∧ x112 ≤ (40 : Int)) → GW p l e (rmm 6 116 97 6438) s m (List.map toV [.inr (.inr a0), .inl a1]).toArray below meth c D cy z0 6 (vx_MQ below (QI D cy z0 (fun v h1 => Okh h1 ∧ Fx wr_k_X11_habit h h1 ∧ ((-2147483648) ≤ v ∧ v ≤ 2147483647) ∧ (XInv h1 a0))) (XCh D cy z0 (fun h1 => Okh h1 ∧ Fx wr_k_X11_habit h h1 ∧ (XInv h1 a0))) (List.map toV [.inr (.inr a0), .inl a1]).toArray s 97 6438 (Aof z0)) 26 [(0, .inr (.inr a0)), (1, .inl a1), (2, .inl x110), (3, .inl x111), (4, .inl x112)] [] h113 48 3216 := by
      intro μ
      induction μ using Nat.strongRecOn with
      | ind μ ih115 =>
        intro x110 x111 x112 h113 hm116 O117 F118 f119 f120 f121
        refine g_iload C 4 rfl dX11_habit_26 ?_
        refine g_aload_n C rfl 0 rfl dX11_habit_28 ?_
        have e122 : Tg h113 a0 = 11 := (fxT F118 e87)
        have e123 : Iv h113 a0 4 = v5 := ((fxI F118 e87 rfl).trans e77)
        refine gf_I C fk_LandSurvey_102 rfl e122 e123 dX11_habit_29 ?_
        refine g_icmp_ge C (iw f121 (by decide) (by decide)) (iw f7 (by decide) (by decide)) 134 (by decide) dX11_habit_32 (fun q124 => ?_) (fun q125 => ?_)
        · refine g_iload_n C rfl 2 rfl dX11_habit_134 ?_
          refine g_iconst C dX11_habit_135 ?_
          refine g_icmp_lt C f119 (iw (il 3) (by decide) (by decide)) 149 (by decide) dX11_habit_136 (fun q126 => ?_) (fun q127 => ?_)
          · have f128 : (-2147483648 : Int) ≤ x110 ∧ x110 ≤ (2 : Int) := r_lt f119 (il 3) q126 (by decide) (by decide)
            refine g_iconst C dX11_habit_149 ?_
            have p129 := (XInv_fx O72 F118 e87 rfl p74)
            exact g_xr (g_iret C hr rfl (iw (il 0) (by decide) (by decide)) ⟨O117, ((((Fx.rf (wr := wr_k_X11_habit)).call F61 rfl).call F73 rfl).call F118 rfl), (iw (il 0) (by decide) (by decide)), p129⟩ (by decide) (by decide) dX11_habit_150)
          · have f130 : (3 : Int) ≤ x110 ∧ x110 ≤ (2147483647 : Int) := r_ge f119 (il 3) q127 (by decide) (by decide)
            refine g_iconst C dX11_habit_139 ?_
            refine g_iload_n C rfl 3 rfl dX11_habit_140 ?_
            refine g_mabs C kw_1459 kw_1460 kw_158 kw_1461 (by decide) (Nat.le_of_ble_eq_true rfl) (by decide) (by decide) dX11_habit_141 (fun v131 f132 => ?_)
            have f133 : (-2147483648 : Int) ≤ (w32 (2 * v131)) ∧ (w32 (2 * v131)) ≤ (2147483647 : Int) := w32_inR _
            refine g_imulW C dX11_habit_144 ?_
            refine g_iload_n C rfl 2 rfl dX11_habit_145 ?_
            refine g_icmp_gt C f133 (iw f130 (by decide) (by decide)) 151 (by decide) dX11_habit_146 (fun q134 => ?_) (fun q135 => ?_)
            · have f136 : (3 : Int) ≤ x110 ∧ x110 ≤ (2147483646 : Int) := r_lt f130 f133 q134 (by decide) (by decide)
              have f137 : (4 : Int) ≤ (w32 (2 * v131)) ∧ (w32 (2 * v131)) ≤ (2147483647 : Int) := r_gt f133 f130 q134 (by decide) (by decide)
              refine g_iload_n C rfl 3 rfl dX11_habit_151 ?_
              refine g_if_le C f120 159 (by decide) dX11_habit_152 (fun q138 => ?_) (fun q139 => ?_)
              · have f140 : (-2147483648 : Int) ≤ x111 ∧ x111 ≤ (0 : Int) := r_le f120 (il 0) q138 (by decide) (by decide)
                refine g_iconst C dX11_habit_159 ?_
                have p141 := (XInv_fx O72 F118 e87 rfl p74)
                exact g_xr (g_iret C hr rfl (iw (il (-1)) (by decide) (by decide)) ⟨O117, ((((Fx.rf (wr := wr_k_X11_habit)).call F61 rfl).call F73 rfl).call F118 rfl), (iw (il (-1)) (by decide) (by decide)), p141⟩ (by decide) (by decide) dX11_habit_160)
              · have f142 : (1 : Int) ≤ x111 ∧ x111 ≤ (2147483647 : Int) := r_gt f120 (il 0) q139 (by decide) (by decide)
                refine g_iconst C dX11_habit_155 ?_
                refine g_goto C 160 (by decide) dX11_habit_156 ?_
                have p143 := (XInv_fx O72 F118 e87 rfl p74)
                exact g_xr (g_iret C hr rfl (iw (il 1) (by decide) (by decide)) ⟨O117, ((((Fx.rf (wr := wr_k_X11_habit)).call F61 rfl).call F73 rfl).call F118 rfl), (iw (il 1) (by decide) (by decide)), p143⟩ (by decide) (by decide) dX11_habit_160)
            · refine g_iconst C dX11_habit_149 ?_
              have p144 := (XInv_fx O72 F118 e87 rfl p74)
              exact g_xr (g_iret C hr rfl (iw (il 0) (by decide) (by decide)) ⟨O117, ((((Fx.rf (wr := wr_k_X11_habit)).call F61 rfl).call F73 rfl).call F118 rfl), (iw (il 0) (by decide) (by decide)), p144⟩ (by decide) (by decide) dX11_habit_150)
        · have f145 : (0 : Int) ≤ x112 ∧ x112 ≤ (39 : Int) := r_lt f121 f7 q125 (by decide) (by decide)
          have f146 : (1 : Int) ≤ v5 ∧ v5 ≤ (40 : Int) := r_gt f7 f121 q125 (by decide) (by decide)
          refine g_iconst C dX11_habit_35 ?_
          refine g_istore C [(5, .inl 0), (0, .inr (.inr a0)), (1, .inl a1), (2, .inl x110), (3, .inl x111), (4, .inl x112)] (by decide) rfl dX11_habit_36 ?_
          refine GW.sub [1, 2, 3, 4, 5, 0] rfl ?_
          -- loop at 38
          have L151 : ∀ (μ : Nat) (x147 : Int) (x148 : Int) (x149 : Int) (h150 : Hp), (40 - x149).toNat = μ → Okh h150 → Fx [] h113 h150 → ((-2147483648 : Int) ≤ x147 ∧ x147 ≤ (2147483647 : Int)) → ((-2147483648 : Int) ≤ x148 ∧ x148 ≤ (2147483647 : Int)) → ((0 : Int) ≤ x149 ∧ x149 ≤ (40 : Int)) → GW p l e (rmm 6 116 97 6438) s m (List.map toV [.inr (.inr a0), .inl a1]).toArray below meth c D cy z0 6 (vx_MQ below (QI D cy z0 (fun v h1 => Okh h1 ∧ Fx wr_k_X11_habit h h1 ∧ ((-2147483648) ≤ v ∧ v ≤ 2147483647) ∧ (XInv h1 a0))) (XCh D cy z0 (fun h1 => Okh h1 ∧ Fx wr_k_X11_habit h h1 ∧ (XInv h1 a0))) (List.map toV [.inr (.inr a0), .inl a1]).toArray s 97 6438 (Aof z0)) 38 [(0, .inr (.inr a0)), (1, .inl a1), (2, .inl x147), (3, .inl x148), (4, .inl x112), (5, .inl x149)] [] h150 48 3216 := by
            intro μ
            induction μ using Nat.strongRecOn with
            | ind μ ih152 =>
              intro x147 x148 x149 h150 hm153 O154 F155 f156 f157 f158
              refine g_iload C 5 rfl dX11_habit_38 ?_
              refine g_aload_n C rfl 0 rfl dX11_habit_40 ?_
              have e159 : Tg h150 a0 = 11 := (fxT F155 e122)
              have e160 : Iv h150 a0 4 = v5 := ((fxI F155 e122 rfl).trans e123)
              refine gf_I C fk_LandSurvey_102 rfl e159 e160 dX11_habit_41 ?_
              refine g_icmp_ge C (iw f158 (by decide) (by decide)) (iw f146 (by decide) (by decide)) 128 (by decide) dX11_habit_44 (fun q161 => ?_) (fun q162 => ?_)
              · have f163 : (1 : Int) ≤ x149 ∧ x149 ≤ (40 : Int) := r_ge f158 f146 q161 (by decide) (by decide)
                have f164 : (1 : Int) ≤ (x112 + 1) ∧ (x112 + 1) ≤ (40 : Int) := ia_add f145 (il 1) (by decide) (by decide)
                refine g_iinc C [(4, .inl (x112 + 1)), (0, .inr (.inr a0)), (1, .inl a1), (2, .inl x147), (3, .inl x148), (5, .inl x149)] 4 rfl (by decide) rfl dX11_habit_128 ?_
                refine g_goto C 26 (by decide) dX11_habit_131 ?_
                refine GW.sub [1, 2, 3, 4, 0] rfl ?_
                exact ih115 _ (by omega) x147 x148 (x112 + 1) h150 rfl O154 (F118.call F155 rfl) f156 f157 (iw f164 (by decide) (by decide))
              · have f165 : (0 : Int) ≤ x149 ∧ x149 ≤ (39 : Int) := r_lt f158 f146 q162 (by decide) (by decide)
                refine g_aload_n C rfl 0 rfl dX11_habit_47 ?_
                have e166 : Rv h150 a0 3 = v1 := ((fxR F155 e122 rfl).trans ((fxR F118 e87 rfl).trans e76))
                refine gf_R C fk_LandSurvey_22 rfl e159 e166 dX11_habit_48 ?_
                refine g_iload C 4 rfl dX11_habit_51 ?_
                have e167 : Tg h150 v1 = 38104 := (fxT F155 (fxT F118 (fxT F73 (fxT F61 t3))))
                have e168 : Tg h57 v1 = 38104 := (fxT F61 t3)
                have e169 : Tg h69 v1 = 38104 := (fxT F73 e168)
                have e170 : Tg h113 v1 = 38104 := (fxT F118 e169)
                have e171 : Ln h150 v1 = 40 := ((fxL F155 e170).trans ((fxL F118 e169).trans ((fxL F73 e168).trans ((fxL F61 t3).trans l4))))
                obtain ⟨v172, e173⟩ : ∃ z, Rv h150 v1 x112.toNat = z := ⟨_, rfl⟩
                refine g_aald (t := 4) C e167 rfl (by decide) rfl e171 (ix f145 (by decide) (by decide)) e173 dX11_habit_53 ?_
                have p174 := (SOK_fx O117 F155 e170 rfl rfl rfl (SOK_fx O72 F118 e169 rfl rfl rfl p89))
                have q175 := nn_get p174.nn (by omega) e173
                have t176 := ok_Na O154 e167 ar_38104 rE_38104_0 e173 q175
                obtain ⟨v177, e178⟩ : ∃ z, Iv h150 v172 3 = z := ⟨_, rfl⟩
                have f179 := ok_I O154 t176 rI_9_3 e178
                refine gf_I C fk_LandSurvey_318 rfl t176 e178 dX11_habit_54 ?_
                refine g_iload_n C rfl 1 rfl dX11_habit_57 ?_
                refine g_icmp_ne C (iw f179 (by decide) (by decide)) fa1 122 (by decide) dX11_habit_58 (fun q180 => ?_) (fun q181 => ?_)
                · have f182 : (1 : Int) ≤ (x149 + 1) ∧ (x149 + 1) ≤ (40 : Int) := ia_add f165 (il 1) (by decide) (by decide)
                  refine g_iinc C [(5, .inl (x149 + 1)), (0, .inr (.inr a0)), (1, .inl a1), (2, .inl x147), (3, .inl x148), (4, .inl x112)] 5 rfl (by decide) rfl dX11_habit_122 ?_
                  refine g_goto C 38 (by decide) dX11_habit_125 ?_
                  refine GW.sub [1, 2, 3, 4, 5, 0] rfl ?_
                  exact ih152 _ (by omega) x147 x148 (x149 + 1) h150 rfl O154 F155 f156 f157 (iw f182 (by decide) (by decide))
                · have f183 : (0 : Int) ≤ a1 ∧ a1 ≤ (5 : Int) := ii fa1 (r_eq2 f179 q181) (by decide) (by decide)
                  refine g_aload_n C rfl 0 rfl dX11_habit_61 ?_
                  refine gf_R C fk_LandSurvey_22 rfl e159 e166 dX11_habit_62 ?_
                  refine g_iload C 5 rfl dX11_habit_65 ?_
                  obtain ⟨v184, e185⟩ : ∃ z, Rv h150 v1 x149.toNat = z := ⟨_, rfl⟩
                  refine g_aald (t := 4) C e167 rfl (by decide) rfl e171 (ix f165 (by decide) (by decide)) e185 dX11_habit_67 ?_
                  have q186 := nn_get p174.nn (by omega) e185
                  have t187 := ok_Na O154 e167 ar_38104 rE_38104_0 e185 q186
                  obtain ⟨v188, e189⟩ : ∃ z, Iv h150 v184 3 = z := ⟨_, rfl⟩
                  have f190 := ok_I O154 t187 rI_9_3 e189
                  refine gf_I C fk_LandSurvey_318 rfl t187 e189 dX11_habit_68 ?_
                  refine g_iload_n C rfl 1 rfl dX11_habit_71 ?_
                  refine g_icmp_eq C (iw f190 (by decide) (by decide)) (iw f183 (by decide) (by decide)) 122 (by decide) dX11_habit_72 (fun q191 => ?_) (fun q192 => ?_)
                  · have f193 : (1 : Int) ≤ (x149 + 1) ∧ (x149 + 1) ≤ (40 : Int) := ia_add f165 (il 1) (by decide) (by decide)
                    refine g_iinc C [(5, .inl (x149 + 1)), (0, .inr (.inr a0)), (1, .inl a1), (2, .inl x147), (3, .inl x148), (4, .inl x112)] 5 rfl (by decide) rfl dX11_habit_122 ?_
                    refine g_goto C 38 (by decide) dX11_habit_125 ?_
                    refine GW.sub [1, 2, 3, 4, 5, 0] rfl ?_
                    exact ih152 _ (by omega) x147 x148 (x149 + 1) h150 rfl O154 F155 f156 f157 (iw f193 (by decide) (by decide))
                  · refine g_aload_n C rfl 0 rfl dX11_habit_75 ?_
                    refine gf_R C fk_LandSurvey_22 rfl e159 e166 dX11_habit_76 ?_
                    refine g_iload C 4 rfl dX11_habit_79 ?_
                    refine g_aald (t := 4) C e167 rfl (by decide) rfl e171 (ix f145 (by decide) (by decide)) e173 dX11_habit_81 ?_
                    refine g_aload_n C rfl 0 rfl dX11_habit_82 ?_
                    refine gf_R C fk_LandSurvey_22 rfl e159 e166 dX11_habit_83 ?_
                    refine g_iload C 5 rfl dX11_habit_86 ?_
                    refine g_aald (t := 4) C e167 rfl (by decide) rfl e171 (ix f165 (by decide) (by decide)) e185 dX11_habit_88 ?_
                    refine g_callI (st := []) (gc_S C lk_LandSurvey_321 (k_X11_areDoubles l D cy w z0 O154 t176 t187) rfl ⟨by decide, by decide⟩ (Nat.le_of_ble_eq_true rfl) dX11_habit_89 ⟨(by decide), (by decide)⟩) (fun r194 h195 f197 K196 => ?_)
                    obtain ⟨O198, F199, f200⟩ := K196
                    refine g_if_eq C (iw f200 (by decide) (by decide)) 122 (by decide) dX11_habit_92 (fun q201 => ?_) (fun q202 => ?_)
                    · have f203 : (0 : Int) ≤ r194 ∧ r194 ≤ (0 : Int) := ii f200 (r_eq (il 0) q201) (by decide) (by decide)
                      have f204 : (1 : Int) ≤ (x149 + 1) ∧ (x149 + 1) ≤ (40 : Int) := ia_add f165 (il 1) (by decide) (by decide)
                      refine g_iinc C [(5, .inl (x149 + 1)), (0, .inr (.inr a0)), (1, .inl a1), (2, .inl x147), (3, .inl x148), (4, .inl x112)] 5 rfl (by decide) rfl dX11_habit_122 ?_
                      refine g_goto C 38 (by decide) dX11_habit_125 ?_
                      refine GW.sub [1, 2, 3, 4, 5, 0] rfl ?_
                      exact ih152 _ (by omega) x147 x148 (x149 + 1) h195 rfl O198 (F155.call F199 rfl) f156 f157 (iw f204 (by decide) (by decide))
                    · have f205 : (1 : Int) ≤ r194 ∧ r194 ≤ (1 : Int) := r_nl f200 q202
                      have f206 : (-2147483648 : Int) ≤ (w32 (x147 + 1)) ∧ (w32 (x147 + 1)) ≤ (2147483647 : Int) := w32_inR _
                      refine g_iincW C [(2, .inl (w32 (x147 + 1))), (0, .inr (.inr a0)), (1, .inl a1), (3, .inl x148), (4, .inl x112), (5, .inl x149)] 2 rfl (by decide) rfl dX11_habit_95 ?_
                      refine g_iload_n C rfl 3 rfl dX11_habit_98 ?_
                      refine g_aload_n C rfl 1 rfl dX11_habit_99 ?_
                      have e207 : Tg h195 a0 = 11 := (fxT F199 e159)
                      have e208 : Rv h195 a0 3 = v1 := ((fxR F199 e159 rfl).trans e166)
                      refine gf_R C fk_LandSurvey_22 rfl e207 e208 dX11_habit_100 ?_
                      refine g_iload C 4 rfl dX11_habit_103 ?_
                      have e209 : Tg h195 v1 = 38104 := (fxT F199 e167)
                      have e210 : Ln h195 v1 = 40 := ((fxL F199 e167).trans e171)
                      have e211 : Rv h195 v1 x112.toNat = v172 := ((fxRa F199 e167 ar_38104 rfl).trans e173)
                      refine g_aald (t := 4) C e209 rfl (by decide) rfl e210 (ix f145 (by decide) (by decide)) e211 dX11_habit_105 ?_
                      have e212 : Tg h195 v172 = 9 := (fxT F199 t176)
                      obtain ⟨v213, e214⟩ : ∃ z, Iv h195 v172 14 = z := ⟨_, rfl⟩
                      have f215 := ok_I O198 e212 rI_9_14 e214
                      refine gf_I C fk_LandSurvey_175 rfl e212 e214 dX11_habit_106 ?_
                      refine g_aload_n C rfl 1 rfl dX11_habit_109 ?_
                      refine gf_R C fk_LandSurvey_22 rfl e207 e208 dX11_habit_110 ?_
                      refine g_iload C 5 rfl dX11_habit_113 ?_
                      have e216 : Rv h195 v1 x149.toNat = v184 := ((fxRa F199 e167 ar_38104 rfl).trans e185)
                      refine g_aald (t := 4) C e209 rfl (by decide) rfl e210 (ix f165 (by decide) (by decide)) e216 dX11_habit_115 ?_
                      have e217 : Tg h195 v184 = 9 := (fxT F199 t187)
                      obtain ⟨v218, e219⟩ : ∃ z, Iv h195 v184 14 = z := ⟨_, rfl⟩
                      have f220 := ok_I O198 e217 rI_9_14 e219
                      refine gf_I C fk_LandSurvey_175 rfl e217 e219 dX11_habit_116 ?_
                      have f221 : (-10 : Int) ≤ (v213 - v218) ∧ (v213 - v218) ≤ (10 : Int) := ia_sub f215 f220 (by decide) (by decide)
                      refine g_isub C dX11_habit_119 ?_
                      have f222 : (-2147483648 : Int) ≤ (w32 (x148 + (v213 - v218))) ∧ (w32 (x148 + (v213 - v218))) ≤ (2147483647 : Int) := w32_inR _
                      refine g_iaddW C dX11_habit_120 ?_
                      refine g_istore_n C [(3, .inl (w32 (x148 + (v213 - v218)))), (2, .inl (w32 (x147 + 1))), (0, .inr (.inr a0)), (1, .inl a1), (4, .inl x112), (5, .inl x149)] rfl (by decide) rfl dX11_habit_121 ?_
                      have f223 : (1 : Int) ≤ (x149 + 1) ∧ (x149 + 1) ≤ (40 : Int) := ia_add f165 (il 1) (by decide) (by decide)
                      refine g_iinc C [(5, .inl (x149 + 1)), (3, .inl (w32 (x148 + (v213 - v218)))), (2, .inl (w32 (x147 + 1))), (0, .inr (.inr a0)), (1, .inl a1), (4, .inl x112)] 5 rfl (by decide) rfl dX11_habit_122 ?_
                      refine g_goto C 38 (by decide) dX11_habit_125 ?_
                      refine GW.sub [3, 4, 2, 1, 5, 0] rfl ?_
                      exact ih152 _ (by omega) (w32 (x147 + 1)) (w32 (x148 + (v213 - v218))) (x149 + 1) h195 rfl O198 (F155.call F199 rfl) f206 f222 (iw f223 (by decide) (by decide))
          exact L151 _ x110 x111 0 h113 rfl O117 Fx.rf f119 f120 (iw (il 0) (by decide) (by decide))
    exact L114 _ 0 0 0 h69 rfl O72 Fx.rf (iw (il 0) (by decide) (by decide)) (iw (il 0) (by decide) (by decide)) (iw (il 0) (by decide) (by decide))
  · have f224 : (0 : Int) ≤ r56 ∧ r56 ≤ (0 : Int) := ii f62 (r_eq (il 0) q64) (by decide) (by decide)
    have p225 := (XInv_fx O F61 ta0 rfl P_XInv)
    exact g_throw C hst hT kw_1369 kw_167 dX11_habit_7 dX11_habit_10 dX11_habit_11 dX11_habit_14 ⟨O60, ((Fx.rf (wr := wr_k_X11_habit)).call F61 rfl), p225⟩ (by decide) (Nat.le_of_ble_eq_true rfl) (by decide) (by decide) (by decide) (by decide)
