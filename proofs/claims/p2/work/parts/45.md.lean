abbrev cX12_readRock : ByteArray := prog_14_method_26_code
def yX12_readRock : MethodName := ⟨RX12, "readRock", "()V"⟩
theorem okX12_readRock : yok yX12_readRock 0 := by decide +kernel
theorem dX12_readRock_0 : decode cX12_readRock 0 = .ok (.aload_n 0, 1) := by decide +kernel
theorem dX12_readRock_1 : decode cX12_readRock 1 = .ok (.getfield 100, 3) := by decide +kernel
theorem dX12_readRock_4 : decode cX12_readRock 4 = .ok (.bipush 8, 2) := by decide +kernel
theorem dX12_readRock_6 : decode cX12_readRock 6 = .ok (.iaload, 1) := by decide +kernel
theorem dX12_readRock_7 : decode cX12_readRock 7 = .ok (.bipush 10, 2) := by decide +kernel
theorem dX12_readRock_9 : decode cX12_readRock 9 = .ok (.if_icmp .ne 9, 3) := by decide +kernel
theorem dX12_readRock_18 : decode cX12_readRock 18 = .ok (.aload_n 0, 1) := by decide +kernel
theorem dX12_readRock_19 : decode cX12_readRock 19 = .ok (.dup, 1) := by decide +kernel
theorem dX12_readRock_20 : decode cX12_readRock 20 = .ok (.getfield 317, 3) := by decide +kernel
theorem dX12_readRock_23 : decode cX12_readRock 23 = .ok (.iconst 1, 1) := by decide +kernel
theorem dX12_readRock_24 : decode cX12_readRock 24 = .ok (.iadd, 1) := by decide +kernel
theorem dX12_readRock_25 : decode cX12_readRock 25 = .ok (.putfield 317, 3) := by decide +kernel
theorem dX12_readRock_28 : decode cX12_readRock 28 = .ok (.aload_n 0, 1) := by decide +kernel
theorem dX12_readRock_29 : decode cX12_readRock 29 = .ok (.invokevirtual 357, 3) := by decide +kernel
theorem dX12_readRock_32 : decode cX12_readRock 32 = .ok (.ifCond .ne 11, 3) := by decide +kernel
theorem dX12_readRock_43 : decode cX12_readRock 43 = .ok (.aload_n 0, 1) := by decide +kernel
theorem dX12_readRock_44 : decode cX12_readRock 44 = .ok (.invokevirtual 361, 3) := by decide +kernel
theorem dX12_readRock_47 : decode cX12_readRock 47 = .ok (.ifCond .lt 8, 3) := by decide +kernel
theorem dX12_readRock_55 : decode cX12_readRock 55 = .ok (.aload_n 0, 1) := by decide +kernel
theorem dX12_readRock_56 : decode cX12_readRock 56 = .ok (.getfield 320, 3) := by decide +kernel
theorem dX12_readRock_59 : decode cX12_readRock 59 = .ok (.ifCond .le 4, 3) := by decide +kernel
theorem dX12_readRock_63 : decode cX12_readRock 63 = .ok (.bipush 80, 2) := by decide +kernel
theorem dX12_readRock_65 : decode cX12_readRock 65 = .ok (.aload_n 0, 1) := by decide +kernel
theorem dX12_readRock_66 : decode cX12_readRock 66 = .ok (.getfield 100, 3) := by decide +kernel
theorem dX12_readRock_69 : decode cX12_readRock 69 = .ok (.bipush 8, 2) := by decide +kernel
theorem dX12_readRock_71 : decode cX12_readRock 71 = .ok (.iaload, 1) := by decide +kernel
theorem dX12_readRock_72 : decode cX12_readRock 72 = .ok (.iadd, 1) := by decide +kernel
theorem dX12_readRock_73 : decode cX12_readRock 73 = .ok (.istore_n 1, 1) := by decide +kernel
theorem dX12_readRock_74 : decode cX12_readRock 74 = .ok (.aload_n 0, 1) := by decide +kernel
theorem dX12_readRock_75 : decode cX12_readRock 75 = .ok (.getfield 103, 3) := by decide +kernel
theorem dX12_readRock_78 : decode cX12_readRock 78 = .ok (.iload_n 1, 1) := by decide +kernel
theorem dX12_readRock_79 : decode cX12_readRock 79 = .ok (.aload_n 0, 1) := by decide +kernel
theorem dX12_readRock_80 : decode cX12_readRock 80 = .ok (.getfield 30, 3) := by decide +kernel
theorem dX12_readRock_83 : decode cX12_readRock 83 = .ok (.aload_n 0, 1) := by decide +kernel
theorem dX12_readRock_84 : decode cX12_readRock 84 = .ok (.getfield 317, 3) := by decide +kernel
theorem dX12_readRock_87 : decode cX12_readRock 87 = .ok (.laload, 1) := by decide +kernel
theorem dX12_readRock_88 : decode cX12_readRock 88 = .ok (.lastore, 1) := by decide +kernel
theorem dX12_readRock_89 : decode cX12_readRock 89 = .ok (.aload_n 0, 1) := by decide +kernel
theorem dX12_readRock_90 : decode cX12_readRock 90 = .ok (.dup, 1) := by decide +kernel
theorem dX12_readRock_91 : decode cX12_readRock 91 = .ok (.getfield 317, 3) := by decide +kernel
theorem dX12_readRock_94 : decode cX12_readRock 94 = .ok (.iconst 1, 1) := by decide +kernel
theorem dX12_readRock_95 : decode cX12_readRock 95 = .ok (.iadd, 1) := by decide +kernel
theorem dX12_readRock_96 : decode cX12_readRock 96 = .ok (.putfield 317, 3) := by decide +kernel
theorem dX12_readRock_99 : decode cX12_readRock 99 = .ok (.aload_n 0, 1) := by decide +kernel
theorem dX12_readRock_100 : decode cX12_readRock 100 = .ok (.getfield 106, 3) := by decide +kernel
theorem dX12_readRock_103 : decode cX12_readRock 103 = .ok (.iload_n 1, 1) := by decide +kernel
theorem dX12_readRock_104 : decode cX12_readRock 104 = .ok (.aload_n 0, 1) := by decide +kernel
theorem dX12_readRock_105 : decode cX12_readRock 105 = .ok (.iconst 0, 1) := by decide +kernel
theorem dX12_readRock_106 : decode cX12_readRock 106 = .ok (.sipush 200, 3) := by decide +kernel
theorem dX12_readRock_109 : decode cX12_readRock 109 = .ok (.invokevirtual 383, 3) := by decide +kernel
theorem kw_1822 : Cond.code yX12_takeNumber prog_14_method_21_code 3 (some .int) ∈ uu := uu_in (i := 1822) (by decide +kernel) (by decide +kernel)
theorem kw_1819 : Cond.methodLink "LandSurveyModel" 383 yX12_takeNumber ∈ uu := uu_in (i := 1819) (by decide +kernel) (by decide +kernel)
theorem kw_1821 : Cond.instanceMethod yX12_takeNumber ∈ uu := uu_in (i := 1821) (by decide +kernel) (by decide +kernel)
theorem kw_72 : Cond.selects "LandSurveyModel" yX12_takeNumber yX12_takeNumber ∈ uu := uu_in (i := 72) (by decide +kernel) (by decide +kernel)
theorem lk_LandSurveyModel_383 : lkV "LandSurveyModel" 383 yX12_takeNumber cX12_takeNumber 3 (some .int) 2 := ⟨kw_1819, kw_1821, kw_72, kw_152, kw_1822, okX12_takeNumber⟩
theorem dX12_readRock_112 : decode cX12_readRock 112 = .ok (.iastore, 1) := by decide +kernel
theorem dX12_readRock_113 : decode cX12_readRock 113 = .ok (.aload_n 0, 1) := by decide +kernel
theorem dX12_readRock_114 : decode cX12_readRock 114 = .ok (.bipush 9, 2) := by decide +kernel
theorem dX12_readRock_116 : decode cX12_readRock 116 = .ok (.invokevirtual 387, 3) := by decide +kernel
theorem kw_1826 : Cond.code yX12_takeWord prog_14_method_16_code 2 none ∈ uu := uu_in (i := 1826) (by decide +kernel) (by decide +kernel)
theorem kw_1823 : Cond.methodLink "LandSurveyModel" 387 yX12_takeWord ∈ uu := uu_in (i := 1823) (by decide +kernel) (by decide +kernel)
theorem kw_1825 : Cond.instanceMethod yX12_takeWord ∈ uu := uu_in (i := 1825) (by decide +kernel) (by decide +kernel)
theorem kw_73 : Cond.selects "LandSurveyModel" yX12_takeWord yX12_takeWord ∈ uu := uu_in (i := 73) (by decide +kernel) (by decide +kernel)
theorem lk_LandSurveyModel_387 : lkV "LandSurveyModel" 387 yX12_takeWord cX12_takeWord 2 none 1 := ⟨kw_1823, kw_1825, kw_73, kw_152, kw_1826, okX12_takeWord⟩
theorem dX12_readRock_119 : decode cX12_readRock 119 = .ok (.aload_n 0, 1) := by decide +kernel
theorem dX12_readRock_120 : decode cX12_readRock 120 = .ok (.getfield 109, 3) := by decide +kernel
theorem dX12_readRock_123 : decode cX12_readRock 123 = .ok (.iload_n 1, 1) := by decide +kernel
theorem dX12_readRock_124 : decode cX12_readRock 124 = .ok (.aload_n 0, 1) := by decide +kernel
theorem dX12_readRock_125 : decode cX12_readRock 125 = .ok (.aload_n 0, 1) := by decide +kernel
theorem dX12_readRock_126 : decode cX12_readRock 126 = .ok (.getfield 106, 3) := by decide +kernel
theorem dX12_readRock_129 : decode cX12_readRock 129 = .ok (.iload_n 1, 1) := by decide +kernel
theorem dX12_readRock_130 : decode cX12_readRock 130 = .ok (.iaload, 1) := by decide +kernel
theorem dX12_readRock_131 : decode cX12_readRock 131 = .ok (.sipush 200, 3) := by decide +kernel
theorem dX12_readRock_134 : decode cX12_readRock 134 = .ok (.invokevirtual 383, 3) := by decide +kernel
theorem dX12_readRock_137 : decode cX12_readRock 137 = .ok (.iastore, 1) := by decide +kernel
theorem dX12_readRock_138 : decode cX12_readRock 138 = .ok (.aload_n 0, 1) := by decide +kernel
theorem dX12_readRock_139 : decode cX12_readRock 139 = .ok (.getfield 100, 3) := by decide +kernel
theorem dX12_readRock_142 : decode cX12_readRock 142 = .ok (.bipush 8, 2) := by decide +kernel
theorem dX12_readRock_144 : decode cX12_readRock 144 = .ok (.dup2, 1) := by decide +kernel
theorem dX12_readRock_145 : decode cX12_readRock 145 = .ok (.iaload, 1) := by decide +kernel
theorem dX12_readRock_146 : decode cX12_readRock 146 = .ok (.aload_n 0, 1) := by decide +kernel
theorem dX12_readRock_147 : decode cX12_readRock 147 = .ok (.getfield 320, 3) := by decide +kernel
theorem dX12_readRock_150 : decode cX12_readRock 150 = .ok (.ifCond .ne 7, 3) := by decide +kernel
theorem dX12_readRock_157 : decode cX12_readRock 157 = .ok (.iconst 0, 1) := by decide +kernel
theorem dX12_readRock_158 : decode cX12_readRock 158 = .ok (.iadd, 1) := by decide +kernel
theorem dX12_readRock_159 : decode cX12_readRock 159 = .ok (.iastore, 1) := by decide +kernel
theorem dX12_readRock_160 : decode cX12_readRock 160 = .ok (.return_, 1) := by decide +kernel
theorem dX12_readRock_153 : decode cX12_readRock 153 = .ok (.iconst 1, 1) := by decide +kernel
theorem dX12_readRock_154 : decode cX12_readRock 154 = .ok (.goto 4, 3) := by decide +kernel
theorem dX12_readRock_50 : decode cX12_readRock 50 = .ok (.aload_n 0, 1) := by decide +kernel
theorem dX12_readRock_51 : decode cX12_readRock 51 = .ok (.iconst 3, 1) := by decide +kernel
theorem dX12_readRock_52 : decode cX12_readRock 52 = .ok (.invokevirtual 326, 3) := by decide +kernel
theorem dX12_readRock_62 : decode cX12_readRock 62 = .ok (.return_, 1) := by decide +kernel
theorem dX12_readRock_35 : decode cX12_readRock 35 = .ok (.aload_n 0, 1) := by decide +kernel
theorem dX12_readRock_36 : decode cX12_readRock 36 = .ok (.iconst 1, 1) := by decide +kernel
theorem dX12_readRock_37 : decode cX12_readRock 37 = .ok (.invokevirtual 326, 3) := by decide +kernel
theorem dX12_readRock_40 : decode cX12_readRock 40 = .ok (.goto 15, 3) := by decide +kernel
theorem dX12_readRock_12 : decode cX12_readRock 12 = .ok (.aload_n 0, 1) := by decide +kernel
theorem dX12_readRock_13 : decode cX12_readRock 13 = .ok (.iconst 5, 1) := by decide +kernel
theorem dX12_readRock_14 : decode cX12_readRock 14 = .ok (.invokevirtual 326, 3) := by decide +kernel
theorem dX12_readRock_17 : decode cX12_readRock 17 = .ok (.return_, 1) := by decide +kernel
abbrev cX12_readBound : ByteArray := prog_14_method_27_code
def yX12_readBound : MethodName := ⟨RX12, "readBound", "()V"⟩
theorem okX12_readBound : yok yX12_readBound 0 := by decide +kernel
theorem dX12_readBound_0 : decode cX12_readBound 0 = .ok (.aload_n 0, 1) := by decide +kernel
theorem dX12_readBound_1 : decode cX12_readBound 1 = .ok (.iconst 4, 1) := by decide +kernel
theorem dX12_readBound_2 : decode cX12_readBound 2 = .ok (.invokevirtual 330, 3) := by decide +kernel
theorem dX12_readBound_5 : decode cX12_readBound 5 = .ok (.istore_n 1, 1) := by decide +kernel
theorem dX12_readBound_6 : decode cX12_readBound 6 = .ok (.iload_n 1, 1) := by decide +kernel
theorem dX12_readBound_7 : decode cX12_readBound 7 = .ok (.ifCond .eq 16, 3) := by decide +kernel
theorem dX12_readBound_23 : decode cX12_readBound 23 = .ok (.aload_n 0, 1) := by decide +kernel
theorem dX12_readBound_24 : decode cX12_readBound 24 = .ok (.getfield 125, 3) := by decide +kernel
theorem kw_1526 : Cond.fieldLink "LandSurveyModel" 125 "LandSurveyModel" "isDriftTold" "[Z" ∈ uu := uu_in (i := 1526) (by decide +kernel) (by decide +kernel)
theorem fk_LandSurveyModel_125 : fkR "LandSurveyModel" 125 11 20 RX12 TX12 87 := ⟨rfl, rfl, inX12, by decide, kw_1526, by decide⟩
theorem dX12_readBound_27 : decode cX12_readBound 27 = .ok (.bipush 8, 2) := by decide +kernel
theorem dX12_readBound_29 : decode cX12_readBound 29 = .ok (.baload, 1) := by decide +kernel
theorem dX12_readBound_30 : decode cX12_readBound 30 = .ok (.ifCond .eq 9, 3) := by decide +kernel
theorem dX12_readBound_39 : decode cX12_readBound 39 = .ok (.aload_n 0, 1) := by decide +kernel
theorem dX12_readBound_40 : decode cX12_readBound 40 = .ok (.dup, 1) := by decide +kernel
theorem dX12_readBound_41 : decode cX12_readBound 41 = .ok (.getfield 317, 3) := by decide +kernel
theorem dX12_readBound_44 : decode cX12_readBound 44 = .ok (.iconst 1, 1) := by decide +kernel
theorem dX12_readBound_45 : decode cX12_readBound 45 = .ok (.iadd, 1) := by decide +kernel
theorem dX12_readBound_46 : decode cX12_readBound 46 = .ok (.putfield 317, 3) := by decide +kernel
theorem dX12_readBound_49 : decode cX12_readBound 49 = .ok (.aload_n 0, 1) := by decide +kernel
theorem dX12_readBound_50 : decode cX12_readBound 50 = .ok (.iconst 0, 1) := by decide +kernel
theorem dX12_readBound_51 : decode cX12_readBound 51 = .ok (.bipush 99, 2) := by decide +kernel
theorem dX12_readBound_53 : decode cX12_readBound 53 = .ok (.invokevirtual 383, 3) := by decide +kernel
theorem dX12_readBound_56 : decode cX12_readBound 56 = .ok (.istore_n 2, 1) := by decide +kernel
theorem dX12_readBound_57 : decode cX12_readBound 57 = .ok (.iload_n 1, 1) := by decide +kernel
theorem dX12_readBound_58 : decode cX12_readBound 58 = .ok (.ifCond .eq 22, 3) := by decide +kernel
theorem dX12_readBound_80 : decode cX12_readBound 80 = .ok (.aload_n 0, 1) := by decide +kernel
theorem dX12_readBound_81 : decode cX12_readBound 81 = .ok (.getfield 128, 3) := by decide +kernel
theorem dX12_readBound_84 : decode cX12_readBound 84 = .ok (.bipush 8, 2) := by decide +kernel
theorem dX12_readBound_86 : decode cX12_readBound 86 = .ok (.iload_n 2, 1) := by decide +kernel
theorem dX12_readBound_87 : decode cX12_readBound 87 = .ok (.iastore, 1) := by decide +kernel
theorem dX12_readBound_88 : decode cX12_readBound 88 = .ok (.aload_n 0, 1) := by decide +kernel
theorem dX12_readBound_89 : decode cX12_readBound 89 = .ok (.getfield 125, 3) := by decide +kernel
theorem dX12_readBound_92 : decode cX12_readBound 92 = .ok (.bipush 8, 2) := by decide +kernel
theorem dX12_readBound_94 : decode cX12_readBound 94 = .ok (.iconst 1, 1) := by decide +kernel
theorem dX12_readBound_95 : decode cX12_readBound 95 = .ok (.bastore, 1) := by decide +kernel
theorem dX12_readBound_96 : decode cX12_readBound 96 = .ok (.return_, 1) := by decide +kernel
theorem dX12_readBound_33 : decode cX12_readBound 33 = .ok (.aload_n 0, 1) := by decide +kernel
theorem dX12_readBound_34 : decode cX12_readBound 34 = .ok (.iconst 3, 1) := by decide +kernel
theorem dX12_readBound_35 : decode cX12_readBound 35 = .ok (.invokevirtual 326, 3) := by decide +kernel
theorem dX12_readBound_38 : decode cX12_readBound 38 = .ok (.return_, 1) := by decide +kernel
theorem dX12_readBound_10 : decode cX12_readBound 10 = .ok (.aload_n 0, 1) := by decide +kernel
theorem dX12_readBound_11 : decode cX12_readBound 11 = .ok (.getfield 119, 3) := by decide +kernel
theorem kw_1524 : Cond.fieldLink "LandSurveyModel" 119 "LandSurveyModel" "isSteepTold" "[Z" ∈ uu := uu_in (i := 1524) (by decide +kernel) (by decide +kernel)
theorem fk_LandSurveyModel_119 : fkR "LandSurveyModel" 119 11 18 RX12 TX12 87 := ⟨rfl, rfl, inX12, by decide, kw_1524, by decide⟩
theorem dX12_readBound_14 : decode cX12_readBound 14 = .ok (.bipush 8, 2) := by decide +kernel
theorem dX12_readBound_16 : decode cX12_readBound 16 = .ok (.baload, 1) := by decide +kernel
theorem dX12_readBound_17 : decode cX12_readBound 17 = .ok (.ifCond .eq 22, 3) := by decide +kernel
theorem dX12_readBound_61 : decode cX12_readBound 61 = .ok (.aload_n 0, 1) := by decide +kernel
theorem dX12_readBound_62 : decode cX12_readBound 62 = .ok (.getfield 122, 3) := by decide +kernel
theorem kw_1525 : Cond.fieldLink "LandSurveyModel" 122 "LandSurveyModel" "steep" "[I" ∈ uu := uu_in (i := 1525) (by decide +kernel) (by decide +kernel)
theorem fk_LandSurveyModel_122 : fkR "LandSurveyModel" 122 11 19 RX12 TX12 87 := ⟨rfl, rfl, inX12, by decide, kw_1525, by decide⟩
theorem dX12_readBound_65 : decode cX12_readBound 65 = .ok (.bipush 8, 2) := by decide +kernel
theorem dX12_readBound_67 : decode cX12_readBound 67 = .ok (.iload_n 2, 1) := by decide +kernel
theorem dX12_readBound_68 : decode cX12_readBound 68 = .ok (.iastore, 1) := by decide +kernel
theorem dX12_readBound_69 : decode cX12_readBound 69 = .ok (.aload_n 0, 1) := by decide +kernel
theorem dX12_readBound_70 : decode cX12_readBound 70 = .ok (.getfield 119, 3) := by decide +kernel
theorem dX12_readBound_73 : decode cX12_readBound 73 = .ok (.bipush 8, 2) := by decide +kernel
theorem dX12_readBound_75 : decode cX12_readBound 75 = .ok (.iconst 1, 1) := by decide +kernel
theorem dX12_readBound_76 : decode cX12_readBound 76 = .ok (.bastore, 1) := by decide +kernel
theorem dX12_readBound_77 : decode cX12_readBound 77 = .ok (.goto 19, 3) := by decide +kernel
theorem dX12_readBound_20 : decode cX12_readBound 20 = .ok (.goto 13, 3) := by decide +kernel
abbrev cX12_readRemain : ByteArray := prog_14_method_28_code
def yX12_readRemain : MethodName := ⟨RX12, "readRemain", "()V"⟩
theorem okX12_readRemain : yok yX12_readRemain 0 := by decide +kernel
theorem dX12_readRemain_0 : decode cX12_readRemain 0 = .ok (.aload_n 0, 1) := by decide +kernel
theorem dX12_readRemain_1 : decode cX12_readRemain 1 = .ok (.dup, 1) := by decide +kernel
theorem dX12_readRemain_2 : decode cX12_readRemain 2 = .ok (.getfield 317, 3) := by decide +kernel
theorem dX12_readRemain_5 : decode cX12_readRemain 5 = .ok (.iconst 1, 1) := by decide +kernel
theorem dX12_readRemain_6 : decode cX12_readRemain 6 = .ok (.iadd, 1) := by decide +kernel
theorem dX12_readRemain_7 : decode cX12_readRemain 7 = .ok (.putfield 317, 3) := by decide +kernel
theorem dX12_readRemain_10 : decode cX12_readRemain 10 = .ok (.aload_n 0, 1) := by decide +kernel
theorem dX12_readRemain_11 : decode cX12_readRemain 11 = .ok (.getfield 24, 3) := by decide +kernel
theorem dX12_readRemain_14 : decode cX12_readRemain 14 = .ok (.aload_n 0, 1) := by decide +kernel
theorem dX12_readRemain_15 : decode cX12_readRemain 15 = .ok (.getfield 317, 3) := by decide +kernel
theorem dX12_readRemain_18 : decode cX12_readRemain 18 = .ok (.iaload, 1) := by decide +kernel
theorem dX12_readRemain_19 : decode cX12_readRemain 19 = .ok (.iconst 2, 1) := by decide +kernel
theorem dX12_readRemain_20 : decode cX12_readRemain 20 = .ok (.if_icmp .ne 45, 3) := by decide +kernel
theorem dX12_readRemain_65 : decode cX12_readRemain 65 = .ok (.bipush 80, 2) := by decide +kernel
theorem dX12_readRemain_67 : decode cX12_readRemain 67 = .ok (.aload_n 0, 1) := by decide +kernel
theorem dX12_readRemain_68 : decode cX12_readRemain 68 = .ok (.iconst 0, 1) := by decide +kernel
theorem dX12_readRemain_69 : decode cX12_readRemain 69 = .ok (.bipush 9, 2) := by decide +kernel
theorem dX12_readRemain_71 : decode cX12_readRemain 71 = .ok (.invokevirtual 383, 3) := by decide +kernel
theorem dX12_readRemain_74 : decode cX12_readRemain 74 = .ok (.iadd, 1) := by decide +kernel
theorem dX12_readRemain_75 : decode cX12_readRemain 75 = .ok (.istore_n 1, 1) := by decide +kernel
theorem dX12_readRemain_76 : decode cX12_readRemain 76 = .ok (.aload_n 0, 1) := by decide +kernel
theorem dX12_readRemain_77 : decode cX12_readRemain 77 = .ok (.bipush 10, 2) := by decide +kernel
theorem dX12_readRemain_79 : decode cX12_readRemain 79 = .ok (.invokevirtual 387, 3) := by decide +kernel
theorem dX12_readRemain_82 : decode cX12_readRemain 82 = .ok (.aload_n 0, 1) := by decide +kernel
theorem dX12_readRemain_83 : decode cX12_readRemain 83 = .ok (.invokevirtual 374, 3) := by decide +kernel
theorem kw_1838 : Cond.code yX12_takeRock prog_14_method_24_code 2 (some .int) ∈ uu := uu_in (i := 1838) (by decide +kernel) (by decide +kernel)
theorem kw_1835 : Cond.methodLink "LandSurveyModel" 374 yX12_takeRock ∈ uu := uu_in (i := 1835) (by decide +kernel) (by decide +kernel)
theorem kw_1837 : Cond.instanceMethod yX12_takeRock ∈ uu := uu_in (i := 1837) (by decide +kernel) (by decide +kernel)
theorem kw_76 : Cond.selects "LandSurveyModel" yX12_takeRock yX12_takeRock ∈ uu := uu_in (i := 76) (by decide +kernel) (by decide +kernel)
theorem lk_LandSurveyModel_374 : lkV "LandSurveyModel" 374 yX12_takeRock cX12_takeRock 2 (some .int) 0 := ⟨kw_1835, kw_1837, kw_76, kw_152, kw_1838, okX12_takeRock⟩
theorem dX12_readRemain_86 : decode cX12_readRemain 86 = .ok (.istore_n 2, 1) := by decide +kernel
theorem dX12_readRemain_87 : decode cX12_readRemain 87 = .ok (.aload_n 0, 1) := by decide +kernel
theorem dX12_readRemain_88 : decode cX12_readRemain 88 = .ok (.bipush 9, 2) := by decide +kernel
theorem dX12_readRemain_90 : decode cX12_readRemain 90 = .ok (.invokevirtual 387, 3) := by decide +kernel
theorem dX12_readRemain_93 : decode cX12_readRemain 93 = .ok (.aload_n 0, 1) := by decide +kernel
theorem dX12_readRemain_94 : decode cX12_readRemain 94 = .ok (.getfield 317, 3) := by decide +kernel
theorem dX12_readRemain_97 : decode cX12_readRemain 97 = .ok (.istore_n 3, 1) := by decide +kernel
theorem dX12_readRemain_98 : decode cX12_readRemain 98 = .ok (.aload_n 0, 1) := by decide +kernel
theorem dX12_readRemain_99 : decode cX12_readRemain 99 = .ok (.invokevirtual 374, 3) := by decide +kernel
theorem dX12_readRemain_102 : decode cX12_readRemain 102 = .ok (.istore 4, 2) := by decide +kernel
theorem dX12_readRemain_104 : decode cX12_readRemain 104 = .ok (.aload_n 0, 1) := by decide +kernel
theorem dX12_readRemain_105 : decode cX12_readRemain 105 = .ok (.getfield 320, 3) := by decide +kernel
theorem dX12_readRemain_108 : decode cX12_readRemain 108 = .ok (.ifCond .ne 24, 3) := by decide +kernel
theorem dX12_readRemain_132 : decode cX12_readRemain 132 = .ok (.aload_n 0, 1) := by decide +kernel
theorem dX12_readRemain_133 : decode cX12_readRemain 133 = .ok (.getfield 320, 3) := by decide +kernel
theorem dX12_readRemain_136 : decode cX12_readRemain 136 = .ok (.ifCond .ne 18, 3) := by decide +kernel
theorem dX12_readRemain_154 : decode cX12_readRemain 154 = .ok (.return_, 1) := by decide +kernel
theorem dX12_readRemain_111 : decode cX12_readRemain 111 = .ok (.iload 4, 2) := by decide +kernel
theorem dX12_readRemain_113 : decode cX12_readRemain 113 = .ok (.iload_n 2, 1) := by decide +kernel
theorem dX12_readRemain_114 : decode cX12_readRemain 114 = .ok (.if_icmp .ge 18, 3) := by decide +kernel
theorem dX12_readRemain_139 : decode cX12_readRemain 139 = .ok (.aload_n 0, 1) := by decide +kernel
theorem dX12_readRemain_140 : decode cX12_readRemain 140 = .ok (.getfield 131, 3) := by decide +kernel
theorem dX12_readRemain_143 : decode cX12_readRemain 143 = .ok (.iload_n 1, 1) := by decide +kernel
theorem dX12_readRemain_144 : decode cX12_readRemain 144 = .ok (.iload_n 2, 1) := by decide +kernel
theorem dX12_readRemain_145 : decode cX12_readRemain 145 = .ok (.iastore, 1) := by decide +kernel
theorem dX12_readRemain_146 : decode cX12_readRemain 146 = .ok (.aload_n 0, 1) := by decide +kernel
theorem dX12_readRemain_147 : decode cX12_readRemain 147 = .ok (.getfield 134, 3) := by decide +kernel
theorem dX12_readRemain_150 : decode cX12_readRemain 150 = .ok (.iload_n 1, 1) := by decide +kernel
theorem dX12_readRemain_151 : decode cX12_readRemain 151 = .ok (.iload 4, 2) := by decide +kernel
theorem dX12_readRemain_153 : decode cX12_readRemain 153 = .ok (.iastore, 1) := by decide +kernel
theorem dX12_readRemain_117 : decode cX12_readRemain 117 = .ok (.aload_n 0, 1) := by decide +kernel
theorem dX12_readRemain_118 : decode cX12_readRemain 118 = .ok (.iconst 4, 1) := by decide +kernel
theorem dX12_readRemain_119 : decode cX12_readRemain 119 = .ok (.bipush 16, 2) := by decide +kernel
theorem dX12_readRemain_121 : decode cX12_readRemain 121 = .ok (.aload_n 0, 1) := by decide +kernel
theorem dX12_readRemain_122 : decode cX12_readRemain 122 = .ok (.getfield 27, 3) := by decide +kernel
theorem dX12_readRemain_125 : decode cX12_readRemain 125 = .ok (.iload_n 3, 1) := by decide +kernel
theorem dX12_readRemain_126 : decode cX12_readRemain 126 = .ok (.iaload, 1) := by decide +kernel
theorem dX12_readRemain_127 : decode cX12_readRemain 127 = .ok (.imul, 1) := by decide +kernel
theorem dX12_readRemain_128 : decode cX12_readRemain 128 = .ok (.iadd, 1) := by decide +kernel
theorem dX12_readRemain_129 : decode cX12_readRemain 129 = .ok (.putfield 320, 3) := by decide +kernel
theorem dX12_readRemain_23 : decode cX12_readRemain 23 = .ok (.aload_n 0, 1) := by decide +kernel
theorem dX12_readRemain_24 : decode cX12_readRemain 24 = .ok (.getfield 30, 3) := by decide +kernel
theorem dX12_readRemain_27 : decode cX12_readRemain 27 = .ok (.aload_n 0, 1) := by decide +kernel
theorem dX12_readRemain_28 : decode cX12_readRemain 28 = .ok (.getfield 317, 3) := by decide +kernel
theorem dX12_readRemain_31 : decode cX12_readRemain 31 = .ok (.laload, 1) := by decide +kernel
theorem dX12_readRemain_32 : decode cX12_readRemain 32 = .ok (.ldc2_w 390, 3) := by decide +kernel
theorem kw_1879 : Cond.constantLong "LandSurveyModel" 390 (9) ∈ uu := uu_in (i := 1879) (by decide +kernel) (by decide +kernel)
theorem dX12_readRemain_35 : decode cX12_readRemain 35 = .ok (.lcmp, 1) := by decide +kernel
theorem dX12_readRemain_36 : decode cX12_readRemain 36 = .ok (.ifCond .gt 29, 3) := by decide +kernel
theorem dX12_readRemain_39 : decode cX12_readRemain 39 = .ok (.aload_n 0, 1) := by decide +kernel
theorem dX12_readRemain_40 : decode cX12_readRemain 40 = .ok (.getfield 131, 3) := by decide +kernel
theorem dX12_readRemain_43 : decode cX12_readRemain 43 = .ok (.bipush 80, 2) := by decide +kernel
theorem dX12_readRemain_45 : decode cX12_readRemain 45 = .ok (.aload_n 0, 1) := by decide +kernel
theorem dX12_readRemain_46 : decode cX12_readRemain 46 = .ok (.getfield 30, 3) := by decide +kernel
theorem dX12_readRemain_49 : decode cX12_readRemain 49 = .ok (.aload_n 0, 1) := by decide +kernel
theorem dX12_readRemain_50 : decode cX12_readRemain 50 = .ok (.getfield 317, 3) := by decide +kernel
theorem dX12_readRemain_53 : decode cX12_readRemain 53 = .ok (.laload, 1) := by decide +kernel
theorem dX12_readRemain_54 : decode cX12_readRemain 54 = .ok (.l2i, 1) := by decide +kernel
theorem dX12_readRemain_55 : decode cX12_readRemain 55 = .ok (.iadd, 1) := by decide +kernel
theorem dX12_readRemain_56 : decode cX12_readRemain 56 = .ok (.iaload, 1) := by decide +kernel
theorem dX12_readRemain_57 : decode cX12_readRemain 57 = .ok (.ifCond .lt 8, 3) := by decide +kernel
theorem dX12_readRemain_60 : decode cX12_readRemain 60 = .ok (.aload_n 0, 1) := by decide +kernel
theorem dX12_readRemain_61 : decode cX12_readRemain 61 = .ok (.iconst 3, 1) := by decide +kernel
theorem dX12_readRemain_62 : decode cX12_readRemain 62 = .ok (.invokevirtual 326, 3) := by decide +kernel
abbrev cX12_readLine : ByteArray := prog_14_method_29_code
def yX12_readLine : MethodName := ⟨RX12, "readLine", "()V"⟩
theorem okX12_readLine : yok yX12_readLine 0 := by decide +kernel
theorem dX12_readLine_0 : decode cX12_readLine 0 = .ok (.aload_n 0, 1) := by decide +kernel
theorem dX12_readLine_1 : decode cX12_readLine 1 = .ok (.getfield 137, 3) := by decide +kernel
theorem dX12_readLine_4 : decode cX12_readLine 4 = .ok (.bipush 8, 2) := by decide +kernel
theorem dX12_readLine_6 : decode cX12_readLine 6 = .ok (.iaload, 1) := by decide +kernel
theorem dX12_readLine_7 : decode cX12_readLine 7 = .ok (.bipush 24, 2) := by decide +kernel
theorem dX12_readLine_9 : decode cX12_readLine 9 = .ok (.if_icmp .ne 9, 3) := by decide +kernel
theorem dX12_readLine_18 : decode cX12_readLine 18 = .ok (.sipush 192, 3) := by decide +kernel
theorem dX12_readLine_21 : decode cX12_readLine 21 = .ok (.aload_n 0, 1) := by decide +kernel
theorem dX12_readLine_22 : decode cX12_readLine 22 = .ok (.getfield 137, 3) := by decide +kernel
theorem dX12_readLine_25 : decode cX12_readLine 25 = .ok (.bipush 8, 2) := by decide +kernel
theorem dX12_readLine_27 : decode cX12_readLine 27 = .ok (.iaload, 1) := by decide +kernel
theorem dX12_readLine_28 : decode cX12_readLine 28 = .ok (.iadd, 1) := by decide +kernel
theorem dX12_readLine_29 : decode cX12_readLine 29 = .ok (.istore_n 1, 1) := by decide +kernel
theorem dX12_readLine_30 : decode cX12_readLine 30 = .ok (.aload_n 0, 1) := by decide +kernel
theorem dX12_readLine_31 : decode cX12_readLine 31 = .ok (.getfield 140, 3) := by decide +kernel
theorem dX12_readLine_34 : decode cX12_readLine 34 = .ok (.iload_n 1, 1) := by decide +kernel
theorem dX12_readLine_35 : decode cX12_readLine 35 = .ok (.aload_n 0, 1) := by decide +kernel
theorem dX12_readLine_36 : decode cX12_readLine 36 = .ok (.iconst 1, 1) := by decide +kernel
theorem dX12_readLine_37 : decode cX12_readLine 37 = .ok (.invokevirtual 330, 3) := by decide +kernel
theorem dX12_readLine_40 : decode cX12_readLine 40 = .ok (.ifCond .eq 7, 3) := by decide +kernel
theorem dX12_readLine_47 : decode cX12_readLine 47 = .ok (.aload_n 0, 1) := by decide +kernel
theorem dX12_readLine_48 : decode cX12_readLine 48 = .ok (.iconst 2, 1) := by decide +kernel
theorem dX12_readLine_49 : decode cX12_readLine 49 = .ok (.invokevirtual 330, 3) := by decide +kernel
theorem dX12_readLine_52 : decode cX12_readLine 52 = .ok (.ifCond .eq 7, 3) := by decide +kernel
theorem dX12_readLine_59 : decode cX12_readLine 59 = .ok (.iconst 3, 1) := by decide +kernel
theorem dX12_readLine_60 : decode cX12_readLine 60 = .ok (.iastore, 1) := by decide +kernel
theorem dX12_readLine_61 : decode cX12_readLine 61 = .ok (.aload_n 0, 1) := by decide +kernel
theorem dX12_readLine_62 : decode cX12_readLine 62 = .ok (.dup, 1) := by decide +kernel
theorem dX12_readLine_63 : decode cX12_readLine 63 = .ok (.getfield 317, 3) := by decide +kernel
theorem dX12_readLine_66 : decode cX12_readLine 66 = .ok (.iconst 1, 1) := by decide +kernel
theorem dX12_readLine_67 : decode cX12_readLine 67 = .ok (.iadd, 1) := by decide +kernel
theorem dX12_readLine_68 : decode cX12_readLine 68 = .ok (.putfield 317, 3) := by decide +kernel
theorem dX12_readLine_71 : decode cX12_readLine 71 = .ok (.aload_n 0, 1) := by decide +kernel
theorem dX12_readLine_72 : decode cX12_readLine 72 = .ok (.getfield 140, 3) := by decide +kernel
theorem dX12_readLine_75 : decode cX12_readLine 75 = .ok (.iload_n 1, 1) := by decide +kernel
theorem dX12_readLine_76 : decode cX12_readLine 76 = .ok (.iaload, 1) := by decide +kernel
theorem dX12_readLine_77 : decode cX12_readLine 77 = .ok (.iconst 1, 1) := by decide +kernel
theorem dX12_readLine_78 : decode cX12_readLine 78 = .ok (.if_icmp .ne 16, 3) := by decide +kernel
theorem dX12_readLine_94 : decode cX12_readLine 94 = .ok (.aload_n 0, 1) := by decide +kernel
theorem dX12_readLine_95 : decode cX12_readLine 95 = .ok (.getfield 140, 3) := by decide +kernel
theorem dX12_readLine_98 : decode cX12_readLine 98 = .ok (.iload_n 1, 1) := by decide +kernel
theorem dX12_readLine_99 : decode cX12_readLine 99 = .ok (.iaload, 1) := by decide +kernel
theorem dX12_readLine_100 : decode cX12_readLine 100 = .ok (.iconst 2, 1) := by decide +kernel
theorem dX12_readLine_101 : decode cX12_readLine 101 = .ok (.if_icmp .ne 19, 3) := by decide +kernel
theorem dX12_readLine_120 : decode cX12_readLine 120 = .ok (.aload_n 0, 1) := by decide +kernel
theorem dX12_readLine_121 : decode cX12_readLine 121 = .ok (.getfield 143, 3) := by decide +kernel
theorem dX12_readLine_124 : decode cX12_readLine 124 = .ok (.iload_n 1, 1) := by decide +kernel
theorem dX12_readLine_125 : decode cX12_readLine 125 = .ok (.aload_n 0, 1) := by decide +kernel
theorem dX12_readLine_126 : decode cX12_readLine 126 = .ok (.bipush 12, 2) := by decide +kernel
theorem dX12_readLine_128 : decode cX12_readLine 128 = .ok (.invokevirtual 330, 3) := by decide +kernel
theorem dX12_readLine_131 : decode cX12_readLine 131 = .ok (.ifCond .eq 7, 3) := by decide +kernel
theorem dX12_readLine_138 : decode cX12_readLine 138 = .ok (.aload_n 0, 1) := by decide +kernel
theorem dX12_readLine_139 : decode cX12_readLine 139 = .ok (.bipush 13, 2) := by decide +kernel
theorem dX12_readLine_141 : decode cX12_readLine 141 = .ok (.invokevirtual 330, 3) := by decide +kernel
theorem dX12_readLine_144 : decode cX12_readLine 144 = .ok (.ifCond .eq 7, 3) := by decide +kernel
theorem dX12_readLine_151 : decode cX12_readLine 151 = .ok (.iconst 1, 1) := by decide +kernel
theorem dX12_readLine_152 : decode cX12_readLine 152 = .ok (.iastore, 1) := by decide +kernel
theorem dX12_readLine_153 : decode cX12_readLine 153 = .ok (.aload_n 0, 1) := by decide +kernel
theorem dX12_readLine_154 : decode cX12_readLine 154 = .ok (.getfield 143, 3) := by decide +kernel
theorem dX12_readLine_157 : decode cX12_readLine 157 = .ok (.iload_n 1, 1) := by decide +kernel
theorem dX12_readLine_158 : decode cX12_readLine 158 = .ok (.iaload, 1) := by decide +kernel
theorem dX12_readLine_159 : decode cX12_readLine 159 = .ok (.iconst 1, 1) := by decide +kernel
theorem dX12_readLine_160 : decode cX12_readLine 160 = .ok (.if_icmp .ne 17, 3) := by decide +kernel
theorem dX12_readLine_163 : decode cX12_readLine 163 = .ok (.aload_n 0, 1) := by decide +kernel
theorem dX12_readLine_164 : decode cX12_readLine 164 = .ok (.bipush 14, 2) := by decide +kernel
theorem dX12_readLine_166 : decode cX12_readLine 166 = .ok (.invokevirtual 330, 3) := by decide +kernel
theorem dX12_readLine_169 : decode cX12_readLine 169 = .ok (.ifCond .ne 8, 3) := by decide +kernel
theorem dX12_readLine_177 : decode cX12_readLine 177 = .ok (.aload_n 0, 1) := by decide +kernel
theorem dX12_readLine_178 : decode cX12_readLine 178 = .ok (.dup, 1) := by decide +kernel
theorem dX12_readLine_179 : decode cX12_readLine 179 = .ok (.getfield 317, 3) := by decide +kernel
theorem dX12_readLine_182 : decode cX12_readLine 182 = .ok (.iconst 1, 1) := by decide +kernel
theorem dX12_readLine_183 : decode cX12_readLine 183 = .ok (.iadd, 1) := by decide +kernel
theorem dX12_readLine_184 : decode cX12_readLine 184 = .ok (.putfield 317, 3) := by decide +kernel
theorem dX12_readLine_187 : decode cX12_readLine 187 = .ok (.aload_n 0, 1) := by decide +kernel
theorem dX12_readLine_188 : decode cX12_readLine 188 = .ok (.bipush 11, 2) := by decide +kernel
theorem dX12_readLine_190 : decode cX12_readLine 190 = .ok (.invokevirtual 387, 3) := by decide +kernel
theorem dX12_readLine_193 : decode cX12_readLine 193 = .ok (.aload_n 0, 1) := by decide +kernel
theorem dX12_readLine_194 : decode cX12_readLine 194 = .ok (.getfield 146, 3) := by decide +kernel
theorem dX12_readLine_197 : decode cX12_readLine 197 = .ok (.iload_n 1, 1) := by decide +kernel
theorem dX12_readLine_198 : decode cX12_readLine 198 = .ok (.sipush 12800, 3) := by decide +kernel
theorem dX12_readLine_201 : decode cX12_readLine 201 = .ok (.aload_n 0, 1) := by decide +kernel
theorem dX12_readLine_202 : decode cX12_readLine 202 = .ok (.getfield 336, 3) := by decide +kernel
theorem dX12_readLine_205 : decode cX12_readLine 205 = .ok (.iadd, 1) := by decide +kernel
theorem dX12_readLine_206 : decode cX12_readLine 206 = .ok (.iastore, 1) := by decide +kernel
theorem dX12_readLine_207 : decode cX12_readLine 207 = .ok (.aload_n 0, 1) := by decide +kernel
theorem dX12_readLine_208 : decode cX12_readLine 208 = .ok (.iconst 0, 1) := by decide +kernel
theorem dX12_readLine_209 : decode cX12_readLine 209 = .ok (.invokevirtual 392, 3) := by decide +kernel
theorem dX12_readLine_212 : decode cX12_readLine 212 = .ok (.aload_n 0, 1) := by decide +kernel
theorem dX12_readLine_213 : decode cX12_readLine 213 = .ok (.iconst 0, 1) := by decide +kernel
theorem dX12_readLine_214 : decode cX12_readLine 214 = .ok (.iconst 0, 1) := by decide +kernel
theorem dX12_readLine_215 : decode cX12_readLine 215 = .ok (.invokevirtual 395, 3) := by decide +kernel
theorem dX12_readLine_218 : decode cX12_readLine 218 = .ok (.aload_n 0, 1) := by decide +kernel
theorem dX12_readLine_219 : decode cX12_readLine 219 = .ok (.getfield 137, 3) := by decide +kernel
theorem dX12_readLine_222 : decode cX12_readLine 222 = .ok (.bipush 8, 2) := by decide +kernel
theorem dX12_readLine_224 : decode cX12_readLine 224 = .ok (.dup2, 1) := by decide +kernel
theorem dX12_readLine_225 : decode cX12_readLine 225 = .ok (.iaload, 1) := by decide +kernel
theorem dX12_readLine_226 : decode cX12_readLine 226 = .ok (.iconst 1, 1) := by decide +kernel
theorem dX12_readLine_227 : decode cX12_readLine 227 = .ok (.iadd, 1) := by decide +kernel
theorem dX12_readLine_228 : decode cX12_readLine 228 = .ok (.iastore, 1) := by decide +kernel
theorem dX12_readLine_229 : decode cX12_readLine 229 = .ok (.return_, 1) := by decide +kernel
theorem dX12_readLine_172 : decode cX12_readLine 172 = .ok (.aload_n 0, 1) := by decide +kernel
theorem dX12_readLine_173 : decode cX12_readLine 173 = .ok (.iconst 1, 1) := by decide +kernel
theorem dX12_readLine_174 : decode cX12_readLine 174 = .ok (.invokevirtual 326, 3) := by decide +kernel
theorem dX12_readLine_147 : decode cX12_readLine 147 = .ok (.iconst 2, 1) := by decide +kernel
theorem dX12_readLine_148 : decode cX12_readLine 148 = .ok (.goto 4, 3) := by decide +kernel
theorem dX12_readLine_134 : decode cX12_readLine 134 = .ok (.iconst 3, 1) := by decide +kernel
theorem dX12_readLine_135 : decode cX12_readLine 135 = .ok (.goto 17, 3) := by decide +kernel
theorem dX12_readLine_55 : decode cX12_readLine 55 = .ok (.iconst 2, 1) := by decide +kernel
theorem dX12_readLine_56 : decode cX12_readLine 56 = .ok (.goto 4, 3) := by decide +kernel
theorem dX12_readLine_104 : decode cX12_readLine 104 = .ok (.aload_n 0, 1) := by decide +kernel
theorem dX12_readLine_105 : decode cX12_readLine 105 = .ok (.getfield 143, 3) := by decide +kernel
theorem dX12_readLine_108 : decode cX12_readLine 108 = .ok (.iload_n 1, 1) := by decide +kernel
theorem dX12_readLine_109 : decode cX12_readLine 109 = .ok (.aload_n 0, 1) := by decide +kernel
theorem dX12_readLine_110 : decode cX12_readLine 110 = .ok (.iconst 1, 1) := by decide +kernel
theorem dX12_readLine_111 : decode cX12_readLine 111 = .ok (.bipush 99, 2) := by decide +kernel
theorem dX12_readLine_113 : decode cX12_readLine 113 = .ok (.invokevirtual 383, 3) := by decide +kernel
theorem dX12_readLine_116 : decode cX12_readLine 116 = .ok (.iastore, 1) := by decide +kernel
theorem dX12_readLine_117 : decode cX12_readLine 117 = .ok (.goto 70, 3) := by decide +kernel
theorem dX12_readLine_43 : decode cX12_readLine 43 = .ok (.iconst 1, 1) := by decide +kernel
theorem dX12_readLine_44 : decode cX12_readLine 44 = .ok (.goto 16, 3) := by decide +kernel
theorem dX12_readLine_81 : decode cX12_readLine 81 = .ok (.aload_n 0, 1) := by decide +kernel
theorem dX12_readLine_82 : decode cX12_readLine 82 = .ok (.getfield 143, 3) := by decide +kernel
theorem dX12_readLine_85 : decode cX12_readLine 85 = .ok (.iload_n 1, 1) := by decide +kernel
theorem dX12_readLine_86 : decode cX12_readLine 86 = .ok (.aload_n 0, 1) := by decide +kernel
theorem dX12_readLine_87 : decode cX12_readLine 87 = .ok (.invokevirtual 374, 3) := by decide +kernel
theorem dX12_readLine_90 : decode cX12_readLine 90 = .ok (.iastore, 1) := by decide +kernel
theorem dX12_readLine_91 : decode cX12_readLine 91 = .ok (.goto 96, 3) := by decide +kernel
theorem dX12_readLine_12 : decode cX12_readLine 12 = .ok (.aload_n 0, 1) := by decide +kernel
theorem dX12_readLine_13 : decode cX12_readLine 13 = .ok (.iconst 5, 1) := by decide +kernel
theorem dX12_readLine_14 : decode cX12_readLine 14 = .ok (.invokevirtual 326, 3) := by decide +kernel
theorem dX12_readLine_17 : decode cX12_readLine 17 = .ok (.return_, 1) := by decide +kernel
abbrev cX12_readNext : ByteArray := prog_14_method_25_code
def yX12_readNext : MethodName := ⟨RX12, "readNext", "()V"⟩
theorem okX12_readNext : yok yX12_readNext 0 := by decide +kernel
theorem dX12_readNext_0 : decode cX12_readNext 0 = .ok (.aload_n 0, 1) := by decide +kernel
theorem dX12_readNext_1 : decode cX12_readNext 1 = .ok (.iconst 0, 1) := by decide +kernel
theorem dX12_readNext_2 : decode cX12_readNext 2 = .ok (.invokevirtual 330, 3) := by decide +kernel
theorem dX12_readNext_5 : decode cX12_readNext 5 = .ok (.ifCond .eq 10, 3) := by decide +kernel
theorem dX12_readNext_15 : decode cX12_readNext 15 = .ok (.aload_n 0, 1) := by decide +kernel
theorem dX12_readNext_16 : decode cX12_readNext 16 = .ok (.iconst 1, 1) := by decide +kernel
theorem dX12_readNext_17 : decode cX12_readNext 17 = .ok (.invokevirtual 330, 3) := by decide +kernel
theorem dX12_readNext_20 : decode cX12_readNext 20 = .ok (.ifCond .ne 19, 3) := by decide +kernel
theorem dX12_readNext_39 : decode cX12_readNext 39 = .ok (.aload_n 0, 1) := by decide +kernel
theorem dX12_readNext_40 : decode cX12_readNext 40 = .ok (.invokevirtual 368, 3) := by decide +kernel
theorem kw_1834 : Cond.code yX12_readLine prog_14_method_29_code 2 none ∈ uu := uu_in (i := 1834) (by decide +kernel) (by decide +kernel)
theorem kw_1831 : Cond.methodLink "LandSurveyModel" 368 yX12_readLine ∈ uu := uu_in (i := 1831) (by decide +kernel) (by decide +kernel)
theorem kw_1833 : Cond.instanceMethod yX12_readLine ∈ uu := uu_in (i := 1833) (by decide +kernel) (by decide +kernel)
theorem kw_75 : Cond.selects "LandSurveyModel" yX12_readLine yX12_readLine ∈ uu := uu_in (i := 75) (by decide +kernel) (by decide +kernel)
theorem lk_LandSurveyModel_368 : lkV "LandSurveyModel" 368 yX12_readLine cX12_readLine 2 none 0 := ⟨kw_1831, kw_1833, kw_75, kw_152, kw_1834, okX12_readLine⟩
theorem dX12_readNext_43 : decode cX12_readNext 43 = .ok (.goto 141, 3) := by decide +kernel
theorem dX12_readNext_184 : decode cX12_readNext 184 = .ok (.aload_n 0, 1) := by decide +kernel
theorem dX12_readNext_185 : decode cX12_readNext 185 = .ok (.bipush 59, 2) := by decide +kernel
theorem dX12_readNext_187 : decode cX12_readNext 187 = .ok (.invokevirtual 380, 3) := by decide +kernel
theorem dX12_readNext_190 : decode cX12_readNext 190 = .ok (.return_, 1) := by decide +kernel
theorem dX12_readNext_23 : decode cX12_readNext 23 = .ok (.aload_n 0, 1) := by decide +kernel
theorem dX12_readNext_24 : decode cX12_readNext 24 = .ok (.iconst 2, 1) := by decide +kernel
theorem dX12_readNext_25 : decode cX12_readNext 25 = .ok (.invokevirtual 330, 3) := by decide +kernel
theorem dX12_readNext_28 : decode cX12_readNext 28 = .ok (.ifCond .ne 11, 3) := by decide +kernel
theorem dX12_readNext_31 : decode cX12_readNext 31 = .ok (.aload_n 0, 1) := by decide +kernel
theorem dX12_readNext_32 : decode cX12_readNext 32 = .ok (.iconst 3, 1) := by decide +kernel
theorem dX12_readNext_33 : decode cX12_readNext 33 = .ok (.invokevirtual 330, 3) := by decide +kernel
theorem dX12_readNext_36 : decode cX12_readNext 36 = .ok (.ifCond .eq 10, 3) := by decide +kernel
theorem dX12_readNext_46 : decode cX12_readNext 46 = .ok (.aload_n 0, 1) := by decide +kernel
theorem dX12_readNext_47 : decode cX12_readNext 47 = .ok (.iconst 4, 1) := by decide +kernel
theorem dX12_readNext_48 : decode cX12_readNext 48 = .ok (.invokevirtual 330, 3) := by decide +kernel
theorem dX12_readNext_51 : decode cX12_readNext 51 = .ok (.ifCond .ne 11, 3) := by decide +kernel
theorem dX12_readNext_62 : decode cX12_readNext 62 = .ok (.aload_n 0, 1) := by decide +kernel
theorem dX12_readNext_63 : decode cX12_readNext 63 = .ok (.invokevirtual 371, 3) := by decide +kernel
theorem kw_1874 : Cond.code yX12_readBound prog_14_method_27_code 3 none ∈ uu := uu_in (i := 1874) (by decide +kernel) (by decide +kernel)
theorem kw_1871 : Cond.methodLink "LandSurveyModel" 371 yX12_readBound ∈ uu := uu_in (i := 1871) (by decide +kernel) (by decide +kernel)
theorem kw_1873 : Cond.instanceMethod yX12_readBound ∈ uu := uu_in (i := 1873) (by decide +kernel) (by decide +kernel)
theorem kw_85 : Cond.selects "LandSurveyModel" yX12_readBound yX12_readBound ∈ uu := uu_in (i := 85) (by decide +kernel) (by decide +kernel)
theorem lk_LandSurveyModel_371 : lkV "LandSurveyModel" 371 yX12_readBound cX12_readBound 3 none 0 := ⟨kw_1871, kw_1873, kw_85, kw_152, kw_1874, okX12_readBound⟩
theorem dX12_readNext_66 : decode cX12_readNext 66 = .ok (.goto 118, 3) := by decide +kernel
theorem dX12_readNext_54 : decode cX12_readNext 54 = .ok (.aload_n 0, 1) := by decide +kernel
theorem dX12_readNext_55 : decode cX12_readNext 55 = .ok (.iconst 5, 1) := by decide +kernel
theorem dX12_readNext_56 : decode cX12_readNext 56 = .ok (.invokevirtual 330, 3) := by decide +kernel
theorem dX12_readNext_59 : decode cX12_readNext 59 = .ok (.ifCond .eq 10, 3) := by decide +kernel
theorem dX12_readNext_69 : decode cX12_readNext 69 = .ok (.aload_n 0, 1) := by decide +kernel
theorem dX12_readNext_70 : decode cX12_readNext 70 = .ok (.bipush 6, 2) := by decide +kernel
theorem dX12_readNext_72 : decode cX12_readNext 72 = .ok (.invokevirtual 330, 3) := by decide +kernel
theorem dX12_readNext_75 : decode cX12_readNext 75 = .ok (.ifCond .ne 12, 3) := by decide +kernel
theorem dX12_readNext_87 : decode cX12_readNext 87 = .ok (.aload_n 0, 1) := by decide +kernel
theorem dX12_readNext_88 : decode cX12_readNext 88 = .ok (.bipush 7, 2) := by decide +kernel
theorem dX12_readNext_90 : decode cX12_readNext 90 = .ok (.invokevirtual 330, 3) := by decide +kernel
theorem dX12_readNext_93 : decode cX12_readNext 93 = .ok (.istore_n 1, 1) := by decide +kernel
theorem dX12_readNext_94 : decode cX12_readNext 94 = .ok (.aload_n 0, 1) := by decide +kernel
theorem dX12_readNext_95 : decode cX12_readNext 95 = .ok (.dup, 1) := by decide +kernel
theorem dX12_readNext_96 : decode cX12_readNext 96 = .ok (.getfield 317, 3) := by decide +kernel
theorem dX12_readNext_99 : decode cX12_readNext 99 = .ok (.iconst 1, 1) := by decide +kernel
theorem dX12_readNext_100 : decode cX12_readNext 100 = .ok (.iadd, 1) := by decide +kernel
theorem dX12_readNext_101 : decode cX12_readNext 101 = .ok (.putfield 317, 3) := by decide +kernel
theorem dX12_readNext_104 : decode cX12_readNext 104 = .ok (.bipush 80, 2) := by decide +kernel
theorem dX12_readNext_106 : decode cX12_readNext 106 = .ok (.aload_n 0, 1) := by decide +kernel
theorem dX12_readNext_107 : decode cX12_readNext 107 = .ok (.invokevirtual 374, 3) := by decide +kernel
theorem dX12_readNext_110 : decode cX12_readNext 110 = .ok (.iadd, 1) := by decide +kernel
theorem dX12_readNext_111 : decode cX12_readNext 111 = .ok (.istore_n 2, 1) := by decide +kernel
theorem dX12_readNext_112 : decode cX12_readNext 112 = .ok (.aload_n 0, 1) := by decide +kernel
theorem dX12_readNext_113 : decode cX12_readNext 113 = .ok (.getfield 116, 3) := by decide +kernel
theorem kw_1523 : Cond.fieldLink "LandSurveyModel" 116 "LandSurveyModel" "isTight" "[Z" ∈ uu := uu_in (i := 1523) (by decide +kernel) (by decide +kernel)
theorem fk_LandSurveyModel_116 : fkR "LandSurveyModel" 116 11 17 RX12 TX12 87 := ⟨rfl, rfl, inX12, by decide, kw_1523, by decide⟩
theorem dX12_readNext_116 : decode cX12_readNext 116 = .ok (.iload_n 2, 1) := by decide +kernel
theorem dX12_readNext_117 : decode cX12_readNext 117 = .ok (.aload_n 0, 1) := by decide +kernel
theorem dX12_readNext_118 : decode cX12_readNext 118 = .ok (.getfield 116, 3) := by decide +kernel
theorem dX12_readNext_121 : decode cX12_readNext 121 = .ok (.iload_n 2, 1) := by decide +kernel
theorem dX12_readNext_122 : decode cX12_readNext 122 = .ok (.baload, 1) := by decide +kernel
theorem dX12_readNext_123 : decode cX12_readNext 123 = .ok (.ifCond .ne 7, 3) := by decide +kernel
theorem dX12_readNext_130 : decode cX12_readNext 130 = .ok (.iconst 1, 1) := by decide +kernel
theorem dX12_readNext_131 : decode cX12_readNext 131 = .ok (.goto 4, 3) := by decide +kernel
theorem dX12_readNext_135 : decode cX12_readNext 135 = .ok (.bastore, 1) := by decide +kernel
theorem dX12_readNext_136 : decode cX12_readNext 136 = .ok (.aload_n 0, 1) := by decide +kernel
theorem dX12_readNext_137 : decode cX12_readNext 137 = .ok (.getfield 112, 3) := by decide +kernel
theorem kw_1522 : Cond.fieldLink "LandSurveyModel" 112 "LandSurveyModel" "isHolding" "[Z" ∈ uu := uu_in (i := 1522) (by decide +kernel) (by decide +kernel)
theorem fk_LandSurveyModel_112 : fkR "LandSurveyModel" 112 11 16 RX12 TX12 87 := ⟨rfl, rfl, inX12, by decide, kw_1522, by decide⟩
theorem dX12_readNext_140 : decode cX12_readNext 140 = .ok (.iload_n 2, 1) := by decide +kernel
theorem dX12_readNext_141 : decode cX12_readNext 141 = .ok (.aload_n 0, 1) := by decide +kernel
theorem dX12_readNext_142 : decode cX12_readNext 142 = .ok (.getfield 112, 3) := by decide +kernel
theorem dX12_readNext_145 : decode cX12_readNext 145 = .ok (.iload_n 2, 1) := by decide +kernel
theorem dX12_readNext_146 : decode cX12_readNext 146 = .ok (.baload, 1) := by decide +kernel
theorem dX12_readNext_147 : decode cX12_readNext 147 = .ok (.ifCond .ne 7, 3) := by decide +kernel
theorem dX12_readNext_154 : decode cX12_readNext 154 = .ok (.iconst 1, 1) := by decide +kernel
theorem dX12_readNext_155 : decode cX12_readNext 155 = .ok (.goto 4, 3) := by decide +kernel
theorem dX12_readNext_159 : decode cX12_readNext 159 = .ok (.bastore, 1) := by decide +kernel
theorem dX12_readNext_160 : decode cX12_readNext 160 = .ok (.goto 24, 3) := by decide +kernel
theorem dX12_readNext_150 : decode cX12_readNext 150 = .ok (.iload_n 1, 1) := by decide +kernel
theorem dX12_readNext_151 : decode cX12_readNext 151 = .ok (.ifCond .ne 7, 3) := by decide +kernel
theorem dX12_readNext_158 : decode cX12_readNext 158 = .ok (.iconst 0, 1) := by decide +kernel
theorem dX12_readNext_126 : decode cX12_readNext 126 = .ok (.iload_n 1, 1) := by decide +kernel
theorem dX12_readNext_127 : decode cX12_readNext 127 = .ok (.ifCond .eq 7, 3) := by decide +kernel
theorem dX12_readNext_134 : decode cX12_readNext 134 = .ok (.iconst 0, 1) := by decide +kernel
theorem dX12_readNext_78 : decode cX12_readNext 78 = .ok (.aload_n 0, 1) := by decide +kernel
theorem dX12_readNext_79 : decode cX12_readNext 79 = .ok (.bipush 7, 2) := by decide +kernel
theorem dX12_readNext_81 : decode cX12_readNext 81 = .ok (.invokevirtual 330, 3) := by decide +kernel
theorem dX12_readNext_84 : decode cX12_readNext 84 = .ok (.ifCond .eq 79, 3) := by decide +kernel
theorem dX12_readNext_163 : decode cX12_readNext 163 = .ok (.aload_n 0, 1) := by decide +kernel
theorem dX12_readNext_164 : decode cX12_readNext 164 = .ok (.bipush 8, 2) := by decide +kernel
theorem dX12_readNext_166 : decode cX12_readNext 166 = .ok (.invokevirtual 330, 3) := by decide +kernel
theorem dX12_readNext_169 : decode cX12_readNext 169 = .ok (.ifCond .eq 10, 3) := by decide +kernel
theorem dX12_readNext_179 : decode cX12_readNext 179 = .ok (.aload_n 0, 1) := by decide +kernel
theorem dX12_readNext_180 : decode cX12_readNext 180 = .ok (.iconst 1, 1) := by decide +kernel
theorem dX12_readNext_181 : decode cX12_readNext 181 = .ok (.invokevirtual 326, 3) := by decide +kernel
theorem dX12_readNext_172 : decode cX12_readNext 172 = .ok (.aload_n 0, 1) := by decide +kernel
theorem dX12_readNext_173 : decode cX12_readNext 173 = .ok (.invokevirtual 377, 3) := by decide +kernel
theorem kw_1878 : Cond.code yX12_readRemain prog_14_method_28_code 5 none ∈ uu := uu_in (i := 1878) (by decide +kernel) (by decide +kernel)
theorem kw_1875 : Cond.methodLink "LandSurveyModel" 377 yX12_readRemain ∈ uu := uu_in (i := 1875) (by decide +kernel) (by decide +kernel)
theorem kw_1877 : Cond.instanceMethod yX12_readRemain ∈ uu := uu_in (i := 1877) (by decide +kernel) (by decide +kernel)
theorem kw_86 : Cond.selects "LandSurveyModel" yX12_readRemain yX12_readRemain ∈ uu := uu_in (i := 86) (by decide +kernel) (by decide +kernel)
theorem lk_LandSurveyModel_377 : lkV "LandSurveyModel" 377 yX12_readRemain cX12_readRemain 5 none 0 := ⟨kw_1875, kw_1877, kw_86, kw_152, kw_1878, okX12_readRemain⟩
theorem dX12_readNext_176 : decode cX12_readNext 176 = .ok (.goto 8, 3) := by decide +kernel
theorem dX12_readNext_8 : decode cX12_readNext 8 = .ok (.aload_n 0, 1) := by decide +kernel
theorem dX12_readNext_9 : decode cX12_readNext 9 = .ok (.invokevirtual 365, 3) := by decide +kernel
theorem kw_1806 : Cond.code yX12_readRock prog_14_method_26_code 2 none ∈ uu := uu_in (i := 1806) (by decide +kernel) (by decide +kernel)
theorem kw_1803 : Cond.methodLink "LandSurveyModel" 365 yX12_readRock ∈ uu := uu_in (i := 1803) (by decide +kernel) (by decide +kernel)
theorem kw_1805 : Cond.instanceMethod yX12_readRock ∈ uu := uu_in (i := 1805) (by decide +kernel) (by decide +kernel)
theorem kw_68 : Cond.selects "LandSurveyModel" yX12_readRock yX12_readRock ∈ uu := uu_in (i := 68) (by decide +kernel) (by decide +kernel)
theorem lk_LandSurveyModel_365 : lkV "LandSurveyModel" 365 yX12_readRock cX12_readRock 2 none 0 := ⟨kw_1803, kw_1805, kw_68, kw_152, kw_1806, okX12_readRock⟩
theorem dX12_readNext_12 : decode cX12_readNext 12 = .ok (.goto 172, 3) := by decide +kernel
abbrev cX12_begins : ByteArray := prog_14_method_19_code
def yX12_begins : MethodName := ⟨RX12, "begins", "()V"⟩
theorem okX12_begins : yok yX12_begins 0 := by decide +kernel
theorem dX12_begins_0 : decode cX12_begins 0 = .ok (.aload_n 0, 1) := by decide +kernel
theorem dX12_begins_1 : decode cX12_begins 1 = .ok (.getfield 100, 3) := by decide +kernel
theorem dX12_begins_4 : decode cX12_begins 4 = .ok (.bipush 8, 2) := by decide +kernel
theorem dX12_begins_6 : decode cX12_begins 6 = .ok (.iconst 0, 1) := by decide +kernel
theorem dX12_begins_7 : decode cX12_begins 7 = .ok (.iastore, 1) := by decide +kernel
theorem dX12_begins_8 : decode cX12_begins 8 = .ok (.aload_n 0, 1) := by decide +kernel
theorem dX12_begins_9 : decode cX12_begins 9 = .ok (.getfield 119, 3) := by decide +kernel
theorem dX12_begins_12 : decode cX12_begins 12 = .ok (.bipush 8, 2) := by decide +kernel
theorem dX12_begins_14 : decode cX12_begins 14 = .ok (.iconst 0, 1) := by decide +kernel
theorem dX12_begins_15 : decode cX12_begins 15 = .ok (.bastore, 1) := by decide +kernel
theorem dX12_begins_16 : decode cX12_begins 16 = .ok (.aload_n 0, 1) := by decide +kernel
theorem dX12_begins_17 : decode cX12_begins 17 = .ok (.getfield 122, 3) := by decide +kernel
theorem dX12_begins_20 : decode cX12_begins 20 = .ok (.bipush 8, 2) := by decide +kernel
theorem dX12_begins_22 : decode cX12_begins 22 = .ok (.bipush 10, 2) := by decide +kernel
theorem dX12_begins_24 : decode cX12_begins 24 = .ok (.iastore, 1) := by decide +kernel
theorem dX12_begins_25 : decode cX12_begins 25 = .ok (.aload_n 0, 1) := by decide +kernel
theorem dX12_begins_26 : decode cX12_begins 26 = .ok (.getfield 125, 3) := by decide +kernel
theorem dX12_begins_29 : decode cX12_begins 29 = .ok (.bipush 8, 2) := by decide +kernel
theorem dX12_begins_31 : decode cX12_begins 31 = .ok (.iconst 0, 1) := by decide +kernel
theorem dX12_begins_32 : decode cX12_begins 32 = .ok (.bastore, 1) := by decide +kernel
theorem dX12_begins_33 : decode cX12_begins 33 = .ok (.aload_n 0, 1) := by decide +kernel
theorem dX12_begins_34 : decode cX12_begins 34 = .ok (.getfield 128, 3) := by decide +kernel
theorem dX12_begins_37 : decode cX12_begins 37 = .ok (.bipush 8, 2) := by decide +kernel
theorem dX12_begins_39 : decode cX12_begins 39 = .ok (.bipush 20, 2) := by decide +kernel
theorem dX12_begins_41 : decode cX12_begins 41 = .ok (.iastore, 1) := by decide +kernel
theorem dX12_begins_42 : decode cX12_begins 42 = .ok (.aload_n 0, 1) := by decide +kernel
theorem dX12_begins_43 : decode cX12_begins 43 = .ok (.getfield 137, 3) := by decide +kernel
theorem dX12_begins_46 : decode cX12_begins 46 = .ok (.bipush 8, 2) := by decide +kernel
theorem dX12_begins_48 : decode cX12_begins 48 = .ok (.iconst 0, 1) := by decide +kernel
theorem dX12_begins_49 : decode cX12_begins 49 = .ok (.iastore, 1) := by decide +kernel
theorem dX12_begins_50 : decode cX12_begins 50 = .ok (.aload_n 0, 1) := by decide +kernel
theorem dX12_begins_51 : decode cX12_begins 51 = .ok (.iconst 0, 1) := by decide +kernel
theorem dX12_begins_52 : decode cX12_begins 52 = .ok (.putfield 336, 3) := by decide +kernel
theorem dX12_begins_55 : decode cX12_begins 55 = .ok (.bipush 80, 2) := by decide +kernel
theorem dX12_begins_57 : decode cX12_begins 57 = .ok (.istore_n 1, 1) := by decide +kernel
theorem dX12_begins_58 : decode cX12_begins 58 = .ok (.iload_n 1, 1) := by decide +kernel
theorem dX12_begins_59 : decode cX12_begins 59 = .ok (.bipush 90, 2) := by decide +kernel
theorem dX12_begins_61 : decode cX12_begins 61 = .ok (.if_icmp .ge 30, 3) := by decide +kernel
theorem dX12_begins_91 : decode cX12_begins 91 = .ok (.return_, 1) := by decide +kernel
theorem dX12_begins_64 : decode cX12_begins 64 = .ok (.aload_n 0, 1) := by decide +kernel
theorem dX12_begins_65 : decode cX12_begins 65 = .ok (.getfield 131, 3) := by decide +kernel
theorem dX12_begins_68 : decode cX12_begins 68 = .ok (.iload_n 1, 1) := by decide +kernel
theorem dX12_begins_69 : decode cX12_begins 69 = .ok (.iconst (-1), 1) := by decide +kernel
theorem dX12_begins_70 : decode cX12_begins 70 = .ok (.iastore, 1) := by decide +kernel
theorem dX12_begins_71 : decode cX12_begins 71 = .ok (.aload_n 0, 1) := by decide +kernel
theorem dX12_begins_72 : decode cX12_begins 72 = .ok (.getfield 112, 3) := by decide +kernel
theorem dX12_begins_75 : decode cX12_begins 75 = .ok (.iload_n 1, 1) := by decide +kernel
theorem dX12_begins_76 : decode cX12_begins 76 = .ok (.iconst 0, 1) := by decide +kernel
theorem dX12_begins_77 : decode cX12_begins 77 = .ok (.bastore, 1) := by decide +kernel
theorem dX12_begins_78 : decode cX12_begins 78 = .ok (.aload_n 0, 1) := by decide +kernel
theorem dX12_begins_79 : decode cX12_begins 79 = .ok (.getfield 116, 3) := by decide +kernel
theorem dX12_begins_82 : decode cX12_begins 82 = .ok (.iload_n 1, 1) := by decide +kernel
theorem dX12_begins_83 : decode cX12_begins 83 = .ok (.iconst 0, 1) := by decide +kernel
theorem dX12_begins_84 : decode cX12_begins 84 = .ok (.bastore, 1) := by decide +kernel
theorem dX12_begins_85 : decode cX12_begins 85 = .ok (.iinc 1 1, 3) := by decide +kernel
theorem dX12_begins_88 : decode cX12_begins 88 = .ok (.goto (-30), 3) := by decide +kernel
abbrev cX12_cutAll : ByteArray := prog_14_method_9_code
def yX12_cutAll : MethodName := ⟨RX12, "cutAll", "()V"⟩
theorem okX12_cutAll : yok yX12_cutAll 0 := by decide +kernel
theorem kw_1509 : Cond.fieldLink "LandSurveyModel" 298 "LandSurveyModel" "size" "I" ∈ uu := uu_in (i := 1509) (by decide +kernel) (by decide +kernel)
theorem fk_LandSurveyModel_298 : fkI "LandSurveyModel" 298 11 3 RX12 TX12 87 := ⟨rfl, rfl, inX12, by decide, kw_1509, by decide⟩
theorem dX12_cutAll_0 : decode cX12_cutAll 0 = .ok (.aload_n 0, 1) := by decide +kernel
theorem dX12_cutAll_1 : decode cX12_cutAll 1 = .ok (.aload_n 0, 1) := by decide +kernel
theorem dX12_cutAll_2 : decode cX12_cutAll 2 = .ok (.getfield 11, 3) := by decide +kernel
theorem dX12_cutAll_5 : decode cX12_cutAll 5 = .ok (.putfield 298, 3) := by decide +kernel
theorem pk_LandSurveyModel_3 : pk RX12 TX12 87 3 tyX12 false := ⟨tyX12_ok, nmX12, rfl⟩
theorem dX12_cutAll_8 : decode cX12_cutAll 8 = .ok (.aload_n 0, 1) := by decide +kernel
theorem dX12_cutAll_9 : decode cX12_cutAll 9 = .ok (.iconst 0, 1) := by decide +kernel
theorem dX12_cutAll_10 : decode cX12_cutAll 10 = .ok (.putfield 11, 3) := by decide +kernel
theorem dX12_cutAll_13 : decode cX12_cutAll 13 = .ok (.iconst 0, 1) := by decide +kernel
theorem dX12_cutAll_14 : decode cX12_cutAll 14 = .ok (.istore_n 1, 1) := by decide +kernel
theorem dX12_cutAll_15 : decode cX12_cutAll 15 = .ok (.iconst 0, 1) := by decide +kernel
theorem dX12_cutAll_16 : decode cX12_cutAll 16 = .ok (.istore_n 2, 1) := by decide +kernel
theorem dX12_cutAll_17 : decode cX12_cutAll 17 = .ok (.iload_n 2, 1) := by decide +kernel
theorem dX12_cutAll_18 : decode cX12_cutAll 18 = .ok (.aload_n 0, 1) := by decide +kernel
theorem dX12_cutAll_19 : decode cX12_cutAll 19 = .ok (.getfield 298, 3) := by decide +kernel
theorem dX12_cutAll_22 : decode cX12_cutAll 22 = .ok (.if_icmp .ge 257, 3) := by decide +kernel
theorem dX12_cutAll_279 : decode cX12_cutAll 279 = .ok (.aload_n 0, 1) := by decide +kernel
theorem dX12_cutAll_280 : decode cX12_cutAll 280 = .ok (.getfield 24, 3) := by decide +kernel
theorem dX12_cutAll_283 : decode cX12_cutAll 283 = .ok (.iload_n 1, 1) := by decide +kernel
theorem dX12_cutAll_284 : decode cX12_cutAll 284 = .ok (.iconst 0, 1) := by decide +kernel
theorem dX12_cutAll_285 : decode cX12_cutAll 285 = .ok (.iastore, 1) := by decide +kernel
theorem dX12_cutAll_286 : decode cX12_cutAll 286 = .ok (.aload_n 0, 1) := by decide +kernel
theorem dX12_cutAll_287 : decode cX12_cutAll 287 = .ok (.getfield 27, 3) := by decide +kernel
theorem dX12_cutAll_290 : decode cX12_cutAll 290 = .ok (.iload_n 1, 1) := by decide +kernel
theorem dX12_cutAll_291 : decode cX12_cutAll 291 = .ok (.aload_n 0, 1) := by decide +kernel
theorem dX12_cutAll_292 : decode cX12_cutAll 292 = .ok (.getfield 298, 3) := by decide +kernel
theorem dX12_cutAll_295 : decode cX12_cutAll 295 = .ok (.iastore, 1) := by decide +kernel
theorem dX12_cutAll_296 : decode cX12_cutAll 296 = .ok (.aload_n 0, 1) := by decide +kernel
theorem dX12_cutAll_297 : decode cX12_cutAll 297 = .ok (.iconst 0, 1) := by decide +kernel
theorem dX12_cutAll_298 : decode cX12_cutAll 298 = .ok (.putfield 317, 3) := by decide +kernel
theorem dX12_cutAll_301 : decode cX12_cutAll 301 = .ok (.aload_n 0, 1) := by decide +kernel
theorem dX12_cutAll_302 : decode cX12_cutAll 302 = .ok (.iconst 0, 1) := by decide +kernel
theorem dX12_cutAll_303 : decode cX12_cutAll 303 = .ok (.putfield 320, 3) := by decide +kernel
theorem dX12_cutAll_306 : decode cX12_cutAll 306 = .ok (.return_, 1) := by decide +kernel
theorem dX12_cutAll_25 : decode cX12_cutAll 25 = .ok (.aload_n 0, 1) := by decide +kernel
theorem dX12_cutAll_26 : decode cX12_cutAll 26 = .ok (.getfield 14, 3) := by decide +kernel
theorem dX12_cutAll_29 : decode cX12_cutAll 29 = .ok (.iload_n 2, 1) := by decide +kernel
theorem dX12_cutAll_30 : decode cX12_cutAll 30 = .ok (.iaload, 1) := by decide +kernel
theorem dX12_cutAll_31 : decode cX12_cutAll 31 = .ok (.istore_n 3, 1) := by decide +kernel
theorem dX12_cutAll_32 : decode cX12_cutAll 32 = .ok (.iload_n 3, 1) := by decide +kernel
theorem dX12_cutAll_33 : decode cX12_cutAll 33 = .ok (.bipush 10, 2) := by decide +kernel
theorem dX12_cutAll_35 : decode cX12_cutAll 35 = .ok (.if_icmp .eq 9, 3) := by decide +kernel
theorem dX12_cutAll_44 : decode cX12_cutAll 44 = .ok (.iinc 2 1, 3) := by decide +kernel
theorem dX12_cutAll_47 : decode cX12_cutAll 47 = .ok (.goto (-30), 3) := by decide +kernel
theorem dX12_cutAll_38 : decode cX12_cutAll 38 = .ok (.iload_n 3, 1) := by decide +kernel
theorem dX12_cutAll_39 : decode cX12_cutAll 39 = .ok (.bipush 32, 2) := by decide +kernel
theorem dX12_cutAll_41 : decode cX12_cutAll 41 = .ok (.if_icmp .ne 9, 3) := by decide +kernel
theorem dX12_cutAll_50 : decode cX12_cutAll 50 = .ok (.iload_n 2, 1) := by decide +kernel
theorem dX12_cutAll_51 : decode cX12_cutAll 51 = .ok (.istore 4, 2) := by decide +kernel
theorem dX12_cutAll_53 : decode cX12_cutAll 53 = .ok (.lconst 0, 1) := by decide +kernel
theorem dX12_cutAll_54 : decode cX12_cutAll 54 = .ok (.lstore 5, 2) := by decide +kernel
theorem dX12_cutAll_56 : decode cX12_cutAll 56 = .ok (.aload_n 0, 1) := by decide +kernel
theorem dX12_cutAll_57 : decode cX12_cutAll 57 = .ok (.getfield 27, 3) := by decide +kernel
theorem dX12_cutAll_60 : decode cX12_cutAll 60 = .ok (.iload_n 1, 1) := by decide +kernel
theorem dX12_cutAll_61 : decode cX12_cutAll 61 = .ok (.iload_n 2, 1) := by decide +kernel
theorem dX12_cutAll_62 : decode cX12_cutAll 62 = .ok (.iastore, 1) := by decide +kernel
theorem dX12_cutAll_63 : decode cX12_cutAll 63 = .ok (.iload_n 3, 1) := by decide +kernel
theorem dX12_cutAll_64 : decode cX12_cutAll 64 = .ok (.invokestatic 294, 3) := by decide +kernel
theorem dX12_cutAll_67 : decode cX12_cutAll 67 = .ok (.ifCond .eq 85, 3) := by decide +kernel
theorem dX12_cutAll_152 : decode cX12_cutAll 152 = .ok (.iload_n 3, 1) := by decide +kernel
theorem dX12_cutAll_153 : decode cX12_cutAll 153 = .ok (.invokestatic 307, 3) := by decide +kernel
theorem kw_1785 : Cond.code yX12_isDigit prog_14_method_6_code 1 (some .boolean) ∈ uu := uu_in (i := 1785) (by decide +kernel) (by decide +kernel)
theorem kw_1783 : Cond.methodLink "LandSurveyModel" 307 yX12_isDigit ∈ uu := uu_in (i := 1783) (by decide +kernel) (by decide +kernel)
theorem kw_1784 : Cond.static yX12_isDigit ∈ uu := uu_in (i := 1784) (by decide +kernel) (by decide +kernel)
theorem lk_LandSurveyModel_307 : lkS "LandSurveyModel" 307 yX12_isDigit cX12_isDigit 1 (some .boolean) 1 := ⟨kw_1783, kw_1784, kw_152, kw_1785, okX12_isDigit⟩
theorem dX12_cutAll_156 : decode cX12_cutAll 156 = .ok (.ifCond .eq 84, 3) := by decide +kernel
theorem dX12_cutAll_240 : decode cX12_cutAll 240 = .ok (.iload_n 3, 1) := by decide +kernel
theorem dX12_cutAll_241 : decode cX12_cutAll 241 = .ok (.i2l, 1) := by decide +kernel
theorem dX12_cutAll_242 : decode cX12_cutAll 242 = .ok (.lstore 5, 2) := by decide +kernel
theorem dX12_cutAll_244 : decode cX12_cutAll 244 = .ok (.aload_n 0, 1) := by decide +kernel
theorem dX12_cutAll_245 : decode cX12_cutAll 245 = .ok (.getfield 24, 3) := by decide +kernel
theorem dX12_cutAll_248 : decode cX12_cutAll 248 = .ok (.iload_n 1, 1) := by decide +kernel
theorem dX12_cutAll_249 : decode cX12_cutAll 249 = .ok (.iload_n 3, 1) := by decide +kernel
theorem dX12_cutAll_250 : decode cX12_cutAll 250 = .ok (.invokestatic 314, 3) := by decide +kernel
theorem kw_1790 : Cond.code yX12_isSignOf prog_14_method_8_code 1 (some .boolean) ∈ uu := uu_in (i := 1790) (by decide +kernel) (by decide +kernel)
theorem kw_1788 : Cond.methodLink "LandSurveyModel" 314 yX12_isSignOf ∈ uu := uu_in (i := 1788) (by decide +kernel) (by decide +kernel)
theorem kw_1789 : Cond.static yX12_isSignOf ∈ uu := uu_in (i := 1789) (by decide +kernel) (by decide +kernel)
theorem lk_LandSurveyModel_314 : lkS "LandSurveyModel" 314 yX12_isSignOf cX12_isSignOf 1 (some .boolean) 1 := ⟨kw_1788, kw_1789, kw_152, kw_1790, okX12_isSignOf⟩
theorem dX12_cutAll_253 : decode cX12_cutAll 253 = .ok (.ifCond .eq 7, 3) := by decide +kernel
theorem dX12_cutAll_260 : decode cX12_cutAll 260 = .ok (.iconst 4, 1) := by decide +kernel
theorem dX12_cutAll_261 : decode cX12_cutAll 261 = .ok (.iastore, 1) := by decide +kernel
theorem dX12_cutAll_262 : decode cX12_cutAll 262 = .ok (.iinc 2 1, 3) := by decide +kernel
theorem dX12_cutAll_265 : decode cX12_cutAll 265 = .ok (.aload_n 0, 1) := by decide +kernel
theorem dX12_cutAll_266 : decode cX12_cutAll 266 = .ok (.getfield 30, 3) := by decide +kernel
theorem dX12_cutAll_269 : decode cX12_cutAll 269 = .ok (.iload_n 1, 1) := by decide +kernel
theorem dX12_cutAll_270 : decode cX12_cutAll 270 = .ok (.lload 5, 2) := by decide +kernel
theorem dX12_cutAll_272 : decode cX12_cutAll 272 = .ok (.lastore, 1) := by decide +kernel
theorem dX12_cutAll_273 : decode cX12_cutAll 273 = .ok (.iinc 1 1, 3) := by decide +kernel
theorem dX12_cutAll_276 : decode cX12_cutAll 276 = .ok (.goto (-259), 3) := by decide +kernel
theorem dX12_cutAll_256 : decode cX12_cutAll 256 = .ok (.iconst 3, 1) := by decide +kernel
theorem dX12_cutAll_257 : decode cX12_cutAll 257 = .ok (.goto 4, 3) := by decide +kernel
theorem dX12_cutAll_159 : decode cX12_cutAll 159 = .ok (.iload_n 2, 1) := by decide +kernel
theorem dX12_cutAll_160 : decode cX12_cutAll 160 = .ok (.aload_n 0, 1) := by decide +kernel
theorem dX12_cutAll_161 : decode cX12_cutAll 161 = .ok (.getfield 298, 3) := by decide +kernel
theorem dX12_cutAll_164 : decode cX12_cutAll 164 = .ok (.if_icmp .ge 54, 3) := by decide +kernel
theorem dX12_cutAll_218 : decode cX12_cutAll 218 = .ok (.aload_n 0, 1) := by decide +kernel
theorem dX12_cutAll_219 : decode cX12_cutAll 219 = .ok (.getfield 24, 3) := by decide +kernel
theorem dX12_cutAll_222 : decode cX12_cutAll 222 = .ok (.iload_n 1, 1) := by decide +kernel
theorem dX12_cutAll_223 : decode cX12_cutAll 223 = .ok (.iload_n 2, 1) := by decide +kernel
theorem dX12_cutAll_224 : decode cX12_cutAll 224 = .ok (.iload 4, 2) := by decide +kernel
theorem dX12_cutAll_226 : decode cX12_cutAll 226 = .ok (.isub, 1) := by decide +kernel
theorem dX12_cutAll_227 : decode cX12_cutAll 227 = .ok (.iconst 4, 1) := by decide +kernel
theorem dX12_cutAll_228 : decode cX12_cutAll 228 = .ok (.if_icmp .le 7, 3) := by decide +kernel
theorem dX12_cutAll_235 : decode cX12_cutAll 235 = .ok (.iconst 2, 1) := by decide +kernel
theorem dX12_cutAll_236 : decode cX12_cutAll 236 = .ok (.iastore, 1) := by decide +kernel
theorem dX12_cutAll_237 : decode cX12_cutAll 237 = .ok (.goto 28, 3) := by decide +kernel
theorem dX12_cutAll_231 : decode cX12_cutAll 231 = .ok (.iconst 4, 1) := by decide +kernel
theorem dX12_cutAll_232 : decode cX12_cutAll 232 = .ok (.goto 4, 3) := by decide +kernel
theorem dX12_cutAll_167 : decode cX12_cutAll 167 = .ok (.aload_n 0, 1) := by decide +kernel
theorem dX12_cutAll_168 : decode cX12_cutAll 168 = .ok (.getfield 14, 3) := by decide +kernel
theorem dX12_cutAll_171 : decode cX12_cutAll 171 = .ok (.iload_n 2, 1) := by decide +kernel
theorem dX12_cutAll_172 : decode cX12_cutAll 172 = .ok (.iaload, 1) := by decide +kernel
theorem dX12_cutAll_173 : decode cX12_cutAll 173 = .ok (.invokestatic 307, 3) := by decide +kernel
theorem dX12_cutAll_176 : decode cX12_cutAll 176 = .ok (.ifCond .eq 42, 3) := by decide +kernel
theorem dX12_cutAll_179 : decode cX12_cutAll 179 = .ok (.iload_n 2, 1) := by decide +kernel
theorem dX12_cutAll_180 : decode cX12_cutAll 180 = .ok (.iload 4, 2) := by decide +kernel
theorem dX12_cutAll_182 : decode cX12_cutAll 182 = .ok (.isub, 1) := by decide +kernel
theorem dX12_cutAll_183 : decode cX12_cutAll 183 = .ok (.iconst 4, 1) := by decide +kernel
theorem dX12_cutAll_184 : decode cX12_cutAll 184 = .ok (.if_icmp .ge 24, 3) := by decide +kernel
theorem dX12_cutAll_208 : decode cX12_cutAll 208 = .ok (.lload 5, 2) := by decide +kernel
theorem dX12_cutAll_210 : decode cX12_cutAll 210 = .ok (.lstore 5, 2) := by decide +kernel
theorem dX12_cutAll_212 : decode cX12_cutAll 212 = .ok (.iinc 2 1, 3) := by decide +kernel
theorem dX12_cutAll_215 : decode cX12_cutAll 215 = .ok (.goto (-56), 3) := by decide +kernel
theorem dX12_cutAll_187 : decode cX12_cutAll 187 = .ok (.ldc2_w 310, 3) := by decide +kernel
theorem kw_1786 : Cond.constantLong "LandSurveyModel" 310 (10) ∈ uu := uu_in (i := 1786) (by decide +kernel) (by decide +kernel)
theorem dX12_cutAll_190 : decode cX12_cutAll 190 = .ok (.lload 5, 2) := by decide +kernel
theorem dX12_cutAll_192 : decode cX12_cutAll 192 = .ok (.lmul, 1) := by decide +kernel
theorem dX12_cutAll_193 : decode cX12_cutAll 193 = .ok (.aload_n 0, 1) := by decide +kernel
theorem dX12_cutAll_194 : decode cX12_cutAll 194 = .ok (.getfield 14, 3) := by decide +kernel
theorem dX12_cutAll_197 : decode cX12_cutAll 197 = .ok (.iload_n 2, 1) := by decide +kernel
theorem dX12_cutAll_198 : decode cX12_cutAll 198 = .ok (.iaload, 1) := by decide +kernel
theorem dX12_cutAll_199 : decode cX12_cutAll 199 = .ok (.i2l, 1) := by decide +kernel
theorem dX12_cutAll_200 : decode cX12_cutAll 200 = .ok (.ladd, 1) := by decide +kernel
theorem dX12_cutAll_201 : decode cX12_cutAll 201 = .ok (.ldc2_w 312, 3) := by decide +kernel
theorem kw_1787 : Cond.constantLong "LandSurveyModel" 312 (48) ∈ uu := uu_in (i := 1787) (by decide +kernel) (by decide +kernel)
theorem dX12_cutAll_204 : decode cX12_cutAll 204 = .ok (.lsub, 1) := by decide +kernel
theorem dX12_cutAll_205 : decode cX12_cutAll 205 = .ok (.goto 5, 3) := by decide +kernel
theorem dX12_cutAll_70 : decode cX12_cutAll 70 = .ok (.iload_n 2, 1) := by decide +kernel
theorem dX12_cutAll_71 : decode cX12_cutAll 71 = .ok (.aload_n 0, 1) := by decide +kernel
theorem dX12_cutAll_72 : decode cX12_cutAll 72 = .ok (.getfield 298, 3) := by decide +kernel
theorem dX12_cutAll_75 : decode cX12_cutAll 75 = .ok (.if_icmp .ge 54, 3) := by decide +kernel
theorem dX12_cutAll_129 : decode cX12_cutAll 129 = .ok (.aload_n 0, 1) := by decide +kernel
theorem dX12_cutAll_130 : decode cX12_cutAll 130 = .ok (.getfield 24, 3) := by decide +kernel
theorem dX12_cutAll_133 : decode cX12_cutAll 133 = .ok (.iload_n 1, 1) := by decide +kernel
theorem dX12_cutAll_134 : decode cX12_cutAll 134 = .ok (.iload_n 2, 1) := by decide +kernel
theorem dX12_cutAll_135 : decode cX12_cutAll 135 = .ok (.iload 4, 2) := by decide +kernel
theorem dX12_cutAll_137 : decode cX12_cutAll 137 = .ok (.isub, 1) := by decide +kernel
theorem dX12_cutAll_138 : decode cX12_cutAll 138 = .ok (.bipush 8, 2) := by decide +kernel
theorem dX12_cutAll_140 : decode cX12_cutAll 140 = .ok (.if_icmp .le 7, 3) := by decide +kernel
theorem dX12_cutAll_147 : decode cX12_cutAll 147 = .ok (.iconst 1, 1) := by decide +kernel
theorem dX12_cutAll_148 : decode cX12_cutAll 148 = .ok (.iastore, 1) := by decide +kernel
theorem dX12_cutAll_149 : decode cX12_cutAll 149 = .ok (.goto 116, 3) := by decide +kernel
theorem dX12_cutAll_143 : decode cX12_cutAll 143 = .ok (.iconst 4, 1) := by decide +kernel
theorem dX12_cutAll_144 : decode cX12_cutAll 144 = .ok (.goto 4, 3) := by decide +kernel
theorem dX12_cutAll_78 : decode cX12_cutAll 78 = .ok (.aload_n 0, 1) := by decide +kernel
theorem dX12_cutAll_79 : decode cX12_cutAll 79 = .ok (.getfield 14, 3) := by decide +kernel
theorem dX12_cutAll_82 : decode cX12_cutAll 82 = .ok (.iload_n 2, 1) := by decide +kernel
theorem dX12_cutAll_83 : decode cX12_cutAll 83 = .ok (.iaload, 1) := by decide +kernel
theorem dX12_cutAll_84 : decode cX12_cutAll 84 = .ok (.invokestatic 294, 3) := by decide +kernel
theorem dX12_cutAll_87 : decode cX12_cutAll 87 = .ok (.ifCond .eq 42, 3) := by decide +kernel
theorem dX12_cutAll_90 : decode cX12_cutAll 90 = .ok (.iload_n 2, 1) := by decide +kernel
theorem dX12_cutAll_91 : decode cX12_cutAll 91 = .ok (.iload 4, 2) := by decide +kernel
theorem dX12_cutAll_93 : decode cX12_cutAll 93 = .ok (.isub, 1) := by decide +kernel
theorem dX12_cutAll_94 : decode cX12_cutAll 94 = .ok (.bipush 8, 2) := by decide +kernel
theorem dX12_cutAll_96 : decode cX12_cutAll 96 = .ok (.if_icmp .ge 23, 3) := by decide +kernel
theorem dX12_cutAll_119 : decode cX12_cutAll 119 = .ok (.lload 5, 2) := by decide +kernel
theorem dX12_cutAll_121 : decode cX12_cutAll 121 = .ok (.lstore 5, 2) := by decide +kernel
theorem dX12_cutAll_123 : decode cX12_cutAll 123 = .ok (.iinc 2 1, 3) := by decide +kernel
theorem dX12_cutAll_126 : decode cX12_cutAll 126 = .ok (.goto (-56), 3) := by decide +kernel
theorem dX12_cutAll_99 : decode cX12_cutAll 99 = .ok (.ldc2_w 301, 3) := by decide +kernel
theorem kw_1779 : Cond.constantLong "LandSurveyModel" 301 (37) ∈ uu := uu_in (i := 1779) (by decide +kernel) (by decide +kernel)
theorem dX12_cutAll_102 : decode cX12_cutAll 102 = .ok (.lload 5, 2) := by decide +kernel
theorem dX12_cutAll_104 : decode cX12_cutAll 104 = .ok (.lmul, 1) := by decide +kernel
theorem dX12_cutAll_105 : decode cX12_cutAll 105 = .ok (.aload_n 0, 1) := by decide +kernel
theorem dX12_cutAll_106 : decode cX12_cutAll 106 = .ok (.getfield 14, 3) := by decide +kernel
theorem dX12_cutAll_109 : decode cX12_cutAll 109 = .ok (.iload_n 2, 1) := by decide +kernel
theorem dX12_cutAll_110 : decode cX12_cutAll 110 = .ok (.iaload, 1) := by decide +kernel
theorem dX12_cutAll_111 : decode cX12_cutAll 111 = .ok (.invokestatic 303, 3) := by decide +kernel
theorem kw_1782 : Cond.code yX12_rank prog_14_method_7_code 1 (some .int) ∈ uu := uu_in (i := 1782) (by decide +kernel) (by decide +kernel)
theorem kw_1780 : Cond.methodLink "LandSurveyModel" 303 yX12_rank ∈ uu := uu_in (i := 1780) (by decide +kernel) (by decide +kernel)
theorem kw_1781 : Cond.static yX12_rank ∈ uu := uu_in (i := 1781) (by decide +kernel) (by decide +kernel)
theorem lk_LandSurveyModel_303 : lkS "LandSurveyModel" 303 yX12_rank cX12_rank 1 (some .int) 1 := ⟨kw_1780, kw_1781, kw_152, kw_1782, okX12_rank⟩
theorem dX12_cutAll_114 : decode cX12_cutAll 114 = .ok (.i2l, 1) := by decide +kernel
theorem dX12_cutAll_115 : decode cX12_cutAll 115 = .ok (.ladd, 1) := by decide +kernel
theorem dX12_cutAll_116 : decode cX12_cutAll 116 = .ok (.goto 5, 3) := by decide +kernel
abbrev cX12_keeps : ByteArray := prog_14_method_20_code
def yX12_keeps : MethodName := ⟨RX12, "keeps", "(I)V"⟩
theorem okX12_keeps : yok yX12_keeps 1 := by decide +kernel
theorem dX12_keeps_0 : decode cX12_keeps 0 = .ok (.aload_n 0, 1) := by decide +kernel
theorem dX12_keeps_1 : decode cX12_keeps 1 = .ok (.getfield 97, 3) := by decide +kernel
theorem dX12_keeps_4 : decode cX12_keeps 4 = .ok (.iload_n 1, 1) := by decide +kernel
theorem dX12_keeps_5 : decode cX12_keeps 5 = .ok (.aload_n 0, 1) := by decide +kernel
theorem dX12_keeps_6 : decode cX12_keeps 6 = .ok (.getfield 342, 3) := by decide +kernel
theorem dX12_keeps_9 : decode cX12_keeps 9 = .ok (.iastore, 1) := by decide +kernel
theorem dX12_keeps_10 : decode cX12_keeps 10 = .ok (.aload_n 0, 1) := by decide +kernel
theorem dX12_keeps_11 : decode cX12_keeps 11 = .ok (.getfield 100, 3) := by decide +kernel
theorem dX12_keeps_14 : decode cX12_keeps 14 = .ok (.iload_n 1, 1) := by decide +kernel
theorem dX12_keeps_15 : decode cX12_keeps 15 = .ok (.aload_n 0, 1) := by decide +kernel
theorem dX12_keeps_16 : decode cX12_keeps 16 = .ok (.getfield 100, 3) := by decide +kernel
theorem dX12_keeps_19 : decode cX12_keeps 19 = .ok (.bipush 8, 2) := by decide +kernel
theorem dX12_keeps_21 : decode cX12_keeps 21 = .ok (.iaload, 1) := by decide +kernel
theorem dX12_keeps_22 : decode cX12_keeps 22 = .ok (.iastore, 1) := by decide +kernel
theorem dX12_keeps_23 : decode cX12_keeps 23 = .ok (.aload_n 0, 1) := by decide +kernel
theorem dX12_keeps_24 : decode cX12_keeps 24 = .ok (.getfield 122, 3) := by decide +kernel
theorem dX12_keeps_27 : decode cX12_keeps 27 = .ok (.iload_n 1, 1) := by decide +kernel
theorem dX12_keeps_28 : decode cX12_keeps 28 = .ok (.aload_n 0, 1) := by decide +kernel
theorem dX12_keeps_29 : decode cX12_keeps 29 = .ok (.getfield 122, 3) := by decide +kernel
theorem dX12_keeps_32 : decode cX12_keeps 32 = .ok (.bipush 8, 2) := by decide +kernel
theorem dX12_keeps_34 : decode cX12_keeps 34 = .ok (.iaload, 1) := by decide +kernel
theorem dX12_keeps_35 : decode cX12_keeps 35 = .ok (.iastore, 1) := by decide +kernel
theorem dX12_keeps_36 : decode cX12_keeps 36 = .ok (.aload_n 0, 1) := by decide +kernel
theorem dX12_keeps_37 : decode cX12_keeps 37 = .ok (.getfield 128, 3) := by decide +kernel
theorem dX12_keeps_40 : decode cX12_keeps 40 = .ok (.iload_n 1, 1) := by decide +kernel
theorem dX12_keeps_41 : decode cX12_keeps 41 = .ok (.aload_n 0, 1) := by decide +kernel
theorem dX12_keeps_42 : decode cX12_keeps 42 = .ok (.getfield 128, 3) := by decide +kernel
theorem dX12_keeps_45 : decode cX12_keeps 45 = .ok (.bipush 8, 2) := by decide +kernel
theorem dX12_keeps_47 : decode cX12_keeps 47 = .ok (.iaload, 1) := by decide +kernel
theorem dX12_keeps_48 : decode cX12_keeps 48 = .ok (.iastore, 1) := by decide +kernel
theorem dX12_keeps_49 : decode cX12_keeps 49 = .ok (.aload_n 0, 1) := by decide +kernel
theorem dX12_keeps_50 : decode cX12_keeps 50 = .ok (.getfield 137, 3) := by decide +kernel
theorem dX12_keeps_53 : decode cX12_keeps 53 = .ok (.iload_n 1, 1) := by decide +kernel
theorem dX12_keeps_54 : decode cX12_keeps 54 = .ok (.aload_n 0, 1) := by decide +kernel
theorem dX12_keeps_55 : decode cX12_keeps 55 = .ok (.getfield 137, 3) := by decide +kernel
theorem dX12_keeps_58 : decode cX12_keeps 58 = .ok (.bipush 8, 2) := by decide +kernel
theorem dX12_keeps_60 : decode cX12_keeps 60 = .ok (.iaload, 1) := by decide +kernel
theorem dX12_keeps_61 : decode cX12_keeps 61 = .ok (.iastore, 1) := by decide +kernel
theorem dX12_keeps_62 : decode cX12_keeps 62 = .ok (.iconst 0, 1) := by decide +kernel
theorem dX12_keeps_63 : decode cX12_keeps 63 = .ok (.istore_n 2, 1) := by decide +kernel
theorem dX12_keeps_64 : decode cX12_keeps 64 = .ok (.iload_n 2, 1) := by decide +kernel
theorem dX12_keeps_65 : decode cX12_keeps 65 = .ok (.bipush 10, 2) := by decide +kernel
theorem dX12_keeps_67 : decode cX12_keeps 67 = .ok (.if_icmp .ge 129, 3) := by decide +kernel
theorem dX12_keeps_196 : decode cX12_keeps 196 = .ok (.iconst 0, 1) := by decide +kernel
theorem dX12_keeps_197 : decode cX12_keeps 197 = .ok (.istore_n 2, 1) := by decide +kernel
theorem dX12_keeps_198 : decode cX12_keeps 198 = .ok (.iload_n 2, 1) := by decide +kernel
theorem dX12_keeps_199 : decode cX12_keeps 199 = .ok (.bipush 24, 2) := by decide +kernel
theorem dX12_keeps_201 : decode cX12_keeps 201 = .ok (.if_icmp .ge 82, 3) := by decide +kernel
theorem dX12_keeps_283 : decode cX12_keeps 283 = .ok (.iconst 0, 1) := by decide +kernel
theorem dX12_keeps_284 : decode cX12_keeps 284 = .ok (.istore_n 2, 1) := by decide +kernel
theorem dX12_keeps_285 : decode cX12_keeps 285 = .ok (.iload_n 2, 1) := by decide +kernel
theorem dX12_keeps_286 : decode cX12_keeps 286 = .ok (.aload_n 0, 1) := by decide +kernel
theorem dX12_keeps_287 : decode cX12_keeps 287 = .ok (.getfield 336, 3) := by decide +kernel
theorem dX12_keeps_290 : decode cX12_keeps 290 = .ok (.if_icmp .ge 53, 3) := by decide +kernel
theorem dX12_keeps_343 : decode cX12_keeps 343 = .ok (.return_, 1) := by decide +kernel
theorem dX12_keeps_293 : decode cX12_keeps 293 = .ok (.aload_n 0, 1) := by decide +kernel
theorem dX12_keeps_294 : decode cX12_keeps 294 = .ok (.getfield 149, 3) := by decide +kernel
theorem dX12_keeps_297 : decode cX12_keeps 297 = .ok (.sipush 1600, 3) := by decide +kernel
theorem dX12_keeps_300 : decode cX12_keeps 300 = .ok (.iload_n 1, 1) := by decide +kernel
theorem dX12_keeps_301 : decode cX12_keeps 301 = .ok (.imul, 1) := by decide +kernel
theorem dX12_keeps_302 : decode cX12_keeps 302 = .ok (.iload_n 2, 1) := by decide +kernel
theorem dX12_keeps_303 : decode cX12_keeps 303 = .ok (.iadd, 1) := by decide +kernel
theorem dX12_keeps_304 : decode cX12_keeps 304 = .ok (.aload_n 0, 1) := by decide +kernel
theorem dX12_keeps_305 : decode cX12_keeps 305 = .ok (.getfield 149, 3) := by decide +kernel
theorem dX12_keeps_308 : decode cX12_keeps 308 = .ok (.sipush 12800, 3) := by decide +kernel
theorem dX12_keeps_311 : decode cX12_keeps 311 = .ok (.iload_n 2, 1) := by decide +kernel
theorem dX12_keeps_312 : decode cX12_keeps 312 = .ok (.iadd, 1) := by decide +kernel
theorem dX12_keeps_313 : decode cX12_keeps 313 = .ok (.iaload, 1) := by decide +kernel
theorem dX12_keeps_314 : decode cX12_keeps 314 = .ok (.iastore, 1) := by decide +kernel
theorem dX12_keeps_315 : decode cX12_keeps 315 = .ok (.aload_n 0, 1) := by decide +kernel
theorem dX12_keeps_316 : decode cX12_keeps 316 = .ok (.getfield 152, 3) := by decide +kernel
theorem dX12_keeps_319 : decode cX12_keeps 319 = .ok (.sipush 1600, 3) := by decide +kernel
theorem dX12_keeps_322 : decode cX12_keeps 322 = .ok (.iload_n 1, 1) := by decide +kernel
theorem dX12_keeps_323 : decode cX12_keeps 323 = .ok (.imul, 1) := by decide +kernel
theorem dX12_keeps_324 : decode cX12_keeps 324 = .ok (.iload_n 2, 1) := by decide +kernel
theorem dX12_keeps_325 : decode cX12_keeps 325 = .ok (.iadd, 1) := by decide +kernel
theorem dX12_keeps_326 : decode cX12_keeps 326 = .ok (.aload_n 0, 1) := by decide +kernel
theorem dX12_keeps_327 : decode cX12_keeps 327 = .ok (.getfield 152, 3) := by decide +kernel
theorem dX12_keeps_330 : decode cX12_keeps 330 = .ok (.sipush 12800, 3) := by decide +kernel
theorem dX12_keeps_333 : decode cX12_keeps 333 = .ok (.iload_n 2, 1) := by decide +kernel
theorem dX12_keeps_334 : decode cX12_keeps 334 = .ok (.iadd, 1) := by decide +kernel
theorem dX12_keeps_335 : decode cX12_keeps 335 = .ok (.iaload, 1) := by decide +kernel
theorem dX12_keeps_336 : decode cX12_keeps 336 = .ok (.iastore, 1) := by decide +kernel
theorem dX12_keeps_337 : decode cX12_keeps 337 = .ok (.iinc 2 1, 3) := by decide +kernel
theorem dX12_keeps_340 : decode cX12_keeps 340 = .ok (.goto (-55), 3) := by decide +kernel
theorem dX12_keeps_204 : decode cX12_keeps 204 = .ok (.aload_n 0, 1) := by decide +kernel
theorem dX12_keeps_205 : decode cX12_keeps 205 = .ok (.getfield 140, 3) := by decide +kernel
theorem dX12_keeps_208 : decode cX12_keeps 208 = .ok (.bipush 24, 2) := by decide +kernel
theorem dX12_keeps_210 : decode cX12_keeps 210 = .ok (.iload_n 1, 1) := by decide +kernel
theorem dX12_keeps_211 : decode cX12_keeps 211 = .ok (.imul, 1) := by decide +kernel
theorem dX12_keeps_212 : decode cX12_keeps 212 = .ok (.iload_n 2, 1) := by decide +kernel
theorem dX12_keeps_213 : decode cX12_keeps 213 = .ok (.iadd, 1) := by decide +kernel
theorem dX12_keeps_214 : decode cX12_keeps 214 = .ok (.aload_n 0, 1) := by decide +kernel
theorem dX12_keeps_215 : decode cX12_keeps 215 = .ok (.getfield 140, 3) := by decide +kernel
theorem dX12_keeps_218 : decode cX12_keeps 218 = .ok (.sipush 192, 3) := by decide +kernel
theorem dX12_keeps_221 : decode cX12_keeps 221 = .ok (.iload_n 2, 1) := by decide +kernel
theorem dX12_keeps_222 : decode cX12_keeps 222 = .ok (.iadd, 1) := by decide +kernel
theorem dX12_keeps_223 : decode cX12_keeps 223 = .ok (.iaload, 1) := by decide +kernel
theorem dX12_keeps_224 : decode cX12_keeps 224 = .ok (.iastore, 1) := by decide +kernel
theorem dX12_keeps_225 : decode cX12_keeps 225 = .ok (.aload_n 0, 1) := by decide +kernel
theorem dX12_keeps_226 : decode cX12_keeps 226 = .ok (.getfield 143, 3) := by decide +kernel
theorem dX12_keeps_229 : decode cX12_keeps 229 = .ok (.bipush 24, 2) := by decide +kernel
theorem dX12_keeps_231 : decode cX12_keeps 231 = .ok (.iload_n 1, 1) := by decide +kernel
theorem dX12_keeps_232 : decode cX12_keeps 232 = .ok (.imul, 1) := by decide +kernel
theorem dX12_keeps_233 : decode cX12_keeps 233 = .ok (.iload_n 2, 1) := by decide +kernel
theorem dX12_keeps_234 : decode cX12_keeps 234 = .ok (.iadd, 1) := by decide +kernel
theorem dX12_keeps_235 : decode cX12_keeps 235 = .ok (.aload_n 0, 1) := by decide +kernel
theorem dX12_keeps_236 : decode cX12_keeps 236 = .ok (.getfield 143, 3) := by decide +kernel
theorem dX12_keeps_239 : decode cX12_keeps 239 = .ok (.sipush 192, 3) := by decide +kernel
theorem dX12_keeps_242 : decode cX12_keeps 242 = .ok (.iload_n 2, 1) := by decide +kernel
theorem dX12_keeps_243 : decode cX12_keeps 243 = .ok (.iadd, 1) := by decide +kernel
theorem dX12_keeps_244 : decode cX12_keeps 244 = .ok (.iaload, 1) := by decide +kernel
theorem dX12_keeps_245 : decode cX12_keeps 245 = .ok (.iastore, 1) := by decide +kernel
theorem dX12_keeps_246 : decode cX12_keeps 246 = .ok (.aload_n 0, 1) := by decide +kernel
theorem dX12_keeps_247 : decode cX12_keeps 247 = .ok (.getfield 146, 3) := by decide +kernel
theorem dX12_keeps_250 : decode cX12_keeps 250 = .ok (.bipush 24, 2) := by decide +kernel
theorem dX12_keeps_252 : decode cX12_keeps 252 = .ok (.iload_n 1, 1) := by decide +kernel
theorem dX12_keeps_253 : decode cX12_keeps 253 = .ok (.imul, 1) := by decide +kernel
theorem dX12_keeps_254 : decode cX12_keeps 254 = .ok (.iload_n 2, 1) := by decide +kernel
theorem dX12_keeps_255 : decode cX12_keeps 255 = .ok (.iadd, 1) := by decide +kernel
theorem dX12_keeps_256 : decode cX12_keeps 256 = .ok (.aload_n 0, 1) := by decide +kernel
theorem dX12_keeps_257 : decode cX12_keeps 257 = .ok (.getfield 146, 3) := by decide +kernel
theorem dX12_keeps_260 : decode cX12_keeps 260 = .ok (.sipush 192, 3) := by decide +kernel
theorem dX12_keeps_263 : decode cX12_keeps 263 = .ok (.iload_n 2, 1) := by decide +kernel
theorem dX12_keeps_264 : decode cX12_keeps 264 = .ok (.iadd, 1) := by decide +kernel
theorem dX12_keeps_265 : decode cX12_keeps 265 = .ok (.iaload, 1) := by decide +kernel
theorem dX12_keeps_266 : decode cX12_keeps 266 = .ok (.sipush 12800, 3) := by decide +kernel
theorem dX12_keeps_269 : decode cX12_keeps 269 = .ok (.isub, 1) := by decide +kernel
theorem dX12_keeps_270 : decode cX12_keeps 270 = .ok (.sipush 1600, 3) := by decide +kernel
theorem dX12_keeps_273 : decode cX12_keeps 273 = .ok (.iload_n 1, 1) := by decide +kernel
theorem dX12_keeps_274 : decode cX12_keeps 274 = .ok (.imul, 1) := by decide +kernel
theorem dX12_keeps_275 : decode cX12_keeps 275 = .ok (.iadd, 1) := by decide +kernel
theorem dX12_keeps_276 : decode cX12_keeps 276 = .ok (.iastore, 1) := by decide +kernel
theorem dX12_keeps_277 : decode cX12_keeps 277 = .ok (.iinc 2 1, 3) := by decide +kernel
theorem dX12_keeps_280 : decode cX12_keeps 280 = .ok (.goto (-82), 3) := by decide +kernel
theorem dX12_keeps_70 : decode cX12_keeps 70 = .ok (.aload_n 0, 1) := by decide +kernel
theorem dX12_keeps_71 : decode cX12_keeps 71 = .ok (.getfield 106, 3) := by decide +kernel
theorem dX12_keeps_74 : decode cX12_keeps 74 = .ok (.bipush 10, 2) := by decide +kernel
theorem dX12_keeps_76 : decode cX12_keeps 76 = .ok (.iload_n 1, 1) := by decide +kernel
theorem dX12_keeps_77 : decode cX12_keeps 77 = .ok (.imul, 1) := by decide +kernel
theorem dX12_keeps_78 : decode cX12_keeps 78 = .ok (.iload_n 2, 1) := by decide +kernel
theorem dX12_keeps_79 : decode cX12_keeps 79 = .ok (.iadd, 1) := by decide +kernel
theorem dX12_keeps_80 : decode cX12_keeps 80 = .ok (.aload_n 0, 1) := by decide +kernel
theorem dX12_keeps_81 : decode cX12_keeps 81 = .ok (.getfield 106, 3) := by decide +kernel
theorem dX12_keeps_84 : decode cX12_keeps 84 = .ok (.bipush 80, 2) := by decide +kernel
theorem dX12_keeps_86 : decode cX12_keeps 86 = .ok (.iload_n 2, 1) := by decide +kernel
theorem dX12_keeps_87 : decode cX12_keeps 87 = .ok (.iadd, 1) := by decide +kernel
theorem dX12_keeps_88 : decode cX12_keeps 88 = .ok (.iaload, 1) := by decide +kernel
theorem dX12_keeps_89 : decode cX12_keeps 89 = .ok (.iastore, 1) := by decide +kernel
theorem dX12_keeps_90 : decode cX12_keeps 90 = .ok (.aload_n 0, 1) := by decide +kernel
theorem dX12_keeps_91 : decode cX12_keeps 91 = .ok (.getfield 109, 3) := by decide +kernel
theorem dX12_keeps_94 : decode cX12_keeps 94 = .ok (.bipush 10, 2) := by decide +kernel
theorem dX12_keeps_96 : decode cX12_keeps 96 = .ok (.iload_n 1, 1) := by decide +kernel
theorem dX12_keeps_97 : decode cX12_keeps 97 = .ok (.imul, 1) := by decide +kernel
theorem dX12_keeps_98 : decode cX12_keeps 98 = .ok (.iload_n 2, 1) := by decide +kernel
theorem dX12_keeps_99 : decode cX12_keeps 99 = .ok (.iadd, 1) := by decide +kernel
theorem dX12_keeps_100 : decode cX12_keeps 100 = .ok (.aload_n 0, 1) := by decide +kernel
theorem dX12_keeps_101 : decode cX12_keeps 101 = .ok (.getfield 109, 3) := by decide +kernel
theorem dX12_keeps_104 : decode cX12_keeps 104 = .ok (.bipush 80, 2) := by decide +kernel
theorem dX12_keeps_106 : decode cX12_keeps 106 = .ok (.iload_n 2, 1) := by decide +kernel
theorem dX12_keeps_107 : decode cX12_keeps 107 = .ok (.iadd, 1) := by decide +kernel
theorem dX12_keeps_108 : decode cX12_keeps 108 = .ok (.iaload, 1) := by decide +kernel
theorem dX12_keeps_109 : decode cX12_keeps 109 = .ok (.iastore, 1) := by decide +kernel
theorem dX12_keeps_110 : decode cX12_keeps 110 = .ok (.aload_n 0, 1) := by decide +kernel
theorem dX12_keeps_111 : decode cX12_keeps 111 = .ok (.getfield 112, 3) := by decide +kernel
theorem dX12_keeps_114 : decode cX12_keeps 114 = .ok (.bipush 10, 2) := by decide +kernel
theorem dX12_keeps_116 : decode cX12_keeps 116 = .ok (.iload_n 1, 1) := by decide +kernel
theorem dX12_keeps_117 : decode cX12_keeps 117 = .ok (.imul, 1) := by decide +kernel
theorem dX12_keeps_118 : decode cX12_keeps 118 = .ok (.iload_n 2, 1) := by decide +kernel
theorem dX12_keeps_119 : decode cX12_keeps 119 = .ok (.iadd, 1) := by decide +kernel
theorem dX12_keeps_120 : decode cX12_keeps 120 = .ok (.aload_n 0, 1) := by decide +kernel
theorem dX12_keeps_121 : decode cX12_keeps 121 = .ok (.getfield 112, 3) := by decide +kernel
theorem dX12_keeps_124 : decode cX12_keeps 124 = .ok (.bipush 80, 2) := by decide +kernel
theorem dX12_keeps_126 : decode cX12_keeps 126 = .ok (.iload_n 2, 1) := by decide +kernel
theorem dX12_keeps_127 : decode cX12_keeps 127 = .ok (.iadd, 1) := by decide +kernel
theorem dX12_keeps_128 : decode cX12_keeps 128 = .ok (.baload, 1) := by decide +kernel
theorem dX12_keeps_129 : decode cX12_keeps 129 = .ok (.bastore, 1) := by decide +kernel
theorem dX12_keeps_130 : decode cX12_keeps 130 = .ok (.aload_n 0, 1) := by decide +kernel
theorem dX12_keeps_131 : decode cX12_keeps 131 = .ok (.getfield 116, 3) := by decide +kernel
theorem dX12_keeps_134 : decode cX12_keeps 134 = .ok (.bipush 10, 2) := by decide +kernel
theorem dX12_keeps_136 : decode cX12_keeps 136 = .ok (.iload_n 1, 1) := by decide +kernel
theorem dX12_keeps_137 : decode cX12_keeps 137 = .ok (.imul, 1) := by decide +kernel
theorem dX12_keeps_138 : decode cX12_keeps 138 = .ok (.iload_n 2, 1) := by decide +kernel
theorem dX12_keeps_139 : decode cX12_keeps 139 = .ok (.iadd, 1) := by decide +kernel
theorem dX12_keeps_140 : decode cX12_keeps 140 = .ok (.aload_n 0, 1) := by decide +kernel
theorem dX12_keeps_141 : decode cX12_keeps 141 = .ok (.getfield 116, 3) := by decide +kernel
theorem dX12_keeps_144 : decode cX12_keeps 144 = .ok (.bipush 80, 2) := by decide +kernel
theorem dX12_keeps_146 : decode cX12_keeps 146 = .ok (.iload_n 2, 1) := by decide +kernel
theorem dX12_keeps_147 : decode cX12_keeps 147 = .ok (.iadd, 1) := by decide +kernel
theorem dX12_keeps_148 : decode cX12_keeps 148 = .ok (.baload, 1) := by decide +kernel
theorem dX12_keeps_149 : decode cX12_keeps 149 = .ok (.bastore, 1) := by decide +kernel
theorem dX12_keeps_150 : decode cX12_keeps 150 = .ok (.aload_n 0, 1) := by decide +kernel
theorem dX12_keeps_151 : decode cX12_keeps 151 = .ok (.getfield 131, 3) := by decide +kernel
theorem dX12_keeps_154 : decode cX12_keeps 154 = .ok (.bipush 10, 2) := by decide +kernel
theorem dX12_keeps_156 : decode cX12_keeps 156 = .ok (.iload_n 1, 1) := by decide +kernel
theorem dX12_keeps_157 : decode cX12_keeps 157 = .ok (.imul, 1) := by decide +kernel
theorem dX12_keeps_158 : decode cX12_keeps 158 = .ok (.iload_n 2, 1) := by decide +kernel
theorem dX12_keeps_159 : decode cX12_keeps 159 = .ok (.iadd, 1) := by decide +kernel
theorem dX12_keeps_160 : decode cX12_keeps 160 = .ok (.aload_n 0, 1) := by decide +kernel
theorem dX12_keeps_161 : decode cX12_keeps 161 = .ok (.getfield 131, 3) := by decide +kernel
theorem dX12_keeps_164 : decode cX12_keeps 164 = .ok (.bipush 80, 2) := by decide +kernel
theorem dX12_keeps_166 : decode cX12_keeps 166 = .ok (.iload_n 2, 1) := by decide +kernel
theorem dX12_keeps_167 : decode cX12_keeps 167 = .ok (.iadd, 1) := by decide +kernel
theorem dX12_keeps_168 : decode cX12_keeps 168 = .ok (.iaload, 1) := by decide +kernel
theorem dX12_keeps_169 : decode cX12_keeps 169 = .ok (.iastore, 1) := by decide +kernel
theorem dX12_keeps_170 : decode cX12_keeps 170 = .ok (.aload_n 0, 1) := by decide +kernel
theorem dX12_keeps_171 : decode cX12_keeps 171 = .ok (.getfield 134, 3) := by decide +kernel
theorem dX12_keeps_174 : decode cX12_keeps 174 = .ok (.bipush 10, 2) := by decide +kernel
theorem dX12_keeps_176 : decode cX12_keeps 176 = .ok (.iload_n 1, 1) := by decide +kernel
theorem dX12_keeps_177 : decode cX12_keeps 177 = .ok (.imul, 1) := by decide +kernel
theorem dX12_keeps_178 : decode cX12_keeps 178 = .ok (.iload_n 2, 1) := by decide +kernel
theorem dX12_keeps_179 : decode cX12_keeps 179 = .ok (.iadd, 1) := by decide +kernel
theorem dX12_keeps_180 : decode cX12_keeps 180 = .ok (.aload_n 0, 1) := by decide +kernel
theorem dX12_keeps_181 : decode cX12_keeps 181 = .ok (.getfield 134, 3) := by decide +kernel
theorem dX12_keeps_184 : decode cX12_keeps 184 = .ok (.bipush 80, 2) := by decide +kernel
theorem dX12_keeps_186 : decode cX12_keeps 186 = .ok (.iload_n 2, 1) := by decide +kernel
theorem dX12_keeps_187 : decode cX12_keeps 187 = .ok (.iadd, 1) := by decide +kernel
theorem dX12_keeps_188 : decode cX12_keeps 188 = .ok (.iaload, 1) := by decide +kernel
theorem dX12_keeps_189 : decode cX12_keeps 189 = .ok (.iastore, 1) := by decide +kernel
theorem dX12_keeps_190 : decode cX12_keeps 190 = .ok (.iinc 2 1, 3) := by decide +kernel
theorem dX12_keeps_193 : decode cX12_keeps 193 = .ok (.goto (-129), 3) := by decide +kernel
abbrev cX12_rules : ByteArray := prog_14_method_18_code
def yX12_rules : MethodName := ⟨RX12, "rules", "()I"⟩
theorem okX12_rules : yok yX12_rules 0 := by decide +kernel
theorem dX12_rules_0 : decode cX12_rules 0 = .ok (.aload_n 0, 1) := by decide +kernel
theorem dX12_rules_1 : decode cX12_rules 1 = .ok (.iconst 0, 1) := by decide +kernel
theorem dX12_rules_2 : decode cX12_rules 2 = .ok (.putfield 1, 3) := by decide +kernel
theorem dX12_rules_5 : decode cX12_rules 5 = .ok (.aload_n 0, 1) := by decide +kernel
theorem dX12_rules_6 : decode cX12_rules 6 = .ok (.getfield 339, 3) := by decide +kernel
theorem dX12_rules_9 : decode cX12_rules 9 = .ok (.ifCond .le 25, 3) := by decide +kernel
theorem dX12_rules_34 : decode cX12_rules 34 = .ok (.iconst 0, 1) := by decide +kernel
theorem dX12_rules_35 : decode cX12_rules 35 = .ok (.istore_n 1, 1) := by decide +kernel
theorem dX12_rules_36 : decode cX12_rules 36 = .ok (.aload_n 0, 1) := by decide +kernel
theorem dX12_rules_37 : decode cX12_rules 37 = .ok (.getfield 339, 3) := by decide +kernel
theorem dX12_rules_40 : decode cX12_rules 40 = .ok (.bipush 8, 2) := by decide +kernel
theorem dX12_rules_42 : decode cX12_rules 42 = .ok (.if_icmp .ne 14, 3) := by decide +kernel
theorem dX12_rules_56 : decode cX12_rules 56 = .ok (.aload_n 0, 1) := by decide +kernel
theorem dX12_rules_57 : decode cX12_rules 57 = .ok (.invokevirtual 345, 3) := by decide +kernel
theorem kw_1775 : Cond.code yX12_cutAll prog_14_method_9_code 7 none ∈ uu := uu_in (i := 1775) (by decide +kernel) (by decide +kernel)
theorem kw_1772 : Cond.methodLink "LandSurveyModel" 345 yX12_cutAll ∈ uu := uu_in (i := 1772) (by decide +kernel) (by decide +kernel)
theorem kw_1774 : Cond.instanceMethod yX12_cutAll ∈ uu := uu_in (i := 1774) (by decide +kernel) (by decide +kernel)
theorem kw_64 : Cond.selects "LandSurveyModel" yX12_cutAll yX12_cutAll ∈ uu := uu_in (i := 64) (by decide +kernel) (by decide +kernel)
theorem lk_LandSurveyModel_345 : lkV "LandSurveyModel" 345 yX12_cutAll cX12_cutAll 7 none 0 := ⟨kw_1772, kw_1774, kw_64, kw_152, kw_1775, okX12_cutAll⟩
theorem dX12_rules_60 : decode cX12_rules 60 = .ok (.aload_n 0, 1) := by decide +kernel
theorem dX12_rules_61 : decode cX12_rules 61 = .ok (.invokevirtual 348, 3) := by decide +kernel
theorem kw_1794 : Cond.code yX12_begins prog_14_method_19_code 2 none ∈ uu := uu_in (i := 1794) (by decide +kernel) (by decide +kernel)
theorem kw_1791 : Cond.methodLink "LandSurveyModel" 348 yX12_begins ∈ uu := uu_in (i := 1791) (by decide +kernel) (by decide +kernel)
theorem kw_1793 : Cond.instanceMethod yX12_begins ∈ uu := uu_in (i := 1793) (by decide +kernel) (by decide +kernel)
theorem kw_65 : Cond.selects "LandSurveyModel" yX12_begins yX12_begins ∈ uu := uu_in (i := 65) (by decide +kernel) (by decide +kernel)
theorem lk_LandSurveyModel_348 : lkV "LandSurveyModel" 348 yX12_begins cX12_begins 2 none 0 := ⟨kw_1791, kw_1793, kw_65, kw_152, kw_1794, okX12_begins⟩
theorem dX12_rules_64 : decode cX12_rules 64 = .ok (.aload_n 0, 1) := by decide +kernel
theorem dX12_rules_65 : decode cX12_rules 65 = .ok (.getfield 320, 3) := by decide +kernel
theorem dX12_rules_68 : decode cX12_rules 68 = .ok (.ifCond .ne 22, 3) := by decide +kernel
theorem dX12_rules_90 : decode cX12_rules 90 = .ok (.aload_n 0, 1) := by decide +kernel
theorem dX12_rules_91 : decode cX12_rules 91 = .ok (.getfield 320, 3) := by decide +kernel
theorem dX12_rules_94 : decode cX12_rules 94 = .ok (.ifCond .ne 36, 3) := by decide +kernel
theorem dX12_rules_130 : decode cX12_rules 130 = .ok (.aload_n 0, 1) := by decide +kernel
theorem dX12_rules_131 : decode cX12_rules 131 = .ok (.getfield 320, 3) := by decide +kernel
theorem dX12_rules_134 : decode cX12_rules 134 = .ok (.ireturn, 1) := by decide +kernel
theorem dX12_rules_71 : decode cX12_rules 71 = .ok (.aload_n 0, 1) := by decide +kernel
theorem dX12_rules_72 : decode cX12_rules 72 = .ok (.getfield 24, 3) := by decide +kernel
theorem dX12_rules_75 : decode cX12_rules 75 = .ok (.aload_n 0, 1) := by decide +kernel
theorem dX12_rules_76 : decode cX12_rules 76 = .ok (.getfield 317, 3) := by decide +kernel
theorem dX12_rules_79 : decode cX12_rules 79 = .ok (.iaload, 1) := by decide +kernel
theorem dX12_rules_80 : decode cX12_rules 80 = .ok (.ifCond .eq 10, 3) := by decide +kernel
theorem dX12_rules_97 : decode cX12_rules 97 = .ok (.aload_n 0, 1) := by decide +kernel
theorem dX12_rules_98 : decode cX12_rules 98 = .ok (.dup, 1) := by decide +kernel
theorem dX12_rules_99 : decode cX12_rules 99 = .ok (.getfield 339, 3) := by decide +kernel
theorem dX12_rules_102 : decode cX12_rules 102 = .ok (.iload_n 1, 1) := by decide +kernel
theorem dX12_rules_103 : decode cX12_rules 103 = .ok (.ifCond .eq 7, 3) := by decide +kernel
theorem dX12_rules_110 : decode cX12_rules 110 = .ok (.iconst 1, 1) := by decide +kernel
theorem dX12_rules_111 : decode cX12_rules 111 = .ok (.iadd, 1) := by decide +kernel
theorem dX12_rules_112 : decode cX12_rules 112 = .ok (.putfield 339, 3) := by decide +kernel
theorem pk_LandSurveyModel_10 : pk RX12 TX12 87 10 tyX12 false := ⟨tyX12_ok, nmX12, rfl⟩
theorem dX12_rules_115 : decode cX12_rules 115 = .ok (.aload_n 0, 1) := by decide +kernel
theorem dX12_rules_116 : decode cX12_rules 116 = .ok (.aload_n 0, 1) := by decide +kernel
theorem dX12_rules_117 : decode cX12_rules 117 = .ok (.getfield 339, 3) := by decide +kernel
theorem dX12_rules_120 : decode cX12_rules 120 = .ok (.iconst 1, 1) := by decide +kernel
theorem dX12_rules_121 : decode cX12_rules 121 = .ok (.isub, 1) := by decide +kernel
theorem dX12_rules_122 : decode cX12_rules 122 = .ok (.invokevirtual 354, 3) := by decide +kernel
theorem kw_1883 : Cond.code yX12_keeps prog_14_method_20_code 3 none ∈ uu := uu_in (i := 1883) (by decide +kernel) (by decide +kernel)
theorem kw_1880 : Cond.methodLink "LandSurveyModel" 354 yX12_keeps ∈ uu := uu_in (i := 1880) (by decide +kernel) (by decide +kernel)
theorem kw_1882 : Cond.instanceMethod yX12_keeps ∈ uu := uu_in (i := 1882) (by decide +kernel) (by decide +kernel)
theorem kw_87 : Cond.selects "LandSurveyModel" yX12_keeps yX12_keeps ∈ uu := uu_in (i := 87) (by decide +kernel) (by decide +kernel)
theorem lk_LandSurveyModel_354 : lkV "LandSurveyModel" 354 yX12_keeps cX12_keeps 3 none 1 := ⟨kw_1880, kw_1882, kw_87, kw_152, kw_1883, okX12_keeps⟩
theorem dX12_rules_125 : decode cX12_rules 125 = .ok (.aload_n 0, 1) := by decide +kernel
theorem dX12_rules_126 : decode cX12_rules 126 = .ok (.iconst 1, 1) := by decide +kernel
theorem dX12_rules_127 : decode cX12_rules 127 = .ok (.putfield 290, 3) := by decide +kernel
theorem dX12_rules_83 : decode cX12_rules 83 = .ok (.aload_n 0, 1) := by decide +kernel
theorem dX12_rules_84 : decode cX12_rules 84 = .ok (.invokevirtual 351, 3) := by decide +kernel
theorem kw_1798 : Cond.code yX12_readNext prog_14_method_25_code 3 none ∈ uu := uu_in (i := 1798) (by decide +kernel) (by decide +kernel)
theorem kw_1795 : Cond.methodLink "LandSurveyModel" 351 yX12_readNext ∈ uu := uu_in (i := 1795) (by decide +kernel) (by decide +kernel)
theorem kw_1797 : Cond.instanceMethod yX12_readNext ∈ uu := uu_in (i := 1797) (by decide +kernel) (by decide +kernel)
theorem kw_66 : Cond.selects "LandSurveyModel" yX12_readNext yX12_readNext ∈ uu := uu_in (i := 66) (by decide +kernel) (by decide +kernel)
theorem lk_LandSurveyModel_351 : lkV "LandSurveyModel" 351 yX12_readNext cX12_readNext 3 none 0 := ⟨kw_1795, kw_1797, kw_66, kw_152, kw_1798, okX12_readNext⟩
theorem dX12_rules_87 : decode cX12_rules 87 = .ok (.goto (-23), 3) := by decide +kernel
theorem dX12_rules_12 : decode cX12_rules 12 = .ok (.aload_n 0, 1) := by decide +kernel
theorem dX12_rules_13 : decode cX12_rules 13 = .ok (.getfield 97, 3) := by decide +kernel
theorem dX12_rules_16 : decode cX12_rules 16 = .ok (.aload_n 0, 1) := by decide +kernel
theorem dX12_rules_17 : decode cX12_rules 17 = .ok (.getfield 339, 3) := by decide +kernel
theorem dX12_rules_20 : decode cX12_rules 20 = .ok (.iconst 1, 1) := by decide +kernel
theorem dX12_rules_21 : decode cX12_rules 21 = .ok (.isub, 1) := by decide +kernel
theorem dX12_rules_22 : decode cX12_rules 22 = .ok (.iaload, 1) := by decide +kernel
theorem dX12_rules_23 : decode cX12_rules 23 = .ok (.aload_n 0, 1) := by decide +kernel
theorem dX12_rules_24 : decode cX12_rules 24 = .ok (.getfield 342, 3) := by decide +kernel
theorem dX12_rules_27 : decode cX12_rules 27 = .ok (.if_icmp .ne 7, 3) := by decide +kernel
theorem dX12_rules_45 : decode cX12_rules 45 = .ok (.iload_n 1, 1) := by decide +kernel
theorem dX12_rules_46 : decode cX12_rules 46 = .ok (.ifCond .ne 10, 3) := by decide +kernel
theorem dX12_rules_49 : decode cX12_rules 49 = .ok (.aload_n 0, 1) := by decide +kernel
theorem dX12_rules_50 : decode cX12_rules 50 = .ok (.iconst 0, 1) := by decide +kernel
theorem dX12_rules_51 : decode cX12_rules 51 = .ok (.putfield 11, 3) := by decide +kernel
theorem dX12_rules_54 : decode cX12_rules 54 = .ok (.iconst (-1), 1) := by decide +kernel
theorem dX12_rules_55 : decode cX12_rules 55 = .ok (.ireturn, 1) := by decide +kernel
theorem dX12_rules_30 : decode cX12_rules 30 = .ok (.iconst 1, 1) := by decide +kernel
theorem dX12_rules_31 : decode cX12_rules 31 = .ok (.goto 4, 3) := by decide +kernel
theorem dX12_rules_106 : decode cX12_rules 106 = .ok (.iconst 0, 1) := by decide +kernel
theorem dX12_rules_107 : decode cX12_rules 107 = .ok (.goto 4, 3) := by decide +kernel
def wr_k_X12_readRock : List Nat := [2407, 2408, 22420000, 22620400, 22820000, 23020000]
set_option maxRecDepth 100000 in
set_option maxHeartbeats 4000000 in
theorem k_X12_readRock (l : Launch) (D : va_G) (cy : Nat → ClassId) (w : Nat → Nat) (z0 : Nat) {h : Hp} {a0 : Nat}  (O : Okh h) (ta0 : Tg h a0 = 12) (P_RD : RD h a0) (P_kw : Iv h a0 8 = 0 ∧ Iv h a0 7 < NT h a0) : MV l D cy w z0 yX12_readRock cX12_readRock 2 none 3 64 0 0 [.inr (.inr a0)] h (fun h1 => Okh h1 ∧ Fx wr_k_X12_readRock h h1 ∧ (RD h1 a0) ∧ (ST h h1 a0)) := by
  obtain ⟨v1, e2⟩ : ∃ z, Iv h a0 7 = z := ⟨_, rfl⟩
  have f3 := ok_I O ta0 rI_12_7 e2
  obtain ⟨v4, e5⟩ : ∃ z, Iv h a0 8 = z := ⟨_, rfl⟩
  have f6 := ok_I O ta0 rI_12_8 e5
  obtain ⟨v7, e8⟩ : ∃ z, Iv h a0 28 = z := ⟨_, rfl⟩
  have f9 := ok_I O ta0 rI_12_28 e8
  obtain ⟨p10, p11, p12, p13⟩ := P_RD
  obtain ⟨v14, e15⟩ : ∃ z, NT h a0 = z := ⟨_, rfl⟩
  have f16 : (0 : Int) ≤ v14 ∧ v14 ≤ (1500 : Int) := NT_rng p10 e15
  rw [e2, e15] at p11
  rw [e5, e2, e15] at p12
  rw [e8, e2] at p13
  rw [e5, e2, e15] at P_kw
  have f17 : (0 : Int) ≤ v4 ∧ v4 ≤ (0 : Int) := by omega
  refine hm_go (by decide +kernel) (Nat.le_of_ble_eq_true rfl) (fun p e s m below meth c C hr hn => ?_)
  refine g_aload_n C rfl 0 rfl dX12_readRock_0 ?_
  obtain ⟨v18, e19⟩ : ∃ z, Rv h a0 12 = z := ⟨_, rfl⟩
  have t20 := ok_R O ta0 rE_12_12 e19
  have l21 := ok_L O ta0 rE_12_12 e19
  refine gf_R C fk_LandSurveyModel_100 rfl ta0 e19 dX12_readRock_1 ?_
  refine g_bipush C (by decide) dX12_readRock_4 ?_
  obtain ⟨v22, e23⟩ : ∃ z, Iv h v18 ((8 : Int).toNat) = z := ⟨_, rfl⟩
  have f24 := ok_Ia O t20 ar_112100 rI_112100_0 e23
  refine g_iald C t20 rfl l21 (ix (il 8) (by decide) (by decide)) e23 dX12_readRock_6 ?_
  refine g_bipush C (by decide) dX12_readRock_7 ?_
  refine g_icmp_ne C (iw f24 (by decide) (by decide)) (iw (il 10) (by decide) (by decide)) 18 (by decide) dX12_readRock_9 (fun q25 => ?_) (fun q26 => ?_)
  · have f27 : (0 : Int) ≤ v22 ∧ v22 ≤ (9 : Int) := r_nh f24 q25
    refine g_aload_n C rfl 0 rfl dX12_readRock_18 ?_
    refine g_dup C rfl dX12_readRock_19 ?_
    refine gf_I C fk_LandSurveyModel_317 rfl ta0 e2 dX12_readRock_20 ?_
    refine g_iconst C dX12_readRock_23 ?_
    have f28 : (1 : Int) ≤ (v1 + 1) ∧ (v1 + 1) ≤ (1502 : Int) := ia_add f3 (il 1) (by decide) (by decide)
    refine g_iadd C dX12_readRock_24 ?_
    refine gp_I C fk_LandSurveyModel_317 pk_LandSurveyModel_7 rfl ta0 (iw f28 (by decide) (by decide)) (nf_i _) dX12_readRock_25 (fun h30 hh29 => ?_)
    have O31 := O.pI ta0 hh29 rI_12_7 (by omega) nofun
    refine g_aload_n C rfl 0 rfl dX12_readRock_28 ?_
    have e32 : Tg h30 a0 = 12 := ((pIT hh29).trans ta0)
    have e33 : Iv h30 a0 8 = v4 := ((pI_j hh29 (by decide)).trans e5)
    have e34 : Iv h30 a0 28 = v7 := ((pI_j hh29 (by decide)).trans e8)
    have p35 := (TK_fx O ((Fx.rf (wr := [2407]) (h := h)).pI ta0 hh29 rfl) ta0 rfl p10)
    have p36 := ((NT_fx O ((Fx.rf (wr := [2407]) (h := h)).pI ta0 hh29 rfl) ta0 rfl).trans e15)
    refine g_callI (st := []) (gc_V C lk_LandSurveyModel_357 (k_X12_isName l D cy w z0 O31 e32 ⟨p35, by rw [(pI_e hh29), p36]; omega, by rw [e33, (pI_e hh29), p36]; omega, by rw [e34, (pI_e hh29)]; omega⟩) e32 rfl rfl rfl ⟨by decide, by decide⟩ (Nat.le_of_ble_eq_true rfl) dX12_readRock_29 ⟨(by decide), (by decide)⟩) (fun r37 h38 f40 K39 => ?_)
    obtain ⟨O41, F42, f43, p44⟩ := K39
    rw [e33, (pI_e hh29), p36] at p44
    refine g_if_ne C (iw f43 (by decide) (by decide)) 43 (by decide) dX12_readRock_32 (fun q45 => ?_) (fun q46 => ?_)
    · have f47 : (1 : Int) ≤ r37 ∧ r37 ≤ (1 : Int) := r_nl f43 q45
      refine g_aload_n C rfl 0 rfl dX12_readRock_43 ?_
      have e48 : Tg h38 a0 = 12 := (fxT F42 e32)
      refine g_callI (st := []) (gc_V C lk_LandSurveyModel_361 (k_X12_findRock l D cy w z0 O41 e48) e48 rfl rfl rfl ⟨by decide, by decide⟩ (Nat.le_of_ble_eq_true rfl) dX12_readRock_44 ⟨(by decide), (by decide)⟩) (fun r49 h50 f52 K51 => ?_)
      obtain ⟨O53, F54, f55⟩ := K51
      refine g_if_lt C (iw f55 (by decide) (by decide)) 55 (by decide) dX12_readRock_47 (fun q56 => ?_) (fun q57 => ?_)
      · have f58 : (-1 : Int) ≤ r49 ∧ r49 ≤ (-1 : Int) := r_lt f55 (il 0) q56 (by decide) (by decide)
        refine g_aload_n C rfl 0 rfl dX12_readRock_55 ?_
        have e59 : Tg h50 a0 = 12 := (fxT F54 e48)
        have e60 : Iv h50 a0 8 = v4 := ((fxI F54 e48 rfl).trans ((fxI F42 e32 rfl).trans e33))
        refine gf_I C fk_LandSurveyModel_320 rfl e59 e60 dX12_readRock_56 ?_
        refine g_if_le C (iw f17 (by decide) (by decide)) 63 (by decide) dX12_readRock_59 (fun q61 => ?_) (fun q62 => ?_)
        · refine g_bipush C (by decide) dX12_readRock_63 ?_
          refine g_aload_n C rfl 0 rfl dX12_readRock_65 ?_
          have e63 : Rv h50 a0 12 = v18 := ((fxR F54 e48 rfl).trans ((fxR F42 e32 rfl).trans ((pIR hh29).trans e19)))
          refine gf_R C fk_LandSurveyModel_100 rfl e59 e63 dX12_readRock_66 ?_
          refine g_bipush C (by decide) dX12_readRock_69 ?_
          have e64 : Tg h50 v18 = 112100 := (fxT F54 (fxT F42 ((pIT hh29).trans t20)))
          have e65 : Tg h30 v18 = 112100 := ((pIT hh29).trans t20)
          have e66 : Tg h38 v18 = 112100 := (fxT F42 e65)
          have e67 : Ln h50 v18 = 9 := ((fxL F54 e66).trans ((fxL F42 e65).trans ((pIL hh29).trans l21)))
          have e68 : Iv h50 v18 ((8 : Int).toNat) = v22 := ((fxIa F54 e66 ar_112100 rfl).trans ((fxIa F42 e65 ar_112100 rfl).trans ((pI_n hh29 (ne_tag t20 ta0 (by decide))).trans e23)))
          refine g_iald C e64 rfl e67 (ix (il 8) (by decide) (by decide)) e68 dX12_readRock_71 ?_
          have f69 : (80 : Int) ≤ (80 + v22) ∧ (80 + v22) ≤ (89 : Int) := ia_add (il 80) f27 (by decide) (by decide)
          refine g_iadd C dX12_readRock_72 ?_
          refine g_istore_n C [(1, .inl (80 + v22)), (0, .inr (.inr a0))] rfl (by decide) rfl dX12_readRock_73 ?_
          refine g_aload_n C rfl 1 rfl dX12_readRock_74 ?_
          obtain ⟨v70, e71⟩ : ∃ z, Rv h50 a0 13 = z := ⟨_, rfl⟩
          have t72 := ok_R O53 e59 rE_12_13 e71
          have l73 := ok_L O53 e59 rE_12_13 e71
          refine gf_R C fk_LandSurveyModel_103 rfl e59 e71 dX12_readRock_75 ?_
          refine g_iload_n C rfl 0 rfl dX12_readRock_78 ?_
          refine g_aload_n C rfl 1 rfl dX12_readRock_79 ?_
          obtain ⟨v74, e75⟩ : ∃ z, Rv h50 a0 6 = z := ⟨_, rfl⟩
          have t76 := ok_R O53 e59 rE_12_6 e75
          have l77 := ok_L O53 e59 rE_12_6 e75
          refine gf_R C fk_LandSurveyModel_30 rfl e59 e75 dX12_readRock_80 ?_
          refine g_aload_n C rfl 1 rfl dX12_readRock_83 ?_
          have e78 : Iv h50 a0 7 = (v1 + 1) := ((fxI F54 e48 rfl).trans ((fxI F42 e32 rfl).trans (pI_e hh29)))
          refine gf_I C fk_LandSurveyModel_317 rfl e59 e78 dX12_readRock_84 ?_
          obtain ⟨v79, e80⟩ : ∃ z, Jv h50 v74 ((v1 + 1).toNat) = z := ⟨_, rfl⟩
          have f81 := inL_J O53 e80
          refine g_lald C t76 rfl l77 (by omega) e80 dX12_readRock_87 ?_
          refine g_last C t72 rfl l73 (ix f69 (by decide) (by decide)) f81 dX12_readRock_88 (fun h83 hh82 => ?_)
          have O84 := O53.pJ hh82 f81
          refine g_aload_n C rfl 1 rfl dX12_readRock_89 ?_
          refine g_dup C rfl dX12_readRock_90 ?_
          have e85 : Tg h83 a0 = 12 := ((pJT hh82).trans e59)
          have e86 : Iv h83 a0 7 = (v1 + 1) := ((pJI hh82).trans e78)
          refine gf_I C fk_LandSurveyModel_317 rfl e85 e86 dX12_readRock_91 ?_
          refine g_iconst C dX12_readRock_94 ?_
          have f87 : (2 : Int) ≤ ((v1 + 1) + 1) ∧ ((v1 + 1) + 1) ≤ (1503 : Int) := ia_add f28 (il 1) (by decide) (by decide)
          refine g_iadd C dX12_readRock_95 ?_
          refine gp_I C fk_LandSurveyModel_317 pk_LandSurveyModel_7 rfl e85 (iw f87 (by decide) (by decide)) (nf_i _) dX12_readRock_96 (fun h89 hh88 => ?_)
          have O90 := O84.pI e85 hh88 rI_12_7 (by omega) nofun
          refine g_aload_n C rfl 1 rfl dX12_readRock_99 ?_
          have e91 : Tg h89 a0 = 12 := ((pIT hh88).trans e85)
          obtain ⟨v92, e93⟩ : ∃ z, Rv h89 a0 14 = z := ⟨_, rfl⟩
          have t94 := ok_R O90 e91 rE_12_14 e93
          have l95 := ok_L O90 e91 rE_12_14 e93
          refine gf_R C fk_LandSurveyModel_106 rfl e91 e93 dX12_readRock_100 ?_
          refine g_iload_n C rfl 0 rfl dX12_readRock_103 ?_
          refine g_aload_n C rfl 1 rfl dX12_readRock_104 ?_
          refine g_iconst C dX12_readRock_105 ?_
          refine g_sipush C (by decide) dX12_readRock_106 ?_
          have e96 : Iv h89 a0 8 = v4 := ((pI_j hh88 (by decide)).trans ((pJI hh82).trans e60))
          have e97 : Iv h89 a0 28 = v7 := ((pI_j hh88 (by decide)).trans ((pJI hh82).trans ((fxI F54 e48 rfl).trans ((fxI F42 e32 rfl).trans e34))))
          have p98 := (TK_fx O84 ((Fx.rf (wr := [2407]) (h := h83)).pI e85 hh88 rfl) e85 rfl (TK_fx O53 ((Fx.rf (wr := [22620400]) (h := h50)).pJa t72 ar_113102 hh82 rfl) e59 rfl (TK_fx O41 F54 e48 rfl (TK_fx O31 F42 e32 rfl p35))))
          have p99 := ((NT_fx O84 ((Fx.rf (wr := [2407]) (h := h83)).pI e85 hh88 rfl) e85 rfl).trans ((NT_fx O53 ((Fx.rf (wr := [22620400]) (h := h50)).pJa t72 ar_113102 hh82 rfl) e59 rfl).trans ((NT_fx O41 F54 e48 rfl).trans ((NT_fx O31 F42 e32 rfl).trans p36))))
          refine g_callI (st := [.inl (80 + v22), .inr (.inr v92)]) (gc_V C lk_LandSurveyModel_383 (k_X12_takeNumber l D cy w z0 O90 e91 (iw (il 0) (by decide) (by decide)) (iw (il 200) (by decide) (by decide)) ⟨p98, by rw [(pI_e hh88), p99]; omega, by rw [e96, (pI_e hh88), p99]; omega, by rw [e97, (pI_e hh88)]; omega⟩) e91 rfl rfl rfl ⟨by decide, by decide⟩ (Nat.le_of_ble_eq_true rfl) dX12_readRock_109 ⟨(by decide), (by decide)⟩) (fun r100 h101 f103 K102 => ?_)
          obtain ⟨O104, F105, f106, p107, p108, p109, p110⟩ := K102
          obtain ⟨v111, e112⟩ : ∃ z, Iv h101 a0 7 = z := ⟨_, rfl⟩
          have e113 : Tg h101 a0 = 12 := (fxT F105 e91)
          have f114 := ok_I O104 e113 rI_12_7 e112
          obtain ⟨v115, e116⟩ : ∃ z, Iv h101 a0 8 = z := ⟨_, rfl⟩
          have f117 := ok_I O104 e113 rI_12_8 e116
          have e118 : Iv h101 a0 28 = v7 := ((fxI F105 e91 rfl).trans e97)
          obtain ⟨p119, p120, p121, p122⟩ := p107
          have p123 := ((NT_fx O90 F105 e91 rfl).trans p99)
          rw [e112, p123] at p120
          rw [e116, e112, p123] at p121
          rw [e118, e112] at p122
          have p124 := p108
          unfold ST at p124
          rw [(pI_e hh88), e112, e97, e118, e96, e116] at p124
          rw [e116, e112, (pI_e hh88)] at p110
          have e125 : Tg h101 v92 = 114100 := (fxT F105 t94)
          have e126 : Ln h101 v92 = 90 := ((fxL F105 t94).trans l95)
          refine g_iast C e125 rfl e126 (ix f69 (by decide) (by decide)) (iw f106 (by decide) (by decide)) dX12_readRock_112 (fun h128 hh127 => ?_)
          have O129 := O104.pIa e125 ar_114100 hh127 rI_114100_0 f106 nofun
          refine g_aload_n C rfl 1 rfl dX12_readRock_113 ?_
          refine g_bipush C (by decide) dX12_readRock_114 ?_
          have e130 : Tg h128 a0 = 12 := ((pIT hh127).trans e113)
          have e131 : Iv h128 a0 7 = v111 := ((pI_n hh127 (ne_tag e113 e125 (by decide))).trans e112)
          have e132 : Iv h128 a0 8 = v115 := ((pI_n hh127 (ne_tag e113 e125 (by decide))).trans e116)
          have e133 : Iv h128 a0 28 = v7 := ((pI_n hh127 (ne_tag e113 e125 (by decide))).trans e118)
          have p134 := (TK_fx O104 ((Fx.rf (wr := [22820000]) (h := h101)).pIa e125 ar_114100 hh127 rfl) e113 rfl p119)
          have p135 := ((NT_fx O104 ((Fx.rf (wr := [22820000]) (h := h101)).pIa e125 ar_114100 hh127 rfl) e113 rfl).trans p123)
          refine g_callV (st := []) (gc_V C lk_LandSurveyModel_387 (k_X12_takeWord l D cy w z0 O129 e130 (iw (il 9) (by decide) (by decide)) ⟨p134, by rw [e131, p135]; omega, by rw [e132, e131, p135]; omega, by rw [e133, e131]; omega⟩) e130 rfl rfl rfl ⟨by decide, by decide⟩ (Nat.le_of_ble_eq_true rfl) dX12_readRock_116 ⟨(by decide), (by decide)⟩) (fun h137 K138 => ?_)
          obtain ⟨O140, F141, p142, p143, p144⟩ := K138
          obtain ⟨v145, e146⟩ : ∃ z, Iv h137 a0 7 = z := ⟨_, rfl⟩
          have e147 : Tg h137 a0 = 12 := (fxT F141 e130)
          have f148 := ok_I O140 e147 rI_12_7 e146
          obtain ⟨v149, e150⟩ : ∃ z, Iv h137 a0 8 = z := ⟨_, rfl⟩
          have f151 := ok_I O140 e147 rI_12_8 e150
          have e152 : Iv h137 a0 28 = v7 := ((fxI F141 e130 rfl).trans e133)
          obtain ⟨p153, p154, p155, p156⟩ := p142
          have p157 := ((NT_fx O129 F141 e130 rfl).trans p135)
          rw [e146, p157] at p154
          rw [e150, e146, p157] at p155
          rw [e152, e146] at p156
          have p158 := p143
          unfold ST at p158
          rw [e131, e146, e133, e152, e132, e150] at p158
          rw [e150, e146, e131] at p144
          refine g_aload_n C rfl 1 rfl dX12_readRock_119 ?_
          obtain ⟨v159, e160⟩ : ∃ z, Rv h137 a0 15 = z := ⟨_, rfl⟩
          have t161 := ok_R O140 e147 rE_12_15 e160
          have l162 := ok_L O140 e147 rE_12_15 e160
          refine gf_R C fk_LandSurveyModel_109 rfl e147 e160 dX12_readRock_120 ?_
          refine g_iload_n C rfl 0 rfl dX12_readRock_123 ?_
          refine g_aload_n C rfl 1 rfl dX12_readRock_124 ?_
          refine g_aload_n C rfl 1 rfl dX12_readRock_125 ?_
          have e163 : Rv h137 a0 14 = v92 := ((fxR F141 e130 rfl).trans ((pIR hh127).trans ((fxR F105 e91 rfl).trans e93)))
          refine gf_R C fk_LandSurveyModel_106 rfl e147 e163 dX12_readRock_126 ?_
          refine g_iload_n C rfl 0 rfl dX12_readRock_129 ?_
          have e164 : Tg h137 v92 = 114100 := (fxT F141 ((pIT hh127).trans e125))
          have e165 : Tg h128 v92 = 114100 := ((pIT hh127).trans e125)
          have e166 : Ln h137 v92 = 90 := ((fxL F141 e165).trans ((pIL hh127).trans e126))
          have e167 : Iv h137 v92 ((80 + v22).toNat) = r100 := ((fxIa F141 e165 ar_114100 rfl).trans (pI_e hh127))
          refine g_iald C e164 rfl e166 (ix f69 (by decide) (by decide)) e167 dX12_readRock_130 ?_
          refine g_sipush C (by decide) dX12_readRock_131 ?_
          refine g_callI (st := [.inl (80 + v22), .inr (.inr v159)]) (gc_V C lk_LandSurveyModel_383 (k_X12_takeNumber l D cy w z0 O140 e147 f106 (iw (il 200) (by decide) (by decide)) ⟨p153, by rw [e146, p157]; omega, by rw [e150, e146, p157]; omega, by rw [e152, e146]; omega⟩) e147 rfl rfl rfl ⟨by decide, by decide⟩ (Nat.le_of_ble_eq_true rfl) dX12_readRock_134 ⟨(by decide), (by decide)⟩) (fun r168 h169 f171 K170 => ?_)
          obtain ⟨O172, F173, f174, p175, p176, p177, p178⟩ := K170
          obtain ⟨v179, e180⟩ : ∃ z, Iv h169 a0 7 = z := ⟨_, rfl⟩
          have e181 : Tg h169 a0 = 12 := (fxT F173 e147)
          have f182 := ok_I O172 e181 rI_12_7 e180
          obtain ⟨v183, e184⟩ : ∃ z, Iv h169 a0 8 = z := ⟨_, rfl⟩
          have f185 := ok_I O172 e181 rI_12_8 e184
          have e186 : Iv h169 a0 28 = v7 := ((fxI F173 e147 rfl).trans e152)
          obtain ⟨p187, p188, p189, p190⟩ := p175
          have p191 := ((NT_fx O140 F173 e147 rfl).trans p157)
          rw [e180, p191] at p188
          rw [e184, e180, p191] at p189
          rw [e186, e180] at p190
          have p192 := p176
          unfold ST at p192
          rw [e146, e180, e152, e186, e150, e184] at p192
          rw [e184, e180, e146] at p178
          have e193 : Tg h169 v159 = 115100 := (fxT F173 t161)
          have e194 : Ln h169 v159 = 90 := ((fxL F173 t161).trans l162)
          refine g_iast C e193 rfl e194 (ix f69 (by decide) (by decide)) (iw f174 (by decide) (by decide)) dX12_readRock_137 (fun h196 hh195 => ?_)
          have O197 := O172.pIa e193 ar_115100 hh195 rI_115100_0 f174 nofun
          refine g_aload_n C rfl 1 rfl dX12_readRock_138 ?_
          have e198 : Tg h196 a0 = 12 := ((pIT hh195).trans e181)
          have e199 : Rv h196 a0 12 = v18 := ((pIR hh195).trans ((fxR F173 e147 rfl).trans ((fxR F141 e130 rfl).trans ((pIR hh127).trans ((fxR F105 e91 rfl).trans ((pIR hh88).trans ((pJR hh82).trans e63)))))))
          refine gf_R C fk_LandSurveyModel_100 rfl e198 e199 dX12_readRock_139 ?_
          refine g_bipush C (by decide) dX12_readRock_142 ?_
          refine g_dup2 C rfl rfl dX12_readRock_144 ?_
          have e200 : Tg h196 v18 = 112100 := ((pIT hh195).trans (fxT F173 (fxT F141 ((pIT hh127).trans (fxT F105 ((pIT hh88).trans ((pJT hh82).trans e64)))))))
          have e201 : Tg h89 v18 = 112100 := ((pIT hh88).trans ((pJT hh82).trans e64))
          have e202 : Tg h128 v18 = 112100 := ((pIT hh127).trans (fxT F105 e201))
          have e203 : Tg h137 v18 = 112100 := (fxT F141 e202)
          have e204 : Ln h196 v18 = 9 := ((pIL hh195).trans ((fxL F173 e203).trans ((fxL F141 e202).trans ((pIL hh127).trans ((fxL F105 e201).trans ((pIL hh88).trans ((pJL hh82).trans e67)))))))
          have e205 : Tg h83 v18 = 112100 := ((pJT hh82).trans e64)
          have e206 : Tg h101 v18 = 112100 := (fxT F105 e201)
          have e207 : Tg h169 v18 = 112100 := (fxT F173 e203)
          have e208 : Iv h196 v18 ((8 : Int).toNat) = v22 := ((pI_n hh195 (ne_tag e207 e193 (by decide))).trans ((fxIa F173 e203 ar_112100 rfl).trans ((fxIa F141 e202 ar_112100 rfl).trans ((pI_n hh127 (ne_tag e206 e125 (by decide))).trans ((fxIa F105 e201 ar_112100 rfl).trans ((pI_n hh88 (ne_tag e205 e85 (by decide))).trans ((pJI hh82).trans e68)))))))
          refine g_iald C e200 rfl e204 (ix (il 8) (by decide) (by decide)) e208 dX12_readRock_145 ?_
          refine g_aload_n C rfl 1 rfl dX12_readRock_146 ?_
          have e209 : Iv h196 a0 8 = v183 := ((pI_n hh195 (ne_tag e181 e193 (by decide))).trans e184)
          refine gf_I C fk_LandSurveyModel_320 rfl e198 e209 dX12_readRock_147 ?_
          refine g_if_ne C (iw f185 (by decide) (by decide)) 157 (by decide) dX12_readRock_150 (fun q210 => ?_) (fun q211 => ?_)
          · have f212 : (1 : Int) ≤ v183 ∧ v183 ≤ (24005 : Int) := r_nl f185 q210
            refine g_iconst C dX12_readRock_157 ?_
            have f213 : (0 : Int) ≤ (v22 + 0) ∧ (v22 + 0) ≤ (9 : Int) := ia_add f27 (il 0) (by decide) (by decide)
            refine g_iadd C dX12_readRock_158 ?_
            refine g_iast C e200 rfl e204 (ix (il 8) (by decide) (by decide)) (iw f213 (by decide) (by decide)) dX12_readRock_159 (fun h215 hh214 => ?_)
            have O216 := O197.pIa e200 ar_112100 hh214 rI_112100_0 (iw f213 (by decide) (by decide)) nofun
            have e217 : Iv h215 a0 7 = v179 := ((pI_n hh214 (ne_tag e198 e200 (by decide))).trans ((pI_n hh195 (ne_tag e181 e193 (by decide))).trans e180))
            have e218 : Iv h215 a0 8 = v183 := ((pI_n hh214 (ne_tag e198 e200 (by decide))).trans e209)
            have e219 : Iv h215 a0 28 = v7 := ((pI_n hh214 (ne_tag e198 e200 (by decide))).trans ((pI_n hh195 (ne_tag e181 e193 (by decide))).trans e186))
            have p220 := (TK_fx O197 ((Fx.rf (wr := [22420000]) (h := h196)).pIa e200 ar_112100 hh214 rfl) e198 rfl (TK_fx O172 ((Fx.rf (wr := [23020000]) (h := h169)).pIa e193 ar_115100 hh195 rfl) e181 rfl p187))
            have p221 := ((NT_fx O197 ((Fx.rf (wr := [22420000]) (h := h196)).pIa e200 ar_112100 hh214 rfl) e198 rfl).trans ((NT_fx O172 ((Fx.rf (wr := [23020000]) (h := h169)).pIa e193 ar_115100 hh195 rfl) e181 rfl).trans p191))
            exact g_vret C hr ⟨O216, ((((((((((((Fx.rf (wr := wr_k_X12_readRock)).pI ta0 hh29 rfl).call F42 rfl).call F54 rfl).pJa t72 ar_113102 hh82 rfl).pI e85 hh88 rfl).call F105 rfl).pIa e125 ar_114100 hh127 rfl).call F141 rfl).call F173 rfl).pIa e193 ar_115100 hh195 rfl).pIa e200 ar_112100 hh214 rfl), ⟨p220, by rw [e217, p221]; omega, by rw [e218, e217, p221]; omega, by rw [e219, e217]; omega⟩, (by unfold ST; rw [e2, e217, e8, e219, e5, e218]; omega)⟩ (by decide) (by decide) dX12_readRock_160
          · have f222 : (0 : Int) ≤ v183 ∧ v183 ≤ (0 : Int) := ii f185 (r_eq (il 0) q211) (by decide) (by decide)
            refine g_iconst C dX12_readRock_153 ?_
            refine g_goto C 158 (by decide) dX12_readRock_154 ?_
            have f223 : (1 : Int) ≤ (v22 + 1) ∧ (v22 + 1) ≤ (10 : Int) := ia_add f27 (il 1) (by decide) (by decide)
            refine g_iadd C dX12_readRock_158 ?_
            refine g_iast C e200 rfl e204 (ix (il 8) (by decide) (by decide)) (iw f223 (by decide) (by decide)) dX12_readRock_159 (fun h225 hh224 => ?_)
            have O226 := O197.pIa e200 ar_112100 hh224 rI_112100_0 (iw f223 (by decide) (by decide)) nofun
            have e227 : Iv h225 a0 7 = v179 := ((pI_n hh224 (ne_tag e198 e200 (by decide))).trans ((pI_n hh195 (ne_tag e181 e193 (by decide))).trans e180))
            have e228 : Iv h225 a0 8 = v183 := ((pI_n hh224 (ne_tag e198 e200 (by decide))).trans e209)
            have e229 : Iv h225 a0 28 = v7 := ((pI_n hh224 (ne_tag e198 e200 (by decide))).trans ((pI_n hh195 (ne_tag e181 e193 (by decide))).trans e186))
            have p230 := (TK_fx O197 ((Fx.rf (wr := [22420000]) (h := h196)).pIa e200 ar_112100 hh224 rfl) e198 rfl (TK_fx O172 ((Fx.rf (wr := [23020000]) (h := h169)).pIa e193 ar_115100 hh195 rfl) e181 rfl p187))
            have p231 := ((NT_fx O197 ((Fx.rf (wr := [22420000]) (h := h196)).pIa e200 ar_112100 hh224 rfl) e198 rfl).trans ((NT_fx O172 ((Fx.rf (wr := [23020000]) (h := h169)).pIa e193 ar_115100 hh195 rfl) e181 rfl).trans p191))
            exact g_vret C hr ⟨O226, ((((((((((((Fx.rf (wr := wr_k_X12_readRock)).pI ta0 hh29 rfl).call F42 rfl).call F54 rfl).pJa t72 ar_113102 hh82 rfl).pI e85 hh88 rfl).call F105 rfl).pIa e125 ar_114100 hh127 rfl).call F141 rfl).call F173 rfl).pIa e193 ar_115100 hh195 rfl).pIa e200 ar_112100 hh224 rfl), ⟨p230, by rw [e227, p231]; omega, by rw [e228, e227, p231]; omega, by rw [e229, e227]; omega⟩, (by unfold ST; rw [e2, e227, e8, e229, e5, e228]; omega)⟩ (by decide) (by decide) dX12_readRock_160
        · exact (no_lt (il 0) f17 q62 (by decide)).elim
      · have f232 : (0 : Int) ≤ r49 ∧ r49 ≤ (9 : Int) := r_ge f55 (il 0) q57 (by decide) (by decide)
        refine g_aload_n C rfl 0 rfl dX12_readRock_50 ?_
        refine g_iconst C dX12_readRock_51 ?_
        have e233 : Tg h50 a0 = 12 := (fxT F54 e48)
        refine g_callV (st := []) (gc_V C lk_LandSurveyModel_326 (k_X12_wrong l D cy w z0 O53 e233 (iw (il 3) (by decide) (by decide))) e233 rfl rfl rfl ⟨by decide, by decide⟩ (Nat.le_of_ble_eq_true rfl) dX12_readRock_52 ⟨(by decide), (by decide)⟩) (fun h235 K236 => ?_)
        obtain ⟨O238, F239, p240⟩ := K236
        obtain ⟨v241, e242⟩ : ∃ z, Iv h235 a0 8 = z := ⟨_, rfl⟩
        have e243 : Tg h235 a0 = 12 := (fxT F239 e233)
        have f244 := ok_I O238 e243 rI_12_8 e242
        rw [e242] at p240
        have f245 : (1 : Int) ≤ v241 ∧ v241 ≤ (24005 : Int) := by omega
        refine g_aload_n C rfl 0 rfl dX12_readRock_55 ?_
        refine gf_I C fk_LandSurveyModel_320 rfl e243 e242 dX12_readRock_56 ?_
        refine g_if_le C (iw f245 (by decide) (by decide)) 63 (by decide) dX12_readRock_59 (fun q246 => ?_) (fun q247 => ?_)
        · exact (no_le f245 (il 0) q246 (by decide)).elim
        · have e248 : Iv h235 a0 7 = (v1 + 1) := ((fxI F239 e233 rfl).trans ((fxI F54 e48 rfl).trans ((fxI F42 e32 rfl).trans (pI_e hh29))))
          have e249 : Iv h235 a0 28 = v7 := ((fxI F239 e233 rfl).trans ((fxI F54 e48 rfl).trans ((fxI F42 e32 rfl).trans e34)))
          have p250 := (TK_fx O53 F239 e233 rfl (TK_fx O41 F54 e48 rfl (TK_fx O31 F42 e32 rfl p35)))
          have p251 := ((NT_fx O53 F239 e233 rfl).trans ((NT_fx O41 F54 e48 rfl).trans ((NT_fx O31 F42 e32 rfl).trans p36)))
          exact g_vret C hr ⟨O238, (((((Fx.rf (wr := wr_k_X12_readRock)).pI ta0 hh29 rfl).call F42 rfl).call F54 rfl).call F239 rfl), ⟨p250, by rw [e248, p251]; omega, by rw [e242, e248, p251]; omega, by rw [e249, e248]; omega⟩, (by unfold ST; rw [e2, e248, e8, e249, e5, e242]; omega)⟩ (by decide) (by decide) dX12_readRock_62
    · have f252 : (0 : Int) ≤ r37 ∧ r37 ≤ (0 : Int) := ii f43 (r_eq (il 0) q46) (by decide) (by decide)
      refine g_aload_n C rfl 0 rfl dX12_readRock_35 ?_
      refine g_iconst C dX12_readRock_36 ?_
      have e253 : Tg h38 a0 = 12 := (fxT F42 e32)
      refine g_callV (st := []) (gc_V C lk_LandSurveyModel_326 (k_X12_wrong l D cy w z0 O41 e253 (iw (il 1) (by decide) (by decide))) e253 rfl rfl rfl ⟨by decide, by decide⟩ (Nat.le_of_ble_eq_true rfl) dX12_readRock_37 ⟨(by decide), (by decide)⟩) (fun h255 K256 => ?_)
      obtain ⟨O258, F259, p260⟩ := K256
      obtain ⟨v261, e262⟩ : ∃ z, Iv h255 a0 8 = z := ⟨_, rfl⟩
      have e263 : Tg h255 a0 = 12 := (fxT F259 e253)
      have f264 := ok_I O258 e263 rI_12_8 e262
      rw [e262] at p260
      have f265 : (1 : Int) ≤ v261 ∧ v261 ≤ (24005 : Int) := by omega
      refine g_goto C 55 (by decide) dX12_readRock_40 ?_
      refine g_aload_n C rfl 0 rfl dX12_readRock_55 ?_
      refine gf_I C fk_LandSurveyModel_320 rfl e263 e262 dX12_readRock_56 ?_
      refine g_if_le C (iw f265 (by decide) (by decide)) 63 (by decide) dX12_readRock_59 (fun q266 => ?_) (fun q267 => ?_)
      · exact (no_le f265 (il 0) q266 (by decide)).elim
      · have e268 : Iv h255 a0 7 = (v1 + 1) := ((fxI F259 e253 rfl).trans ((fxI F42 e32 rfl).trans (pI_e hh29)))
        have e269 : Iv h255 a0 28 = v7 := ((fxI F259 e253 rfl).trans ((fxI F42 e32 rfl).trans e34))
        have p270 := (TK_fx O41 F259 e253 rfl (TK_fx O31 F42 e32 rfl p35))
        have p271 := ((NT_fx O41 F259 e253 rfl).trans ((NT_fx O31 F42 e32 rfl).trans p36))
        exact g_vret C hr ⟨O258, ((((Fx.rf (wr := wr_k_X12_readRock)).pI ta0 hh29 rfl).call F42 rfl).call F259 rfl), ⟨p270, by rw [e268, p271]; omega, by rw [e262, e268, p271]; omega, by rw [e269, e268]; omega⟩, (by unfold ST; rw [e2, e268, e8, e269, e5, e262]; omega)⟩ (by decide) (by decide) dX12_readRock_62
  · have f272 : (10 : Int) ≤ v22 ∧ v22 ≤ (10 : Int) := ii f24 (r_eq (il 10) q26) (by decide) (by decide)
    refine g_aload_n C rfl 0 rfl dX12_readRock_12 ?_
    refine g_iconst C dX12_readRock_13 ?_
    refine g_callV (st := []) (gc_V C lk_LandSurveyModel_326 (k_X12_wrong l D cy w z0 O ta0 (iw (il 5) (by decide) (by decide))) ta0 rfl rfl rfl ⟨by decide, by decide⟩ (Nat.le_of_ble_eq_true rfl) dX12_readRock_14 ⟨(by decide), (by decide)⟩) (fun h274 K275 => ?_)
    obtain ⟨O277, F278, p279⟩ := K275
    obtain ⟨v280, e281⟩ : ∃ z, Iv h274 a0 8 = z := ⟨_, rfl⟩
    have e282 : Tg h274 a0 = 12 := (fxT F278 ta0)
    have f283 := ok_I O277 e282 rI_12_8 e281
    rw [e281] at p279
    have f284 : (1 : Int) ≤ v280 ∧ v280 ≤ (24005 : Int) := by omega
    have e285 : Iv h274 a0 7 = v1 := ((fxI F278 ta0 rfl).trans e2)
    have e286 : Iv h274 a0 28 = v7 := ((fxI F278 ta0 rfl).trans e8)
    have p287 := (TK_fx O F278 ta0 rfl p10)
    have p288 := ((NT_fx O F278 ta0 rfl).trans e15)
    exact g_vret C hr ⟨O277, ((Fx.rf (wr := wr_k_X12_readRock)).call F278 rfl), ⟨p287, by rw [e285, p288]; omega, by rw [e281, e285, p288]; omega, by rw [e286, e285]; omega⟩, (by unfold ST; rw [e2, e285, e8, e286, e5, e281]; omega)⟩ (by decide) (by decide) dX12_readRock_17
def wr_k_X12_readBound : List Nat := [2407, 2408, 23620200, 23820000, 24020200, 24220000]
set_option maxRecDepth 100000 in
set_option maxHeartbeats 4000000 in
theorem k_X12_readBound (l : Launch) (D : va_G) (cy : Nat → ClassId) (w : Nat → Nat) (z0 : Nat) {h : Hp} {a0 : Nat}  (O : Okh h) (ta0 : Tg h a0 = 12) (P_RD : RD h a0) (P_kw : Iv h a0 8 = 0 ∧ Iv h a0 7 < NT h a0) : MV l D cy w z0 yX12_readBound cX12_readBound 3 none 2 43 0 0 [.inr (.inr a0)] h (fun h1 => Okh h1 ∧ Fx wr_k_X12_readBound h h1 ∧ (RD h1 a0) ∧ (ST h h1 a0)) := by
  obtain ⟨v1, e2⟩ : ∃ z, Iv h a0 7 = z := ⟨_, rfl⟩
  have f3 := ok_I O ta0 rI_12_7 e2
  obtain ⟨v4, e5⟩ : ∃ z, Iv h a0 8 = z := ⟨_, rfl⟩
  have f6 := ok_I O ta0 rI_12_8 e5
  obtain ⟨v7, e8⟩ : ∃ z, Iv h a0 28 = z := ⟨_, rfl⟩
  have f9 := ok_I O ta0 rI_12_28 e8
  obtain ⟨p10, p11, p12, p13⟩ := P_RD
  obtain ⟨v14, e15⟩ : ∃ z, NT h a0 = z := ⟨_, rfl⟩
  have f16 : (0 : Int) ≤ v14 ∧ v14 ≤ (1500 : Int) := NT_rng p10 e15
  rw [e2, e15] at p11
  rw [e5, e2, e15] at p12
  rw [e8, e2] at p13
  rw [e5, e2, e15] at P_kw
  have f17 : (0 : Int) ≤ v4 ∧ v4 ≤ (0 : Int) := by omega
  refine hm_go (by decide +kernel) (Nat.le_of_ble_eq_true rfl) (fun p e s m below meth c C hr hn => ?_)
  refine g_aload_n C rfl 0 rfl dX12_readBound_0 ?_
  refine g_iconst C dX12_readBound_1 ?_
  refine g_callI (st := []) (gc_V C lk_LandSurveyModel_330 (k_X12_isWord l D cy w z0 O ta0 (iw (il 4) (by decide) (by decide)) ⟨p10, by rw [e2, e15]; omega, by rw [e5, e2, e15]; omega, by rw [e8, e2]; omega⟩) ta0 rfl rfl rfl ⟨by decide, by decide⟩ (Nat.le_of_ble_eq_true rfl) dX12_readBound_2 ⟨(by decide), (by decide)⟩) (fun r18 h19 f21 K20 => ?_)
  obtain ⟨O22, F23, f24, p25, p26⟩ := K20
  rw [e5, e2, e15] at p25
  obtain ⟨v27, e28⟩ : ∃ z, Rv h a0 4 = z := ⟨_, rfl⟩
  have t29 := ok_R O ta0 rE_12_4 e28
  have l30 := ok_L O ta0 rE_12_4 e28
  obtain ⟨v31, e32⟩ : ∃ z, Iv h v27 v1.toNat = z := ⟨_, rfl⟩
  have f33 := ok_Ia O t29 ar_104100 rI_104100_0 e32
  obtain ⟨v34, e35⟩ : ∃ z, Rv h a0 6 = z := ⟨_, rfl⟩
  have t36 := ok_R O ta0 rE_12_6 e35
  have l37 := ok_L O ta0 rE_12_6 e35
  obtain ⟨v38, e39⟩ : ∃ z, Jv h v34 v1.toNat = z := ⟨_, rfl⟩
  have f40 := inL_J O e39
  obtain ⟨v41, e42⟩ : ∃ z, Rv h a0 9 = z := ⟨_, rfl⟩
  have t43 := ok_R O ta0 rE_12_9 e42
  have l44 := ok_L O ta0 rE_12_9 e42
  obtain ⟨v45, e46⟩ : ∃ z, Jv h v41 ((4 : Int).toNat) = z := ⟨_, rfl⟩
  have f47 := inL_J O e46
  rw [e5, e28, e2, e32, e35, e39, e42, e46] at p26
  refine g_istore_n C [(1, .inl r18), (0, .inr (.inr a0))] rfl (by decide) rfl dX12_readBound_5 ?_
  refine g_iload_n C rfl 0 rfl dX12_readBound_6 ?_
  refine g_if_eq C (iw f24 (by decide) (by decide)) 23 (by decide) dX12_readBound_7 (fun q48 => ?_) (fun q49 => ?_)
  · have f50 : (0 : Int) ≤ r18 ∧ r18 ≤ (0 : Int) := ii f24 (r_eq (il 0) q48) (by decide) (by decide)
    refine g_aload_n C rfl 1 rfl dX12_readBound_23 ?_
    have e51 : Tg h19 a0 = 12 := (fxT F23 ta0)
    obtain ⟨v52, e53⟩ : ∃ z, Rv h19 a0 20 = z := ⟨_, rfl⟩
    have t54 := ok_R O22 e51 rE_12_20 e53
    have l55 := ok_L O22 e51 rE_12_20 e53
    refine gf_R C fk_LandSurveyModel_125 rfl e51 e53 dX12_readBound_24 ?_
    refine g_bipush C (by decide) dX12_readBound_27 ?_
    obtain ⟨v56, e57⟩ : ∃ z, Iv h19 v52 ((8 : Int).toNat) = z := ⟨_, rfl⟩
    have f58 := ok_Ia O22 t54 ar_120101 rI_120101_0 e57
    refine g_zald C t54 rfl l55 (ix (il 8) (by decide) (by decide)) e57 dX12_readBound_29 ?_
    refine g_if_eq C (iw f58 (by decide) (by decide)) 39 (by decide) dX12_readBound_30 (fun q59 => ?_) (fun q60 => ?_)
    · have f61 : (0 : Int) ≤ v56 ∧ v56 ≤ (0 : Int) := ii f58 (r_eq (il 0) q59) (by decide) (by decide)
      refine g_aload_n C rfl 1 rfl dX12_readBound_39 ?_
      refine g_dup C rfl dX12_readBound_40 ?_
      have e62 : Iv h19 a0 7 = v1 := ((fxI F23 ta0 rfl).trans e2)
      refine gf_I C fk_LandSurveyModel_317 rfl e51 e62 dX12_readBound_41 ?_
      refine g_iconst C dX12_readBound_44 ?_
      have f63 : (1 : Int) ≤ (v1 + 1) ∧ (v1 + 1) ≤ (1502 : Int) := ia_add f3 (il 1) (by decide) (by decide)
      refine g_iadd C dX12_readBound_45 ?_
      refine gp_I C fk_LandSurveyModel_317 pk_LandSurveyModel_7 rfl e51 (iw f63 (by decide) (by decide)) (nf_i _) dX12_readBound_46 (fun h65 hh64 => ?_)
      have O66 := O22.pI e51 hh64 rI_12_7 (by omega) nofun
      refine g_aload_n C rfl 1 rfl dX12_readBound_49 ?_
      refine g_iconst C dX12_readBound_50 ?_
      refine g_bipush C (by decide) dX12_readBound_51 ?_
      have e67 : Tg h65 a0 = 12 := ((pIT hh64).trans e51)
      have e68 : Iv h65 a0 8 = v4 := ((pI_j hh64 (by decide)).trans ((fxI F23 ta0 rfl).trans e5))
      have e69 : Iv h65 a0 28 = v7 := ((pI_j hh64 (by decide)).trans ((fxI F23 ta0 rfl).trans e8))
      have p70 := (TK_fx O22 ((Fx.rf (wr := [2407]) (h := h19)).pI e51 hh64 rfl) e51 rfl (TK_fx O F23 ta0 rfl p10))
      have p71 := ((NT_fx O22 ((Fx.rf (wr := [2407]) (h := h19)).pI e51 hh64 rfl) e51 rfl).trans ((NT_fx O F23 ta0 rfl).trans e15))
      refine g_callI (st := []) (gc_V C lk_LandSurveyModel_383 (k_X12_takeNumber l D cy w z0 O66 e67 (iw (il 0) (by decide) (by decide)) (iw (il 99) (by decide) (by decide)) ⟨p70, by rw [(pI_e hh64), p71]; omega, by rw [e68, (pI_e hh64), p71]; omega, by rw [e69, (pI_e hh64)]; omega⟩) e67 rfl rfl rfl ⟨by decide, by decide⟩ (Nat.le_of_ble_eq_true rfl) dX12_readBound_53 ⟨(by decide), (by decide)⟩) (fun r72 h73 f75 K74 => ?_)
      obtain ⟨O76, F77, f78, p79, p80, p81, p82⟩ := K74
      obtain ⟨v83, e84⟩ : ∃ z, Iv h73 a0 7 = z := ⟨_, rfl⟩
      have e85 : Tg h73 a0 = 12 := (fxT F77 e67)
      have f86 := ok_I O76 e85 rI_12_7 e84
      obtain ⟨v87, e88⟩ : ∃ z, Iv h73 a0 8 = z := ⟨_, rfl⟩
      have f89 := ok_I O76 e85 rI_12_8 e88
      have e90 : Iv h73 a0 28 = v7 := ((fxI F77 e67 rfl).trans e69)
      obtain ⟨p91, p92, p93, p94⟩ := p79
      have p95 := ((NT_fx O66 F77 e67 rfl).trans p71)
      rw [e84, p95] at p92
      rw [e88, e84, p95] at p93
      rw [e90, e84] at p94
      have p96 := p80
      unfold ST at p96
      rw [(pI_e hh64), e84, e69, e90, e68, e88] at p96
      rw [e88, e84, (pI_e hh64)] at p82
      refine g_istore_n C [(2, .inl r72), (1, .inl r18), (0, .inr (.inr a0))] rfl (by decide) rfl dX12_readBound_56 ?_
      refine g_iload_n C rfl 1 rfl dX12_readBound_57 ?_
      refine g_if_eq C (iw f50 (by decide) (by decide)) 80 (by decide) dX12_readBound_58 (fun q97 => ?_) (fun q98 => ?_)
      · refine g_aload_n C rfl 2 rfl dX12_readBound_80 ?_
        obtain ⟨v99, e100⟩ : ∃ z, Rv h73 a0 21 = z := ⟨_, rfl⟩
        have t101 := ok_R O76 e85 rE_12_21 e100
        have l102 := ok_L O76 e85 rE_12_21 e100
        refine gf_R C fk_LandSurveyModel_128 rfl e85 e100 dX12_readBound_81 ?_
        refine g_bipush C (by decide) dX12_readBound_84 ?_
        refine g_iload_n C rfl 0 rfl dX12_readBound_86 ?_
        refine g_iast C t101 rfl l102 (ix (il 8) (by decide) (by decide)) (iw f78 (by decide) (by decide)) dX12_readBound_87 (fun h104 hh103 => ?_)
        have O105 := O76.pIa t101 ar_121100 hh103 rI_121100_0 (by omega) nofun
        refine g_aload_n C rfl 2 rfl dX12_readBound_88 ?_
        have e106 : Tg h104 a0 = 12 := ((pIT hh103).trans e85)
        have e107 : Rv h104 a0 20 = v52 := ((pIR hh103).trans ((fxR F77 e67 rfl).trans ((pIR hh64).trans e53)))
        refine gf_R C fk_LandSurveyModel_125 rfl e106 e107 dX12_readBound_89 ?_
        refine g_bipush C (by decide) dX12_readBound_92 ?_
        refine g_iconst C dX12_readBound_94 ?_
        have e108 : Tg h104 v52 = 120101 := ((pIT hh103).trans (fxT F77 ((pIT hh64).trans t54)))
        have e109 : Tg h65 v52 = 120101 := ((pIT hh64).trans t54)
        have e110 : Ln h104 v52 = 9 := ((pIL hh103).trans ((fxL F77 e109).trans ((pIL hh64).trans l55)))
        refine g_zast C e108 rfl e110 (ix (il 8) (by decide) (by decide)) (iw (il 1) (by decide) (by decide)) dX12_readBound_95 (fun h112 hh111 => ?_)
        have O113 := O105.pIa e108 ar_120101 hh111 rI_120101_0 (iw (il 1) (by decide) (by decide)) nofun
        have e114 : Iv h112 a0 7 = v83 := ((pI_n hh111 (ne_tag e106 e108 (by decide))).trans ((pI_n hh103 (ne_tag e85 t101 (by decide))).trans e84))
        have e115 : Iv h112 a0 8 = v87 := ((pI_n hh111 (ne_tag e106 e108 (by decide))).trans ((pI_n hh103 (ne_tag e85 t101 (by decide))).trans e88))
        have e116 : Iv h112 a0 28 = v7 := ((pI_n hh111 (ne_tag e106 e108 (by decide))).trans ((pI_n hh103 (ne_tag e85 t101 (by decide))).trans e90))
        have p117 := (TK_fx O105 ((Fx.rf (wr := [24020200]) (h := h104)).pIa e108 ar_120101 hh111 rfl) e106 rfl (TK_fx O76 ((Fx.rf (wr := [24220000]) (h := h73)).pIa t101 ar_121100 hh103 rfl) e85 rfl p91))
        have p118 := ((NT_fx O105 ((Fx.rf (wr := [24020200]) (h := h104)).pIa e108 ar_120101 hh111 rfl) e106 rfl).trans ((NT_fx O76 ((Fx.rf (wr := [24220000]) (h := h73)).pIa t101 ar_121100 hh103 rfl) e85 rfl).trans p95))
        exact g_vret C hr ⟨O113, ((((((Fx.rf (wr := wr_k_X12_readBound)).call F23 rfl).pI e51 hh64 rfl).call F77 rfl).pIa t101 ar_121100 hh103 rfl).pIa e108 ar_120101 hh111 rfl), ⟨p117, by rw [e114, p118]; omega, by rw [e115, e114, p118]; omega, by rw [e116, e114]; omega⟩, (by unfold ST; rw [e2, e114, e8, e116, e5, e115]; omega)⟩ (by decide) (by decide) dX12_readBound_96
      · exact (no_ne f50 (il 0) q98 (by decide)).elim
    · have f119 : (1 : Int) ≤ v56 ∧ v56 ≤ (1 : Int) := r_nl f58 q60
      refine g_aload_n C rfl 1 rfl dX12_readBound_33 ?_
      refine g_iconst C dX12_readBound_34 ?_
      refine g_callV (st := []) (gc_V C lk_LandSurveyModel_326 (k_X12_wrong l D cy w z0 O22 e51 (iw (il 3) (by decide) (by decide))) e51 rfl rfl rfl ⟨by decide, by decide⟩ (Nat.le_of_ble_eq_true rfl) dX12_readBound_35 ⟨(by decide), (by decide)⟩) (fun h121 K122 => ?_)
      obtain ⟨O124, F125, p126⟩ := K122
      obtain ⟨v127, e128⟩ : ∃ z, Iv h121 a0 8 = z := ⟨_, rfl⟩
      have e129 : Tg h121 a0 = 12 := (fxT F125 e51)
      have f130 := ok_I O124 e129 rI_12_8 e128
      rw [e128] at p126
      have f131 : (1 : Int) ≤ v127 ∧ v127 ≤ (24005 : Int) := by omega
      have e132 : Iv h121 a0 7 = v1 := ((fxI F125 e51 rfl).trans ((fxI F23 ta0 rfl).trans e2))
      have e133 : Iv h121 a0 28 = v7 := ((fxI F125 e51 rfl).trans ((fxI F23 ta0 rfl).trans e8))
      have p134 := (TK_fx O22 F125 e51 rfl (TK_fx O F23 ta0 rfl p10))
      have p135 := ((NT_fx O22 F125 e51 rfl).trans ((NT_fx O F23 ta0 rfl).trans e15))
      exact g_vret C hr ⟨O124, (((Fx.rf (wr := wr_k_X12_readBound)).call F23 rfl).call F125 rfl), ⟨p134, by rw [e132, p135]; omega, by rw [e128, e132, p135]; omega, by rw [e133, e132]; omega⟩, (by unfold ST; rw [e2, e132, e8, e133, e5, e128]; omega)⟩ (by decide) (by decide) dX12_readBound_38
  · have f136 : (1 : Int) ≤ r18 ∧ r18 ≤ (1 : Int) := r_nl f24 q49
    refine g_aload_n C rfl 1 rfl dX12_readBound_10 ?_
    have e137 : Tg h19 a0 = 12 := (fxT F23 ta0)
    obtain ⟨v138, e139⟩ : ∃ z, Rv h19 a0 18 = z := ⟨_, rfl⟩
    have t140 := ok_R O22 e137 rE_12_18 e139
    have l141 := ok_L O22 e137 rE_12_18 e139
    refine gf_R C fk_LandSurveyModel_119 rfl e137 e139 dX12_readBound_11 ?_
    refine g_bipush C (by decide) dX12_readBound_14 ?_
    obtain ⟨v142, e143⟩ : ∃ z, Iv h19 v138 ((8 : Int).toNat) = z := ⟨_, rfl⟩
    have f144 := ok_Ia O22 t140 ar_118101 rI_118101_0 e143
    refine g_zald C t140 rfl l141 (ix (il 8) (by decide) (by decide)) e143 dX12_readBound_16 ?_
    refine g_if_eq C (iw f144 (by decide) (by decide)) 39 (by decide) dX12_readBound_17 (fun q145 => ?_) (fun q146 => ?_)
    · have f147 : (0 : Int) ≤ v142 ∧ v142 ≤ (0 : Int) := ii f144 (r_eq (il 0) q145) (by decide) (by decide)
      refine g_aload_n C rfl 1 rfl dX12_readBound_39 ?_
      refine g_dup C rfl dX12_readBound_40 ?_
      have e148 : Iv h19 a0 7 = v1 := ((fxI F23 ta0 rfl).trans e2)
      refine gf_I C fk_LandSurveyModel_317 rfl e137 e148 dX12_readBound_41 ?_
      refine g_iconst C dX12_readBound_44 ?_
      have f149 : (1 : Int) ≤ (v1 + 1) ∧ (v1 + 1) ≤ (1502 : Int) := ia_add f3 (il 1) (by decide) (by decide)
      refine g_iadd C dX12_readBound_45 ?_
      refine gp_I C fk_LandSurveyModel_317 pk_LandSurveyModel_7 rfl e137 (iw f149 (by decide) (by decide)) (nf_i _) dX12_readBound_46 (fun h151 hh150 => ?_)
      have O152 := O22.pI e137 hh150 rI_12_7 (by omega) nofun
      refine g_aload_n C rfl 1 rfl dX12_readBound_49 ?_
      refine g_iconst C dX12_readBound_50 ?_
      refine g_bipush C (by decide) dX12_readBound_51 ?_
      have e153 : Tg h151 a0 = 12 := ((pIT hh150).trans e137)
      have e154 : Iv h151 a0 8 = v4 := ((pI_j hh150 (by decide)).trans ((fxI F23 ta0 rfl).trans e5))
      have e155 : Iv h151 a0 28 = v7 := ((pI_j hh150 (by decide)).trans ((fxI F23 ta0 rfl).trans e8))
      have p156 := (TK_fx O22 ((Fx.rf (wr := [2407]) (h := h19)).pI e137 hh150 rfl) e137 rfl (TK_fx O F23 ta0 rfl p10))
      have p157 := ((NT_fx O22 ((Fx.rf (wr := [2407]) (h := h19)).pI e137 hh150 rfl) e137 rfl).trans ((NT_fx O F23 ta0 rfl).trans e15))
      refine g_callI (st := []) (gc_V C lk_LandSurveyModel_383 (k_X12_takeNumber l D cy w z0 O152 e153 (iw (il 0) (by decide) (by decide)) (iw (il 99) (by decide) (by decide)) ⟨p156, by rw [(pI_e hh150), p157]; omega, by rw [e154, (pI_e hh150), p157]; omega, by rw [e155, (pI_e hh150)]; omega⟩) e153 rfl rfl rfl ⟨by decide, by decide⟩ (Nat.le_of_ble_eq_true rfl) dX12_readBound_53 ⟨(by decide), (by decide)⟩) (fun r158 h159 f161 K160 => ?_)
      obtain ⟨O162, F163, f164, p165, p166, p167, p168⟩ := K160
      obtain ⟨v169, e170⟩ : ∃ z, Iv h159 a0 7 = z := ⟨_, rfl⟩
      have e171 : Tg h159 a0 = 12 := (fxT F163 e153)
      have f172 := ok_I O162 e171 rI_12_7 e170
      obtain ⟨v173, e174⟩ : ∃ z, Iv h159 a0 8 = z := ⟨_, rfl⟩
      have f175 := ok_I O162 e171 rI_12_8 e174
      have e176 : Iv h159 a0 28 = v7 := ((fxI F163 e153 rfl).trans e155)
      obtain ⟨p177, p178, p179, p180⟩ := p165
      have p181 := ((NT_fx O152 F163 e153 rfl).trans p157)
      rw [e170, p181] at p178
      rw [e174, e170, p181] at p179
      rw [e176, e170] at p180
      have p182 := p166
      unfold ST at p182
      rw [(pI_e hh150), e170, e155, e176, e154, e174] at p182
      rw [e174, e170, (pI_e hh150)] at p168
      refine g_istore_n C [(2, .inl r158), (1, .inl r18), (0, .inr (.inr a0))] rfl (by decide) rfl dX12_readBound_56 ?_
      refine g_iload_n C rfl 1 rfl dX12_readBound_57 ?_
      refine g_if_eq C (iw f136 (by decide) (by decide)) 80 (by decide) dX12_readBound_58 (fun q183 => ?_) (fun q184 => ?_)
      · exact (no_eq f136 (il 0) q183 (by decide)).elim
      · refine g_aload_n C rfl 2 rfl dX12_readBound_61 ?_
        obtain ⟨v185, e186⟩ : ∃ z, Rv h159 a0 19 = z := ⟨_, rfl⟩
        have t187 := ok_R O162 e171 rE_12_19 e186
        have l188 := ok_L O162 e171 rE_12_19 e186
        refine gf_R C fk_LandSurveyModel_122 rfl e171 e186 dX12_readBound_62 ?_
        refine g_bipush C (by decide) dX12_readBound_65 ?_
        refine g_iload_n C rfl 0 rfl dX12_readBound_67 ?_
        refine g_iast C t187 rfl l188 (ix (il 8) (by decide) (by decide)) (iw f164 (by decide) (by decide)) dX12_readBound_68 (fun h190 hh189 => ?_)
        have O191 := O162.pIa t187 ar_119100 hh189 rI_119100_0 (by omega) nofun
        refine g_aload_n C rfl 2 rfl dX12_readBound_69 ?_
        have e192 : Tg h190 a0 = 12 := ((pIT hh189).trans e171)
        have e193 : Rv h190 a0 18 = v138 := ((pIR hh189).trans ((fxR F163 e153 rfl).trans ((pIR hh150).trans e139)))
        refine gf_R C fk_LandSurveyModel_119 rfl e192 e193 dX12_readBound_70 ?_
        refine g_bipush C (by decide) dX12_readBound_73 ?_
        refine g_iconst C dX12_readBound_75 ?_
        have e194 : Tg h190 v138 = 118101 := ((pIT hh189).trans (fxT F163 ((pIT hh150).trans t140)))
        have e195 : Tg h151 v138 = 118101 := ((pIT hh150).trans t140)
        have e196 : Ln h190 v138 = 9 := ((pIL hh189).trans ((fxL F163 e195).trans ((pIL hh150).trans l141)))
        refine g_zast C e194 rfl e196 (ix (il 8) (by decide) (by decide)) (iw (il 1) (by decide) (by decide)) dX12_readBound_76 (fun h198 hh197 => ?_)
        have O199 := O191.pIa e194 ar_118101 hh197 rI_118101_0 (iw (il 1) (by decide) (by decide)) nofun
        refine g_goto C 96 (by decide) dX12_readBound_77 ?_
        have e200 : Iv h198 a0 7 = v169 := ((pI_n hh197 (ne_tag e192 e194 (by decide))).trans ((pI_n hh189 (ne_tag e171 t187 (by decide))).trans e170))
        have e201 : Iv h198 a0 8 = v173 := ((pI_n hh197 (ne_tag e192 e194 (by decide))).trans ((pI_n hh189 (ne_tag e171 t187 (by decide))).trans e174))
        have e202 : Iv h198 a0 28 = v7 := ((pI_n hh197 (ne_tag e192 e194 (by decide))).trans ((pI_n hh189 (ne_tag e171 t187 (by decide))).trans e176))
        have p203 := (TK_fx O191 ((Fx.rf (wr := [23620200]) (h := h190)).pIa e194 ar_118101 hh197 rfl) e192 rfl (TK_fx O162 ((Fx.rf (wr := [23820000]) (h := h159)).pIa t187 ar_119100 hh189 rfl) e171 rfl p177))
        have p204 := ((NT_fx O191 ((Fx.rf (wr := [23620200]) (h := h190)).pIa e194 ar_118101 hh197 rfl) e192 rfl).trans ((NT_fx O162 ((Fx.rf (wr := [23820000]) (h := h159)).pIa t187 ar_119100 hh189 rfl) e171 rfl).trans p181))
        exact g_vret C hr ⟨O199, ((((((Fx.rf (wr := wr_k_X12_readBound)).call F23 rfl).pI e137 hh150 rfl).call F163 rfl).pIa t187 ar_119100 hh189 rfl).pIa e194 ar_118101 hh197 rfl), ⟨p203, by rw [e200, p204]; omega, by rw [e201, e200, p204]; omega, by rw [e202, e200]; omega⟩, (by unfold ST; rw [e2, e200, e8, e202, e5, e201]; omega)⟩ (by decide) (by decide) dX12_readBound_96
    · have f205 : (1 : Int) ≤ v142 ∧ v142 ≤ (1 : Int) := r_nl f144 q146
      refine g_goto C 33 (by decide) dX12_readBound_20 ?_
      refine g_aload_n C rfl 1 rfl dX12_readBound_33 ?_
      refine g_iconst C dX12_readBound_34 ?_
      refine g_callV (st := []) (gc_V C lk_LandSurveyModel_326 (k_X12_wrong l D cy w z0 O22 e137 (iw (il 3) (by decide) (by decide))) e137 rfl rfl rfl ⟨by decide, by decide⟩ (Nat.le_of_ble_eq_true rfl) dX12_readBound_35 ⟨(by decide), (by decide)⟩) (fun h207 K208 => ?_)
      obtain ⟨O210, F211, p212⟩ := K208
      obtain ⟨v213, e214⟩ : ∃ z, Iv h207 a0 8 = z := ⟨_, rfl⟩
      have e215 : Tg h207 a0 = 12 := (fxT F211 e137)
      have f216 := ok_I O210 e215 rI_12_8 e214
      rw [e214] at p212
      have f217 : (1 : Int) ≤ v213 ∧ v213 ≤ (24005 : Int) := by omega
      have e218 : Iv h207 a0 7 = v1 := ((fxI F211 e137 rfl).trans ((fxI F23 ta0 rfl).trans e2))
      have e219 : Iv h207 a0 28 = v7 := ((fxI F211 e137 rfl).trans ((fxI F23 ta0 rfl).trans e8))
      have p220 := (TK_fx O22 F211 e137 rfl (TK_fx O F23 ta0 rfl p10))
      have p221 := ((NT_fx O22 F211 e137 rfl).trans ((NT_fx O F23 ta0 rfl).trans e15))
      exact g_vret C hr ⟨O210, (((Fx.rf (wr := wr_k_X12_readBound)).call F23 rfl).call F211 rfl), ⟨p220, by rw [e218, p221]; omega, by rw [e214, e218, p221]; omega, by rw [e219, e218]; omega⟩, (by unfold ST; rw [e2, e218, e8, e219, e5, e214]; omega)⟩ (by decide) (by decide) dX12_readBound_38
def wr_k_X12_readRemain : List Nat := [2407, 2408, 24420000, 24620000]
set_option maxRecDepth 100000 in
set_option maxHeartbeats 4000000 in
theorem k_X12_readRemain (l : Launch) (D : va_G) (cy : Nat → ClassId) (w : Nat → Nat) (z0 : Nat) {h : Hp} {a0 : Nat}  (O : Okh h) (ta0 : Tg h a0 = 12) (P_RD : RD h a0) (P_kw : Iv h a0 8 = 0 ∧ Iv h a0 7 < NT h a0) : MV l D cy w z0 yX12_readRemain cX12_readRemain 5 none 3 64 0 0 [.inr (.inr a0)] h (fun h1 => Okh h1 ∧ Fx wr_k_X12_readRemain h h1 ∧ (RD h1 a0) ∧ (ST h h1 a0)) := by
  obtain ⟨v1, e2⟩ : ∃ z, Iv h a0 7 = z := ⟨_, rfl⟩
  have f3 := ok_I O ta0 rI_12_7 e2
  obtain ⟨v4, e5⟩ : ∃ z, Iv h a0 8 = z := ⟨_, rfl⟩
  have f6 := ok_I O ta0 rI_12_8 e5
  obtain ⟨v7, e8⟩ : ∃ z, Iv h a0 28 = z := ⟨_, rfl⟩
  have f9 := ok_I O ta0 rI_12_28 e8
  obtain ⟨p10, p11, p12, p13⟩ := P_RD
  obtain ⟨v14, e15⟩ : ∃ z, NT h a0 = z := ⟨_, rfl⟩
  have f16 : (0 : Int) ≤ v14 ∧ v14 ≤ (1500 : Int) := NT_rng p10 e15
  rw [e2, e15] at p11
  rw [e5, e2, e15] at p12
  rw [e8, e2] at p13
  rw [e5, e2, e15] at P_kw
  have f17 : (0 : Int) ≤ v4 ∧ v4 ≤ (0 : Int) := by omega
  refine hm_go (by decide +kernel) (Nat.le_of_ble_eq_true rfl) (fun p e s m below meth c C hr hn => ?_)
  refine g_aload_n C rfl 0 rfl dX12_readRemain_0 ?_
  refine g_dup C rfl dX12_readRemain_1 ?_
  refine gf_I C fk_LandSurveyModel_317 rfl ta0 e2 dX12_readRemain_2 ?_
  refine g_iconst C dX12_readRemain_5 ?_
  have f18 : (1 : Int) ≤ (v1 + 1) ∧ (v1 + 1) ≤ (1502 : Int) := ia_add f3 (il 1) (by decide) (by decide)
  refine g_iadd C dX12_readRemain_6 ?_
  refine gp_I C fk_LandSurveyModel_317 pk_LandSurveyModel_7 rfl ta0 (iw f18 (by decide) (by decide)) (nf_i _) dX12_readRemain_7 (fun h20 hh19 => ?_)
  have O21 := O.pI ta0 hh19 rI_12_7 (by omega) nofun
  refine g_aload_n C rfl 0 rfl dX12_readRemain_10 ?_
  have e22 : Tg h20 a0 = 12 := ((pIT hh19).trans ta0)
  obtain ⟨v23, e24⟩ : ∃ z, Rv h20 a0 4 = z := ⟨_, rfl⟩
  have t25 := ok_R O21 e22 rE_12_4 e24
  have l26 := ok_L O21 e22 rE_12_4 e24
  refine gf_R C fk_LandSurveyModel_24 rfl e22 e24 dX12_readRemain_11 ?_
  refine g_aload_n C rfl 0 rfl dX12_readRemain_14 ?_
  refine gf_I C fk_LandSurveyModel_317 rfl e22 (pI_e hh19) dX12_readRemain_15 ?_
  obtain ⟨v27, e28⟩ : ∃ z, Iv h20 v23 ((v1 + 1).toNat) = z := ⟨_, rfl⟩
  have f29 := ok_Ia O21 t25 ar_104100 rI_104100_0 e28
  refine g_iald C t25 rfl l26 (by omega) e28 dX12_readRemain_18 ?_
  refine g_iconst C dX12_readRemain_19 ?_
  refine g_icmp_ne C (iw f29 (by decide) (by decide)) (iw (il 2) (by decide) (by decide)) 65 (by decide) dX12_readRemain_20 (fun q30 => ?_) (fun q31 => ?_)
  · refine g_bipush C (by decide) dX12_readRemain_65 ?_
    refine g_aload_n C rfl 0 rfl dX12_readRemain_67 ?_
    refine g_iconst C dX12_readRemain_68 ?_
    refine g_bipush C (by decide) dX12_readRemain_69 ?_
    have e32 : Iv h20 a0 8 = v4 := ((pI_j hh19 (by decide)).trans e5)
    have e33 : Iv h20 a0 28 = v7 := ((pI_j hh19 (by decide)).trans e8)
    have p34 := (TK_fx O ((Fx.rf (wr := [2407]) (h := h)).pI ta0 hh19 rfl) ta0 rfl p10)
    have p35 := ((NT_fx O ((Fx.rf (wr := [2407]) (h := h)).pI ta0 hh19 rfl) ta0 rfl).trans e15)
    refine g_callI (st := [.inl 80]) (gc_V C lk_LandSurveyModel_383 (k_X12_takeNumber l D cy w z0 O21 e22 (iw (il 0) (by decide) (by decide)) (iw (il 9) (by decide) (by decide)) ⟨p34, by rw [(pI_e hh19), p35]; omega, by rw [e32, (pI_e hh19), p35]; omega, by rw [e33, (pI_e hh19)]; omega⟩) e22 rfl rfl rfl ⟨by decide, by decide⟩ (Nat.le_of_ble_eq_true rfl) dX12_readRemain_71 ⟨(by decide), (by decide)⟩) (fun r36 h37 f39 K38 => ?_)
    obtain ⟨O40, F41, f42, p43, p44, p45, p46⟩ := K38
    obtain ⟨v47, e48⟩ : ∃ z, Iv h37 a0 7 = z := ⟨_, rfl⟩
    have e49 : Tg h37 a0 = 12 := (fxT F41 e22)
    have f50 := ok_I O40 e49 rI_12_7 e48
    obtain ⟨v51, e52⟩ : ∃ z, Iv h37 a0 8 = z := ⟨_, rfl⟩
    have f53 := ok_I O40 e49 rI_12_8 e52
    have e54 : Iv h37 a0 28 = v7 := ((fxI F41 e22 rfl).trans e33)
    obtain ⟨p55, p56, p57, p58⟩ := p43
    have p59 := ((NT_fx O21 F41 e22 rfl).trans p35)
    rw [e48, p59] at p56
    rw [e52, e48, p59] at p57
    rw [e54, e48] at p58
    have p60 := p44
    unfold ST at p60
    rw [(pI_e hh19), e48, e33, e54, e32, e52] at p60
    rw [e52, e48, (pI_e hh19)] at p46
    have f61 : (80 : Int) ≤ (80 + r36) ∧ (80 + r36) ≤ (280 : Int) := ia_add (il 80) f42 (by decide) (by decide)
    refine g_iadd C dX12_readRemain_74 ?_
    refine g_istore_n C [(1, .inl (80 + r36)), (0, .inr (.inr a0))] rfl (by decide) rfl dX12_readRemain_75 ?_
    refine g_aload_n C rfl 1 rfl dX12_readRemain_76 ?_
    refine g_bipush C (by decide) dX12_readRemain_77 ?_
    refine g_callV (st := []) (gc_V C lk_LandSurveyModel_387 (k_X12_takeWord l D cy w z0 O40 e49 (iw (il 10) (by decide) (by decide)) ⟨p55, by rw [e48, p59]; omega, by rw [e52, e48, p59]; omega, by rw [e54, e48]; omega⟩) e49 rfl rfl rfl ⟨by decide, by decide⟩ (Nat.le_of_ble_eq_true rfl) dX12_readRemain_79 ⟨(by decide), (by decide)⟩) (fun h63 K64 => ?_)
    obtain ⟨O66, F67, p68, p69, p70⟩ := K64
    obtain ⟨v71, e72⟩ : ∃ z, Iv h63 a0 7 = z := ⟨_, rfl⟩
    have e73 : Tg h63 a0 = 12 := (fxT F67 e49)
    have f74 := ok_I O66 e73 rI_12_7 e72
    obtain ⟨v75, e76⟩ : ∃ z, Iv h63 a0 8 = z := ⟨_, rfl⟩
    have f77 := ok_I O66 e73 rI_12_8 e76
    have e78 : Iv h63 a0 28 = v7 := ((fxI F67 e49 rfl).trans e54)
    obtain ⟨p79, p80, p81, p82⟩ := p68
    have p83 := ((NT_fx O40 F67 e49 rfl).trans p59)
    rw [e72, p83] at p80
    rw [e76, e72, p83] at p81
    rw [e78, e72] at p82
    have p84 := p69
    unfold ST at p84
    rw [e48, e72, e54, e78, e52, e76] at p84
    rw [e76, e72, e48] at p70
    refine g_aload_n C rfl 1 rfl dX12_readRemain_82 ?_
    refine g_callI (st := []) (gc_V C lk_LandSurveyModel_374 (k_X12_takeRock l D cy w z0 O66 e73 ⟨p79, by rw [e72, p83]; omega, by rw [e76, e72, p83]; omega, by rw [e78, e72]; omega⟩) e73 rfl rfl rfl ⟨by decide, by decide⟩ (Nat.le_of_ble_eq_true rfl) dX12_readRemain_83 ⟨(by decide), (by decide)⟩) (fun r85 h86 f88 K87 => ?_)
    obtain ⟨O89, F90, f91, p92, p93⟩ := K87
    obtain ⟨v94, e95⟩ : ∃ z, Iv h86 a0 7 = z := ⟨_, rfl⟩
    have e96 : Tg h86 a0 = 12 := (fxT F90 e73)
    have f97 := ok_I O89 e96 rI_12_7 e95
    obtain ⟨v98, e99⟩ : ∃ z, Iv h86 a0 8 = z := ⟨_, rfl⟩
    have f100 := ok_I O89 e96 rI_12_8 e99
    have e101 : Iv h86 a0 28 = v7 := ((fxI F90 e73 rfl).trans e78)
    obtain ⟨p102, p103, p104, p105⟩ := p92
    have p106 := ((NT_fx O66 F90 e73 rfl).trans p83)
    rw [e95, p106] at p103
    rw [e99, e95, p106] at p104
    rw [e101, e95] at p105
    have p107 := p93
    unfold ST at p107
    rw [e72, e95, e78, e101, e76, e99] at p107
    refine g_istore_n C [(2, .inl r85), (1, .inl (80 + r36)), (0, .inr (.inr a0))] rfl (by decide) rfl dX12_readRemain_86 ?_
    refine g_aload_n C rfl 2 rfl dX12_readRemain_87 ?_
    refine g_bipush C (by decide) dX12_readRemain_88 ?_
    refine g_callV (st := []) (gc_V C lk_LandSurveyModel_387 (k_X12_takeWord l D cy w z0 O89 e96 (iw (il 9) (by decide) (by decide)) ⟨p102, by rw [e95, p106]; omega, by rw [e99, e95, p106]; omega, by rw [e101, e95]; omega⟩) e96 rfl rfl rfl ⟨by decide, by decide⟩ (Nat.le_of_ble_eq_true rfl) dX12_readRemain_90 ⟨(by decide), (by decide)⟩) (fun h109 K110 => ?_)
    obtain ⟨O112, F113, p114, p115, p116⟩ := K110
    obtain ⟨v117, e118⟩ : ∃ z, Iv h109 a0 7 = z := ⟨_, rfl⟩
    have e119 : Tg h109 a0 = 12 := (fxT F113 e96)
    have f120 := ok_I O112 e119 rI_12_7 e118
    obtain ⟨v121, e122⟩ : ∃ z, Iv h109 a0 8 = z := ⟨_, rfl⟩
    have f123 := ok_I O112 e119 rI_12_8 e122
    have e124 : Iv h109 a0 28 = v7 := ((fxI F113 e96 rfl).trans e101)
    obtain ⟨p125, p126, p127, p128⟩ := p114
    have p129 := ((NT_fx O89 F113 e96 rfl).trans p106)
    rw [e118, p129] at p126
    rw [e122, e118, p129] at p127
    rw [e124, e118] at p128
    have p130 := p115
    unfold ST at p130
    rw [e95, e118, e101, e124, e99, e122] at p130
    rw [e122, e118, e95] at p116
    refine g_aload_n C rfl 2 rfl dX12_readRemain_93 ?_
    refine gf_I C fk_LandSurveyModel_317 rfl e119 e118 dX12_readRemain_94 ?_
    refine g_istore_n C [(3, .inl v117), (2, .inl r85), (1, .inl (80 + r36)), (0, .inr (.inr a0))] rfl (by decide) rfl dX12_readRemain_97 ?_
    refine g_aload_n C rfl 3 rfl dX12_readRemain_98 ?_
    refine g_callI (st := []) (gc_V C lk_LandSurveyModel_374 (k_X12_takeRock l D cy w z0 O112 e119 ⟨p125, by rw [e118, p129]; omega, by rw [e122, e118, p129]; omega, by rw [e124, e118]; omega⟩) e119 rfl rfl rfl ⟨by decide, by decide⟩ (Nat.le_of_ble_eq_true rfl) dX12_readRemain_99 ⟨(by decide), (by decide)⟩) (fun r131 h132 f134 K133 => ?_)
    obtain ⟨O135, F136, f137, p138, p139⟩ := K133
    obtain ⟨v140, e141⟩ : ∃ z, Iv h132 a0 7 = z := ⟨_, rfl⟩
    have e142 : Tg h132 a0 = 12 := (fxT F136 e119)
    have f143 := ok_I O135 e142 rI_12_7 e141
    obtain ⟨v144, e145⟩ : ∃ z, Iv h132 a0 8 = z := ⟨_, rfl⟩
    have f146 := ok_I O135 e142 rI_12_8 e145
    have e147 : Iv h132 a0 28 = v7 := ((fxI F136 e119 rfl).trans e124)
    obtain ⟨p148, p149, p150, p151⟩ := p138
    have p152 := ((NT_fx O112 F136 e119 rfl).trans p129)
    rw [e141, p152] at p149
    rw [e145, e141, p152] at p150
    rw [e147, e141] at p151
    have p153 := p139
    unfold ST at p153
    rw [e118, e141, e124, e147, e122, e145] at p153
    refine g_istore C [(4, .inl r131), (3, .inl v117), (2, .inl r85), (1, .inl (80 + r36)), (0, .inr (.inr a0))] (by decide) rfl dX12_readRemain_102 ?_
    refine g_aload_n C rfl 4 rfl dX12_readRemain_104 ?_
    refine gf_I C fk_LandSurveyModel_320 rfl e142 e145 dX12_readRemain_105 ?_
    refine g_if_ne C (iw f146 (by decide) (by decide)) 132 (by decide) dX12_readRemain_108 (fun q154 => ?_) (fun q155 => ?_)
    · have f156 : (1 : Int) ≤ v144 ∧ v144 ≤ (24005 : Int) := r_nl f146 q154
      refine g_aload_n C rfl 4 rfl dX12_readRemain_132 ?_
      refine gf_I C fk_LandSurveyModel_320 rfl e142 e145 dX12_readRemain_133 ?_
      refine g_if_ne C (iw f156 (by decide) (by decide)) 154 (by decide) dX12_readRemain_136 (fun q157 => ?_) (fun q158 => ?_)
      · exact g_vret C hr ⟨O135, (((((((Fx.rf (wr := wr_k_X12_readRemain)).pI ta0 hh19 rfl).call F41 rfl).call F67 rfl).call F90 rfl).call F113 rfl).call F136 rfl), ⟨p148, by rw [e141, p152]; omega, by rw [e145, e141, p152]; omega, by rw [e147, e141]; omega⟩, (by unfold ST; rw [e2, e141, e8, e147, e5, e145]; omega)⟩ (by decide) (by decide) dX12_readRemain_154
      · exact (no_eq f156 (il 0) q158 (by decide)).elim
    · have f159 : (0 : Int) ≤ v144 ∧ v144 ≤ (0 : Int) := ii f146 (r_eq (il 0) q155) (by decide) (by decide)
      refine g_iload C 0 rfl dX12_readRemain_111 ?_
      refine g_iload_n C rfl 2 rfl dX12_readRemain_113 ?_
      refine g_icmp_ge C (iw f137 (by decide) (by decide)) (iw f91 (by decide) (by decide)) 132 (by decide) dX12_readRemain_114 (fun q160 => ?_) (fun q161 => ?_)
      · refine g_aload_n C rfl 4 rfl dX12_readRemain_132 ?_
        refine gf_I C fk_LandSurveyModel_320 rfl e142 e145 dX12_readRemain_133 ?_
        refine g_if_ne C (iw f159 (by decide) (by decide)) 154 (by decide) dX12_readRemain_136 (fun q162 => ?_) (fun q163 => ?_)
        · exact (no_ne f159 (il 0) q162 (by decide)).elim
        · refine g_aload_n C rfl 4 rfl dX12_readRemain_139 ?_
          obtain ⟨v164, e165⟩ : ∃ z, Rv h132 a0 22 = z := ⟨_, rfl⟩
          have t166 := ok_R O135 e142 rE_12_22 e165
          have l167 := ok_L O135 e142 rE_12_22 e165
          refine gf_R C fk_LandSurveyModel_131 rfl e142 e165 dX12_readRemain_140 ?_
          refine g_iload_n C rfl 3 rfl dX12_readRemain_143 ?_
          refine g_iload_n C rfl 2 rfl dX12_readRemain_144 ?_
          refine g_iast C t166 rfl l167 (by omega) (iw f91 (by decide) (by decide)) dX12_readRemain_145 (fun h169 hh168 => ?_)
          have O170 := O135.pIa t166 ar_122100 hh168 rI_122100_0 (iw f91 (by decide) (by decide)) nofun
          refine g_aload_n C rfl 4 rfl dX12_readRemain_146 ?_
          have e171 : Tg h169 a0 = 12 := ((pIT hh168).trans e142)
          obtain ⟨v172, e173⟩ : ∃ z, Rv h169 a0 23 = z := ⟨_, rfl⟩
          have t174 := ok_R O170 e171 rE_12_23 e173
          have l175 := ok_L O170 e171 rE_12_23 e173
          refine gf_R C fk_LandSurveyModel_134 rfl e171 e173 dX12_readRemain_147 ?_
          refine g_iload_n C rfl 3 rfl dX12_readRemain_150 ?_
          refine g_iload C 0 rfl dX12_readRemain_151 ?_
          refine g_iast C t174 rfl l175 (by omega) (iw f137 (by decide) (by decide)) dX12_readRemain_153 (fun h177 hh176 => ?_)
          have O178 := O170.pIa t174 ar_123100 hh176 rI_123100_0 f137 nofun
          have e179 : Iv h177 a0 7 = v140 := ((pI_n hh176 (ne_tag e171 t174 (by decide))).trans ((pI_n hh168 (ne_tag e142 t166 (by decide))).trans e141))
          have e180 : Iv h177 a0 8 = v144 := ((pI_n hh176 (ne_tag e171 t174 (by decide))).trans ((pI_n hh168 (ne_tag e142 t166 (by decide))).trans e145))
          have e181 : Iv h177 a0 28 = v7 := ((pI_n hh176 (ne_tag e171 t174 (by decide))).trans ((pI_n hh168 (ne_tag e142 t166 (by decide))).trans e147))
          have p182 := (TK_fx O170 ((Fx.rf (wr := [24620000]) (h := h169)).pIa t174 ar_123100 hh176 rfl) e171 rfl (TK_fx O135 ((Fx.rf (wr := [24420000]) (h := h132)).pIa t166 ar_122100 hh168 rfl) e142 rfl p148))
          have p183 := ((NT_fx O170 ((Fx.rf (wr := [24620000]) (h := h169)).pIa t174 ar_123100 hh176 rfl) e171 rfl).trans ((NT_fx O135 ((Fx.rf (wr := [24420000]) (h := h132)).pIa t166 ar_122100 hh168 rfl) e142 rfl).trans p152))
          exact g_vret C hr ⟨O178, (((((((((Fx.rf (wr := wr_k_X12_readRemain)).pI ta0 hh19 rfl).call F41 rfl).call F67 rfl).call F90 rfl).call F113 rfl).call F136 rfl).pIa t166 ar_122100 hh168 rfl).pIa t174 ar_123100 hh176 rfl), ⟨p182, by rw [e179, p183]; omega, by rw [e180, e179, p183]; omega, by rw [e181, e179]; omega⟩, (by unfold ST; rw [e2, e179, e8, e181, e5, e180]; omega)⟩ (by decide) (by decide) dX12_readRemain_154
      · have f184 : (0 : Int) ≤ r131 ∧ r131 ≤ (8 : Int) := r_lt f137 f91 q161 (by decide) (by decide)
        have f185 : (1 : Int) ≤ r85 ∧ r85 ≤ (9 : Int) := r_gt f91 f137 q161 (by decide) (by decide)
        refine g_aload_n C rfl 4 rfl dX12_readRemain_117 ?_
        refine g_iconst C dX12_readRemain_118 ?_
        refine g_bipush C (by decide) dX12_readRemain_119 ?_
        refine g_aload_n C rfl 4 rfl dX12_readRemain_121 ?_
        obtain ⟨v186, e187⟩ : ∃ z, Rv h132 a0 5 = z := ⟨_, rfl⟩
        have t188 := ok_R O135 e142 rE_12_5 e187
        have l189 := ok_L O135 e142 rE_12_5 e187
        refine gf_R C fk_LandSurveyModel_27 rfl e142 e187 dX12_readRemain_122 ?_
        refine g_iload_n C rfl 1 rfl dX12_readRemain_125 ?_
        obtain ⟨v190, e191⟩ : ∃ z, Iv h132 v186 v117.toNat = z := ⟨_, rfl⟩
        have f192 := ok_Ia O135 t188 ar_105100 rI_105100_0 e191
        refine g_iald C t188 rfl l189 (ix f120 (by decide) (by decide)) e191 dX12_readRemain_126 ?_
        have f193 : (0 : Int) ≤ (16 * v190) ∧ (16 * v190) ≤ (24000 : Int) := ia_mul (by decide) f192 (by decide) (by decide)
        refine g_imul C dX12_readRemain_127 ?_
        have f194 : (4 : Int) ≤ (4 + (16 * v190)) ∧ (4 + (16 * v190)) ≤ (24004 : Int) := ia_add (il 4) f193 (by decide) (by decide)
        refine g_iadd C dX12_readRemain_128 ?_
        refine gp_I C fk_LandSurveyModel_320 pk_LandSurveyModel_8 rfl e142 (iw f194 (by decide) (by decide)) (nf_i _) dX12_readRemain_129 (fun h196 hh195 => ?_)
        have O197 := O135.pI e142 hh195 rI_12_8 (iw f194 (by decide) (by decide)) nofun
        refine g_aload_n C rfl 4 rfl dX12_readRemain_132 ?_
        have e198 : Tg h196 a0 = 12 := ((pIT hh195).trans e142)
        refine gf_I C fk_LandSurveyModel_320 rfl e198 (pI_e hh195) dX12_readRemain_133 ?_
        refine g_if_ne C (iw f194 (by decide) (by decide)) 154 (by decide) dX12_readRemain_136 (fun q199 => ?_) (fun q200 => ?_)
        · have e201 : Iv h196 a0 7 = v140 := ((pI_j hh195 (by decide)).trans e141)
          have e202 : Iv h196 a0 28 = v7 := ((pI_j hh195 (by decide)).trans e147)
          have p203 := (TK_fx O135 ((Fx.rf (wr := [2408]) (h := h132)).pI e142 hh195 rfl) e142 rfl p148)
          have p204 := ((NT_fx O135 ((Fx.rf (wr := [2408]) (h := h132)).pI e142 hh195 rfl) e142 rfl).trans p152)
          exact g_vret C hr ⟨O197, ((((((((Fx.rf (wr := wr_k_X12_readRemain)).pI ta0 hh19 rfl).call F41 rfl).call F67 rfl).call F90 rfl).call F113 rfl).call F136 rfl).pI e142 hh195 rfl), ⟨p203, by rw [e201, p204]; omega, by rw [(pI_e hh195), e201, p204]; omega, by rw [e202, e201]; omega⟩, (by unfold ST; rw [e2, e201, e8, e202, e5, (pI_e hh195)]; omega)⟩ (by decide) (by decide) dX12_readRemain_154
        · exact (no_eq f194 (il 0) q200 (by decide)).elim
  · have f205 : (2 : Int) ≤ v27 ∧ v27 ≤ (2 : Int) := ii f29 (r_eq (il 2) q31) (by decide) (by decide)
    refine g_aload_n C rfl 0 rfl dX12_readRemain_23 ?_
    obtain ⟨v206, e207⟩ : ∃ z, Rv h20 a0 6 = z := ⟨_, rfl⟩
    have t208 := ok_R O21 e22 rE_12_6 e207
    have l209 := ok_L O21 e22 rE_12_6 e207
    refine gf_R C fk_LandSurveyModel_30 rfl e22 e207 dX12_readRemain_24 ?_
    refine g_aload_n C rfl 0 rfl dX12_readRemain_27 ?_
    refine gf_I C fk_LandSurveyModel_317 rfl e22 (pI_e hh19) dX12_readRemain_28 ?_
    obtain ⟨v210, e211⟩ : ∃ z, Jv h20 v206 ((v1 + 1).toNat) = z := ⟨_, rfl⟩
    have f212 := inL_J O21 e211
    refine g_lald C t208 rfl l209 (by omega) e211 dX12_readRemain_31 ?_
    refine g_ldc2 (z := 9) C kw_1879 (by decide) dX12_readRemain_32 ?_
    refine g_lcmp C f212 (iw (il 9) (by decide) (by decide)) dX12_readRemain_35 ?_
    have f213 : (-1 : Int) ≤ (lC v210 9) ∧ (lC v210 9) ≤ (1 : Int) := lC_rng _ _
    refine g_if_gt C (iw f213 (by decide) (by decide)) 65 (by decide) dX12_readRemain_36 (fun q214 => ?_) (fun q215 => ?_)
    · have q216 : (9 : Int) < v210 := lC_gt.mp q214
      have f217 : (10 : Int) ≤ v210 ∧ v210 ≤ (9223372036854775807 : Int) := r_gt f212 (il 9) q216 (by decide) (by decide)
      refine g_bipush C (by decide) dX12_readRemain_65 ?_
      refine g_aload_n C rfl 0 rfl dX12_readRemain_67 ?_
      refine g_iconst C dX12_readRemain_68 ?_
      refine g_bipush C (by decide) dX12_readRemain_69 ?_
      have e218 : Iv h20 a0 8 = v4 := ((pI_j hh19 (by decide)).trans e5)
      have e219 : Iv h20 a0 28 = v7 := ((pI_j hh19 (by decide)).trans e8)
      have p220 := (TK_fx O ((Fx.rf (wr := [2407]) (h := h)).pI ta0 hh19 rfl) ta0 rfl p10)
      have p221 := ((NT_fx O ((Fx.rf (wr := [2407]) (h := h)).pI ta0 hh19 rfl) ta0 rfl).trans e15)
      refine g_callI (st := [.inl 80]) (gc_V C lk_LandSurveyModel_383 (k_X12_takeNumber l D cy w z0 O21 e22 (iw (il 0) (by decide) (by decide)) (iw (il 9) (by decide) (by decide)) ⟨p220, by rw [(pI_e hh19), p221]; omega, by rw [e218, (pI_e hh19), p221]; omega, by rw [e219, (pI_e hh19)]; omega⟩) e22 rfl rfl rfl ⟨by decide, by decide⟩ (Nat.le_of_ble_eq_true rfl) dX12_readRemain_71 ⟨(by decide), (by decide)⟩) (fun r222 h223 f225 K224 => ?_)
      obtain ⟨O226, F227, f228, p229, p230, p231, p232⟩ := K224
      obtain ⟨v233, e234⟩ : ∃ z, Iv h223 a0 7 = z := ⟨_, rfl⟩
      have e235 : Tg h223 a0 = 12 := (fxT F227 e22)
      have f236 := ok_I O226 e235 rI_12_7 e234
      obtain ⟨v237, e238⟩ : ∃ z, Iv h223 a0 8 = z := ⟨_, rfl⟩
      have f239 := ok_I O226 e235 rI_12_8 e238
      have e240 : Iv h223 a0 28 = v7 := ((fxI F227 e22 rfl).trans e219)
      obtain ⟨p241, p242, p243, p244⟩ := p229
      have p245 := ((NT_fx O21 F227 e22 rfl).trans p221)
      rw [e234, p245] at p242
      rw [e238, e234, p245] at p243
      rw [e240, e234] at p244
      have p246 := p230
      unfold ST at p246
      rw [(pI_e hh19), e234, e219, e240, e218, e238] at p246
      rw [e238, e234, (pI_e hh19)] at p232
      have f247 : (80 : Int) ≤ (80 + r222) ∧ (80 + r222) ≤ (280 : Int) := ia_add (il 80) f228 (by decide) (by decide)
      refine g_iadd C dX12_readRemain_74 ?_
      refine g_istore_n C [(1, .inl (80 + r222)), (0, .inr (.inr a0))] rfl (by decide) rfl dX12_readRemain_75 ?_
      refine g_aload_n C rfl 1 rfl dX12_readRemain_76 ?_
      refine g_bipush C (by decide) dX12_readRemain_77 ?_
      refine g_callV (st := []) (gc_V C lk_LandSurveyModel_387 (k_X12_takeWord l D cy w z0 O226 e235 (iw (il 10) (by decide) (by decide)) ⟨p241, by rw [e234, p245]; omega, by rw [e238, e234, p245]; omega, by rw [e240, e234]; omega⟩) e235 rfl rfl rfl ⟨by decide, by decide⟩ (Nat.le_of_ble_eq_true rfl) dX12_readRemain_79 ⟨(by decide), (by decide)⟩) (fun h249 K250 => ?_)
      obtain ⟨O252, F253, p254, p255, p256⟩ := K250
      obtain ⟨v257, e258⟩ : ∃ z, Iv h249 a0 7 = z := ⟨_, rfl⟩
      have e259 : Tg h249 a0 = 12 := (fxT F253 e235)
      have f260 := ok_I O252 e259 rI_12_7 e258
      obtain ⟨v261, e262⟩ : ∃ z, Iv h249 a0 8 = z := ⟨_, rfl⟩
      have f263 := ok_I O252 e259 rI_12_8 e262
      have e264 : Iv h249 a0 28 = v7 := ((fxI F253 e235 rfl).trans e240)
      obtain ⟨p265, p266, p267, p268⟩ := p254
      have p269 := ((NT_fx O226 F253 e235 rfl).trans p245)
      rw [e258, p269] at p266
      rw [e262, e258, p269] at p267
      rw [e264, e258] at p268
      have p270 := p255
      unfold ST at p270
      rw [e234, e258, e240, e264, e238, e262] at p270
      rw [e262, e258, e234] at p256
      refine g_aload_n C rfl 1 rfl dX12_readRemain_82 ?_
      refine g_callI (st := []) (gc_V C lk_LandSurveyModel_374 (k_X12_takeRock l D cy w z0 O252 e259 ⟨p265, by rw [e258, p269]; omega, by rw [e262, e258, p269]; omega, by rw [e264, e258]; omega⟩) e259 rfl rfl rfl ⟨by decide, by decide⟩ (Nat.le_of_ble_eq_true rfl) dX12_readRemain_83 ⟨(by decide), (by decide)⟩) (fun r271 h272 f274 K273 => ?_)
      obtain ⟨O275, F276, f277, p278, p279⟩ := K273
      obtain ⟨v280, e281⟩ : ∃ z, Iv h272 a0 7 = z := ⟨_, rfl⟩
      have e282 : Tg h272 a0 = 12 := (fxT F276 e259)
      have f283 := ok_I O275 e282 rI_12_7 e281
      obtain ⟨v284, e285⟩ : ∃ z, Iv h272 a0 8 = z := ⟨_, rfl⟩
      have f286 := ok_I O275 e282 rI_12_8 e285
      have e287 : Iv h272 a0 28 = v7 := ((fxI F276 e259 rfl).trans e264)
      obtain ⟨p288, p289, p290, p291⟩ := p278
      have p292 := ((NT_fx O252 F276 e259 rfl).trans p269)
      rw [e281, p292] at p289
      rw [e285, e281, p292] at p290
      rw [e287, e281] at p291
      have p293 := p279
      unfold ST at p293
      rw [e258, e281, e264, e287, e262, e285] at p293
      refine g_istore_n C [(2, .inl r271), (1, .inl (80 + r222)), (0, .inr (.inr a0))] rfl (by decide) rfl dX12_readRemain_86 ?_
      refine g_aload_n C rfl 2 rfl dX12_readRemain_87 ?_
      refine g_bipush C (by decide) dX12_readRemain_88 ?_
      refine g_callV (st := []) (gc_V C lk_LandSurveyModel_387 (k_X12_takeWord l D cy w z0 O275 e282 (iw (il 9) (by decide) (by decide)) ⟨p288, by rw [e281, p292]; omega, by rw [e285, e281, p292]; omega, by rw [e287, e281]; omega⟩) e282 rfl rfl rfl ⟨by decide, by decide⟩ (Nat.le_of_ble_eq_true rfl) dX12_readRemain_90 ⟨(by decide), (by decide)⟩) (fun h295 K296 => ?_)
      obtain ⟨O298, F299, p300, p301, p302⟩ := K296
      obtain ⟨v303, e304⟩ : ∃ z, Iv h295 a0 7 = z := ⟨_, rfl⟩
      have e305 : Tg h295 a0 = 12 := (fxT F299 e282)
      have f306 := ok_I O298 e305 rI_12_7 e304
      obtain ⟨v307, e308⟩ : ∃ z, Iv h295 a0 8 = z := ⟨_, rfl⟩
      have f309 := ok_I O298 e305 rI_12_8 e308
      have e310 : Iv h295 a0 28 = v7 := ((fxI F299 e282 rfl).trans e287)
      obtain ⟨p311, p312, p313, p314⟩ := p300
      have p315 := ((NT_fx O275 F299 e282 rfl).trans p292)
      rw [e304, p315] at p312
      rw [e308, e304, p315] at p313
      rw [e310, e304] at p314
      have p316 := p301
      unfold ST at p316
      rw [e281, e304, e287, e310, e285, e308] at p316
      rw [e308, e304, e281] at p302
      refine g_aload_n C rfl 2 rfl dX12_readRemain_93 ?_
      refine gf_I C fk_LandSurveyModel_317 rfl e305 e304 dX12_readRemain_94 ?_
      refine g_istore_n C [(3, .inl v303), (2, .inl r271), (1, .inl (80 + r222)), (0, .inr (.inr a0))] rfl (by decide) rfl dX12_readRemain_97 ?_
      refine g_aload_n C rfl 3 rfl dX12_readRemain_98 ?_
      refine g_callI (st := []) (gc_V C lk_LandSurveyModel_374 (k_X12_takeRock l D cy w z0 O298 e305 ⟨p311, by rw [e304, p315]; omega, by rw [e308, e304, p315]; omega, by rw [e310, e304]; omega⟩) e305 rfl rfl rfl ⟨by decide, by decide⟩ (Nat.le_of_ble_eq_true rfl) dX12_readRemain_99 ⟨(by decide), (by decide)⟩) (fun r317 h318 f320 K319 => ?_)
      obtain ⟨O321, F322, f323, p324, p325⟩ := K319
      obtain ⟨v326, e327⟩ : ∃ z, Iv h318 a0 7 = z := ⟨_, rfl⟩
      have e328 : Tg h318 a0 = 12 := (fxT F322 e305)
      have f329 := ok_I O321 e328 rI_12_7 e327
      obtain ⟨v330, e331⟩ : ∃ z, Iv h318 a0 8 = z := ⟨_, rfl⟩
      have f332 := ok_I O321 e328 rI_12_8 e331
      have e333 : Iv h318 a0 28 = v7 := ((fxI F322 e305 rfl).trans e310)
      obtain ⟨p334, p335, p336, p337⟩ := p324
      have p338 := ((NT_fx O298 F322 e305 rfl).trans p315)
      rw [e327, p338] at p335
      rw [e331, e327, p338] at p336
      rw [e333, e327] at p337
      have p339 := p325
      unfold ST at p339
      rw [e304, e327, e310, e333, e308, e331] at p339
      refine g_istore C [(4, .inl r317), (3, .inl v303), (2, .inl r271), (1, .inl (80 + r222)), (0, .inr (.inr a0))] (by decide) rfl dX12_readRemain_102 ?_
      refine g_aload_n C rfl 4 rfl dX12_readRemain_104 ?_
      refine gf_I C fk_LandSurveyModel_320 rfl e328 e331 dX12_readRemain_105 ?_
      refine g_if_ne C (iw f332 (by decide) (by decide)) 132 (by decide) dX12_readRemain_108 (fun q340 => ?_) (fun q341 => ?_)
      · have f342 : (1 : Int) ≤ v330 ∧ v330 ≤ (24005 : Int) := r_nl f332 q340
        refine g_aload_n C rfl 4 rfl dX12_readRemain_132 ?_
        refine gf_I C fk_LandSurveyModel_320 rfl e328 e331 dX12_readRemain_133 ?_
        refine g_if_ne C (iw f342 (by decide) (by decide)) 154 (by decide) dX12_readRemain_136 (fun q343 => ?_) (fun q344 => ?_)
        · exact g_vret C hr ⟨O321, (((((((Fx.rf (wr := wr_k_X12_readRemain)).pI ta0 hh19 rfl).call F227 rfl).call F253 rfl).call F276 rfl).call F299 rfl).call F322 rfl), ⟨p334, by rw [e327, p338]; omega, by rw [e331, e327, p338]; omega, by rw [e333, e327]; omega⟩, (by unfold ST; rw [e2, e327, e8, e333, e5, e331]; omega)⟩ (by decide) (by decide) dX12_readRemain_154
        · exact (no_eq f342 (il 0) q344 (by decide)).elim
      · have f345 : (0 : Int) ≤ v330 ∧ v330 ≤ (0 : Int) := ii f332 (r_eq (il 0) q341) (by decide) (by decide)
        refine g_iload C 0 rfl dX12_readRemain_111 ?_
        refine g_iload_n C rfl 2 rfl dX12_readRemain_113 ?_
        refine g_icmp_ge C (iw f323 (by decide) (by decide)) (iw f277 (by decide) (by decide)) 132 (by decide) dX12_readRemain_114 (fun q346 => ?_) (fun q347 => ?_)
        · refine g_aload_n C rfl 4 rfl dX12_readRemain_132 ?_
          refine gf_I C fk_LandSurveyModel_320 rfl e328 e331 dX12_readRemain_133 ?_
          refine g_if_ne C (iw f345 (by decide) (by decide)) 154 (by decide) dX12_readRemain_136 (fun q348 => ?_) (fun q349 => ?_)
          · exact (no_ne f345 (il 0) q348 (by decide)).elim
          · refine g_aload_n C rfl 4 rfl dX12_readRemain_139 ?_
            obtain ⟨v350, e351⟩ : ∃ z, Rv h318 a0 22 = z := ⟨_, rfl⟩
            have t352 := ok_R O321 e328 rE_12_22 e351
            have l353 := ok_L O321 e328 rE_12_22 e351
            refine gf_R C fk_LandSurveyModel_131 rfl e328 e351 dX12_readRemain_140 ?_
            refine g_iload_n C rfl 3 rfl dX12_readRemain_143 ?_
            refine g_iload_n C rfl 2 rfl dX12_readRemain_144 ?_
            refine g_iast C t352 rfl l353 (by omega) (iw f277 (by decide) (by decide)) dX12_readRemain_145 (fun h355 hh354 => ?_)
            have O356 := O321.pIa t352 ar_122100 hh354 rI_122100_0 (iw f277 (by decide) (by decide)) nofun
            refine g_aload_n C rfl 4 rfl dX12_readRemain_146 ?_
            have e357 : Tg h355 a0 = 12 := ((pIT hh354).trans e328)
            obtain ⟨v358, e359⟩ : ∃ z, Rv h355 a0 23 = z := ⟨_, rfl⟩
            have t360 := ok_R O356 e357 rE_12_23 e359
            have l361 := ok_L O356 e357 rE_12_23 e359
            refine gf_R C fk_LandSurveyModel_134 rfl e357 e359 dX12_readRemain_147 ?_
            refine g_iload_n C rfl 3 rfl dX12_readRemain_150 ?_
            refine g_iload C 0 rfl dX12_readRemain_151 ?_
            refine g_iast C t360 rfl l361 (by omega) (iw f323 (by decide) (by decide)) dX12_readRemain_153 (fun h363 hh362 => ?_)
            have O364 := O356.pIa t360 ar_123100 hh362 rI_123100_0 f323 nofun
            have e365 : Iv h363 a0 7 = v326 := ((pI_n hh362 (ne_tag e357 t360 (by decide))).trans ((pI_n hh354 (ne_tag e328 t352 (by decide))).trans e327))
            have e366 : Iv h363 a0 8 = v330 := ((pI_n hh362 (ne_tag e357 t360 (by decide))).trans ((pI_n hh354 (ne_tag e328 t352 (by decide))).trans e331))
            have e367 : Iv h363 a0 28 = v7 := ((pI_n hh362 (ne_tag e357 t360 (by decide))).trans ((pI_n hh354 (ne_tag e328 t352 (by decide))).trans e333))
            have p368 := (TK_fx O356 ((Fx.rf (wr := [24620000]) (h := h355)).pIa t360 ar_123100 hh362 rfl) e357 rfl (TK_fx O321 ((Fx.rf (wr := [24420000]) (h := h318)).pIa t352 ar_122100 hh354 rfl) e328 rfl p334))
            have p369 := ((NT_fx O356 ((Fx.rf (wr := [24620000]) (h := h355)).pIa t360 ar_123100 hh362 rfl) e357 rfl).trans ((NT_fx O321 ((Fx.rf (wr := [24420000]) (h := h318)).pIa t352 ar_122100 hh354 rfl) e328 rfl).trans p338))
            exact g_vret C hr ⟨O364, (((((((((Fx.rf (wr := wr_k_X12_readRemain)).pI ta0 hh19 rfl).call F227 rfl).call F253 rfl).call F276 rfl).call F299 rfl).call F322 rfl).pIa t352 ar_122100 hh354 rfl).pIa t360 ar_123100 hh362 rfl), ⟨p368, by rw [e365, p369]; omega, by rw [e366, e365, p369]; omega, by rw [e367, e365]; omega⟩, (by unfold ST; rw [e2, e365, e8, e367, e5, e366]; omega)⟩ (by decide) (by decide) dX12_readRemain_154
        · have f370 : (0 : Int) ≤ r317 ∧ r317 ≤ (8 : Int) := r_lt f323 f277 q347 (by decide) (by decide)
          have f371 : (1 : Int) ≤ r271 ∧ r271 ≤ (9 : Int) := r_gt f277 f323 q347 (by decide) (by decide)
          refine g_aload_n C rfl 4 rfl dX12_readRemain_117 ?_
          refine g_iconst C dX12_readRemain_118 ?_
          refine g_bipush C (by decide) dX12_readRemain_119 ?_
          refine g_aload_n C rfl 4 rfl dX12_readRemain_121 ?_
          obtain ⟨v372, e373⟩ : ∃ z, Rv h318 a0 5 = z := ⟨_, rfl⟩
          have t374 := ok_R O321 e328 rE_12_5 e373
          have l375 := ok_L O321 e328 rE_12_5 e373
          refine gf_R C fk_LandSurveyModel_27 rfl e328 e373 dX12_readRemain_122 ?_
          refine g_iload_n C rfl 1 rfl dX12_readRemain_125 ?_
          obtain ⟨v376, e377⟩ : ∃ z, Iv h318 v372 v303.toNat = z := ⟨_, rfl⟩
          have f378 := ok_Ia O321 t374 ar_105100 rI_105100_0 e377
          refine g_iald C t374 rfl l375 (ix f306 (by decide) (by decide)) e377 dX12_readRemain_126 ?_
          have f379 : (0 : Int) ≤ (16 * v376) ∧ (16 * v376) ≤ (24000 : Int) := ia_mul (by decide) f378 (by decide) (by decide)
          refine g_imul C dX12_readRemain_127 ?_
          have f380 : (4 : Int) ≤ (4 + (16 * v376)) ∧ (4 + (16 * v376)) ≤ (24004 : Int) := ia_add (il 4) f379 (by decide) (by decide)
          refine g_iadd C dX12_readRemain_128 ?_
          refine gp_I C fk_LandSurveyModel_320 pk_LandSurveyModel_8 rfl e328 (iw f380 (by decide) (by decide)) (nf_i _) dX12_readRemain_129 (fun h382 hh381 => ?_)
          have O383 := O321.pI e328 hh381 rI_12_8 (iw f380 (by decide) (by decide)) nofun
          refine g_aload_n C rfl 4 rfl dX12_readRemain_132 ?_
          have e384 : Tg h382 a0 = 12 := ((pIT hh381).trans e328)
          refine gf_I C fk_LandSurveyModel_320 rfl e384 (pI_e hh381) dX12_readRemain_133 ?_
          refine g_if_ne C (iw f380 (by decide) (by decide)) 154 (by decide) dX12_readRemain_136 (fun q385 => ?_) (fun q386 => ?_)
          · have e387 : Iv h382 a0 7 = v326 := ((pI_j hh381 (by decide)).trans e327)
            have e388 : Iv h382 a0 28 = v7 := ((pI_j hh381 (by decide)).trans e333)
            have p389 := (TK_fx O321 ((Fx.rf (wr := [2408]) (h := h318)).pI e328 hh381 rfl) e328 rfl p334)
            have p390 := ((NT_fx O321 ((Fx.rf (wr := [2408]) (h := h318)).pI e328 hh381 rfl) e328 rfl).trans p338)
            exact g_vret C hr ⟨O383, ((((((((Fx.rf (wr := wr_k_X12_readRemain)).pI ta0 hh19 rfl).call F227 rfl).call F253 rfl).call F276 rfl).call F299 rfl).call F322 rfl).pI e328 hh381 rfl), ⟨p389, by rw [e387, p390]; omega, by rw [(pI_e hh381), e387, p390]; omega, by rw [e388, e387]; omega⟩, (by unfold ST; rw [e2, e387, e8, e388, e5, (pI_e hh381)]; omega)⟩ (by decide) (by decide) dX12_readRemain_154
          · exact (no_eq f380 (il 0) q386 (by decide)).elim
    · have q391 : v210 ≤ (9 : Int) := lC_le.mp q215
      have f392 : (-9223372036854775808 : Int) ≤ v210 ∧ v210 ≤ (9 : Int) := r_le f212 (il 9) q391 (by decide) (by decide)
      refine g_aload_n C rfl 0 rfl dX12_readRemain_39 ?_
      obtain ⟨v393, e394⟩ : ∃ z, Rv h20 a0 22 = z := ⟨_, rfl⟩
      have t395 := ok_R O21 e22 rE_12_22 e394
      have l396 := ok_L O21 e22 rE_12_22 e394
      refine gf_R C fk_LandSurveyModel_131 rfl e22 e394 dX12_readRemain_40 ?_
      refine g_bipush C (by decide) dX12_readRemain_43 ?_
      refine g_aload_n C rfl 0 rfl dX12_readRemain_45 ?_
      refine gf_R C fk_LandSurveyModel_30 rfl e22 e207 dX12_readRemain_46 ?_
      refine g_aload_n C rfl 0 rfl dX12_readRemain_49 ?_
      refine gf_I C fk_LandSurveyModel_317 rfl e22 (pI_e hh19) dX12_readRemain_50 ?_
      refine g_lald C t208 rfl l209 (by omega) e211 dX12_readRemain_53 ?_
      have p397 := (TK_fx O ((Fx.rf (wr := [2407]) (h := h)).pI ta0 hh19 rfl) ta0 rfl p10)
      have p398 := ((NT_fx O ((Fx.rf (wr := [2407]) (h := h)).pI ta0 hh19 rfl) ta0 rfl).trans e15)
      have z399 := TK_num p397 p398 (a := (v1 + 1)) (by omega) (by omega) (by rw [e24]; exact e28) (by rw [e207]; exact e211)
      have f400 : (0 : Int) ≤ v210 ∧ v210 ≤ (9 : Int) := by omega
      refine g_l2i C dX12_readRemain_54 ?_
      have f401 : (0 : Int) ≤ (l2w v210) ∧ (l2w v210) ≤ (9 : Int) := l2w_in f400 (by decide) (by decide)
      have f402 : (80 : Int) ≤ (80 + (l2w v210)) ∧ (80 + (l2w v210)) ≤ (89 : Int) := ia_add (il 80) f401 (by decide) (by decide)
      refine g_iadd C dX12_readRemain_55 ?_
      obtain ⟨v403, e404⟩ : ∃ z, Iv h20 v393 ((80 + (l2w v210)).toNat) = z := ⟨_, rfl⟩
      have f405 := ok_Ia O21 t395 ar_122100 rI_122100_0 e404
      refine g_iald C t395 rfl l396 (ix f402 (by decide) (by decide)) e404 dX12_readRemain_56 ?_
      refine g_if_lt C (iw f405 (by decide) (by decide)) 65 (by decide) dX12_readRemain_57 (fun q406 => ?_) (fun q407 => ?_)
      · have f408 : (-1 : Int) ≤ v403 ∧ v403 ≤ (-1 : Int) := r_lt f405 (il 0) q406 (by decide) (by decide)
        refine g_bipush C (by decide) dX12_readRemain_65 ?_
        refine g_aload_n C rfl 0 rfl dX12_readRemain_67 ?_
        refine g_iconst C dX12_readRemain_68 ?_
        refine g_bipush C (by decide) dX12_readRemain_69 ?_
        have e409 : Iv h20 a0 8 = v4 := ((pI_j hh19 (by decide)).trans e5)
        have e410 : Iv h20 a0 28 = v7 := ((pI_j hh19 (by decide)).trans e8)
        refine g_callI (st := [.inl 80]) (gc_V C lk_LandSurveyModel_383 (k_X12_takeNumber l D cy w z0 O21 e22 (iw (il 0) (by decide) (by decide)) (iw (il 9) (by decide) (by decide)) ⟨p397, by rw [(pI_e hh19), p398]; omega, by rw [e409, (pI_e hh19), p398]; omega, by rw [e410, (pI_e hh19)]; omega⟩) e22 rfl rfl rfl ⟨by decide, by decide⟩ (Nat.le_of_ble_eq_true rfl) dX12_readRemain_71 ⟨(by decide), (by decide)⟩) (fun r411 h412 f414 K413 => ?_)
        obtain ⟨O415, F416, f417, p418, p419, p420, p421⟩ := K413
        obtain ⟨v422, e423⟩ : ∃ z, Iv h412 a0 7 = z := ⟨_, rfl⟩
        have e424 : Tg h412 a0 = 12 := (fxT F416 e22)
        have f425 := ok_I O415 e424 rI_12_7 e423
        obtain ⟨v426, e427⟩ : ∃ z, Iv h412 a0 8 = z := ⟨_, rfl⟩
        have f428 := ok_I O415 e424 rI_12_8 e427
        have e429 : Iv h412 a0 28 = v7 := ((fxI F416 e22 rfl).trans e410)
        obtain ⟨p430, p431, p432, p433⟩ := p418
        have p434 := ((NT_fx O21 F416 e22 rfl).trans p398)
        rw [e423, p434] at p431
        rw [e427, e423, p434] at p432
        rw [e429, e423] at p433
        have p435 := p419
        unfold ST at p435
        rw [(pI_e hh19), e423, e410, e429, e409, e427] at p435
        rw [e427, e423, (pI_e hh19)] at p421
        have f436 : (80 : Int) ≤ (80 + r411) ∧ (80 + r411) ≤ (280 : Int) := ia_add (il 80) f417 (by decide) (by decide)
        refine g_iadd C dX12_readRemain_74 ?_
        refine g_istore_n C [(1, .inl (80 + r411)), (0, .inr (.inr a0))] rfl (by decide) rfl dX12_readRemain_75 ?_
        refine g_aload_n C rfl 1 rfl dX12_readRemain_76 ?_
        refine g_bipush C (by decide) dX12_readRemain_77 ?_
        refine g_callV (st := []) (gc_V C lk_LandSurveyModel_387 (k_X12_takeWord l D cy w z0 O415 e424 (iw (il 10) (by decide) (by decide)) ⟨p430, by rw [e423, p434]; omega, by rw [e427, e423, p434]; omega, by rw [e429, e423]; omega⟩) e424 rfl rfl rfl ⟨by decide, by decide⟩ (Nat.le_of_ble_eq_true rfl) dX12_readRemain_79 ⟨(by decide), (by decide)⟩) (fun h438 K439 => ?_)
        obtain ⟨O441, F442, p443, p444, p445⟩ := K439
        obtain ⟨v446, e447⟩ : ∃ z, Iv h438 a0 7 = z := ⟨_, rfl⟩
        have e448 : Tg h438 a0 = 12 := (fxT F442 e424)
        have f449 := ok_I O441 e448 rI_12_7 e447
        obtain ⟨v450, e451⟩ : ∃ z, Iv h438 a0 8 = z := ⟨_, rfl⟩
        have f452 := ok_I O441 e448 rI_12_8 e451
        have e453 : Iv h438 a0 28 = v7 := ((fxI F442 e424 rfl).trans e429)
        obtain ⟨p454, p455, p456, p457⟩ := p443
        have p458 := ((NT_fx O415 F442 e424 rfl).trans p434)
        rw [e447, p458] at p455
        rw [e451, e447, p458] at p456
        rw [e453, e447] at p457
        have p459 := p444
        unfold ST at p459
        rw [e423, e447, e429, e453, e427, e451] at p459
        rw [e451, e447, e423] at p445
        refine g_aload_n C rfl 1 rfl dX12_readRemain_82 ?_
        refine g_callI (st := []) (gc_V C lk_LandSurveyModel_374 (k_X12_takeRock l D cy w z0 O441 e448 ⟨p454, by rw [e447, p458]; omega, by rw [e451, e447, p458]; omega, by rw [e453, e447]; omega⟩) e448 rfl rfl rfl ⟨by decide, by decide⟩ (Nat.le_of_ble_eq_true rfl) dX12_readRemain_83 ⟨(by decide), (by decide)⟩) (fun r460 h461 f463 K462 => ?_)
        obtain ⟨O464, F465, f466, p467, p468⟩ := K462
        obtain ⟨v469, e470⟩ : ∃ z, Iv h461 a0 7 = z := ⟨_, rfl⟩
        have e471 : Tg h461 a0 = 12 := (fxT F465 e448)
        have f472 := ok_I O464 e471 rI_12_7 e470
        obtain ⟨v473, e474⟩ : ∃ z, Iv h461 a0 8 = z := ⟨_, rfl⟩
        have f475 := ok_I O464 e471 rI_12_8 e474
        have e476 : Iv h461 a0 28 = v7 := ((fxI F465 e448 rfl).trans e453)
        obtain ⟨p477, p478, p479, p480⟩ := p467
        have p481 := ((NT_fx O441 F465 e448 rfl).trans p458)
        rw [e470, p481] at p478
        rw [e474, e470, p481] at p479
        rw [e476, e470] at p480
        have p482 := p468
        unfold ST at p482
        rw [e447, e470, e453, e476, e451, e474] at p482
        refine g_istore_n C [(2, .inl r460), (1, .inl (80 + r411)), (0, .inr (.inr a0))] rfl (by decide) rfl dX12_readRemain_86 ?_
        refine g_aload_n C rfl 2 rfl dX12_readRemain_87 ?_
        refine g_bipush C (by decide) dX12_readRemain_88 ?_
        refine g_callV (st := []) (gc_V C lk_LandSurveyModel_387 (k_X12_takeWord l D cy w z0 O464 e471 (iw (il 9) (by decide) (by decide)) ⟨p477, by rw [e470, p481]; omega, by rw [e474, e470, p481]; omega, by rw [e476, e470]; omega⟩) e471 rfl rfl rfl ⟨by decide, by decide⟩ (Nat.le_of_ble_eq_true rfl) dX12_readRemain_90 ⟨(by decide), (by decide)⟩) (fun h484 K485 => ?_)
        obtain ⟨O487, F488, p489, p490, p491⟩ := K485
        obtain ⟨v492, e493⟩ : ∃ z, Iv h484 a0 7 = z := ⟨_, rfl⟩
        have e494 : Tg h484 a0 = 12 := (fxT F488 e471)
        have f495 := ok_I O487 e494 rI_12_7 e493
        obtain ⟨v496, e497⟩ : ∃ z, Iv h484 a0 8 = z := ⟨_, rfl⟩
        have f498 := ok_I O487 e494 rI_12_8 e497
        have e499 : Iv h484 a0 28 = v7 := ((fxI F488 e471 rfl).trans e476)
        obtain ⟨p500, p501, p502, p503⟩ := p489
        have p504 := ((NT_fx O464 F488 e471 rfl).trans p481)
        rw [e493, p504] at p501
        rw [e497, e493, p504] at p502
        rw [e499, e493] at p503
        have p505 := p490
        unfold ST at p505
        rw [e470, e493, e476, e499, e474, e497] at p505
        rw [e497, e493, e470] at p491
        refine g_aload_n C rfl 2 rfl dX12_readRemain_93 ?_
        refine gf_I C fk_LandSurveyModel_317 rfl e494 e493 dX12_readRemain_94 ?_
        refine g_istore_n C [(3, .inl v492), (2, .inl r460), (1, .inl (80 + r411)), (0, .inr (.inr a0))] rfl (by decide) rfl dX12_readRemain_97 ?_
        refine g_aload_n C rfl 3 rfl dX12_readRemain_98 ?_
        refine g_callI (st := []) (gc_V C lk_LandSurveyModel_374 (k_X12_takeRock l D cy w z0 O487 e494 ⟨p500, by rw [e493, p504]; omega, by rw [e497, e493, p504]; omega, by rw [e499, e493]; omega⟩) e494 rfl rfl rfl ⟨by decide, by decide⟩ (Nat.le_of_ble_eq_true rfl) dX12_readRemain_99 ⟨(by decide), (by decide)⟩) (fun r506 h507 f509 K508 => ?_)
        obtain ⟨O510, F511, f512, p513, p514⟩ := K508
        obtain ⟨v515, e516⟩ : ∃ z, Iv h507 a0 7 = z := ⟨_, rfl⟩
        have e517 : Tg h507 a0 = 12 := (fxT F511 e494)
        have f518 := ok_I O510 e517 rI_12_7 e516
        obtain ⟨v519, e520⟩ : ∃ z, Iv h507 a0 8 = z := ⟨_, rfl⟩
        have f521 := ok_I O510 e517 rI_12_8 e520
        have e522 : Iv h507 a0 28 = v7 := ((fxI F511 e494 rfl).trans e499)
        obtain ⟨p523, p524, p525, p526⟩ := p513
        have p527 := ((NT_fx O487 F511 e494 rfl).trans p504)
        rw [e516, p527] at p524
        rw [e520, e516, p527] at p525
        rw [e522, e516] at p526
        have p528 := p514
        unfold ST at p528
        rw [e493, e516, e499, e522, e497, e520] at p528
        refine g_istore C [(4, .inl r506), (3, .inl v492), (2, .inl r460), (1, .inl (80 + r411)), (0, .inr (.inr a0))] (by decide) rfl dX12_readRemain_102 ?_
        refine g_aload_n C rfl 4 rfl dX12_readRemain_104 ?_
        refine gf_I C fk_LandSurveyModel_320 rfl e517 e520 dX12_readRemain_105 ?_
        refine g_if_ne C (iw f521 (by decide) (by decide)) 132 (by decide) dX12_readRemain_108 (fun q529 => ?_) (fun q530 => ?_)
        · have f531 : (1 : Int) ≤ v519 ∧ v519 ≤ (24005 : Int) := r_nl f521 q529
          refine g_aload_n C rfl 4 rfl dX12_readRemain_132 ?_
          refine gf_I C fk_LandSurveyModel_320 rfl e517 e520 dX12_readRemain_133 ?_
          refine g_if_ne C (iw f531 (by decide) (by decide)) 154 (by decide) dX12_readRemain_136 (fun q532 => ?_) (fun q533 => ?_)
          · exact g_vret C hr ⟨O510, (((((((Fx.rf (wr := wr_k_X12_readRemain)).pI ta0 hh19 rfl).call F416 rfl).call F442 rfl).call F465 rfl).call F488 rfl).call F511 rfl), ⟨p523, by rw [e516, p527]; omega, by rw [e520, e516, p527]; omega, by rw [e522, e516]; omega⟩, (by unfold ST; rw [e2, e516, e8, e522, e5, e520]; omega)⟩ (by decide) (by decide) dX12_readRemain_154
          · exact (no_eq f531 (il 0) q533 (by decide)).elim
        · have f534 : (0 : Int) ≤ v519 ∧ v519 ≤ (0 : Int) := ii f521 (r_eq (il 0) q530) (by decide) (by decide)
          refine g_iload C 0 rfl dX12_readRemain_111 ?_
          refine g_iload_n C rfl 2 rfl dX12_readRemain_113 ?_
          refine g_icmp_ge C (iw f512 (by decide) (by decide)) (iw f466 (by decide) (by decide)) 132 (by decide) dX12_readRemain_114 (fun q535 => ?_) (fun q536 => ?_)
          · refine g_aload_n C rfl 4 rfl dX12_readRemain_132 ?_
            refine gf_I C fk_LandSurveyModel_320 rfl e517 e520 dX12_readRemain_133 ?_
            refine g_if_ne C (iw f534 (by decide) (by decide)) 154 (by decide) dX12_readRemain_136 (fun q537 => ?_) (fun q538 => ?_)
            · exact (no_ne f534 (il 0) q537 (by decide)).elim
            · refine g_aload_n C rfl 4 rfl dX12_readRemain_139 ?_
              have e539 : Rv h507 a0 22 = v393 := ((fxR F511 e494 rfl).trans ((fxR F488 e471 rfl).trans ((fxR F465 e448 rfl).trans ((fxR F442 e424 rfl).trans ((fxR F416 e22 rfl).trans e394)))))
              refine gf_R C fk_LandSurveyModel_131 rfl e517 e539 dX12_readRemain_140 ?_
              refine g_iload_n C rfl 3 rfl dX12_readRemain_143 ?_
              refine g_iload_n C rfl 2 rfl dX12_readRemain_144 ?_
              have e540 : Tg h507 v393 = 122100 := (fxT F511 (fxT F488 (fxT F465 (fxT F442 (fxT F416 t395)))))
              have e541 : Tg h412 v393 = 122100 := (fxT F416 t395)
              have e542 : Tg h438 v393 = 122100 := (fxT F442 e541)
              have e543 : Tg h461 v393 = 122100 := (fxT F465 e542)
              have e544 : Tg h484 v393 = 122100 := (fxT F488 e543)
              have e545 : Ln h507 v393 = 90 := ((fxL F511 e544).trans ((fxL F488 e543).trans ((fxL F465 e542).trans ((fxL F442 e541).trans ((fxL F416 t395).trans l396)))))
              refine g_iast C e540 rfl e545 (by omega) (iw f466 (by decide) (by decide)) dX12_readRemain_145 (fun h547 hh546 => ?_)
              have O548 := O510.pIa e540 ar_122100 hh546 rI_122100_0 (iw f466 (by decide) (by decide)) nofun
              refine g_aload_n C rfl 4 rfl dX12_readRemain_146 ?_
              have e549 : Tg h547 a0 = 12 := ((pIT hh546).trans e517)
              obtain ⟨v550, e551⟩ : ∃ z, Rv h547 a0 23 = z := ⟨_, rfl⟩
              have t552 := ok_R O548 e549 rE_12_23 e551
              have l553 := ok_L O548 e549 rE_12_23 e551
              refine gf_R C fk_LandSurveyModel_134 rfl e549 e551 dX12_readRemain_147 ?_
              refine g_iload_n C rfl 3 rfl dX12_readRemain_150 ?_
              refine g_iload C 0 rfl dX12_readRemain_151 ?_
              refine g_iast C t552 rfl l553 (by omega) (iw f512 (by decide) (by decide)) dX12_readRemain_153 (fun h555 hh554 => ?_)
              have O556 := O548.pIa t552 ar_123100 hh554 rI_123100_0 f512 nofun
              have e557 : Iv h555 a0 7 = v515 := ((pI_n hh554 (ne_tag e549 t552 (by decide))).trans ((pI_n hh546 (ne_tag e517 e540 (by decide))).trans e516))
              have e558 : Iv h555 a0 8 = v519 := ((pI_n hh554 (ne_tag e549 t552 (by decide))).trans ((pI_n hh546 (ne_tag e517 e540 (by decide))).trans e520))
              have e559 : Iv h555 a0 28 = v7 := ((pI_n hh554 (ne_tag e549 t552 (by decide))).trans ((pI_n hh546 (ne_tag e517 e540 (by decide))).trans e522))
              have p560 := (TK_fx O548 ((Fx.rf (wr := [24620000]) (h := h547)).pIa t552 ar_123100 hh554 rfl) e549 rfl (TK_fx O510 ((Fx.rf (wr := [24420000]) (h := h507)).pIa e540 ar_122100 hh546 rfl) e517 rfl p523))
              have p561 := ((NT_fx O548 ((Fx.rf (wr := [24620000]) (h := h547)).pIa t552 ar_123100 hh554 rfl) e549 rfl).trans ((NT_fx O510 ((Fx.rf (wr := [24420000]) (h := h507)).pIa e540 ar_122100 hh546 rfl) e517 rfl).trans p527))
              exact g_vret C hr ⟨O556, (((((((((Fx.rf (wr := wr_k_X12_readRemain)).pI ta0 hh19 rfl).call F416 rfl).call F442 rfl).call F465 rfl).call F488 rfl).call F511 rfl).pIa e540 ar_122100 hh546 rfl).pIa t552 ar_123100 hh554 rfl), ⟨p560, by rw [e557, p561]; omega, by rw [e558, e557, p561]; omega, by rw [e559, e557]; omega⟩, (by unfold ST; rw [e2, e557, e8, e559, e5, e558]; omega)⟩ (by decide) (by decide) dX12_readRemain_154
          · have f562 : (0 : Int) ≤ r506 ∧ r506 ≤ (8 : Int) := r_lt f512 f466 q536 (by decide) (by decide)
            have f563 : (1 : Int) ≤ r460 ∧ r460 ≤ (9 : Int) := r_gt f466 f512 q536 (by decide) (by decide)
            refine g_aload_n C rfl 4 rfl dX12_readRemain_117 ?_
            refine g_iconst C dX12_readRemain_118 ?_
            refine g_bipush C (by decide) dX12_readRemain_119 ?_
            refine g_aload_n C rfl 4 rfl dX12_readRemain_121 ?_
            obtain ⟨v564, e565⟩ : ∃ z, Rv h507 a0 5 = z := ⟨_, rfl⟩
            have t566 := ok_R O510 e517 rE_12_5 e565
            have l567 := ok_L O510 e517 rE_12_5 e565
            refine gf_R C fk_LandSurveyModel_27 rfl e517 e565 dX12_readRemain_122 ?_
            refine g_iload_n C rfl 1 rfl dX12_readRemain_125 ?_
            obtain ⟨v568, e569⟩ : ∃ z, Iv h507 v564 v492.toNat = z := ⟨_, rfl⟩
            have f570 := ok_Ia O510 t566 ar_105100 rI_105100_0 e569
            refine g_iald C t566 rfl l567 (ix f495 (by decide) (by decide)) e569 dX12_readRemain_126 ?_
            have f571 : (0 : Int) ≤ (16 * v568) ∧ (16 * v568) ≤ (24000 : Int) := ia_mul (by decide) f570 (by decide) (by decide)
            refine g_imul C dX12_readRemain_127 ?_
            have f572 : (4 : Int) ≤ (4 + (16 * v568)) ∧ (4 + (16 * v568)) ≤ (24004 : Int) := ia_add (il 4) f571 (by decide) (by decide)
            refine g_iadd C dX12_readRemain_128 ?_
            refine gp_I C fk_LandSurveyModel_320 pk_LandSurveyModel_8 rfl e517 (iw f572 (by decide) (by decide)) (nf_i _) dX12_readRemain_129 (fun h574 hh573 => ?_)
            have O575 := O510.pI e517 hh573 rI_12_8 (iw f572 (by decide) (by decide)) nofun
            refine g_aload_n C rfl 4 rfl dX12_readRemain_132 ?_
            have e576 : Tg h574 a0 = 12 := ((pIT hh573).trans e517)
            refine gf_I C fk_LandSurveyModel_320 rfl e576 (pI_e hh573) dX12_readRemain_133 ?_
            refine g_if_ne C (iw f572 (by decide) (by decide)) 154 (by decide) dX12_readRemain_136 (fun q577 => ?_) (fun q578 => ?_)
            · have e579 : Iv h574 a0 7 = v515 := ((pI_j hh573 (by decide)).trans e516)
              have e580 : Iv h574 a0 28 = v7 := ((pI_j hh573 (by decide)).trans e522)
              have p581 := (TK_fx O510 ((Fx.rf (wr := [2408]) (h := h507)).pI e517 hh573 rfl) e517 rfl p523)
              have p582 := ((NT_fx O510 ((Fx.rf (wr := [2408]) (h := h507)).pI e517 hh573 rfl) e517 rfl).trans p527)
              exact g_vret C hr ⟨O575, ((((((((Fx.rf (wr := wr_k_X12_readRemain)).pI ta0 hh19 rfl).call F416 rfl).call F442 rfl).call F465 rfl).call F488 rfl).call F511 rfl).pI e517 hh573 rfl), ⟨p581, by rw [e579, p582]; omega, by rw [(pI_e hh573), e579, p582]; omega, by rw [e580, e579]; omega⟩, (by unfold ST; rw [e2, e579, e8, e580, e5, (pI_e hh573)]; omega)⟩ (by decide) (by decide) dX12_readRemain_154
            · exact (no_eq f572 (il 0) q578 (by decide)).elim
      · have f583 : (0 : Int) ≤ v403 ∧ v403 ≤ (9 : Int) := r_ge f405 (il 0) q407 (by decide) (by decide)
        refine g_aload_n C rfl 0 rfl dX12_readRemain_60 ?_
        refine g_iconst C dX12_readRemain_61 ?_
        refine g_callV (st := []) (gc_V C lk_LandSurveyModel_326 (k_X12_wrong l D cy w z0 O21 e22 (iw (il 3) (by decide) (by decide))) e22 rfl rfl rfl ⟨by decide, by decide⟩ (Nat.le_of_ble_eq_true rfl) dX12_readRemain_62 ⟨(by decide), (by decide)⟩) (fun h585 K586 => ?_)
        obtain ⟨O588, F589, p590⟩ := K586
        obtain ⟨v591, e592⟩ : ∃ z, Iv h585 a0 8 = z := ⟨_, rfl⟩
        have e593 : Tg h585 a0 = 12 := (fxT F589 e22)
        have f594 := ok_I O588 e593 rI_12_8 e592
        rw [e592] at p590
        have f595 : (1 : Int) ≤ v591 ∧ v591 ≤ (24005 : Int) := by omega
        refine g_bipush C (by decide) dX12_readRemain_65 ?_
        refine g_aload_n C rfl 0 rfl dX12_readRemain_67 ?_
        refine g_iconst C dX12_readRemain_68 ?_
        refine g_bipush C (by decide) dX12_readRemain_69 ?_
        have e596 : Iv h585 a0 7 = (v1 + 1) := ((fxI F589 e22 rfl).trans (pI_e hh19))
        have e597 : Iv h585 a0 28 = v7 := ((fxI F589 e22 rfl).trans ((pI_j hh19 (by decide)).trans e8))
        have p598 := (TK_fx O21 F589 e22 rfl p397)
        have p599 := ((NT_fx O21 F589 e22 rfl).trans p398)
        refine g_callI (st := [.inl 80]) (gc_V C lk_LandSurveyModel_383 (k_X12_takeNumber l D cy w z0 O588 e593 (iw (il 0) (by decide) (by decide)) (iw (il 9) (by decide) (by decide)) ⟨p598, by rw [e596, p599]; omega, by rw [e592, e596, p599]; omega, by rw [e597, e596]; omega⟩) e593 rfl rfl rfl ⟨by decide, by decide⟩ (Nat.le_of_ble_eq_true rfl) dX12_readRemain_71 ⟨(by decide), (by decide)⟩) (fun r600 h601 f603 K602 => ?_)
        obtain ⟨O604, F605, f606, p607, p608, p609, p610⟩ := K602
        obtain ⟨v611, e612⟩ : ∃ z, Iv h601 a0 7 = z := ⟨_, rfl⟩
        have e613 : Tg h601 a0 = 12 := (fxT F605 e593)
        have f614 := ok_I O604 e613 rI_12_7 e612
        obtain ⟨v615, e616⟩ : ∃ z, Iv h601 a0 8 = z := ⟨_, rfl⟩
        have f617 := ok_I O604 e613 rI_12_8 e616
        have e618 : Iv h601 a0 28 = v7 := ((fxI F605 e593 rfl).trans e597)
        obtain ⟨p619, p620, p621, p622⟩ := p607
        have p623 := ((NT_fx O588 F605 e593 rfl).trans p599)
        rw [e612, p623] at p620
        rw [e616, e612, p623] at p621
        rw [e618, e612] at p622
        have p624 := p608
        unfold ST at p624
        rw [e596, e612, e597, e618, e592, e616] at p624
        rw [e616, e612, e596] at p610
        have f625 : (80 : Int) ≤ (80 + r600) ∧ (80 + r600) ≤ (280 : Int) := ia_add (il 80) f606 (by decide) (by decide)
        refine g_iadd C dX12_readRemain_74 ?_
        refine g_istore_n C [(1, .inl (80 + r600)), (0, .inr (.inr a0))] rfl (by decide) rfl dX12_readRemain_75 ?_
        refine g_aload_n C rfl 1 rfl dX12_readRemain_76 ?_
        refine g_bipush C (by decide) dX12_readRemain_77 ?_
        refine g_callV (st := []) (gc_V C lk_LandSurveyModel_387 (k_X12_takeWord l D cy w z0 O604 e613 (iw (il 10) (by decide) (by decide)) ⟨p619, by rw [e612, p623]; omega, by rw [e616, e612, p623]; omega, by rw [e618, e612]; omega⟩) e613 rfl rfl rfl ⟨by decide, by decide⟩ (Nat.le_of_ble_eq_true rfl) dX12_readRemain_79 ⟨(by decide), (by decide)⟩) (fun h627 K628 => ?_)
        obtain ⟨O630, F631, p632, p633, p634⟩ := K628
        obtain ⟨v635, e636⟩ : ∃ z, Iv h627 a0 7 = z := ⟨_, rfl⟩
        have e637 : Tg h627 a0 = 12 := (fxT F631 e613)
        have f638 := ok_I O630 e637 rI_12_7 e636
        obtain ⟨v639, e640⟩ : ∃ z, Iv h627 a0 8 = z := ⟨_, rfl⟩
        have f641 := ok_I O630 e637 rI_12_8 e640
        have e642 : Iv h627 a0 28 = v7 := ((fxI F631 e613 rfl).trans e618)
        obtain ⟨p643, p644, p645, p646⟩ := p632
        have p647 := ((NT_fx O604 F631 e613 rfl).trans p623)
        rw [e636, p647] at p644
        rw [e640, e636, p647] at p645
        rw [e642, e636] at p646
        have p648 := p633
        unfold ST at p648
        rw [e612, e636, e618, e642, e616, e640] at p648
        rw [e640, e636, e612] at p634
        refine g_aload_n C rfl 1 rfl dX12_readRemain_82 ?_
        refine g_callI (st := []) (gc_V C lk_LandSurveyModel_374 (k_X12_takeRock l D cy w z0 O630 e637 ⟨p643, by rw [e636, p647]; omega, by rw [e640, e636, p647]; omega, by rw [e642, e636]; omega⟩) e637 rfl rfl rfl ⟨by decide, by decide⟩ (Nat.le_of_ble_eq_true rfl) dX12_readRemain_83 ⟨(by decide), (by decide)⟩) (fun r649 h650 f652 K651 => ?_)
        obtain ⟨O653, F654, f655, p656, p657⟩ := K651
        obtain ⟨v658, e659⟩ : ∃ z, Iv h650 a0 7 = z := ⟨_, rfl⟩
        have e660 : Tg h650 a0 = 12 := (fxT F654 e637)
        have f661 := ok_I O653 e660 rI_12_7 e659
        obtain ⟨v662, e663⟩ : ∃ z, Iv h650 a0 8 = z := ⟨_, rfl⟩
        have f664 := ok_I O653 e660 rI_12_8 e663
        have e665 : Iv h650 a0 28 = v7 := ((fxI F654 e637 rfl).trans e642)
        obtain ⟨p666, p667, p668, p669⟩ := p656
        have p670 := ((NT_fx O630 F654 e637 rfl).trans p647)
        rw [e659, p670] at p667
        rw [e663, e659, p670] at p668
        rw [e665, e659] at p669
        have p671 := p657
        unfold ST at p671
        rw [e636, e659, e642, e665, e640, e663] at p671
        refine g_istore_n C [(2, .inl r649), (1, .inl (80 + r600)), (0, .inr (.inr a0))] rfl (by decide) rfl dX12_readRemain_86 ?_
        refine g_aload_n C rfl 2 rfl dX12_readRemain_87 ?_
        refine g_bipush C (by decide) dX12_readRemain_88 ?_
        refine g_callV (st := []) (gc_V C lk_LandSurveyModel_387 (k_X12_takeWord l D cy w z0 O653 e660 (iw (il 9) (by decide) (by decide)) ⟨p666, by rw [e659, p670]; omega, by rw [e663, e659, p670]; omega, by rw [e665, e659]; omega⟩) e660 rfl rfl rfl ⟨by decide, by decide⟩ (Nat.le_of_ble_eq_true rfl) dX12_readRemain_90 ⟨(by decide), (by decide)⟩) (fun h673 K674 => ?_)
        obtain ⟨O676, F677, p678, p679, p680⟩ := K674
        obtain ⟨v681, e682⟩ : ∃ z, Iv h673 a0 7 = z := ⟨_, rfl⟩
        have e683 : Tg h673 a0 = 12 := (fxT F677 e660)
        have f684 := ok_I O676 e683 rI_12_7 e682
        obtain ⟨v685, e686⟩ : ∃ z, Iv h673 a0 8 = z := ⟨_, rfl⟩
        have f687 := ok_I O676 e683 rI_12_8 e686
        have e688 : Iv h673 a0 28 = v7 := ((fxI F677 e660 rfl).trans e665)
        obtain ⟨p689, p690, p691, p692⟩ := p678
        have p693 := ((NT_fx O653 F677 e660 rfl).trans p670)
        rw [e682, p693] at p690
        rw [e686, e682, p693] at p691
        rw [e688, e682] at p692
        have p694 := p679
        unfold ST at p694
        rw [e659, e682, e665, e688, e663, e686] at p694
        rw [e686, e682, e659] at p680
        refine g_aload_n C rfl 2 rfl dX12_readRemain_93 ?_
        refine gf_I C fk_LandSurveyModel_317 rfl e683 e682 dX12_readRemain_94 ?_
        refine g_istore_n C [(3, .inl v681), (2, .inl r649), (1, .inl (80 + r600)), (0, .inr (.inr a0))] rfl (by decide) rfl dX12_readRemain_97 ?_
        refine g_aload_n C rfl 3 rfl dX12_readRemain_98 ?_
        refine g_callI (st := []) (gc_V C lk_LandSurveyModel_374 (k_X12_takeRock l D cy w z0 O676 e683 ⟨p689, by rw [e682, p693]; omega, by rw [e686, e682, p693]; omega, by rw [e688, e682]; omega⟩) e683 rfl rfl rfl ⟨by decide, by decide⟩ (Nat.le_of_ble_eq_true rfl) dX12_readRemain_99 ⟨(by decide), (by decide)⟩) (fun r695 h696 f698 K697 => ?_)
        obtain ⟨O699, F700, f701, p702, p703⟩ := K697
        obtain ⟨v704, e705⟩ : ∃ z, Iv h696 a0 7 = z := ⟨_, rfl⟩
        have e706 : Tg h696 a0 = 12 := (fxT F700 e683)
        have f707 := ok_I O699 e706 rI_12_7 e705
        obtain ⟨v708, e709⟩ : ∃ z, Iv h696 a0 8 = z := ⟨_, rfl⟩
        have f710 := ok_I O699 e706 rI_12_8 e709
        have e711 : Iv h696 a0 28 = v7 := ((fxI F700 e683 rfl).trans e688)
        obtain ⟨p712, p713, p714, p715⟩ := p702
        have p716 := ((NT_fx O676 F700 e683 rfl).trans p693)
        rw [e705, p716] at p713
        rw [e709, e705, p716] at p714
        rw [e711, e705] at p715
        have p717 := p703
        unfold ST at p717
        rw [e682, e705, e688, e711, e686, e709] at p717
        refine g_istore C [(4, .inl r695), (3, .inl v681), (2, .inl r649), (1, .inl (80 + r600)), (0, .inr (.inr a0))] (by decide) rfl dX12_readRemain_102 ?_
        refine g_aload_n C rfl 4 rfl dX12_readRemain_104 ?_
        refine gf_I C fk_LandSurveyModel_320 rfl e706 e709 dX12_readRemain_105 ?_
        refine g_if_ne C (iw f710 (by decide) (by decide)) 132 (by decide) dX12_readRemain_108 (fun q718 => ?_) (fun q719 => ?_)
        · have f720 : (1 : Int) ≤ v708 ∧ v708 ≤ (24005 : Int) := r_nl f710 q718
          refine g_aload_n C rfl 4 rfl dX12_readRemain_132 ?_
          refine gf_I C fk_LandSurveyModel_320 rfl e706 e709 dX12_readRemain_133 ?_
          refine g_if_ne C (iw f720 (by decide) (by decide)) 154 (by decide) dX12_readRemain_136 (fun q721 => ?_) (fun q722 => ?_)
          · exact g_vret C hr ⟨O699, ((((((((Fx.rf (wr := wr_k_X12_readRemain)).pI ta0 hh19 rfl).call F589 rfl).call F605 rfl).call F631 rfl).call F654 rfl).call F677 rfl).call F700 rfl), ⟨p712, by rw [e705, p716]; omega, by rw [e709, e705, p716]; omega, by rw [e711, e705]; omega⟩, (by unfold ST; rw [e2, e705, e8, e711, e5, e709]; omega)⟩ (by decide) (by decide) dX12_readRemain_154
          · exact (no_eq f720 (il 0) q722 (by decide)).elim
        · have f723 : (0 : Int) ≤ v708 ∧ v708 ≤ (0 : Int) := ii f710 (r_eq (il 0) q719) (by decide) (by decide)
          refine g_iload C 0 rfl dX12_readRemain_111 ?_
          refine g_iload_n C rfl 2 rfl dX12_readRemain_113 ?_
          refine g_icmp_ge C (iw f701 (by decide) (by decide)) (iw f655 (by decide) (by decide)) 132 (by decide) dX12_readRemain_114 (fun q724 => ?_) (fun q725 => ?_)
          · refine g_aload_n C rfl 4 rfl dX12_readRemain_132 ?_
            refine gf_I C fk_LandSurveyModel_320 rfl e706 e709 dX12_readRemain_133 ?_
            refine g_if_ne C (iw f723 (by decide) (by decide)) 154 (by decide) dX12_readRemain_136 (fun q726 => ?_) (fun q727 => ?_)
            · exact (no_ne f723 (il 0) q726 (by decide)).elim
            · refine g_aload_n C rfl 4 rfl dX12_readRemain_139 ?_
              have e728 : Rv h696 a0 22 = v393 := ((fxR F700 e683 rfl).trans ((fxR F677 e660 rfl).trans ((fxR F654 e637 rfl).trans ((fxR F631 e613 rfl).trans ((fxR F605 e593 rfl).trans ((fxR F589 e22 rfl).trans e394))))))
              refine gf_R C fk_LandSurveyModel_131 rfl e706 e728 dX12_readRemain_140 ?_
              refine g_iload_n C rfl 3 rfl dX12_readRemain_143 ?_
              refine g_iload_n C rfl 2 rfl dX12_readRemain_144 ?_
              have e729 : Tg h696 v393 = 122100 := (fxT F700 (fxT F677 (fxT F654 (fxT F631 (fxT F605 (fxT F589 t395))))))
              have e730 : Tg h585 v393 = 122100 := (fxT F589 t395)
              have e731 : Tg h601 v393 = 122100 := (fxT F605 e730)
              have e732 : Tg h627 v393 = 122100 := (fxT F631 e731)
              have e733 : Tg h650 v393 = 122100 := (fxT F654 e732)
              have e734 : Tg h673 v393 = 122100 := (fxT F677 e733)
              have e735 : Ln h696 v393 = 90 := ((fxL F700 e734).trans ((fxL F677 e733).trans ((fxL F654 e732).trans ((fxL F631 e731).trans ((fxL F605 e730).trans ((fxL F589 t395).trans l396))))))
              refine g_iast C e729 rfl e735 (by omega) (iw f655 (by decide) (by decide)) dX12_readRemain_145 (fun h737 hh736 => ?_)
              have O738 := O699.pIa e729 ar_122100 hh736 rI_122100_0 (iw f655 (by decide) (by decide)) nofun
              refine g_aload_n C rfl 4 rfl dX12_readRemain_146 ?_
              have e739 : Tg h737 a0 = 12 := ((pIT hh736).trans e706)
              obtain ⟨v740, e741⟩ : ∃ z, Rv h737 a0 23 = z := ⟨_, rfl⟩
              have t742 := ok_R O738 e739 rE_12_23 e741
              have l743 := ok_L O738 e739 rE_12_23 e741
              refine gf_R C fk_LandSurveyModel_134 rfl e739 e741 dX12_readRemain_147 ?_
              refine g_iload_n C rfl 3 rfl dX12_readRemain_150 ?_
              refine g_iload C 0 rfl dX12_readRemain_151 ?_
              refine g_iast C t742 rfl l743 (by omega) (iw f701 (by decide) (by decide)) dX12_readRemain_153 (fun h745 hh744 => ?_)
              have O746 := O738.pIa t742 ar_123100 hh744 rI_123100_0 f701 nofun
              have e747 : Iv h745 a0 7 = v704 := ((pI_n hh744 (ne_tag e739 t742 (by decide))).trans ((pI_n hh736 (ne_tag e706 e729 (by decide))).trans e705))
              have e748 : Iv h745 a0 8 = v708 := ((pI_n hh744 (ne_tag e739 t742 (by decide))).trans ((pI_n hh736 (ne_tag e706 e729 (by decide))).trans e709))
              have e749 : Iv h745 a0 28 = v7 := ((pI_n hh744 (ne_tag e739 t742 (by decide))).trans ((pI_n hh736 (ne_tag e706 e729 (by decide))).trans e711))
              have p750 := (TK_fx O738 ((Fx.rf (wr := [24620000]) (h := h737)).pIa t742 ar_123100 hh744 rfl) e739 rfl (TK_fx O699 ((Fx.rf (wr := [24420000]) (h := h696)).pIa e729 ar_122100 hh736 rfl) e706 rfl p712))
              have p751 := ((NT_fx O738 ((Fx.rf (wr := [24620000]) (h := h737)).pIa t742 ar_123100 hh744 rfl) e739 rfl).trans ((NT_fx O699 ((Fx.rf (wr := [24420000]) (h := h696)).pIa e729 ar_122100 hh736 rfl) e706 rfl).trans p716))
              exact g_vret C hr ⟨O746, ((((((((((Fx.rf (wr := wr_k_X12_readRemain)).pI ta0 hh19 rfl).call F589 rfl).call F605 rfl).call F631 rfl).call F654 rfl).call F677 rfl).call F700 rfl).pIa e729 ar_122100 hh736 rfl).pIa t742 ar_123100 hh744 rfl), ⟨p750, by rw [e747, p751]; omega, by rw [e748, e747, p751]; omega, by rw [e749, e747]; omega⟩, (by unfold ST; rw [e2, e747, e8, e749, e5, e748]; omega)⟩ (by decide) (by decide) dX12_readRemain_154
          · have f752 : (0 : Int) ≤ r695 ∧ r695 ≤ (8 : Int) := r_lt f701 f655 q725 (by decide) (by decide)
            have f753 : (1 : Int) ≤ r649 ∧ r649 ≤ (9 : Int) := r_gt f655 f701 q725 (by decide) (by decide)
            refine g_aload_n C rfl 4 rfl dX12_readRemain_117 ?_
            refine g_iconst C dX12_readRemain_118 ?_
            refine g_bipush C (by decide) dX12_readRemain_119 ?_
            refine g_aload_n C rfl 4 rfl dX12_readRemain_121 ?_
            obtain ⟨v754, e755⟩ : ∃ z, Rv h696 a0 5 = z := ⟨_, rfl⟩
            have t756 := ok_R O699 e706 rE_12_5 e755
            have l757 := ok_L O699 e706 rE_12_5 e755
            refine gf_R C fk_LandSurveyModel_27 rfl e706 e755 dX12_readRemain_122 ?_
            refine g_iload_n C rfl 1 rfl dX12_readRemain_125 ?_
            obtain ⟨v758, e759⟩ : ∃ z, Iv h696 v754 v681.toNat = z := ⟨_, rfl⟩
            have f760 := ok_Ia O699 t756 ar_105100 rI_105100_0 e759
            refine g_iald C t756 rfl l757 (ix f684 (by decide) (by decide)) e759 dX12_readRemain_126 ?_
            have f761 : (0 : Int) ≤ (16 * v758) ∧ (16 * v758) ≤ (24000 : Int) := ia_mul (by decide) f760 (by decide) (by decide)
            refine g_imul C dX12_readRemain_127 ?_
            have f762 : (4 : Int) ≤ (4 + (16 * v758)) ∧ (4 + (16 * v758)) ≤ (24004 : Int) := ia_add (il 4) f761 (by decide) (by decide)
            refine g_iadd C dX12_readRemain_128 ?_
            refine gp_I C fk_LandSurveyModel_320 pk_LandSurveyModel_8 rfl e706 (iw f762 (by decide) (by decide)) (nf_i _) dX12_readRemain_129 (fun h764 hh763 => ?_)
            have O765 := O699.pI e706 hh763 rI_12_8 (iw f762 (by decide) (by decide)) nofun
            refine g_aload_n C rfl 4 rfl dX12_readRemain_132 ?_
            have e766 : Tg h764 a0 = 12 := ((pIT hh763).trans e706)
            refine gf_I C fk_LandSurveyModel_320 rfl e766 (pI_e hh763) dX12_readRemain_133 ?_
            refine g_if_ne C (iw f762 (by decide) (by decide)) 154 (by decide) dX12_readRemain_136 (fun q767 => ?_) (fun q768 => ?_)
            · have e769 : Iv h764 a0 7 = v704 := ((pI_j hh763 (by decide)).trans e705)
              have e770 : Iv h764 a0 28 = v7 := ((pI_j hh763 (by decide)).trans e711)
              have p771 := (TK_fx O699 ((Fx.rf (wr := [2408]) (h := h696)).pI e706 hh763 rfl) e706 rfl p712)
              have p772 := ((NT_fx O699 ((Fx.rf (wr := [2408]) (h := h696)).pI e706 hh763 rfl) e706 rfl).trans p716)
              exact g_vret C hr ⟨O765, (((((((((Fx.rf (wr := wr_k_X12_readRemain)).pI ta0 hh19 rfl).call F589 rfl).call F605 rfl).call F631 rfl).call F654 rfl).call F677 rfl).call F700 rfl).pI e706 hh763 rfl), ⟨p771, by rw [e769, p772]; omega, by rw [(pI_e hh763), e769, p772]; omega, by rw [e770, e769]; omega⟩, (by unfold ST; rw [e2, e769, e8, e770, e5, (pI_e hh763)]; omega)⟩ (by decide) (by decide) dX12_readRemain_154
            · exact (no_eq f762 (il 0) q768 (by decide)).elim
def wr_k_X12_readLine : List Nat := [2407, 2408, 2428, 24820000, 25020000, 25220000, 25420000, 25820000, 26020000]
set_option maxRecDepth 100000 in
set_option maxHeartbeats 4000000 in
theorem k_X12_readLine (l : Launch) (D : va_G) (cy : Nat → ClassId) (w : Nat → Nat) (z0 : Nat) {h : Hp} {a0 : Nat}  (O : Okh h) (ta0 : Tg h a0 = 12) (P_RD : RD h a0) (P_kw : Iv h a0 8 = 0 ∧ Iv h a0 7 < NT h a0) (P_MInv : MInv h a0) (P_DLf : DLf h a0) : MV l D cy w z0 yX12_readLine cX12_readLine 2 none 22 488 0 0 [.inr (.inr a0)] h (fun h1 => Okh h1 ∧ Fx wr_k_X12_readLine h h1 ∧ (RD h1 a0) ∧ (ST h h1 a0) ∧ (MInv h1 a0) ∧ (DLf h1 a0)) := by
  obtain ⟨v1, e2⟩ : ∃ z, Iv h a0 7 = z := ⟨_, rfl⟩
  have f3 := ok_I O ta0 rI_12_7 e2
  obtain ⟨v4, e5⟩ : ∃ z, Iv h a0 8 = z := ⟨_, rfl⟩
  have f6 := ok_I O ta0 rI_12_8 e5
  obtain ⟨v7, e8⟩ : ∃ z, Iv h a0 28 = z := ⟨_, rfl⟩
  have f9 := ok_I O ta0 rI_12_28 e8
  obtain ⟨p10, p11, p12, p13⟩ := P_RD
  obtain ⟨v14, e15⟩ : ∃ z, NT h a0 = z := ⟨_, rfl⟩
  have f16 : (0 : Int) ≤ v14 ∧ v14 ≤ (1500 : Int) := NT_rng p10 e15
  rw [e2, e15] at p11
  rw [e5, e2, e15] at p12
  rw [e8, e2] at p13
  rw [e5, e2, e15] at P_kw
  have f17 : (0 : Int) ≤ v4 ∧ v4 ≤ (0 : Int) := by omega
  refine hm_go (by decide +kernel) (Nat.le_of_ble_eq_true rfl) (fun p e s m below meth c C hr hn => ?_)
  refine g_aload_n C rfl 0 rfl dX12_readLine_0 ?_
  obtain ⟨v18, e19⟩ : ∃ z, Rv h a0 24 = z := ⟨_, rfl⟩
  have t20 := ok_R O ta0 rE_12_24 e19
  have l21 := ok_L O ta0 rE_12_24 e19
  refine gf_R C fk_LandSurveyModel_137 rfl ta0 e19 dX12_readLine_1 ?_
  refine g_bipush C (by decide) dX12_readLine_4 ?_
  obtain ⟨v22, e23⟩ : ∃ z, Iv h v18 ((8 : Int).toNat) = z := ⟨_, rfl⟩
  have f24 := ok_Ia O t20 ar_124100 rI_124100_0 e23
  refine g_iald C t20 rfl l21 (ix (il 8) (by decide) (by decide)) e23 dX12_readLine_6 ?_
  refine g_bipush C (by decide) dX12_readLine_7 ?_
  refine g_icmp_ne C (iw f24 (by decide) (by decide)) (iw (il 24) (by decide) (by decide)) 18 (by decide) dX12_readLine_9 (fun q25 => ?_) (fun q26 => ?_)
  · have f27 : (0 : Int) ≤ v22 ∧ v22 ≤ (23 : Int) := r_nh f24 q25
    have e28 : Iv h (Rv h a0 24) 8 = v22 := by rw [e19]; exact e23
    have p29 := P_DLf (by rw [e5]; omega)
    rw [e28] at p29
    refine g_sipush C (by decide) dX12_readLine_18 ?_
    refine g_aload_n C rfl 0 rfl dX12_readLine_21 ?_
    refine gf_R C fk_LandSurveyModel_137 rfl ta0 e19 dX12_readLine_22 ?_
    refine g_bipush C (by decide) dX12_readLine_25 ?_
    refine g_iald C t20 rfl l21 (ix (il 8) (by decide) (by decide)) e23 dX12_readLine_27 ?_
    have f30 : (192 : Int) ≤ (192 + v22) ∧ (192 + v22) ≤ (215 : Int) := ia_add (il 192) f27 (by decide) (by decide)
    refine g_iadd C dX12_readLine_28 ?_
    refine g_istore_n C [(1, .inl (192 + v22)), (0, .inr (.inr a0))] rfl (by decide) rfl dX12_readLine_29 ?_
    refine g_aload_n C rfl 1 rfl dX12_readLine_30 ?_
    obtain ⟨v31, e32⟩ : ∃ z, Rv h a0 25 = z := ⟨_, rfl⟩
    have t33 := ok_R O ta0 rE_12_25 e32
    have l34 := ok_L O ta0 rE_12_25 e32
    refine gf_R C fk_LandSurveyModel_140 rfl ta0 e32 dX12_readLine_31 ?_
    refine g_iload_n C rfl 0 rfl dX12_readLine_34 ?_
    refine g_aload_n C rfl 1 rfl dX12_readLine_35 ?_
    refine g_iconst C dX12_readLine_36 ?_
    refine g_callI (st := [.inl (192 + v22), .inr (.inr v31)]) (gc_V C lk_LandSurveyModel_330 (k_X12_isWord l D cy w z0 O ta0 (iw (il 1) (by decide) (by decide)) ⟨p10, by rw [e2, e15]; omega, by rw [e5, e2, e15]; omega, by rw [e8, e2]; omega⟩) ta0 rfl rfl rfl ⟨by decide, by decide⟩ (Nat.le_of_ble_eq_true rfl) dX12_readLine_37 ⟨(by decide), (by decide)⟩) (fun r35 h36 f38 K37 => ?_)
    obtain ⟨O39, F40, f41, p42, p43⟩ := K37
    rw [e5, e2, e15] at p42
    obtain ⟨v44, e45⟩ : ∃ z, Rv h a0 4 = z := ⟨_, rfl⟩
    have t46 := ok_R O ta0 rE_12_4 e45
    have l47 := ok_L O ta0 rE_12_4 e45
    obtain ⟨v48, e49⟩ : ∃ z, Iv h v44 v1.toNat = z := ⟨_, rfl⟩
    have f50 := ok_Ia O t46 ar_104100 rI_104100_0 e49
    obtain ⟨v51, e52⟩ : ∃ z, Rv h a0 6 = z := ⟨_, rfl⟩
    have t53 := ok_R O ta0 rE_12_6 e52
    have l54 := ok_L O ta0 rE_12_6 e52
    obtain ⟨v55, e56⟩ : ∃ z, Jv h v51 v1.toNat = z := ⟨_, rfl⟩
    have f57 := inL_J O e56
    obtain ⟨v58, e59⟩ : ∃ z, Rv h a0 9 = z := ⟨_, rfl⟩
    have t60 := ok_R O ta0 rE_12_9 e59
    have l61 := ok_L O ta0 rE_12_9 e59
    obtain ⟨v62, e63⟩ : ∃ z, Jv h v58 ((1 : Int).toNat) = z := ⟨_, rfl⟩
    have f64 := inL_J O e63
    rw [e5, e45, e2, e49, e52, e56, e59, e63] at p43
    refine g_if_eq C (iw f41 (by decide) (by decide)) 47 (by decide) dX12_readLine_40 (fun q65 => ?_) (fun q66 => ?_)
    · have f67 : (0 : Int) ≤ r35 ∧ r35 ≤ (0 : Int) := ii f41 (r_eq (il 0) q65) (by decide) (by decide)
      refine g_aload_n C rfl 1 rfl dX12_readLine_47 ?_
      refine g_iconst C dX12_readLine_48 ?_
      have e68 : Tg h36 a0 = 12 := (fxT F40 ta0)
      have e69 : Iv h36 a0 7 = v1 := ((fxI F40 ta0 rfl).trans e2)
      have e70 : Iv h36 a0 8 = v4 := ((fxI F40 ta0 rfl).trans e5)
      have e71 : Iv h36 a0 28 = v7 := ((fxI F40 ta0 rfl).trans e8)
      have p72 := (TK_fx O F40 ta0 rfl p10)
      have p73 := ((NT_fx O F40 ta0 rfl).trans e15)
      refine g_callI (st := [.inl (192 + v22), .inr (.inr v31)]) (gc_V C lk_LandSurveyModel_330 (k_X12_isWord l D cy w z0 O39 e68 (iw (il 2) (by decide) (by decide)) ⟨p72, by rw [e69, p73]; omega, by rw [e70, e69, p73]; omega, by rw [e71, e69]; omega⟩) e68 rfl rfl rfl ⟨by decide, by decide⟩ (Nat.le_of_ble_eq_true rfl) dX12_readLine_49 ⟨(by decide), (by decide)⟩) (fun r74 h75 f77 K76 => ?_)
      obtain ⟨O78, F79, f80, p81, p82⟩ := K76
      rw [e70, e69, p73] at p81
      have e83 : Rv h36 a0 4 = v44 := ((fxR F40 ta0 rfl).trans e45)
      have e84 : Iv h36 v44 v1.toNat = v48 := ((fxIa F40 t46 ar_104100 rfl).trans e49)
      have e85 : Rv h36 a0 6 = v51 := ((fxR F40 ta0 rfl).trans e52)
      have e86 : Jv h36 v51 v1.toNat = v55 := ((fxJa F40 t53 ar_106102 rfl).trans e56)
      have e87 : Rv h36 a0 9 = v58 := ((fxR F40 ta0 rfl).trans e59)
      obtain ⟨v88, e89⟩ : ∃ z, Jv h36 v58 ((2 : Int).toNat) = z := ⟨_, rfl⟩
      have e90 : Tg h36 v58 = 109102 := (fxT F40 t60)
      have f91 := inL_J O39 e89
      rw [e70, e83, e69, e84, e85, e86, e87, e89] at p82
      refine g_if_eq C (iw f80 (by decide) (by decide)) 59 (by decide) dX12_readLine_52 (fun q92 => ?_) (fun q93 => ?_)
      · have f94 : (0 : Int) ≤ r74 ∧ r74 ≤ (0 : Int) := ii f80 (r_eq (il 0) q92) (by decide) (by decide)
        refine g_iconst C dX12_readLine_59 ?_
        have e95 : Tg h75 v31 = 125100 := (fxT F79 (fxT F40 t33))
        have e96 : Tg h36 v31 = 125100 := (fxT F40 t33)
        have e97 : Ln h75 v31 = 216 := ((fxL F79 e96).trans ((fxL F40 t33).trans l34))
        refine g_iast C e95 rfl e97 (ix f30 (by decide) (by decide)) (iw (il 3) (by decide) (by decide)) dX12_readLine_60 (fun h99 hh98 => ?_)
        have O100 := O78.pIa e95 ar_125100 hh98 rI_125100_0 (iw (il 3) (by decide) (by decide)) nofun
        refine g_aload_n C rfl 1 rfl dX12_readLine_61 ?_
        refine g_dup C rfl dX12_readLine_62 ?_
        have e101 : Tg h99 a0 = 12 := ((pIT hh98).trans (fxT F79 e68))
        have e102 : Tg h75 a0 = 12 := (fxT F79 e68)
        have e103 : Iv h99 a0 7 = v1 := ((pI_n hh98 (ne_tag e102 e95 (by decide))).trans ((fxI F79 e68 rfl).trans e69))
        refine gf_I C fk_LandSurveyModel_317 rfl e101 e103 dX12_readLine_63 ?_
        refine g_iconst C dX12_readLine_66 ?_
        have f104 : (1 : Int) ≤ (v1 + 1) ∧ (v1 + 1) ≤ (1502 : Int) := ia_add f3 (il 1) (by decide) (by decide)
        refine g_iadd C dX12_readLine_67 ?_
        refine gp_I C fk_LandSurveyModel_317 pk_LandSurveyModel_7 rfl e101 (iw f104 (by decide) (by decide)) (nf_i _) dX12_readLine_68 (fun h106 hh105 => ?_)
        have O107 := O100.pI e101 hh105 rI_12_7 (by omega) nofun
        refine g_aload_n C rfl 1 rfl dX12_readLine_71 ?_
        have e108 : Tg h106 a0 = 12 := ((pIT hh105).trans e101)
        have e109 : Rv h106 a0 25 = v31 := ((pIR hh105).trans ((pIR hh98).trans ((fxR F79 e68 rfl).trans ((fxR F40 ta0 rfl).trans e32))))
        refine gf_R C fk_LandSurveyModel_140 rfl e108 e109 dX12_readLine_72 ?_
        refine g_iload_n C rfl 0 rfl dX12_readLine_75 ?_
        have e110 : Tg h106 v31 = 125100 := ((pIT hh105).trans ((pIT hh98).trans e95))
        have e111 : Ln h106 v31 = 216 := ((pIL hh105).trans ((pIL hh98).trans e97))
        have e112 : Tg h99 v31 = 125100 := ((pIT hh98).trans e95)
        have e113 : Iv h106 v31 ((192 + v22).toNat) = 3 := ((pI_n hh105 (ne_tag e112 e101 (by decide))).trans (pI_e hh98))
        refine g_iald C e110 rfl e111 (ix f30 (by decide) (by decide)) e113 dX12_readLine_76 ?_
        refine g_iconst C dX12_readLine_77 ?_
        refine g_icmp_ne C (iw (il 3) (by decide) (by decide)) (iw (il 1) (by decide) (by decide)) 94 (by decide) dX12_readLine_78 (fun q114 => ?_) (fun q115 => ?_)
        · refine g_aload_n C rfl 1 rfl dX12_readLine_94 ?_
          refine gf_R C fk_LandSurveyModel_140 rfl e108 e109 dX12_readLine_95 ?_
          refine g_iload_n C rfl 0 rfl dX12_readLine_98 ?_
          refine g_iald C e110 rfl e111 (ix f30 (by decide) (by decide)) e113 dX12_readLine_99 ?_
          refine g_iconst C dX12_readLine_100 ?_
          refine g_icmp_ne C (iw (il 3) (by decide) (by decide)) (iw (il 2) (by decide) (by decide)) 120 (by decide) dX12_readLine_101 (fun q116 => ?_) (fun q117 => ?_)
          · refine g_aload_n C rfl 1 rfl dX12_readLine_120 ?_
            obtain ⟨v118, e119⟩ : ∃ z, Rv h106 a0 26 = z := ⟨_, rfl⟩
            have t120 := ok_R O107 e108 rE_12_26 e119
            have l121 := ok_L O107 e108 rE_12_26 e119
            refine gf_R C fk_LandSurveyModel_143 rfl e108 e119 dX12_readLine_121 ?_
            refine g_iload_n C rfl 0 rfl dX12_readLine_124 ?_
            refine g_aload_n C rfl 1 rfl dX12_readLine_125 ?_
            refine g_bipush C (by decide) dX12_readLine_126 ?_
            have e122 : Iv h106 a0 8 = v4 := ((pI_j hh105 (by decide)).trans ((pI_n hh98 (ne_tag e102 e95 (by decide))).trans ((fxI F79 e68 rfl).trans e70)))
            have e123 : Iv h106 a0 28 = v7 := ((pI_j hh105 (by decide)).trans ((pI_n hh98 (ne_tag e102 e95 (by decide))).trans ((fxI F79 e68 rfl).trans e71)))
            have p124 := (TK_fx O100 ((Fx.rf (wr := [2407]) (h := h99)).pI e101 hh105 rfl) e101 rfl (TK_fx O78 ((Fx.rf (wr := [25020000]) (h := h75)).pIa e95 ar_125100 hh98 rfl) e102 rfl (TK_fx O39 F79 e68 rfl p72)))
            have p125 := ((NT_fx O100 ((Fx.rf (wr := [2407]) (h := h99)).pI e101 hh105 rfl) e101 rfl).trans ((NT_fx O78 ((Fx.rf (wr := [25020000]) (h := h75)).pIa e95 ar_125100 hh98 rfl) e102 rfl).trans ((NT_fx O39 F79 e68 rfl).trans p73)))
            refine g_callI (st := [.inl (192 + v22), .inr (.inr v118)]) (gc_V C lk_LandSurveyModel_330 (k_X12_isWord l D cy w z0 O107 e108 (iw (il 12) (by decide) (by decide)) ⟨p124, by rw [(pI_e hh105), p125]; omega, by rw [e122, (pI_e hh105), p125]; omega, by rw [e123, (pI_e hh105)]; omega⟩) e108 rfl rfl rfl ⟨by decide, by decide⟩ (Nat.le_of_ble_eq_true rfl) dX12_readLine_128 ⟨(by decide), (by decide)⟩) (fun r126 h127 f129 K128 => ?_)
            obtain ⟨O130, F131, f132, p133, p134⟩ := K128
            rw [e122, (pI_e hh105), p125] at p133
            have e135 : Rv h106 a0 4 = v44 := ((pIR hh105).trans ((pIR hh98).trans ((fxR F79 e68 rfl).trans e83)))
            obtain ⟨v136, e137⟩ : ∃ z, Iv h106 v44 ((v1 + 1).toNat) = z := ⟨_, rfl⟩
            have e138 : Tg h106 v44 = 104100 := ((pIT hh105).trans ((pIT hh98).trans (fxT F79 (fxT F40 t46))))
            have f139 := ok_Ia O107 e138 ar_104100 rI_104100_0 e137
            have e140 : Rv h106 a0 6 = v51 := ((pIR hh105).trans ((pIR hh98).trans ((fxR F79 e68 rfl).trans e85)))
            obtain ⟨v141, e142⟩ : ∃ z, Jv h106 v51 ((v1 + 1).toNat) = z := ⟨_, rfl⟩
            have e143 : Tg h106 v51 = 106102 := ((pIT hh105).trans ((pIT hh98).trans (fxT F79 (fxT F40 t53))))
            have f144 := inL_J O107 e142
            have e145 : Rv h106 a0 9 = v58 := ((pIR hh105).trans ((pIR hh98).trans ((fxR F79 e68 rfl).trans e87)))
            obtain ⟨v146, e147⟩ : ∃ z, Jv h106 v58 ((12 : Int).toNat) = z := ⟨_, rfl⟩
            have e148 : Tg h106 v58 = 109102 := ((pIT hh105).trans ((pIT hh98).trans (fxT F79 e90)))
            have f149 := inL_J O107 e147
            rw [e122, e135, (pI_e hh105), e137, e140, e142, e145, e147] at p134
            refine g_if_eq C (iw f132 (by decide) (by decide)) 138 (by decide) dX12_readLine_131 (fun q150 => ?_) (fun q151 => ?_)
            · have f152 : (0 : Int) ≤ r126 ∧ r126 ≤ (0 : Int) := ii f132 (r_eq (il 0) q150) (by decide) (by decide)
              refine g_aload_n C rfl 1 rfl dX12_readLine_138 ?_
              refine g_bipush C (by decide) dX12_readLine_139 ?_
              have e153 : Tg h127 a0 = 12 := (fxT F131 e108)
              have e154 : Iv h127 a0 7 = (v1 + 1) := ((fxI F131 e108 rfl).trans (pI_e hh105))
              have e155 : Iv h127 a0 8 = v4 := ((fxI F131 e108 rfl).trans e122)
              have e156 : Iv h127 a0 28 = v7 := ((fxI F131 e108 rfl).trans e123)
              have p157 := (TK_fx O107 F131 e108 rfl p124)
              have p158 := ((NT_fx O107 F131 e108 rfl).trans p125)
              refine g_callI (st := [.inl (192 + v22), .inr (.inr v118)]) (gc_V C lk_LandSurveyModel_330 (k_X12_isWord l D cy w z0 O130 e153 (iw (il 13) (by decide) (by decide)) ⟨p157, by rw [e154, p158]; omega, by rw [e155, e154, p158]; omega, by rw [e156, e154]; omega⟩) e153 rfl rfl rfl ⟨by decide, by decide⟩ (Nat.le_of_ble_eq_true rfl) dX12_readLine_141 ⟨(by decide), (by decide)⟩) (fun r159 h160 f162 K161 => ?_)
              obtain ⟨O163, F164, f165, p166, p167⟩ := K161
              rw [e155, e154, p158] at p166
              have e168 : Rv h127 a0 4 = v44 := ((fxR F131 e108 rfl).trans e135)
              have e169 : Iv h127 v44 ((v1 + 1).toNat) = v136 := ((fxIa F131 e138 ar_104100 rfl).trans e137)
              have e170 : Rv h127 a0 6 = v51 := ((fxR F131 e108 rfl).trans e140)
              have e171 : Jv h127 v51 ((v1 + 1).toNat) = v141 := ((fxJa F131 e143 ar_106102 rfl).trans e142)
              have e172 : Rv h127 a0 9 = v58 := ((fxR F131 e108 rfl).trans e145)
              obtain ⟨v173, e174⟩ : ∃ z, Jv h127 v58 ((13 : Int).toNat) = z := ⟨_, rfl⟩
              have e175 : Tg h127 v58 = 109102 := (fxT F131 e148)
              have f176 := inL_J O130 e174
              rw [e155, e168, e154, e169, e170, e171, e172, e174] at p167
              refine g_if_eq C (iw f165 (by decide) (by decide)) 151 (by decide) dX12_readLine_144 (fun q177 => ?_) (fun q178 => ?_)
              · have f179 : (0 : Int) ≤ r159 ∧ r159 ≤ (0 : Int) := ii f165 (r_eq (il 0) q177) (by decide) (by decide)
                refine g_iconst C dX12_readLine_151 ?_
                have e180 : Tg h160 v118 = 126100 := (fxT F164 (fxT F131 t120))
                have e181 : Tg h127 v118 = 126100 := (fxT F131 t120)
                have e182 : Ln h160 v118 = 216 := ((fxL F164 e181).trans ((fxL F131 t120).trans l121))
                refine g_iast C e180 rfl e182 (ix f30 (by decide) (by decide)) (iw (il 1) (by decide) (by decide)) dX12_readLine_152 (fun h184 hh183 => ?_)
                have O185 := O163.pIa e180 ar_126100 hh183 rI_126100_0 (iw (il 1) (by decide) (by decide)) nofun
                refine g_aload_n C rfl 1 rfl dX12_readLine_153 ?_
                have e186 : Tg h184 a0 = 12 := ((pIT hh183).trans (fxT F164 e153))
                have e187 : Rv h184 a0 26 = v118 := ((pIR hh183).trans ((fxR F164 e153 rfl).trans ((fxR F131 e108 rfl).trans e119)))
                refine gf_R C fk_LandSurveyModel_143 rfl e186 e187 dX12_readLine_154 ?_
                refine g_iload_n C rfl 0 rfl dX12_readLine_157 ?_
                have e188 : Tg h184 v118 = 126100 := ((pIT hh183).trans e180)
                have e189 : Ln h184 v118 = 216 := ((pIL hh183).trans e182)
                refine g_iald C e188 rfl e189 (ix f30 (by decide) (by decide)) (pI_e hh183) dX12_readLine_158 ?_
                refine g_iconst C dX12_readLine_159 ?_
                refine g_icmp_ne C (iw (il 1) (by decide) (by decide)) (iw (il 1) (by decide) (by decide)) 177 (by decide) dX12_readLine_160 (fun q190 => ?_) (fun q191 => ?_)
                · exact (no_ne (il 1) (il 1) q190 (by decide)).elim
                · refine g_aload_n C rfl 1 rfl dX12_readLine_163 ?_
                  refine g_bipush C (by decide) dX12_readLine_164 ?_
                  have e192 : Tg h160 a0 = 12 := (fxT F164 e153)
                  have e193 : Iv h184 a0 7 = (v1 + 1) := ((pI_n hh183 (ne_tag e192 e180 (by decide))).trans ((fxI F164 e153 rfl).trans e154))
                  have e194 : Iv h184 a0 8 = v4 := ((pI_n hh183 (ne_tag e192 e180 (by decide))).trans ((fxI F164 e153 rfl).trans e155))
                  have e195 : Iv h184 a0 28 = v7 := ((pI_n hh183 (ne_tag e192 e180 (by decide))).trans ((fxI F164 e153 rfl).trans e156))
                  have p196 := (TK_fx O163 ((Fx.rf (wr := [25220000]) (h := h160)).pIa e180 ar_126100 hh183 rfl) e192 rfl (TK_fx O130 F164 e153 rfl p157))
                  have p197 := ((NT_fx O163 ((Fx.rf (wr := [25220000]) (h := h160)).pIa e180 ar_126100 hh183 rfl) e192 rfl).trans ((NT_fx O130 F164 e153 rfl).trans p158))
                  refine g_callI (st := []) (gc_V C lk_LandSurveyModel_330 (k_X12_isWord l D cy w z0 O185 e186 (iw (il 14) (by decide) (by decide)) ⟨p196, by rw [e193, p197]; omega, by rw [e194, e193, p197]; omega, by rw [e195, e193]; omega⟩) e186 rfl rfl rfl ⟨by decide, by decide⟩ (Nat.le_of_ble_eq_true rfl) dX12_readLine_166 ⟨(by decide), (by decide)⟩) (fun r198 h199 f201 K200 => ?_)
                  obtain ⟨O202, F203, f204, p205, p206⟩ := K200
                  rw [e194, e193, p197] at p205
                  have e207 : Rv h184 a0 4 = v44 := ((pIR hh183).trans ((fxR F164 e153 rfl).trans e168))
                  have e208 : Tg h127 v44 = 104100 := (fxT F131 e138)
                  have e209 : Tg h160 v44 = 104100 := (fxT F164 e208)
                  have e210 : Iv h184 v44 ((v1 + 1).toNat) = v136 := ((pI_n hh183 (ne_tag e209 e180 (by decide))).trans ((fxIa F164 e208 ar_104100 rfl).trans e169))
                  have e211 : Rv h184 a0 6 = v51 := ((pIR hh183).trans ((fxR F164 e153 rfl).trans e170))
                  have e212 : Tg h127 v51 = 106102 := (fxT F131 e143)
                  have e213 : Jv h184 v51 ((v1 + 1).toNat) = v141 := ((pIJ hh183).trans ((fxJa F164 e212 ar_106102 rfl).trans e171))
                  have e214 : Rv h184 a0 9 = v58 := ((pIR hh183).trans ((fxR F164 e153 rfl).trans e172))
                  obtain ⟨v215, e216⟩ : ∃ z, Jv h184 v58 ((14 : Int).toNat) = z := ⟨_, rfl⟩
                  have e217 : Tg h184 v58 = 109102 := ((pIT hh183).trans (fxT F164 e175))
                  have f218 := inL_J O185 e216
                  rw [e194, e207, e193, e210, e211, e213, e214, e216] at p206
                  refine g_if_ne C (iw f204 (by decide) (by decide)) 177 (by decide) dX12_readLine_169 (fun q219 => ?_) (fun q220 => ?_)
                  · have f221 : (1 : Int) ≤ r198 ∧ r198 ≤ (1 : Int) := r_nl f204 q219
                    refine g_aload_n C rfl 1 rfl dX12_readLine_177 ?_
                    refine g_dup C rfl dX12_readLine_178 ?_
                    have e222 : Tg h199 a0 = 12 := (fxT F203 e186)
                    have e223 : Iv h199 a0 7 = (v1 + 1) := ((fxI F203 e186 rfl).trans e193)
                    refine gf_I C fk_LandSurveyModel_317 rfl e222 e223 dX12_readLine_179 ?_
                    refine g_iconst C dX12_readLine_182 ?_
                    have f224 : (2 : Int) ≤ ((v1 + 1) + 1) ∧ ((v1 + 1) + 1) ≤ (1503 : Int) := ia_add f104 (il 1) (by decide) (by decide)
                    refine g_iadd C dX12_readLine_183 ?_
                    refine gp_I C fk_LandSurveyModel_317 pk_LandSurveyModel_7 rfl e222 (iw f224 (by decide) (by decide)) (nf_i _) dX12_readLine_184 (fun h226 hh225 => ?_)
                    have O227 := O202.pI e222 hh225 rI_12_7 (by omega) nofun
                    refine g_aload_n C rfl 1 rfl dX12_readLine_187 ?_
                    refine g_bipush C (by decide) dX12_readLine_188 ?_
                    have e228 : Tg h226 a0 = 12 := ((pIT hh225).trans e222)
                    have e229 : Iv h226 a0 8 = v4 := ((pI_j hh225 (by decide)).trans ((fxI F203 e186 rfl).trans e194))
                    have e230 : Iv h226 a0 28 = v7 := ((pI_j hh225 (by decide)).trans ((fxI F203 e186 rfl).trans e195))
                    have p231 := (TK_fx O202 ((Fx.rf (wr := [2407]) (h := h199)).pI e222 hh225 rfl) e222 rfl (TK_fx O185 F203 e186 rfl p196))
                    have p232 := ((NT_fx O202 ((Fx.rf (wr := [2407]) (h := h199)).pI e222 hh225 rfl) e222 rfl).trans ((NT_fx O185 F203 e186 rfl).trans p197))
                    refine g_callV (st := []) (gc_V C lk_LandSurveyModel_387 (k_X12_takeWord l D cy w z0 O227 e228 (iw (il 11) (by decide) (by decide)) ⟨p231, by rw [(pI_e hh225), p232]; omega, by rw [e229, (pI_e hh225), p232]; omega, by rw [e230, (pI_e hh225)]; omega⟩) e228 rfl rfl rfl ⟨by decide, by decide⟩ (Nat.le_of_ble_eq_true rfl) dX12_readLine_190 ⟨(by decide), (by decide)⟩) (fun h234 K235 => ?_)
                    obtain ⟨O237, F238, p239, p240, p241⟩ := K235
                    obtain ⟨v242, e243⟩ : ∃ z, Iv h234 a0 7 = z := ⟨_, rfl⟩
                    have e244 : Tg h234 a0 = 12 := (fxT F238 e228)
                    have f245 := ok_I O237 e244 rI_12_7 e243
                    obtain ⟨v246, e247⟩ : ∃ z, Iv h234 a0 8 = z := ⟨_, rfl⟩
                    have f248 := ok_I O237 e244 rI_12_8 e247
                    have e249 : Iv h234 a0 28 = v7 := ((fxI F238 e228 rfl).trans e230)
                    obtain ⟨p250, p251, p252, p253⟩ := p239
                    have p254 := ((NT_fx O227 F238 e228 rfl).trans p232)
                    rw [e243, p254] at p251
                    rw [e247, e243, p254] at p252
                    rw [e249, e243] at p253
                    have p255 := p240
                    unfold ST at p255
                    rw [(pI_e hh225), e243, e230, e249, e229, e247] at p255
                    rw [e247, e243, (pI_e hh225)] at p241
                    refine g_aload_n C rfl 1 rfl dX12_readLine_193 ?_
                    obtain ⟨v256, e257⟩ : ∃ z, Rv h234 a0 27 = z := ⟨_, rfl⟩
                    have t258 := ok_R O237 e244 rE_12_27 e257
                    have l259 := ok_L O237 e244 rE_12_27 e257
                    refine gf_R C fk_LandSurveyModel_146 rfl e244 e257 dX12_readLine_194 ?_
                    refine g_iload_n C rfl 0 rfl dX12_readLine_197 ?_
                    refine g_sipush C (by decide) dX12_readLine_198 ?_
                    refine g_aload_n C rfl 1 rfl dX12_readLine_201 ?_
                    refine gf_I C fk_LandSurveyModel_336 rfl e244 e249 dX12_readLine_202 ?_
                    have f260 : (12800 : Int) ≤ (12800 + v7) ∧ (12800 + v7) ≤ (14400 : Int) := ia_add (il 12800) f9 (by decide) (by decide)
                    refine g_iadd C dX12_readLine_205 ?_
                    refine g_iast C t258 rfl l259 (ix f30 (by decide) (by decide)) (iw f260 (by decide) (by decide)) dX12_readLine_206 (fun h262 hh261 => ?_)
                    have O263 := O237.pIa t258 ar_127100 hh261 rI_127100_0 (iw f260 (by decide) (by decide)) nofun
                    refine g_aload_n C rfl 1 rfl dX12_readLine_207 ?_
                    refine g_iconst C dX12_readLine_208 ?_
                    have e264 : Tg h262 a0 = 12 := ((pIT hh261).trans e244)
                    have e265 : Iv h262 a0 7 = v242 := ((pI_n hh261 (ne_tag e244 t258 (by decide))).trans e243)
                    have e266 : Iv h262 a0 8 = v246 := ((pI_n hh261 (ne_tag e244 t258 (by decide))).trans e247)
                    have e267 : Iv h262 a0 28 = v7 := ((pI_n hh261 (ne_tag e244 t258 (by decide))).trans e249)
                    have p268 := (TK_fx O237 ((Fx.rf (wr := [25420000]) (h := h234)).pIa t258 ar_127100 hh261 rfl) e244 rfl p250)
                    have p269 := ((NT_fx O237 ((Fx.rf (wr := [25420000]) (h := h234)).pIa t258 ar_127100 hh261 rfl) e244 rfl).trans p254)
                    refine g_callV (st := []) (gc_V C lk_LandSurveyModel_392 (k_all_0 l D cy w z0 O263 e264 (il 0) ⟨p268, by rw [e265, p269]; omega, by rw [e266, e265, p269]; omega, by rw [e267, e265]; omega⟩) e264 rfl rfl rfl ⟨by decide, by decide⟩ (Nat.le_of_ble_eq_true rfl) dX12_readLine_209 ⟨(by decide), (by decide)⟩) (fun h271 K272 => ?_)
                    obtain ⟨O274, F275, p276, p277, p278, p279⟩ := K272
                    obtain ⟨v280, e281⟩ : ∃ z, Iv h271 a0 7 = z := ⟨_, rfl⟩
                    have e282 : Tg h271 a0 = 12 := (fxT F275 e264)
                    have f283 := ok_I O274 e282 rI_12_7 e281
                    obtain ⟨v284, e285⟩ : ∃ z, Iv h271 a0 8 = z := ⟨_, rfl⟩
                    have f286 := ok_I O274 e282 rI_12_8 e285
                    obtain ⟨v287, e288⟩ : ∃ z, Iv h271 a0 28 = z := ⟨_, rfl⟩
                    have f289 := ok_I O274 e282 rI_12_28 e288
                    obtain ⟨p290, p291, p292, p293⟩ := p276
                    have p294 := ((NT_fx O263 F275 e264 rfl).trans p269)
                    rw [e281, p294] at p291
                    rw [e285, e281, p294] at p292
                    rw [e288, e281] at p293
                    have p295 := p277
                    unfold ST at p295
                    rw [e265, e281, e267, e288, e266, e285] at p295
                    refine g_aload_n C rfl 1 rfl dX12_readLine_212 ?_
                    refine g_iconst C dX12_readLine_213 ?_
                    refine g_iconst C dX12_readLine_214 ?_
                    refine g_callV (st := []) (gc_V C lk_LandSurveyModel_395 (k_X12_emit l D cy w z0 O274 e282 (iw (il 0) (by decide) (by decide)) (iw (il 0) (by decide) (by decide)) (by rw [e288]; omega)) e282 rfl rfl rfl ⟨by decide, by decide⟩ (Nat.le_of_ble_eq_true rfl) dX12_readLine_215 ⟨(by decide), (by decide)⟩) (fun h297 K298 => ?_)
                    obtain ⟨O300, F301, p302⟩ := K298
                    have e303 : Iv h297 a0 28 = v287 + 1 := by rw [p302.1, e288]
                    obtain ⟨v304, e305⟩ : ∃ z, Iv h297 a0 28 = z := ⟨_, rfl⟩
                    have e306 : Tg h297 a0 = 12 := (fxT F301 e282)
                    have f307 := ok_I O300 e306 rI_12_28 e305
                    rw [e305] at e303
                    refine g_aload_n C rfl 1 rfl dX12_readLine_218 ?_
                    have e308 : Rv h297 a0 24 = v18 := ((fxR F301 e282 rfl).trans ((fxR F275 e264 rfl).trans ((pIR hh261).trans ((fxR F238 e228 rfl).trans ((pIR hh225).trans ((fxR F203 e186 rfl).trans ((pIR hh183).trans ((fxR F164 e153 rfl).trans ((fxR F131 e108 rfl).trans ((pIR hh105).trans ((pIR hh98).trans ((fxR F79 e68 rfl).trans ((fxR F40 ta0 rfl).trans e19)))))))))))))
                    refine gf_R C fk_LandSurveyModel_137 rfl e306 e308 dX12_readLine_219 ?_
                    refine g_bipush C (by decide) dX12_readLine_222 ?_
                    refine g_dup2 C rfl rfl dX12_readLine_224 ?_
                    have e309 : Tg h297 v18 = 124100 := (fxT F301 (fxT F275 ((pIT hh261).trans (fxT F238 ((pIT hh225).trans (fxT F203 ((pIT hh183).trans (fxT F164 (fxT F131 ((pIT hh105).trans ((pIT hh98).trans (fxT F79 (fxT F40 t20)))))))))))))
                    have e310 : Tg h36 v18 = 124100 := (fxT F40 t20)
                    have e311 : Tg h106 v18 = 124100 := ((pIT hh105).trans ((pIT hh98).trans (fxT F79 e310)))
                    have e312 : Tg h127 v18 = 124100 := (fxT F131 e311)
                    have e313 : Tg h184 v18 = 124100 := ((pIT hh183).trans (fxT F164 e312))
                    have e314 : Tg h226 v18 = 124100 := ((pIT hh225).trans (fxT F203 e313))
                    have e315 : Tg h262 v18 = 124100 := ((pIT hh261).trans (fxT F238 e314))
                    have e316 : Tg h271 v18 = 124100 := (fxT F275 e315)
                    have e317 : Ln h297 v18 = 9 := ((fxL F301 e316).trans ((fxL F275 e315).trans ((pIL hh261).trans ((fxL F238 e314).trans ((pIL hh225).trans ((fxL F203 e313).trans ((pIL hh183).trans ((fxL F164 e312).trans ((fxL F131 e311).trans ((pIL hh105).trans ((pIL hh98).trans ((fxL F79 e310).trans ((fxL F40 t20).trans l21)))))))))))))
                    have e318 : Tg h75 v18 = 124100 := (fxT F79 e310)
                    have e319 : Tg h99 v18 = 124100 := ((pIT hh98).trans e318)
                    have e320 : Tg h160 v18 = 124100 := (fxT F164 e312)
                    have e321 : Tg h199 v18 = 124100 := (fxT F203 e313)
                    have e322 : Tg h234 v18 = 124100 := (fxT F238 e314)
                    have e323 : Iv h297 v18 ((8 : Int).toNat) = v22 := ((fxIa F301 e316 ar_124100 rfl).trans ((fxIa F275 e315 ar_124100 rfl).trans ((pI_n hh261 (ne_tag e322 t258 (by decide))).trans ((fxIa F238 e314 ar_124100 rfl).trans ((pI_n hh225 (ne_tag e321 e222 (by decide))).trans ((fxIa F203 e313 ar_124100 rfl).trans ((pI_n hh183 (ne_tag e320 e180 (by decide))).trans ((fxIa F164 e312 ar_124100 rfl).trans ((fxIa F131 e311 ar_124100 rfl).trans ((pI_n hh105 (ne_tag e319 e101 (by decide))).trans ((pI_n hh98 (ne_tag e318 e95 (by decide))).trans ((fxIa F79 e310 ar_124100 rfl).trans ((fxIa F40 t20 ar_124100 rfl).trans e23)))))))))))))
                    refine g_iald C e309 rfl e317 (ix (il 8) (by decide) (by decide)) e323 dX12_readLine_225 ?_
                    refine g_iconst C dX12_readLine_226 ?_
                    have f324 : (1 : Int) ≤ (v22 + 1) ∧ (v22 + 1) ≤ (24 : Int) := ia_add f27 (il 1) (by decide) (by decide)
                    refine g_iadd C dX12_readLine_227 ?_
                    refine g_iast C e309 rfl e317 (ix (il 8) (by decide) (by decide)) (iw f324 (by decide) (by decide)) dX12_readLine_228 (fun h326 hh325 => ?_)
                    have O327 := O300.pIa e309 ar_124100 hh325 rI_124100_0 (iw f324 (by decide) (by decide)) nofun
                    have e328 : Iv h326 a0 7 = v280 := ((pI_n hh325 (ne_tag e306 e309 (by decide))).trans ((fxI F301 e282 rfl).trans e281))
                    have e329 : Iv h326 a0 8 = v284 := ((pI_n hh325 (ne_tag e306 e309 (by decide))).trans ((fxI F301 e282 rfl).trans e285))
                    have e330 : Iv h326 a0 28 = v304 := ((pI_n hh325 (ne_tag e306 e309 (by decide))).trans e305)
                    have p331 := (TK_fx O300 ((Fx.rf (wr := [24820000]) (h := h297)).pIa e309 ar_124100 hh325 rfl) e306 rfl (TK_fx O274 F301 e282 rfl p290))
                    have p332 := ((NT_fx O300 ((Fx.rf (wr := [24820000]) (h := h297)).pIa e309 ar_124100 hh325 rfl) e306 rfl).trans ((NT_fx O274 F301 e282 rfl).trans p294))
                    have p333 := (MInv_w O300 e306 e309 (by decide) hh325 ⟨fun e => by omega, fun e => by omega, fun e => by omega⟩ (MInv_cf O274 F301 e282 rfl (EM.cf p302) (MInv_cf O263 F275 e264 rfl p278 (MInv_w O237 e244 t258 (by decide) hh261 ⟨fun e => by omega, fun e => by omega, fun e => by omega⟩ (MInv_fx O227 F238 e228 rfl (MInv_fx O202 ((Fx.rf (wr := [2407]) (h := h199)).pI e222 hh225 rfl) e222 rfl (MInv_fx O185 F203 e186 rfl (MInv_w O163 e192 e180 (by decide) hh183 ⟨fun e => by omega, fun e => by omega, fun e => by omega⟩ (MInv_fx O130 F164 e153 rfl (MInv_fx O107 F131 e108 rfl (MInv_fx O100 ((Fx.rf (wr := [2407]) (h := h99)).pI e101 hh105 rfl) e101 rfl (MInv_w O78 e102 e95 (by decide) hh98 ⟨fun e => by omega, fun e => by omega, fun e => by omega⟩ (MInv_fx O39 F79 e68 rfl (MInv_fx O F40 ta0 rfl P_MInv))))))))))))))
                    have p334 := (DLn_cf O274 F301 e282 rfl (EM.cf p302) (DLn_cf O263 F275 e264 rfl p278 (DLn_w O237 e244 t258 (by decide) hh261 (by omega) (DLn_fx O227 F238 e228 rfl (DLn_fx O202 ((Fx.rf (wr := [2407]) (h := h199)).pI e222 hh225 rfl) e222 rfl (DLn_fx O185 F203 e186 rfl (DLn_w O163 e192 e180 (by decide) hh183 (by omega) (DLn_fx O130 F164 e153 rfl (DLn_fx O107 F131 e108 rfl (DLn_fx O100 ((Fx.rf (wr := [2407]) (h := h99)).pI e101 hh105 rfl) e101 rfl (DLn_w O78 e102 e95 (by decide) hh98 (by omega) (DLn_fx O39 F79 e68 rfl (DLn_fx O F40 ta0 rfl p29)))))))))))))
                    have e335 : Rv h297 a0 25 = v31 := ((fxR F301 e282 rfl).trans ((fxR F275 e264 rfl).trans ((pIR hh261).trans ((fxR F238 e228 rfl).trans ((pIR hh225).trans ((fxR F203 e186 rfl).trans ((pIR hh183).trans ((fxR F164 e153 rfl).trans ((fxR F131 e108 rfl).trans e109)))))))))
                    have e336 : Tg h127 v31 = 125100 := (fxT F131 e110)
                    have e337 : Tg h160 v31 = 125100 := (fxT F164 e336)
                    have e338 : Tg h184 v31 = 125100 := ((pIT hh183).trans e337)
                    have e339 : Tg h199 v31 = 125100 := (fxT F203 e338)
                    have e340 : Tg h226 v31 = 125100 := ((pIT hh225).trans e339)
                    have e341 : Tg h234 v31 = 125100 := (fxT F238 e340)
                    have e342 : Tg h262 v31 = 125100 := ((pIT hh261).trans e341)
                    have e343 : Tg h271 v31 = 125100 := (fxT F275 e342)
                    have e344 : Iv h297 v31 ((192 + v22).toNat) = 3 := ((fxIa F301 e343 ar_125100 rfl).trans ((fxIa F275 e342 ar_125100 rfl).trans ((pI_n hh261 (ne_tag e341 t258 (by decide))).trans ((fxIa F238 e340 ar_125100 rfl).trans ((pI_n hh225 (ne_tag e339 e222 (by decide))).trans ((fxIa F203 e338 ar_125100 rfl).trans ((pI_n hh183 (ne_tag e337 e180 (by decide))).trans ((fxIa F164 e336 ar_125100 rfl).trans ((fxIa F131 e110 ar_125100 rfl).trans e113)))))))))
                    have e345 : Rv h297 a0 26 = v118 := ((fxR F301 e282 rfl).trans ((fxR F275 e264 rfl).trans ((pIR hh261).trans ((fxR F238 e228 rfl).trans ((pIR hh225).trans ((fxR F203 e186 rfl).trans e187))))))
                    have e346 : Tg h199 v118 = 126100 := (fxT F203 e188)
                    have e347 : Tg h226 v118 = 126100 := ((pIT hh225).trans e346)
                    have e348 : Tg h234 v118 = 126100 := (fxT F238 e347)
                    have e349 : Tg h262 v118 = 126100 := ((pIT hh261).trans e348)
                    have e350 : Tg h271 v118 = 126100 := (fxT F275 e349)
                    have e351 : Iv h297 v118 ((192 + v22).toNat) = 1 := ((fxIa F301 e350 ar_126100 rfl).trans ((fxIa F275 e349 ar_126100 rfl).trans ((pI_n hh261 (ne_tag e348 t258 (by decide))).trans ((fxIa F238 e347 ar_126100 rfl).trans ((pI_n hh225 (ne_tag e346 e222 (by decide))).trans ((fxIa F203 e188 ar_126100 rfl).trans (pI_e hh183)))))))
                    have e352 : Rv h297 a0 27 = v256 := ((fxR F301 e282 rfl).trans ((fxR F275 e264 rfl).trans ((pIR hh261).trans e257)))
                    have e353 : Tg h262 v256 = 127100 := ((pIT hh261).trans t258)
                    have e354 : Tg h271 v256 = 127100 := (fxT F275 e353)
                    have e355 : Iv h297 v256 ((192 + v22).toNat) = (12800 + v7) := ((fxIa F301 e354 ar_127100 rfl).trans ((fxIa F275 e353 ar_127100 rfl).trans (pI_e hh261)))
                    have e356 : Rv h326 a0 24 = v18 := ((pIR hh325).trans e308)
                    have p357 : Iv h326 a0 8 = 0 → DLn h326 a0 (v22 + 1) := fun z => DLn_fx O300 ((Fx.rf (wr := [24820000]) (h := h297)).pIa e309 ar_124100 hh325 rfl) e306 rfl (DL_new (p279 (by rw [e329] at z; rw [e285]; omega)) p302 (by omega) (by rw [e352, e355, e267]) (by rw [e335]; exact e344) (by rw [e345]; exact e351) (by omega) p334)
                    have e358 : Iv h326 (Rv h326 a0 24) 8 = v22 + 1 := by rw [e356]; exact (pI_e hh325)
                    exact g_vret C hr ⟨O327, (((((((((((((((Fx.rf (wr := wr_k_X12_readLine)).call F40 rfl).call F79 rfl).pIa e95 ar_125100 hh98 rfl).pI e101 hh105 rfl).call F131 rfl).call F164 rfl).pIa e180 ar_126100 hh183 rfl).call F203 rfl).pI e222 hh225 rfl).call F238 rfl).pIa t258 ar_127100 hh261 rfl).call F275 rfl).call F301 rfl).pIa e309 ar_124100 hh325 rfl), ⟨p331, by rw [e328, p332]; omega, by rw [e329, e328, p332]; omega, by rw [e330, e328]; omega⟩, (by unfold ST; rw [e2, e328, e8, e330, e5, e329]; omega), p333, (fun z => by rw [e358]; exact p357 z)⟩ (by decide) (by decide) dX12_readLine_229
                  · have f359 : (0 : Int) ≤ r198 ∧ r198 ≤ (0 : Int) := ii f204 (r_eq (il 0) q220) (by decide) (by decide)
                    refine g_aload_n C rfl 1 rfl dX12_readLine_172 ?_
                    refine g_iconst C dX12_readLine_173 ?_
                    have e360 : Tg h199 a0 = 12 := (fxT F203 e186)
                    refine g_callV (st := []) (gc_V C lk_LandSurveyModel_326 (k_X12_wrong l D cy w z0 O202 e360 (iw (il 1) (by decide) (by decide))) e360 rfl rfl rfl ⟨by decide, by decide⟩ (Nat.le_of_ble_eq_true rfl) dX12_readLine_174 ⟨(by decide), (by decide)⟩) (fun h362 K363 => ?_)
                    obtain ⟨O365, F366, p367⟩ := K363
                    obtain ⟨v368, e369⟩ : ∃ z, Iv h362 a0 8 = z := ⟨_, rfl⟩
                    have e370 : Tg h362 a0 = 12 := (fxT F366 e360)
                    have f371 := ok_I O365 e370 rI_12_8 e369
                    rw [e369] at p367
                    have f372 : (1 : Int) ≤ v368 ∧ v368 ≤ (24005 : Int) := by omega
                    refine g_aload_n C rfl 1 rfl dX12_readLine_177 ?_
                    refine g_dup C rfl dX12_readLine_178 ?_
                    have e373 : Iv h362 a0 7 = (v1 + 1) := ((fxI F366 e360 rfl).trans ((fxI F203 e186 rfl).trans e193))
                    refine gf_I C fk_LandSurveyModel_317 rfl e370 e373 dX12_readLine_179 ?_
                    refine g_iconst C dX12_readLine_182 ?_
                    have f374 : (2 : Int) ≤ ((v1 + 1) + 1) ∧ ((v1 + 1) + 1) ≤ (1503 : Int) := ia_add f104 (il 1) (by decide) (by decide)
                    refine g_iadd C dX12_readLine_183 ?_
                    refine gp_I C fk_LandSurveyModel_317 pk_LandSurveyModel_7 rfl e370 (iw f374 (by decide) (by decide)) (nf_i _) dX12_readLine_184 (fun h376 hh375 => ?_)
                    have O377 := O365.pI e370 hh375 rI_12_7 (by omega) nofun
                    refine g_aload_n C rfl 1 rfl dX12_readLine_187 ?_
                    refine g_bipush C (by decide) dX12_readLine_188 ?_
                    have e378 : Tg h376 a0 = 12 := ((pIT hh375).trans e370)
                    have e379 : Iv h376 a0 8 = v368 := ((pI_j hh375 (by decide)).trans e369)
                    have e380 : Iv h376 a0 28 = v7 := ((pI_j hh375 (by decide)).trans ((fxI F366 e360 rfl).trans ((fxI F203 e186 rfl).trans e195)))
                    have p381 := (TK_fx O365 ((Fx.rf (wr := [2407]) (h := h362)).pI e370 hh375 rfl) e370 rfl (TK_fx O202 F366 e360 rfl (TK_fx O185 F203 e186 rfl p196)))
                    have p382 := ((NT_fx O365 ((Fx.rf (wr := [2407]) (h := h362)).pI e370 hh375 rfl) e370 rfl).trans ((NT_fx O202 F366 e360 rfl).trans ((NT_fx O185 F203 e186 rfl).trans p197)))
                    refine g_callV (st := []) (gc_V C lk_LandSurveyModel_387 (k_X12_takeWord l D cy w z0 O377 e378 (iw (il 11) (by decide) (by decide)) ⟨p381, by rw [(pI_e hh375), p382]; omega, by rw [e379, (pI_e hh375), p382]; omega, by rw [e380, (pI_e hh375)]; omega⟩) e378 rfl rfl rfl ⟨by decide, by decide⟩ (Nat.le_of_ble_eq_true rfl) dX12_readLine_190 ⟨(by decide), (by decide)⟩) (fun h384 K385 => ?_)
                    obtain ⟨O387, F388, p389, p390, p391⟩ := K385
                    obtain ⟨v392, e393⟩ : ∃ z, Iv h384 a0 7 = z := ⟨_, rfl⟩
                    have e394 : Tg h384 a0 = 12 := (fxT F388 e378)
                    have f395 := ok_I O387 e394 rI_12_7 e393
                    obtain ⟨v396, e397⟩ : ∃ z, Iv h384 a0 8 = z := ⟨_, rfl⟩
                    have f398 := ok_I O387 e394 rI_12_8 e397
                    have e399 : Iv h384 a0 28 = v7 := ((fxI F388 e378 rfl).trans e380)
                    obtain ⟨p400, p401, p402, p403⟩ := p389
                    have p404 := ((NT_fx O377 F388 e378 rfl).trans p382)
                    rw [e393, p404] at p401
                    rw [e397, e393, p404] at p402
                    rw [e399, e393] at p403
                    have p405 := p390
                    unfold ST at p405
                    rw [(pI_e hh375), e393, e380, e399, e379, e397] at p405
                    rw [e397, e393, (pI_e hh375)] at p391
                    refine g_aload_n C rfl 1 rfl dX12_readLine_193 ?_
                    obtain ⟨v406, e407⟩ : ∃ z, Rv h384 a0 27 = z := ⟨_, rfl⟩
                    have t408 := ok_R O387 e394 rE_12_27 e407
                    have l409 := ok_L O387 e394 rE_12_27 e407
                    refine gf_R C fk_LandSurveyModel_146 rfl e394 e407 dX12_readLine_194 ?_
                    refine g_iload_n C rfl 0 rfl dX12_readLine_197 ?_
                    refine g_sipush C (by decide) dX12_readLine_198 ?_
                    refine g_aload_n C rfl 1 rfl dX12_readLine_201 ?_
                    refine gf_I C fk_LandSurveyModel_336 rfl e394 e399 dX12_readLine_202 ?_
                    have f410 : (12800 : Int) ≤ (12800 + v7) ∧ (12800 + v7) ≤ (14400 : Int) := ia_add (il 12800) f9 (by decide) (by decide)
                    refine g_iadd C dX12_readLine_205 ?_
                    refine g_iast C t408 rfl l409 (ix f30 (by decide) (by decide)) (iw f410 (by decide) (by decide)) dX12_readLine_206 (fun h412 hh411 => ?_)
                    have O413 := O387.pIa t408 ar_127100 hh411 rI_127100_0 (iw f410 (by decide) (by decide)) nofun
                    refine g_aload_n C rfl 1 rfl dX12_readLine_207 ?_
                    refine g_iconst C dX12_readLine_208 ?_
                    have e414 : Tg h412 a0 = 12 := ((pIT hh411).trans e394)
                    have e415 : Iv h412 a0 7 = v392 := ((pI_n hh411 (ne_tag e394 t408 (by decide))).trans e393)
                    have e416 : Iv h412 a0 8 = v396 := ((pI_n hh411 (ne_tag e394 t408 (by decide))).trans e397)
                    have e417 : Iv h412 a0 28 = v7 := ((pI_n hh411 (ne_tag e394 t408 (by decide))).trans e399)
                    have p418 := (TK_fx O387 ((Fx.rf (wr := [25420000]) (h := h384)).pIa t408 ar_127100 hh411 rfl) e394 rfl p400)
                    have p419 := ((NT_fx O387 ((Fx.rf (wr := [25420000]) (h := h384)).pIa t408 ar_127100 hh411 rfl) e394 rfl).trans p404)
                    refine g_callV (st := []) (gc_V C lk_LandSurveyModel_392 (k_all_0 l D cy w z0 O413 e414 (il 0) ⟨p418, by rw [e415, p419]; omega, by rw [e416, e415, p419]; omega, by rw [e417, e415]; omega⟩) e414 rfl rfl rfl ⟨by decide, by decide⟩ (Nat.le_of_ble_eq_true rfl) dX12_readLine_209 ⟨(by decide), (by decide)⟩) (fun h421 K422 => ?_)
                    obtain ⟨O424, F425, p426, p427, p428, p429⟩ := K422
                    obtain ⟨v430, e431⟩ : ∃ z, Iv h421 a0 7 = z := ⟨_, rfl⟩
                    have e432 : Tg h421 a0 = 12 := (fxT F425 e414)
                    have f433 := ok_I O424 e432 rI_12_7 e431
                    obtain ⟨v434, e435⟩ : ∃ z, Iv h421 a0 8 = z := ⟨_, rfl⟩
                    have f436 := ok_I O424 e432 rI_12_8 e435
                    obtain ⟨v437, e438⟩ : ∃ z, Iv h421 a0 28 = z := ⟨_, rfl⟩
                    have f439 := ok_I O424 e432 rI_12_28 e438
                    obtain ⟨p440, p441, p442, p443⟩ := p426
                    have p444 := ((NT_fx O413 F425 e414 rfl).trans p419)
                    rw [e431, p444] at p441
                    rw [e435, e431, p444] at p442
                    rw [e438, e431] at p443
                    have p445 := p427
                    unfold ST at p445
                    rw [e415, e431, e417, e438, e416, e435] at p445
                    refine g_aload_n C rfl 1 rfl dX12_readLine_212 ?_
                    refine g_iconst C dX12_readLine_213 ?_
                    refine g_iconst C dX12_readLine_214 ?_
                    refine g_callV (st := []) (gc_V C lk_LandSurveyModel_395 (k_X12_emit l D cy w z0 O424 e432 (iw (il 0) (by decide) (by decide)) (iw (il 0) (by decide) (by decide)) (by rw [e438]; omega)) e432 rfl rfl rfl ⟨by decide, by decide⟩ (Nat.le_of_ble_eq_true rfl) dX12_readLine_215 ⟨(by decide), (by decide)⟩) (fun h447 K448 => ?_)
                    obtain ⟨O450, F451, p452⟩ := K448
                    have e453 : Iv h447 a0 28 = v437 + 1 := by rw [p452.1, e438]
                    obtain ⟨v454, e455⟩ : ∃ z, Iv h447 a0 28 = z := ⟨_, rfl⟩
                    have e456 : Tg h447 a0 = 12 := (fxT F451 e432)
                    have f457 := ok_I O450 e456 rI_12_28 e455
                    rw [e455] at e453
                    refine g_aload_n C rfl 1 rfl dX12_readLine_218 ?_
                    have e458 : Rv h447 a0 24 = v18 := ((fxR F451 e432 rfl).trans ((fxR F425 e414 rfl).trans ((pIR hh411).trans ((fxR F388 e378 rfl).trans ((pIR hh375).trans ((fxR F366 e360 rfl).trans ((fxR F203 e186 rfl).trans ((pIR hh183).trans ((fxR F164 e153 rfl).trans ((fxR F131 e108 rfl).trans ((pIR hh105).trans ((pIR hh98).trans ((fxR F79 e68 rfl).trans ((fxR F40 ta0 rfl).trans e19))))))))))))))
                    refine gf_R C fk_LandSurveyModel_137 rfl e456 e458 dX12_readLine_219 ?_
                    refine g_bipush C (by decide) dX12_readLine_222 ?_
                    refine g_dup2 C rfl rfl dX12_readLine_224 ?_
                    have e459 : Tg h447 v18 = 124100 := (fxT F451 (fxT F425 ((pIT hh411).trans (fxT F388 ((pIT hh375).trans (fxT F366 (fxT F203 ((pIT hh183).trans (fxT F164 (fxT F131 ((pIT hh105).trans ((pIT hh98).trans (fxT F79 (fxT F40 t20))))))))))))))
                    have e460 : Tg h36 v18 = 124100 := (fxT F40 t20)
                    have e461 : Tg h106 v18 = 124100 := ((pIT hh105).trans ((pIT hh98).trans (fxT F79 e460)))
                    have e462 : Tg h127 v18 = 124100 := (fxT F131 e461)
                    have e463 : Tg h184 v18 = 124100 := ((pIT hh183).trans (fxT F164 e462))
                    have e464 : Tg h199 v18 = 124100 := (fxT F203 e463)
                    have e465 : Tg h376 v18 = 124100 := ((pIT hh375).trans (fxT F366 e464))
                    have e466 : Tg h412 v18 = 124100 := ((pIT hh411).trans (fxT F388 e465))
                    have e467 : Tg h421 v18 = 124100 := (fxT F425 e466)
                    have e468 : Ln h447 v18 = 9 := ((fxL F451 e467).trans ((fxL F425 e466).trans ((pIL hh411).trans ((fxL F388 e465).trans ((pIL hh375).trans ((fxL F366 e464).trans ((fxL F203 e463).trans ((pIL hh183).trans ((fxL F164 e462).trans ((fxL F131 e461).trans ((pIL hh105).trans ((pIL hh98).trans ((fxL F79 e460).trans ((fxL F40 t20).trans l21))))))))))))))
                    have e469 : Tg h75 v18 = 124100 := (fxT F79 e460)
                    have e470 : Tg h99 v18 = 124100 := ((pIT hh98).trans e469)
                    have e471 : Tg h160 v18 = 124100 := (fxT F164 e462)
                    have e472 : Tg h362 v18 = 124100 := (fxT F366 e464)
                    have e473 : Tg h384 v18 = 124100 := (fxT F388 e465)
                    have e474 : Iv h447 v18 ((8 : Int).toNat) = v22 := ((fxIa F451 e467 ar_124100 rfl).trans ((fxIa F425 e466 ar_124100 rfl).trans ((pI_n hh411 (ne_tag e473 t408 (by decide))).trans ((fxIa F388 e465 ar_124100 rfl).trans ((pI_n hh375 (ne_tag e472 e370 (by decide))).trans ((fxIa F366 e464 ar_124100 rfl).trans ((fxIa F203 e463 ar_124100 rfl).trans ((pI_n hh183 (ne_tag e471 e180 (by decide))).trans ((fxIa F164 e462 ar_124100 rfl).trans ((fxIa F131 e461 ar_124100 rfl).trans ((pI_n hh105 (ne_tag e470 e101 (by decide))).trans ((pI_n hh98 (ne_tag e469 e95 (by decide))).trans ((fxIa F79 e460 ar_124100 rfl).trans ((fxIa F40 t20 ar_124100 rfl).trans e23))))))))))))))
                    refine g_iald C e459 rfl e468 (ix (il 8) (by decide) (by decide)) e474 dX12_readLine_225 ?_
                    refine g_iconst C dX12_readLine_226 ?_
                    have f475 : (1 : Int) ≤ (v22 + 1) ∧ (v22 + 1) ≤ (24 : Int) := ia_add f27 (il 1) (by decide) (by decide)
                    refine g_iadd C dX12_readLine_227 ?_
                    refine g_iast C e459 rfl e468 (ix (il 8) (by decide) (by decide)) (iw f475 (by decide) (by decide)) dX12_readLine_228 (fun h477 hh476 => ?_)
                    have O478 := O450.pIa e459 ar_124100 hh476 rI_124100_0 (iw f475 (by decide) (by decide)) nofun
                    have e479 : Iv h477 a0 7 = v430 := ((pI_n hh476 (ne_tag e456 e459 (by decide))).trans ((fxI F451 e432 rfl).trans e431))
                    have e480 : Iv h477 a0 8 = v434 := ((pI_n hh476 (ne_tag e456 e459 (by decide))).trans ((fxI F451 e432 rfl).trans e435))
                    have e481 : Iv h477 a0 28 = v454 := ((pI_n hh476 (ne_tag e456 e459 (by decide))).trans e455)
                    have p482 := (TK_fx O450 ((Fx.rf (wr := [24820000]) (h := h447)).pIa e459 ar_124100 hh476 rfl) e456 rfl (TK_fx O424 F451 e432 rfl p440))
                    have p483 := ((NT_fx O450 ((Fx.rf (wr := [24820000]) (h := h447)).pIa e459 ar_124100 hh476 rfl) e456 rfl).trans ((NT_fx O424 F451 e432 rfl).trans p444))
                    have p484 := (MInv_w O450 e456 e459 (by decide) hh476 ⟨fun e => by omega, fun e => by omega, fun e => by omega⟩ (MInv_cf O424 F451 e432 rfl (EM.cf p452) (MInv_cf O413 F425 e414 rfl p428 (MInv_w O387 e394 t408 (by decide) hh411 ⟨fun e => by omega, fun e => by omega, fun e => by omega⟩ (MInv_fx O377 F388 e378 rfl (MInv_fx O365 ((Fx.rf (wr := [2407]) (h := h362)).pI e370 hh375 rfl) e370 rfl (MInv_fx O202 F366 e360 rfl (MInv_fx O185 F203 e186 rfl (MInv_w O163 e192 e180 (by decide) hh183 ⟨fun e => by omega, fun e => by omega, fun e => by omega⟩ (MInv_fx O130 F164 e153 rfl (MInv_fx O107 F131 e108 rfl (MInv_fx O100 ((Fx.rf (wr := [2407]) (h := h99)).pI e101 hh105 rfl) e101 rfl (MInv_w O78 e102 e95 (by decide) hh98 ⟨fun e => by omega, fun e => by omega, fun e => by omega⟩ (MInv_fx O39 F79 e68 rfl (MInv_fx O F40 ta0 rfl P_MInv)))))))))))))))
                    have p485 := (DLn_cf O424 F451 e432 rfl (EM.cf p452) (DLn_cf O413 F425 e414 rfl p428 (DLn_w O387 e394 t408 (by decide) hh411 (by omega) (DLn_fx O377 F388 e378 rfl (DLn_fx O365 ((Fx.rf (wr := [2407]) (h := h362)).pI e370 hh375 rfl) e370 rfl (DLn_fx O202 F366 e360 rfl (DLn_fx O185 F203 e186 rfl (DLn_w O163 e192 e180 (by decide) hh183 (by omega) (DLn_fx O130 F164 e153 rfl (DLn_fx O107 F131 e108 rfl (DLn_fx O100 ((Fx.rf (wr := [2407]) (h := h99)).pI e101 hh105 rfl) e101 rfl (DLn_w O78 e102 e95 (by decide) hh98 (by omega) (DLn_fx O39 F79 e68 rfl (DLn_fx O F40 ta0 rfl p29))))))))))))))
                    have e486 : Rv h447 a0 25 = v31 := ((fxR F451 e432 rfl).trans ((fxR F425 e414 rfl).trans ((pIR hh411).trans ((fxR F388 e378 rfl).trans ((pIR hh375).trans ((fxR F366 e360 rfl).trans ((fxR F203 e186 rfl).trans ((pIR hh183).trans ((fxR F164 e153 rfl).trans ((fxR F131 e108 rfl).trans e109))))))))))
                    have e487 : Tg h127 v31 = 125100 := (fxT F131 e110)
                    have e488 : Tg h160 v31 = 125100 := (fxT F164 e487)
                    have e489 : Tg h184 v31 = 125100 := ((pIT hh183).trans e488)
                    have e490 : Tg h199 v31 = 125100 := (fxT F203 e489)
                    have e491 : Tg h362 v31 = 125100 := (fxT F366 e490)
                    have e492 : Tg h376 v31 = 125100 := ((pIT hh375).trans e491)
                    have e493 : Tg h384 v31 = 125100 := (fxT F388 e492)
                    have e494 : Tg h412 v31 = 125100 := ((pIT hh411).trans e493)
                    have e495 : Tg h421 v31 = 125100 := (fxT F425 e494)
                    have e496 : Iv h447 v31 ((192 + v22).toNat) = 3 := ((fxIa F451 e495 ar_125100 rfl).trans ((fxIa F425 e494 ar_125100 rfl).trans ((pI_n hh411 (ne_tag e493 t408 (by decide))).trans ((fxIa F388 e492 ar_125100 rfl).trans ((pI_n hh375 (ne_tag e491 e370 (by decide))).trans ((fxIa F366 e490 ar_125100 rfl).trans ((fxIa F203 e489 ar_125100 rfl).trans ((pI_n hh183 (ne_tag e488 e180 (by decide))).trans ((fxIa F164 e487 ar_125100 rfl).trans ((fxIa F131 e110 ar_125100 rfl).trans e113))))))))))
                    have e497 : Rv h447 a0 26 = v118 := ((fxR F451 e432 rfl).trans ((fxR F425 e414 rfl).trans ((pIR hh411).trans ((fxR F388 e378 rfl).trans ((pIR hh375).trans ((fxR F366 e360 rfl).trans ((fxR F203 e186 rfl).trans e187)))))))
                    have e498 : Tg h199 v118 = 126100 := (fxT F203 e188)
                    have e499 : Tg h362 v118 = 126100 := (fxT F366 e498)
                    have e500 : Tg h376 v118 = 126100 := ((pIT hh375).trans e499)
                    have e501 : Tg h384 v118 = 126100 := (fxT F388 e500)
                    have e502 : Tg h412 v118 = 126100 := ((pIT hh411).trans e501)
                    have e503 : Tg h421 v118 = 126100 := (fxT F425 e502)
                    have e504 : Iv h447 v118 ((192 + v22).toNat) = 1 := ((fxIa F451 e503 ar_126100 rfl).trans ((fxIa F425 e502 ar_126100 rfl).trans ((pI_n hh411 (ne_tag e501 t408 (by decide))).trans ((fxIa F388 e500 ar_126100 rfl).trans ((pI_n hh375 (ne_tag e499 e370 (by decide))).trans ((fxIa F366 e498 ar_126100 rfl).trans ((fxIa F203 e188 ar_126100 rfl).trans (pI_e hh183))))))))
                    have e505 : Rv h447 a0 27 = v406 := ((fxR F451 e432 rfl).trans ((fxR F425 e414 rfl).trans ((pIR hh411).trans e407)))
                    have e506 : Tg h412 v406 = 127100 := ((pIT hh411).trans t408)
                    have e507 : Tg h421 v406 = 127100 := (fxT F425 e506)
                    have e508 : Iv h447 v406 ((192 + v22).toNat) = (12800 + v7) := ((fxIa F451 e507 ar_127100 rfl).trans ((fxIa F425 e506 ar_127100 rfl).trans (pI_e hh411)))
                    have e509 : Rv h477 a0 24 = v18 := ((pIR hh476).trans e458)
                    have p510 : Iv h477 a0 8 = 0 → DLn h477 a0 (v22 + 1) := fun z => DLn_fx O450 ((Fx.rf (wr := [24820000]) (h := h447)).pIa e459 ar_124100 hh476 rfl) e456 rfl (DL_new (p429 (by rw [e480] at z; rw [e435]; omega)) p452 (by omega) (by rw [e505, e508, e417]) (by rw [e486]; exact e496) (by rw [e497]; exact e504) (by omega) p485)
                    have e511 : Iv h477 (Rv h477 a0 24) 8 = v22 + 1 := by rw [e509]; exact (pI_e hh476)
                    exact g_vret C hr ⟨O478, ((((((((((((((((Fx.rf (wr := wr_k_X12_readLine)).call F40 rfl).call F79 rfl).pIa e95 ar_125100 hh98 rfl).pI e101 hh105 rfl).call F131 rfl).call F164 rfl).pIa e180 ar_126100 hh183 rfl).call F203 rfl).call F366 rfl).pI e370 hh375 rfl).call F388 rfl).pIa t408 ar_127100 hh411 rfl).call F425 rfl).call F451 rfl).pIa e459 ar_124100 hh476 rfl), ⟨p482, by rw [e479, p483]; omega, by rw [e480, e479, p483]; omega, by rw [e481, e479]; omega⟩, (by unfold ST; rw [e2, e479, e8, e481, e5, e480]; omega), p484, (fun z => by rw [e511]; exact p510 z)⟩ (by decide) (by decide) dX12_readLine_229
              · have f512 : (1 : Int) ≤ r159 ∧ r159 ≤ (1 : Int) := r_nl f165 q178
                refine g_iconst C dX12_readLine_147 ?_
                refine g_goto C 152 (by decide) dX12_readLine_148 ?_
                have e513 : Tg h160 v118 = 126100 := (fxT F164 (fxT F131 t120))
                have e514 : Tg h127 v118 = 126100 := (fxT F131 t120)
                have e515 : Ln h160 v118 = 216 := ((fxL F164 e514).trans ((fxL F131 t120).trans l121))
                refine g_iast C e513 rfl e515 (ix f30 (by decide) (by decide)) (iw (il 2) (by decide) (by decide)) dX12_readLine_152 (fun h517 hh516 => ?_)
                have O518 := O163.pIa e513 ar_126100 hh516 rI_126100_0 (iw (il 2) (by decide) (by decide)) nofun
                refine g_aload_n C rfl 1 rfl dX12_readLine_153 ?_
                have e519 : Tg h517 a0 = 12 := ((pIT hh516).trans (fxT F164 e153))
                have e520 : Rv h517 a0 26 = v118 := ((pIR hh516).trans ((fxR F164 e153 rfl).trans ((fxR F131 e108 rfl).trans e119)))
                refine gf_R C fk_LandSurveyModel_143 rfl e519 e520 dX12_readLine_154 ?_
                refine g_iload_n C rfl 0 rfl dX12_readLine_157 ?_
                have e521 : Tg h517 v118 = 126100 := ((pIT hh516).trans e513)
                have e522 : Ln h517 v118 = 216 := ((pIL hh516).trans e515)
                refine g_iald C e521 rfl e522 (ix f30 (by decide) (by decide)) (pI_e hh516) dX12_readLine_158 ?_
                refine g_iconst C dX12_readLine_159 ?_
                refine g_icmp_ne C (iw (il 2) (by decide) (by decide)) (iw (il 1) (by decide) (by decide)) 177 (by decide) dX12_readLine_160 (fun q523 => ?_) (fun q524 => ?_)
                · refine g_aload_n C rfl 1 rfl dX12_readLine_177 ?_
                  refine g_dup C rfl dX12_readLine_178 ?_
                  have e525 : Tg h160 a0 = 12 := (fxT F164 e153)
                  have e526 : Iv h517 a0 7 = (v1 + 1) := ((pI_n hh516 (ne_tag e525 e513 (by decide))).trans ((fxI F164 e153 rfl).trans e154))
                  refine gf_I C fk_LandSurveyModel_317 rfl e519 e526 dX12_readLine_179 ?_
                  refine g_iconst C dX12_readLine_182 ?_
                  have f527 : (2 : Int) ≤ ((v1 + 1) + 1) ∧ ((v1 + 1) + 1) ≤ (1503 : Int) := ia_add f104 (il 1) (by decide) (by decide)
                  refine g_iadd C dX12_readLine_183 ?_
                  refine gp_I C fk_LandSurveyModel_317 pk_LandSurveyModel_7 rfl e519 (iw f527 (by decide) (by decide)) (nf_i _) dX12_readLine_184 (fun h529 hh528 => ?_)
                  have O530 := O518.pI e519 hh528 rI_12_7 (by omega) nofun
                  refine g_aload_n C rfl 1 rfl dX12_readLine_187 ?_
                  refine g_bipush C (by decide) dX12_readLine_188 ?_
                  have e531 : Tg h529 a0 = 12 := ((pIT hh528).trans e519)
                  have e532 : Iv h529 a0 8 = v4 := ((pI_j hh528 (by decide)).trans ((pI_n hh516 (ne_tag e525 e513 (by decide))).trans ((fxI F164 e153 rfl).trans e155)))
                  have e533 : Iv h529 a0 28 = v7 := ((pI_j hh528 (by decide)).trans ((pI_n hh516 (ne_tag e525 e513 (by decide))).trans ((fxI F164 e153 rfl).trans e156)))
                  have p534 := (TK_fx O518 ((Fx.rf (wr := [2407]) (h := h517)).pI e519 hh528 rfl) e519 rfl (TK_fx O163 ((Fx.rf (wr := [25220000]) (h := h160)).pIa e513 ar_126100 hh516 rfl) e525 rfl (TK_fx O130 F164 e153 rfl p157)))
                  have p535 := ((NT_fx O518 ((Fx.rf (wr := [2407]) (h := h517)).pI e519 hh528 rfl) e519 rfl).trans ((NT_fx O163 ((Fx.rf (wr := [25220000]) (h := h160)).pIa e513 ar_126100 hh516 rfl) e525 rfl).trans ((NT_fx O130 F164 e153 rfl).trans p158)))
                  refine g_callV (st := []) (gc_V C lk_LandSurveyModel_387 (k_X12_takeWord l D cy w z0 O530 e531 (iw (il 11) (by decide) (by decide)) ⟨p534, by rw [(pI_e hh528), p535]; omega, by rw [e532, (pI_e hh528), p535]; omega, by rw [e533, (pI_e hh528)]; omega⟩) e531 rfl rfl rfl ⟨by decide, by decide⟩ (Nat.le_of_ble_eq_true rfl) dX12_readLine_190 ⟨(by decide), (by decide)⟩) (fun h537 K538 => ?_)
                  obtain ⟨O540, F541, p542, p543, p544⟩ := K538
                  obtain ⟨v545, e546⟩ : ∃ z, Iv h537 a0 7 = z := ⟨_, rfl⟩
                  have e547 : Tg h537 a0 = 12 := (fxT F541 e531)
                  have f548 := ok_I O540 e547 rI_12_7 e546
                  obtain ⟨v549, e550⟩ : ∃ z, Iv h537 a0 8 = z := ⟨_, rfl⟩
                  have f551 := ok_I O540 e547 rI_12_8 e550
                  have e552 : Iv h537 a0 28 = v7 := ((fxI F541 e531 rfl).trans e533)
                  obtain ⟨p553, p554, p555, p556⟩ := p542
                  have p557 := ((NT_fx O530 F541 e531 rfl).trans p535)
                  rw [e546, p557] at p554
                  rw [e550, e546, p557] at p555
                  rw [e552, e546] at p556
                  have p558 := p543
                  unfold ST at p558
                  rw [(pI_e hh528), e546, e533, e552, e532, e550] at p558
                  rw [e550, e546, (pI_e hh528)] at p544
                  refine g_aload_n C rfl 1 rfl dX12_readLine_193 ?_
                  obtain ⟨v559, e560⟩ : ∃ z, Rv h537 a0 27 = z := ⟨_, rfl⟩
                  have t561 := ok_R O540 e547 rE_12_27 e560
                  have l562 := ok_L O540 e547 rE_12_27 e560
                  refine gf_R C fk_LandSurveyModel_146 rfl e547 e560 dX12_readLine_194 ?_
                  refine g_iload_n C rfl 0 rfl dX12_readLine_197 ?_
                  refine g_sipush C (by decide) dX12_readLine_198 ?_
                  refine g_aload_n C rfl 1 rfl dX12_readLine_201 ?_
                  refine gf_I C fk_LandSurveyModel_336 rfl e547 e552 dX12_readLine_202 ?_
                  have f563 : (12800 : Int) ≤ (12800 + v7) ∧ (12800 + v7) ≤ (14400 : Int) := ia_add (il 12800) f9 (by decide) (by decide)
                  refine g_iadd C dX12_readLine_205 ?_
                  refine g_iast C t561 rfl l562 (ix f30 (by decide) (by decide)) (iw f563 (by decide) (by decide)) dX12_readLine_206 (fun h565 hh564 => ?_)
                  have O566 := O540.pIa t561 ar_127100 hh564 rI_127100_0 (iw f563 (by decide) (by decide)) nofun
                  refine g_aload_n C rfl 1 rfl dX12_readLine_207 ?_
                  refine g_iconst C dX12_readLine_208 ?_
                  have e567 : Tg h565 a0 = 12 := ((pIT hh564).trans e547)
                  have e568 : Iv h565 a0 7 = v545 := ((pI_n hh564 (ne_tag e547 t561 (by decide))).trans e546)
                  have e569 : Iv h565 a0 8 = v549 := ((pI_n hh564 (ne_tag e547 t561 (by decide))).trans e550)
                  have e570 : Iv h565 a0 28 = v7 := ((pI_n hh564 (ne_tag e547 t561 (by decide))).trans e552)
                  have p571 := (TK_fx O540 ((Fx.rf (wr := [25420000]) (h := h537)).pIa t561 ar_127100 hh564 rfl) e547 rfl p553)
                  have p572 := ((NT_fx O540 ((Fx.rf (wr := [25420000]) (h := h537)).pIa t561 ar_127100 hh564 rfl) e547 rfl).trans p557)
                  refine g_callV (st := []) (gc_V C lk_LandSurveyModel_392 (k_all_0 l D cy w z0 O566 e567 (il 0) ⟨p571, by rw [e568, p572]; omega, by rw [e569, e568, p572]; omega, by rw [e570, e568]; omega⟩) e567 rfl rfl rfl ⟨by decide, by decide⟩ (Nat.le_of_ble_eq_true rfl) dX12_readLine_209 ⟨(by decide), (by decide)⟩) (fun h574 K575 => ?_)
                  obtain ⟨O577, F578, p579, p580, p581, p582⟩ := K575
                  obtain ⟨v583, e584⟩ : ∃ z, Iv h574 a0 7 = z := ⟨_, rfl⟩
                  have e585 : Tg h574 a0 = 12 := (fxT F578 e567)
                  have f586 := ok_I O577 e585 rI_12_7 e584
                  obtain ⟨v587, e588⟩ : ∃ z, Iv h574 a0 8 = z := ⟨_, rfl⟩
                  have f589 := ok_I O577 e585 rI_12_8 e588
                  obtain ⟨v590, e591⟩ : ∃ z, Iv h574 a0 28 = z := ⟨_, rfl⟩
                  have f592 := ok_I O577 e585 rI_12_28 e591
                  obtain ⟨p593, p594, p595, p596⟩ := p579
                  have p597 := ((NT_fx O566 F578 e567 rfl).trans p572)
                  rw [e584, p597] at p594
                  rw [e588, e584, p597] at p595
                  rw [e591, e584] at p596
                  have p598 := p580
                  unfold ST at p598
                  rw [e568, e584, e570, e591, e569, e588] at p598
                  refine g_aload_n C rfl 1 rfl dX12_readLine_212 ?_
                  refine g_iconst C dX12_readLine_213 ?_
                  refine g_iconst C dX12_readLine_214 ?_
                  refine g_callV (st := []) (gc_V C lk_LandSurveyModel_395 (k_X12_emit l D cy w z0 O577 e585 (iw (il 0) (by decide) (by decide)) (iw (il 0) (by decide) (by decide)) (by rw [e591]; omega)) e585 rfl rfl rfl ⟨by decide, by decide⟩ (Nat.le_of_ble_eq_true rfl) dX12_readLine_215 ⟨(by decide), (by decide)⟩) (fun h600 K601 => ?_)
                  obtain ⟨O603, F604, p605⟩ := K601
                  have e606 : Iv h600 a0 28 = v590 + 1 := by rw [p605.1, e591]
                  obtain ⟨v607, e608⟩ : ∃ z, Iv h600 a0 28 = z := ⟨_, rfl⟩
                  have e609 : Tg h600 a0 = 12 := (fxT F604 e585)
                  have f610 := ok_I O603 e609 rI_12_28 e608
                  rw [e608] at e606
                  refine g_aload_n C rfl 1 rfl dX12_readLine_218 ?_
                  have e611 : Rv h600 a0 24 = v18 := ((fxR F604 e585 rfl).trans ((fxR F578 e567 rfl).trans ((pIR hh564).trans ((fxR F541 e531 rfl).trans ((pIR hh528).trans ((pIR hh516).trans ((fxR F164 e153 rfl).trans ((fxR F131 e108 rfl).trans ((pIR hh105).trans ((pIR hh98).trans ((fxR F79 e68 rfl).trans ((fxR F40 ta0 rfl).trans e19))))))))))))
                  refine gf_R C fk_LandSurveyModel_137 rfl e609 e611 dX12_readLine_219 ?_
                  refine g_bipush C (by decide) dX12_readLine_222 ?_
                  refine g_dup2 C rfl rfl dX12_readLine_224 ?_
                  have e612 : Tg h600 v18 = 124100 := (fxT F604 (fxT F578 ((pIT hh564).trans (fxT F541 ((pIT hh528).trans ((pIT hh516).trans (fxT F164 (fxT F131 ((pIT hh105).trans ((pIT hh98).trans (fxT F79 (fxT F40 t20))))))))))))
                  have e613 : Tg h36 v18 = 124100 := (fxT F40 t20)
                  have e614 : Tg h106 v18 = 124100 := ((pIT hh105).trans ((pIT hh98).trans (fxT F79 e613)))
                  have e615 : Tg h127 v18 = 124100 := (fxT F131 e614)
                  have e616 : Tg h529 v18 = 124100 := ((pIT hh528).trans ((pIT hh516).trans (fxT F164 e615)))
                  have e617 : Tg h565 v18 = 124100 := ((pIT hh564).trans (fxT F541 e616))
                  have e618 : Tg h574 v18 = 124100 := (fxT F578 e617)
                  have e619 : Ln h600 v18 = 9 := ((fxL F604 e618).trans ((fxL F578 e617).trans ((pIL hh564).trans ((fxL F541 e616).trans ((pIL hh528).trans ((pIL hh516).trans ((fxL F164 e615).trans ((fxL F131 e614).trans ((pIL hh105).trans ((pIL hh98).trans ((fxL F79 e613).trans ((fxL F40 t20).trans l21))))))))))))
                  have e620 : Tg h75 v18 = 124100 := (fxT F79 e613)
                  have e621 : Tg h99 v18 = 124100 := ((pIT hh98).trans e620)
                  have e622 : Tg h160 v18 = 124100 := (fxT F164 e615)
                  have e623 : Tg h517 v18 = 124100 := ((pIT hh516).trans e622)
                  have e624 : Tg h537 v18 = 124100 := (fxT F541 e616)
                  have e625 : Iv h600 v18 ((8 : Int).toNat) = v22 := ((fxIa F604 e618 ar_124100 rfl).trans ((fxIa F578 e617 ar_124100 rfl).trans ((pI_n hh564 (ne_tag e624 t561 (by decide))).trans ((fxIa F541 e616 ar_124100 rfl).trans ((pI_n hh528 (ne_tag e623 e519 (by decide))).trans ((pI_n hh516 (ne_tag e622 e513 (by decide))).trans ((fxIa F164 e615 ar_124100 rfl).trans ((fxIa F131 e614 ar_124100 rfl).trans ((pI_n hh105 (ne_tag e621 e101 (by decide))).trans ((pI_n hh98 (ne_tag e620 e95 (by decide))).trans ((fxIa F79 e613 ar_124100 rfl).trans ((fxIa F40 t20 ar_124100 rfl).trans e23))))))))))))
                  refine g_iald C e612 rfl e619 (ix (il 8) (by decide) (by decide)) e625 dX12_readLine_225 ?_
                  refine g_iconst C dX12_readLine_226 ?_
                  have f626 : (1 : Int) ≤ (v22 + 1) ∧ (v22 + 1) ≤ (24 : Int) := ia_add f27 (il 1) (by decide) (by decide)
                  refine g_iadd C dX12_readLine_227 ?_
                  refine g_iast C e612 rfl e619 (ix (il 8) (by decide) (by decide)) (iw f626 (by decide) (by decide)) dX12_readLine_228 (fun h628 hh627 => ?_)
                  have O629 := O603.pIa e612 ar_124100 hh627 rI_124100_0 (iw f626 (by decide) (by decide)) nofun
                  have e630 : Iv h628 a0 7 = v583 := ((pI_n hh627 (ne_tag e609 e612 (by decide))).trans ((fxI F604 e585 rfl).trans e584))
                  have e631 : Iv h628 a0 8 = v587 := ((pI_n hh627 (ne_tag e609 e612 (by decide))).trans ((fxI F604 e585 rfl).trans e588))
                  have e632 : Iv h628 a0 28 = v607 := ((pI_n hh627 (ne_tag e609 e612 (by decide))).trans e608)
                  have p633 := (TK_fx O603 ((Fx.rf (wr := [24820000]) (h := h600)).pIa e612 ar_124100 hh627 rfl) e609 rfl (TK_fx O577 F604 e585 rfl p593))
                  have p634 := ((NT_fx O603 ((Fx.rf (wr := [24820000]) (h := h600)).pIa e612 ar_124100 hh627 rfl) e609 rfl).trans ((NT_fx O577 F604 e585 rfl).trans p597))
                  have p635 := (MInv_w O603 e609 e612 (by decide) hh627 ⟨fun e => by omega, fun e => by omega, fun e => by omega⟩ (MInv_cf O577 F604 e585 rfl (EM.cf p605) (MInv_cf O566 F578 e567 rfl p581 (MInv_w O540 e547 t561 (by decide) hh564 ⟨fun e => by omega, fun e => by omega, fun e => by omega⟩ (MInv_fx O530 F541 e531 rfl (MInv_fx O518 ((Fx.rf (wr := [2407]) (h := h517)).pI e519 hh528 rfl) e519 rfl (MInv_w O163 e525 e513 (by decide) hh516 ⟨fun e => by omega, fun e => by omega, fun e => by omega⟩ (MInv_fx O130 F164 e153 rfl (MInv_fx O107 F131 e108 rfl (MInv_fx O100 ((Fx.rf (wr := [2407]) (h := h99)).pI e101 hh105 rfl) e101 rfl (MInv_w O78 e102 e95 (by decide) hh98 ⟨fun e => by omega, fun e => by omega, fun e => by omega⟩ (MInv_fx O39 F79 e68 rfl (MInv_fx O F40 ta0 rfl P_MInv)))))))))))))
                  have p636 := (DLn_cf O577 F604 e585 rfl (EM.cf p605) (DLn_cf O566 F578 e567 rfl p581 (DLn_w O540 e547 t561 (by decide) hh564 (by omega) (DLn_fx O530 F541 e531 rfl (DLn_fx O518 ((Fx.rf (wr := [2407]) (h := h517)).pI e519 hh528 rfl) e519 rfl (DLn_w O163 e525 e513 (by decide) hh516 (by omega) (DLn_fx O130 F164 e153 rfl (DLn_fx O107 F131 e108 rfl (DLn_fx O100 ((Fx.rf (wr := [2407]) (h := h99)).pI e101 hh105 rfl) e101 rfl (DLn_w O78 e102 e95 (by decide) hh98 (by omega) (DLn_fx O39 F79 e68 rfl (DLn_fx O F40 ta0 rfl p29))))))))))))
                  have e637 : Rv h600 a0 25 = v31 := ((fxR F604 e585 rfl).trans ((fxR F578 e567 rfl).trans ((pIR hh564).trans ((fxR F541 e531 rfl).trans ((pIR hh528).trans ((pIR hh516).trans ((fxR F164 e153 rfl).trans ((fxR F131 e108 rfl).trans e109))))))))
                  have e638 : Tg h127 v31 = 125100 := (fxT F131 e110)
                  have e639 : Tg h160 v31 = 125100 := (fxT F164 e638)
                  have e640 : Tg h517 v31 = 125100 := ((pIT hh516).trans e639)
                  have e641 : Tg h529 v31 = 125100 := ((pIT hh528).trans e640)
                  have e642 : Tg h537 v31 = 125100 := (fxT F541 e641)
                  have e643 : Tg h565 v31 = 125100 := ((pIT hh564).trans e642)
                  have e644 : Tg h574 v31 = 125100 := (fxT F578 e643)
                  have e645 : Iv h600 v31 ((192 + v22).toNat) = 3 := ((fxIa F604 e644 ar_125100 rfl).trans ((fxIa F578 e643 ar_125100 rfl).trans ((pI_n hh564 (ne_tag e642 t561 (by decide))).trans ((fxIa F541 e641 ar_125100 rfl).trans ((pI_n hh528 (ne_tag e640 e519 (by decide))).trans ((pI_n hh516 (ne_tag e639 e513 (by decide))).trans ((fxIa F164 e638 ar_125100 rfl).trans ((fxIa F131 e110 ar_125100 rfl).trans e113))))))))
                  have e646 : Rv h600 a0 26 = v118 := ((fxR F604 e585 rfl).trans ((fxR F578 e567 rfl).trans ((pIR hh564).trans ((fxR F541 e531 rfl).trans ((pIR hh528).trans e520)))))
                  have e647 : Tg h529 v118 = 126100 := ((pIT hh528).trans e521)
                  have e648 : Tg h537 v118 = 126100 := (fxT F541 e647)
                  have e649 : Tg h565 v118 = 126100 := ((pIT hh564).trans e648)
                  have e650 : Tg h574 v118 = 126100 := (fxT F578 e649)
                  have e651 : Iv h600 v118 ((192 + v22).toNat) = 2 := ((fxIa F604 e650 ar_126100 rfl).trans ((fxIa F578 e649 ar_126100 rfl).trans ((pI_n hh564 (ne_tag e648 t561 (by decide))).trans ((fxIa F541 e647 ar_126100 rfl).trans ((pI_n hh528 (ne_tag e521 e519 (by decide))).trans (pI_e hh516))))))
                  have e652 : Rv h600 a0 27 = v559 := ((fxR F604 e585 rfl).trans ((fxR F578 e567 rfl).trans ((pIR hh564).trans e560)))
                  have e653 : Tg h565 v559 = 127100 := ((pIT hh564).trans t561)
                  have e654 : Tg h574 v559 = 127100 := (fxT F578 e653)
                  have e655 : Iv h600 v559 ((192 + v22).toNat) = (12800 + v7) := ((fxIa F604 e654 ar_127100 rfl).trans ((fxIa F578 e653 ar_127100 rfl).trans (pI_e hh564)))
                  have e656 : Rv h628 a0 24 = v18 := ((pIR hh627).trans e611)
                  have p657 : Iv h628 a0 8 = 0 → DLn h628 a0 (v22 + 1) := fun z => DLn_fx O603 ((Fx.rf (wr := [24820000]) (h := h600)).pIa e612 ar_124100 hh627 rfl) e609 rfl (DL_new (p582 (by rw [e631] at z; rw [e588]; omega)) p605 (by omega) (by rw [e652, e655, e570]) (by rw [e637]; exact e645) (by rw [e646]; exact e651) (by omega) p636)
                  have e658 : Iv h628 (Rv h628 a0 24) 8 = v22 + 1 := by rw [e656]; exact (pI_e hh627)
                  exact g_vret C hr ⟨O629, ((((((((((((((Fx.rf (wr := wr_k_X12_readLine)).call F40 rfl).call F79 rfl).pIa e95 ar_125100 hh98 rfl).pI e101 hh105 rfl).call F131 rfl).call F164 rfl).pIa e513 ar_126100 hh516 rfl).pI e519 hh528 rfl).call F541 rfl).pIa t561 ar_127100 hh564 rfl).call F578 rfl).call F604 rfl).pIa e612 ar_124100 hh627 rfl), ⟨p633, by rw [e630, p634]; omega, by rw [e631, e630, p634]; omega, by rw [e632, e630]; omega⟩, (by unfold ST; rw [e2, e630, e8, e632, e5, e631]; omega), p635, (fun z => by rw [e658]; exact p657 z)⟩ (by decide) (by decide) dX12_readLine_229
                · exact (no_eq (il 2) (il 1) q524 (by decide)).elim
            · have f659 : (1 : Int) ≤ r126 ∧ r126 ≤ (1 : Int) := r_nl f132 q151
              refine g_iconst C dX12_readLine_134 ?_
              refine g_goto C 152 (by decide) dX12_readLine_135 ?_
              have e660 : Tg h127 v118 = 126100 := (fxT F131 t120)
              have e661 : Ln h127 v118 = 216 := ((fxL F131 t120).trans l121)
              refine g_iast C e660 rfl e661 (ix f30 (by decide) (by decide)) (iw (il 3) (by decide) (by decide)) dX12_readLine_152 (fun h663 hh662 => ?_)
              have O664 := O130.pIa e660 ar_126100 hh662 rI_126100_0 (iw (il 3) (by decide) (by decide)) nofun
              refine g_aload_n C rfl 1 rfl dX12_readLine_153 ?_
              have e665 : Tg h663 a0 = 12 := ((pIT hh662).trans (fxT F131 e108))
              have e666 : Rv h663 a0 26 = v118 := ((pIR hh662).trans ((fxR F131 e108 rfl).trans e119))
              refine gf_R C fk_LandSurveyModel_143 rfl e665 e666 dX12_readLine_154 ?_
              refine g_iload_n C rfl 0 rfl dX12_readLine_157 ?_
              have e667 : Tg h663 v118 = 126100 := ((pIT hh662).trans e660)
              have e668 : Ln h663 v118 = 216 := ((pIL hh662).trans e661)
              refine g_iald C e667 rfl e668 (ix f30 (by decide) (by decide)) (pI_e hh662) dX12_readLine_158 ?_
              refine g_iconst C dX12_readLine_159 ?_
              refine g_icmp_ne C (iw (il 3) (by decide) (by decide)) (iw (il 1) (by decide) (by decide)) 177 (by decide) dX12_readLine_160 (fun q669 => ?_) (fun q670 => ?_)
              · refine g_aload_n C rfl 1 rfl dX12_readLine_177 ?_
                refine g_dup C rfl dX12_readLine_178 ?_
                have e671 : Tg h127 a0 = 12 := (fxT F131 e108)
                have e672 : Iv h663 a0 7 = (v1 + 1) := ((pI_n hh662 (ne_tag e671 e660 (by decide))).trans ((fxI F131 e108 rfl).trans (pI_e hh105)))
                refine gf_I C fk_LandSurveyModel_317 rfl e665 e672 dX12_readLine_179 ?_
                refine g_iconst C dX12_readLine_182 ?_
                have f673 : (2 : Int) ≤ ((v1 + 1) + 1) ∧ ((v1 + 1) + 1) ≤ (1503 : Int) := ia_add f104 (il 1) (by decide) (by decide)
                refine g_iadd C dX12_readLine_183 ?_
                refine gp_I C fk_LandSurveyModel_317 pk_LandSurveyModel_7 rfl e665 (iw f673 (by decide) (by decide)) (nf_i _) dX12_readLine_184 (fun h675 hh674 => ?_)
                have O676 := O664.pI e665 hh674 rI_12_7 (by omega) nofun
                refine g_aload_n C rfl 1 rfl dX12_readLine_187 ?_
                refine g_bipush C (by decide) dX12_readLine_188 ?_
                have e677 : Tg h675 a0 = 12 := ((pIT hh674).trans e665)
                have e678 : Iv h675 a0 8 = v4 := ((pI_j hh674 (by decide)).trans ((pI_n hh662 (ne_tag e671 e660 (by decide))).trans ((fxI F131 e108 rfl).trans e122)))
                have e679 : Iv h675 a0 28 = v7 := ((pI_j hh674 (by decide)).trans ((pI_n hh662 (ne_tag e671 e660 (by decide))).trans ((fxI F131 e108 rfl).trans e123)))
                have p680 := (TK_fx O664 ((Fx.rf (wr := [2407]) (h := h663)).pI e665 hh674 rfl) e665 rfl (TK_fx O130 ((Fx.rf (wr := [25220000]) (h := h127)).pIa e660 ar_126100 hh662 rfl) e671 rfl (TK_fx O107 F131 e108 rfl p124)))
                have p681 := ((NT_fx O664 ((Fx.rf (wr := [2407]) (h := h663)).pI e665 hh674 rfl) e665 rfl).trans ((NT_fx O130 ((Fx.rf (wr := [25220000]) (h := h127)).pIa e660 ar_126100 hh662 rfl) e671 rfl).trans ((NT_fx O107 F131 e108 rfl).trans p125)))
                refine g_callV (st := []) (gc_V C lk_LandSurveyModel_387 (k_X12_takeWord l D cy w z0 O676 e677 (iw (il 11) (by decide) (by decide)) ⟨p680, by rw [(pI_e hh674), p681]; omega, by rw [e678, (pI_e hh674), p681]; omega, by rw [e679, (pI_e hh674)]; omega⟩) e677 rfl rfl rfl ⟨by decide, by decide⟩ (Nat.le_of_ble_eq_true rfl) dX12_readLine_190 ⟨(by decide), (by decide)⟩) (fun h683 K684 => ?_)
                obtain ⟨O686, F687, p688, p689, p690⟩ := K684
                obtain ⟨v691, e692⟩ : ∃ z, Iv h683 a0 7 = z := ⟨_, rfl⟩
                have e693 : Tg h683 a0 = 12 := (fxT F687 e677)
                have f694 := ok_I O686 e693 rI_12_7 e692
                obtain ⟨v695, e696⟩ : ∃ z, Iv h683 a0 8 = z := ⟨_, rfl⟩
                have f697 := ok_I O686 e693 rI_12_8 e696
                have e698 : Iv h683 a0 28 = v7 := ((fxI F687 e677 rfl).trans e679)
                obtain ⟨p699, p700, p701, p702⟩ := p688
                have p703 := ((NT_fx O676 F687 e677 rfl).trans p681)
                rw [e692, p703] at p700
                rw [e696, e692, p703] at p701
                rw [e698, e692] at p702
                have p704 := p689
                unfold ST at p704
                rw [(pI_e hh674), e692, e679, e698, e678, e696] at p704
                rw [e696, e692, (pI_e hh674)] at p690
                refine g_aload_n C rfl 1 rfl dX12_readLine_193 ?_
                obtain ⟨v705, e706⟩ : ∃ z, Rv h683 a0 27 = z := ⟨_, rfl⟩
                have t707 := ok_R O686 e693 rE_12_27 e706
                have l708 := ok_L O686 e693 rE_12_27 e706
                refine gf_R C fk_LandSurveyModel_146 rfl e693 e706 dX12_readLine_194 ?_
                refine g_iload_n C rfl 0 rfl dX12_readLine_197 ?_
                refine g_sipush C (by decide) dX12_readLine_198 ?_
                refine g_aload_n C rfl 1 rfl dX12_readLine_201 ?_
                refine gf_I C fk_LandSurveyModel_336 rfl e693 e698 dX12_readLine_202 ?_
                have f709 : (12800 : Int) ≤ (12800 + v7) ∧ (12800 + v7) ≤ (14400 : Int) := ia_add (il 12800) f9 (by decide) (by decide)
                refine g_iadd C dX12_readLine_205 ?_
                refine g_iast C t707 rfl l708 (ix f30 (by decide) (by decide)) (iw f709 (by decide) (by decide)) dX12_readLine_206 (fun h711 hh710 => ?_)
                have O712 := O686.pIa t707 ar_127100 hh710 rI_127100_0 (iw f709 (by decide) (by decide)) nofun
                refine g_aload_n C rfl 1 rfl dX12_readLine_207 ?_
                refine g_iconst C dX12_readLine_208 ?_
                have e713 : Tg h711 a0 = 12 := ((pIT hh710).trans e693)
                have e714 : Iv h711 a0 7 = v691 := ((pI_n hh710 (ne_tag e693 t707 (by decide))).trans e692)
                have e715 : Iv h711 a0 8 = v695 := ((pI_n hh710 (ne_tag e693 t707 (by decide))).trans e696)
                have e716 : Iv h711 a0 28 = v7 := ((pI_n hh710 (ne_tag e693 t707 (by decide))).trans e698)
                have p717 := (TK_fx O686 ((Fx.rf (wr := [25420000]) (h := h683)).pIa t707 ar_127100 hh710 rfl) e693 rfl p699)
                have p718 := ((NT_fx O686 ((Fx.rf (wr := [25420000]) (h := h683)).pIa t707 ar_127100 hh710 rfl) e693 rfl).trans p703)
                refine g_callV (st := []) (gc_V C lk_LandSurveyModel_392 (k_all_0 l D cy w z0 O712 e713 (il 0) ⟨p717, by rw [e714, p718]; omega, by rw [e715, e714, p718]; omega, by rw [e716, e714]; omega⟩) e713 rfl rfl rfl ⟨by decide, by decide⟩ (Nat.le_of_ble_eq_true rfl) dX12_readLine_209 ⟨(by decide), (by decide)⟩) (fun h720 K721 => ?_)
                obtain ⟨O723, F724, p725, p726, p727, p728⟩ := K721
                obtain ⟨v729, e730⟩ : ∃ z, Iv h720 a0 7 = z := ⟨_, rfl⟩
                have e731 : Tg h720 a0 = 12 := (fxT F724 e713)
                have f732 := ok_I O723 e731 rI_12_7 e730
                obtain ⟨v733, e734⟩ : ∃ z, Iv h720 a0 8 = z := ⟨_, rfl⟩
                have f735 := ok_I O723 e731 rI_12_8 e734
                obtain ⟨v736, e737⟩ : ∃ z, Iv h720 a0 28 = z := ⟨_, rfl⟩
                have f738 := ok_I O723 e731 rI_12_28 e737
                obtain ⟨p739, p740, p741, p742⟩ := p725
                have p743 := ((NT_fx O712 F724 e713 rfl).trans p718)
                rw [e730, p743] at p740
                rw [e734, e730, p743] at p741
                rw [e737, e730] at p742
                have p744 := p726
                unfold ST at p744
                rw [e714, e730, e716, e737, e715, e734] at p744
                refine g_aload_n C rfl 1 rfl dX12_readLine_212 ?_
                refine g_iconst C dX12_readLine_213 ?_
                refine g_iconst C dX12_readLine_214 ?_
                refine g_callV (st := []) (gc_V C lk_LandSurveyModel_395 (k_X12_emit l D cy w z0 O723 e731 (iw (il 0) (by decide) (by decide)) (iw (il 0) (by decide) (by decide)) (by rw [e737]; omega)) e731 rfl rfl rfl ⟨by decide, by decide⟩ (Nat.le_of_ble_eq_true rfl) dX12_readLine_215 ⟨(by decide), (by decide)⟩) (fun h746 K747 => ?_)
                obtain ⟨O749, F750, p751⟩ := K747
                have e752 : Iv h746 a0 28 = v736 + 1 := by rw [p751.1, e737]
                obtain ⟨v753, e754⟩ : ∃ z, Iv h746 a0 28 = z := ⟨_, rfl⟩
                have e755 : Tg h746 a0 = 12 := (fxT F750 e731)
                have f756 := ok_I O749 e755 rI_12_28 e754
                rw [e754] at e752
                refine g_aload_n C rfl 1 rfl dX12_readLine_218 ?_
                have e757 : Rv h746 a0 24 = v18 := ((fxR F750 e731 rfl).trans ((fxR F724 e713 rfl).trans ((pIR hh710).trans ((fxR F687 e677 rfl).trans ((pIR hh674).trans ((pIR hh662).trans ((fxR F131 e108 rfl).trans ((pIR hh105).trans ((pIR hh98).trans ((fxR F79 e68 rfl).trans ((fxR F40 ta0 rfl).trans e19)))))))))))
                refine gf_R C fk_LandSurveyModel_137 rfl e755 e757 dX12_readLine_219 ?_
                refine g_bipush C (by decide) dX12_readLine_222 ?_
                refine g_dup2 C rfl rfl dX12_readLine_224 ?_
                have e758 : Tg h746 v18 = 124100 := (fxT F750 (fxT F724 ((pIT hh710).trans (fxT F687 ((pIT hh674).trans ((pIT hh662).trans (fxT F131 ((pIT hh105).trans ((pIT hh98).trans (fxT F79 (fxT F40 t20)))))))))))
                have e759 : Tg h36 v18 = 124100 := (fxT F40 t20)
                have e760 : Tg h106 v18 = 124100 := ((pIT hh105).trans ((pIT hh98).trans (fxT F79 e759)))
                have e761 : Tg h675 v18 = 124100 := ((pIT hh674).trans ((pIT hh662).trans (fxT F131 e760)))
                have e762 : Tg h711 v18 = 124100 := ((pIT hh710).trans (fxT F687 e761))
                have e763 : Tg h720 v18 = 124100 := (fxT F724 e762)
                have e764 : Ln h746 v18 = 9 := ((fxL F750 e763).trans ((fxL F724 e762).trans ((pIL hh710).trans ((fxL F687 e761).trans ((pIL hh674).trans ((pIL hh662).trans ((fxL F131 e760).trans ((pIL hh105).trans ((pIL hh98).trans ((fxL F79 e759).trans ((fxL F40 t20).trans l21)))))))))))
                have e765 : Tg h75 v18 = 124100 := (fxT F79 e759)
                have e766 : Tg h99 v18 = 124100 := ((pIT hh98).trans e765)
                have e767 : Tg h127 v18 = 124100 := (fxT F131 e760)
                have e768 : Tg h663 v18 = 124100 := ((pIT hh662).trans e767)
                have e769 : Tg h683 v18 = 124100 := (fxT F687 e761)
                have e770 : Iv h746 v18 ((8 : Int).toNat) = v22 := ((fxIa F750 e763 ar_124100 rfl).trans ((fxIa F724 e762 ar_124100 rfl).trans ((pI_n hh710 (ne_tag e769 t707 (by decide))).trans ((fxIa F687 e761 ar_124100 rfl).trans ((pI_n hh674 (ne_tag e768 e665 (by decide))).trans ((pI_n hh662 (ne_tag e767 e660 (by decide))).trans ((fxIa F131 e760 ar_124100 rfl).trans ((pI_n hh105 (ne_tag e766 e101 (by decide))).trans ((pI_n hh98 (ne_tag e765 e95 (by decide))).trans ((fxIa F79 e759 ar_124100 rfl).trans ((fxIa F40 t20 ar_124100 rfl).trans e23)))))))))))
                refine g_iald C e758 rfl e764 (ix (il 8) (by decide) (by decide)) e770 dX12_readLine_225 ?_
                refine g_iconst C dX12_readLine_226 ?_
                have f771 : (1 : Int) ≤ (v22 + 1) ∧ (v22 + 1) ≤ (24 : Int) := ia_add f27 (il 1) (by decide) (by decide)
                refine g_iadd C dX12_readLine_227 ?_
                refine g_iast C e758 rfl e764 (ix (il 8) (by decide) (by decide)) (iw f771 (by decide) (by decide)) dX12_readLine_228 (fun h773 hh772 => ?_)
                have O774 := O749.pIa e758 ar_124100 hh772 rI_124100_0 (iw f771 (by decide) (by decide)) nofun
                have e775 : Iv h773 a0 7 = v729 := ((pI_n hh772 (ne_tag e755 e758 (by decide))).trans ((fxI F750 e731 rfl).trans e730))
                have e776 : Iv h773 a0 8 = v733 := ((pI_n hh772 (ne_tag e755 e758 (by decide))).trans ((fxI F750 e731 rfl).trans e734))
                have e777 : Iv h773 a0 28 = v753 := ((pI_n hh772 (ne_tag e755 e758 (by decide))).trans e754)
                have p778 := (TK_fx O749 ((Fx.rf (wr := [24820000]) (h := h746)).pIa e758 ar_124100 hh772 rfl) e755 rfl (TK_fx O723 F750 e731 rfl p739))
                have p779 := ((NT_fx O749 ((Fx.rf (wr := [24820000]) (h := h746)).pIa e758 ar_124100 hh772 rfl) e755 rfl).trans ((NT_fx O723 F750 e731 rfl).trans p743))
                have p780 := (MInv_w O749 e755 e758 (by decide) hh772 ⟨fun e => by omega, fun e => by omega, fun e => by omega⟩ (MInv_cf O723 F750 e731 rfl (EM.cf p751) (MInv_cf O712 F724 e713 rfl p727 (MInv_w O686 e693 t707 (by decide) hh710 ⟨fun e => by omega, fun e => by omega, fun e => by omega⟩ (MInv_fx O676 F687 e677 rfl (MInv_fx O664 ((Fx.rf (wr := [2407]) (h := h663)).pI e665 hh674 rfl) e665 rfl (MInv_w O130 e671 e660 (by decide) hh662 ⟨fun e => by omega, fun e => by omega, fun e => by omega⟩ (MInv_fx O107 F131 e108 rfl (MInv_fx O100 ((Fx.rf (wr := [2407]) (h := h99)).pI e101 hh105 rfl) e101 rfl (MInv_w O78 e102 e95 (by decide) hh98 ⟨fun e => by omega, fun e => by omega, fun e => by omega⟩ (MInv_fx O39 F79 e68 rfl (MInv_fx O F40 ta0 rfl P_MInv))))))))))))
                have p781 := (DLn_cf O723 F750 e731 rfl (EM.cf p751) (DLn_cf O712 F724 e713 rfl p727 (DLn_w O686 e693 t707 (by decide) hh710 (by omega) (DLn_fx O676 F687 e677 rfl (DLn_fx O664 ((Fx.rf (wr := [2407]) (h := h663)).pI e665 hh674 rfl) e665 rfl (DLn_w O130 e671 e660 (by decide) hh662 (by omega) (DLn_fx O107 F131 e108 rfl (DLn_fx O100 ((Fx.rf (wr := [2407]) (h := h99)).pI e101 hh105 rfl) e101 rfl (DLn_w O78 e102 e95 (by decide) hh98 (by omega) (DLn_fx O39 F79 e68 rfl (DLn_fx O F40 ta0 rfl p29)))))))))))
                have e782 : Rv h746 a0 25 = v31 := ((fxR F750 e731 rfl).trans ((fxR F724 e713 rfl).trans ((pIR hh710).trans ((fxR F687 e677 rfl).trans ((pIR hh674).trans ((pIR hh662).trans ((fxR F131 e108 rfl).trans e109)))))))
                have e783 : Tg h127 v31 = 125100 := (fxT F131 e110)
                have e784 : Tg h663 v31 = 125100 := ((pIT hh662).trans e783)
                have e785 : Tg h675 v31 = 125100 := ((pIT hh674).trans e784)
                have e786 : Tg h683 v31 = 125100 := (fxT F687 e785)
                have e787 : Tg h711 v31 = 125100 := ((pIT hh710).trans e786)
                have e788 : Tg h720 v31 = 125100 := (fxT F724 e787)
                have e789 : Iv h746 v31 ((192 + v22).toNat) = 3 := ((fxIa F750 e788 ar_125100 rfl).trans ((fxIa F724 e787 ar_125100 rfl).trans ((pI_n hh710 (ne_tag e786 t707 (by decide))).trans ((fxIa F687 e785 ar_125100 rfl).trans ((pI_n hh674 (ne_tag e784 e665 (by decide))).trans ((pI_n hh662 (ne_tag e783 e660 (by decide))).trans ((fxIa F131 e110 ar_125100 rfl).trans e113)))))))
                have e790 : Rv h746 a0 26 = v118 := ((fxR F750 e731 rfl).trans ((fxR F724 e713 rfl).trans ((pIR hh710).trans ((fxR F687 e677 rfl).trans ((pIR hh674).trans e666)))))
                have e791 : Tg h675 v118 = 126100 := ((pIT hh674).trans e667)
                have e792 : Tg h683 v118 = 126100 := (fxT F687 e791)
                have e793 : Tg h711 v118 = 126100 := ((pIT hh710).trans e792)
                have e794 : Tg h720 v118 = 126100 := (fxT F724 e793)
                have e795 : Iv h746 v118 ((192 + v22).toNat) = 3 := ((fxIa F750 e794 ar_126100 rfl).trans ((fxIa F724 e793 ar_126100 rfl).trans ((pI_n hh710 (ne_tag e792 t707 (by decide))).trans ((fxIa F687 e791 ar_126100 rfl).trans ((pI_n hh674 (ne_tag e667 e665 (by decide))).trans (pI_e hh662))))))
                have e796 : Rv h746 a0 27 = v705 := ((fxR F750 e731 rfl).trans ((fxR F724 e713 rfl).trans ((pIR hh710).trans e706)))
                have e797 : Tg h711 v705 = 127100 := ((pIT hh710).trans t707)
                have e798 : Tg h720 v705 = 127100 := (fxT F724 e797)
                have e799 : Iv h746 v705 ((192 + v22).toNat) = (12800 + v7) := ((fxIa F750 e798 ar_127100 rfl).trans ((fxIa F724 e797 ar_127100 rfl).trans (pI_e hh710)))
                have e800 : Rv h773 a0 24 = v18 := ((pIR hh772).trans e757)
                have p801 : Iv h773 a0 8 = 0 → DLn h773 a0 (v22 + 1) := fun z => DLn_fx O749 ((Fx.rf (wr := [24820000]) (h := h746)).pIa e758 ar_124100 hh772 rfl) e755 rfl (DL_new (p728 (by rw [e776] at z; rw [e734]; omega)) p751 (by omega) (by rw [e796, e799, e716]) (by rw [e782]; exact e789) (by rw [e790]; exact e795) (by omega) p781)
                have e802 : Iv h773 (Rv h773 a0 24) 8 = v22 + 1 := by rw [e800]; exact (pI_e hh772)
                exact g_vret C hr ⟨O774, (((((((((((((Fx.rf (wr := wr_k_X12_readLine)).call F40 rfl).call F79 rfl).pIa e95 ar_125100 hh98 rfl).pI e101 hh105 rfl).call F131 rfl).pIa e660 ar_126100 hh662 rfl).pI e665 hh674 rfl).call F687 rfl).pIa t707 ar_127100 hh710 rfl).call F724 rfl).call F750 rfl).pIa e758 ar_124100 hh772 rfl), ⟨p778, by rw [e775, p779]; omega, by rw [e776, e775, p779]; omega, by rw [e777, e775]; omega⟩, (by unfold ST; rw [e2, e775, e8, e777, e5, e776]; omega), p780, (fun z => by rw [e802]; exact p801 z)⟩ (by decide) (by decide) dX12_readLine_229
              · exact (no_eq (il 3) (il 1) q670 (by decide)).elim
          · exact (no_eq (il 3) (il 2) q117 (by decide)).elim
        · exact (no_eq (il 3) (il 1) q115 (by decide)).elim
      · have f803 : (1 : Int) ≤ r74 ∧ r74 ≤ (1 : Int) := r_nl f80 q93
        refine g_iconst C dX12_readLine_55 ?_
        refine g_goto C 60 (by decide) dX12_readLine_56 ?_
        have e804 : Tg h75 v31 = 125100 := (fxT F79 (fxT F40 t33))
        have e805 : Tg h36 v31 = 125100 := (fxT F40 t33)
        have e806 : Ln h75 v31 = 216 := ((fxL F79 e805).trans ((fxL F40 t33).trans l34))
        refine g_iast C e804 rfl e806 (ix f30 (by decide) (by decide)) (iw (il 2) (by decide) (by decide)) dX12_readLine_60 (fun h808 hh807 => ?_)
        have O809 := O78.pIa e804 ar_125100 hh807 rI_125100_0 (iw (il 2) (by decide) (by decide)) nofun
        refine g_aload_n C rfl 1 rfl dX12_readLine_61 ?_
        refine g_dup C rfl dX12_readLine_62 ?_
        have e810 : Tg h808 a0 = 12 := ((pIT hh807).trans (fxT F79 e68))
        have e811 : Tg h75 a0 = 12 := (fxT F79 e68)
        have e812 : Iv h808 a0 7 = v1 := ((pI_n hh807 (ne_tag e811 e804 (by decide))).trans ((fxI F79 e68 rfl).trans e69))
        refine gf_I C fk_LandSurveyModel_317 rfl e810 e812 dX12_readLine_63 ?_
        refine g_iconst C dX12_readLine_66 ?_
        have f813 : (1 : Int) ≤ (v1 + 1) ∧ (v1 + 1) ≤ (1502 : Int) := ia_add f3 (il 1) (by decide) (by decide)
        refine g_iadd C dX12_readLine_67 ?_
        refine gp_I C fk_LandSurveyModel_317 pk_LandSurveyModel_7 rfl e810 (iw f813 (by decide) (by decide)) (nf_i _) dX12_readLine_68 (fun h815 hh814 => ?_)
        have O816 := O809.pI e810 hh814 rI_12_7 (by omega) nofun
        refine g_aload_n C rfl 1 rfl dX12_readLine_71 ?_
        have e817 : Tg h815 a0 = 12 := ((pIT hh814).trans e810)
        have e818 : Rv h815 a0 25 = v31 := ((pIR hh814).trans ((pIR hh807).trans ((fxR F79 e68 rfl).trans ((fxR F40 ta0 rfl).trans e32))))
        refine gf_R C fk_LandSurveyModel_140 rfl e817 e818 dX12_readLine_72 ?_
        refine g_iload_n C rfl 0 rfl dX12_readLine_75 ?_
        have e819 : Tg h815 v31 = 125100 := ((pIT hh814).trans ((pIT hh807).trans e804))
        have e820 : Ln h815 v31 = 216 := ((pIL hh814).trans ((pIL hh807).trans e806))
        have e821 : Tg h808 v31 = 125100 := ((pIT hh807).trans e804)
        have e822 : Iv h815 v31 ((192 + v22).toNat) = 2 := ((pI_n hh814 (ne_tag e821 e810 (by decide))).trans (pI_e hh807))
        refine g_iald C e819 rfl e820 (ix f30 (by decide) (by decide)) e822 dX12_readLine_76 ?_
        refine g_iconst C dX12_readLine_77 ?_
        refine g_icmp_ne C (iw (il 2) (by decide) (by decide)) (iw (il 1) (by decide) (by decide)) 94 (by decide) dX12_readLine_78 (fun q823 => ?_) (fun q824 => ?_)
        · refine g_aload_n C rfl 1 rfl dX12_readLine_94 ?_
          refine gf_R C fk_LandSurveyModel_140 rfl e817 e818 dX12_readLine_95 ?_
          refine g_iload_n C rfl 0 rfl dX12_readLine_98 ?_
          refine g_iald C e819 rfl e820 (ix f30 (by decide) (by decide)) e822 dX12_readLine_99 ?_
          refine g_iconst C dX12_readLine_100 ?_
          refine g_icmp_ne C (iw (il 2) (by decide) (by decide)) (iw (il 2) (by decide) (by decide)) 120 (by decide) dX12_readLine_101 (fun q825 => ?_) (fun q826 => ?_)
          · exact (no_ne (il 2) (il 2) q825 (by decide)).elim
          · refine g_aload_n C rfl 1 rfl dX12_readLine_104 ?_
            obtain ⟨v827, e828⟩ : ∃ z, Rv h815 a0 26 = z := ⟨_, rfl⟩
            have t829 := ok_R O816 e817 rE_12_26 e828
            have l830 := ok_L O816 e817 rE_12_26 e828
            refine gf_R C fk_LandSurveyModel_143 rfl e817 e828 dX12_readLine_105 ?_
            refine g_iload_n C rfl 0 rfl dX12_readLine_108 ?_
            refine g_aload_n C rfl 1 rfl dX12_readLine_109 ?_
            refine g_iconst C dX12_readLine_110 ?_
            refine g_bipush C (by decide) dX12_readLine_111 ?_
            have e831 : Iv h815 a0 8 = v4 := ((pI_j hh814 (by decide)).trans ((pI_n hh807 (ne_tag e811 e804 (by decide))).trans ((fxI F79 e68 rfl).trans e70)))
            have e832 : Iv h815 a0 28 = v7 := ((pI_j hh814 (by decide)).trans ((pI_n hh807 (ne_tag e811 e804 (by decide))).trans ((fxI F79 e68 rfl).trans e71)))
            have p833 := (TK_fx O809 ((Fx.rf (wr := [2407]) (h := h808)).pI e810 hh814 rfl) e810 rfl (TK_fx O78 ((Fx.rf (wr := [25020000]) (h := h75)).pIa e804 ar_125100 hh807 rfl) e811 rfl (TK_fx O39 F79 e68 rfl p72)))
            have p834 := ((NT_fx O809 ((Fx.rf (wr := [2407]) (h := h808)).pI e810 hh814 rfl) e810 rfl).trans ((NT_fx O78 ((Fx.rf (wr := [25020000]) (h := h75)).pIa e804 ar_125100 hh807 rfl) e811 rfl).trans ((NT_fx O39 F79 e68 rfl).trans p73)))
            refine g_callI (st := [.inl (192 + v22), .inr (.inr v827)]) (gc_V C lk_LandSurveyModel_383 (k_X12_takeNumber l D cy w z0 O816 e817 (iw (il 1) (by decide) (by decide)) (iw (il 99) (by decide) (by decide)) ⟨p833, by rw [(pI_e hh814), p834]; omega, by rw [e831, (pI_e hh814), p834]; omega, by rw [e832, (pI_e hh814)]; omega⟩) e817 rfl rfl rfl ⟨by decide, by decide⟩ (Nat.le_of_ble_eq_true rfl) dX12_readLine_113 ⟨(by decide), (by decide)⟩) (fun r835 h836 f838 K837 => ?_)
            obtain ⟨O839, F840, f841, p842, p843, p844, p845⟩ := K837
            obtain ⟨v846, e847⟩ : ∃ z, Iv h836 a0 7 = z := ⟨_, rfl⟩
            have e848 : Tg h836 a0 = 12 := (fxT F840 e817)
            have f849 := ok_I O839 e848 rI_12_7 e847
            obtain ⟨v850, e851⟩ : ∃ z, Iv h836 a0 8 = z := ⟨_, rfl⟩
            have f852 := ok_I O839 e848 rI_12_8 e851
            have e853 : Iv h836 a0 28 = v7 := ((fxI F840 e817 rfl).trans e832)
            obtain ⟨p854, p855, p856, p857⟩ := p842
            have p858 := ((NT_fx O816 F840 e817 rfl).trans p834)
            rw [e847, p858] at p855
            rw [e851, e847, p858] at p856
            rw [e853, e847] at p857
            have p859 := p843
            unfold ST at p859
            rw [(pI_e hh814), e847, e832, e853, e831, e851] at p859
            rw [e851, e847, (pI_e hh814)] at p845
            have e860 : Tg h836 v827 = 126100 := (fxT F840 t829)
            have e861 : Ln h836 v827 = 216 := ((fxL F840 t829).trans l830)
            refine g_iast C e860 rfl e861 (ix f30 (by decide) (by decide)) (iw f841 (by decide) (by decide)) dX12_readLine_116 (fun h863 hh862 => ?_)
            have O864 := O839.pIa e860 ar_126100 hh862 rI_126100_0 (by omega) nofun
            refine g_goto C 187 (by decide) dX12_readLine_117 ?_
            refine g_aload_n C rfl 1 rfl dX12_readLine_187 ?_
            refine g_bipush C (by decide) dX12_readLine_188 ?_
            have e865 : Tg h863 a0 = 12 := ((pIT hh862).trans e848)
            have e866 : Iv h863 a0 7 = v846 := ((pI_n hh862 (ne_tag e848 e860 (by decide))).trans e847)
            have e867 : Iv h863 a0 8 = v850 := ((pI_n hh862 (ne_tag e848 e860 (by decide))).trans e851)
            have e868 : Iv h863 a0 28 = v7 := ((pI_n hh862 (ne_tag e848 e860 (by decide))).trans e853)
            have p869 := (TK_fx O839 ((Fx.rf (wr := [25220000]) (h := h836)).pIa e860 ar_126100 hh862 rfl) e848 rfl p854)
            have p870 := ((NT_fx O839 ((Fx.rf (wr := [25220000]) (h := h836)).pIa e860 ar_126100 hh862 rfl) e848 rfl).trans p858)
            refine g_callV (st := []) (gc_V C lk_LandSurveyModel_387 (k_X12_takeWord l D cy w z0 O864 e865 (iw (il 11) (by decide) (by decide)) ⟨p869, by rw [e866, p870]; omega, by rw [e867, e866, p870]; omega, by rw [e868, e866]; omega⟩) e865 rfl rfl rfl ⟨by decide, by decide⟩ (Nat.le_of_ble_eq_true rfl) dX12_readLine_190 ⟨(by decide), (by decide)⟩) (fun h872 K873 => ?_)
            obtain ⟨O875, F876, p877, p878, p879⟩ := K873
            obtain ⟨v880, e881⟩ : ∃ z, Iv h872 a0 7 = z := ⟨_, rfl⟩
            have e882 : Tg h872 a0 = 12 := (fxT F876 e865)
            have f883 := ok_I O875 e882 rI_12_7 e881
            obtain ⟨v884, e885⟩ : ∃ z, Iv h872 a0 8 = z := ⟨_, rfl⟩
            have f886 := ok_I O875 e882 rI_12_8 e885
            have e887 : Iv h872 a0 28 = v7 := ((fxI F876 e865 rfl).trans e868)
            obtain ⟨p888, p889, p890, p891⟩ := p877
            have p892 := ((NT_fx O864 F876 e865 rfl).trans p870)
            rw [e881, p892] at p889
            rw [e885, e881, p892] at p890
            rw [e887, e881] at p891
            have p893 := p878
            unfold ST at p893
            rw [e866, e881, e868, e887, e867, e885] at p893
            rw [e885, e881, e866] at p879
            refine g_aload_n C rfl 1 rfl dX12_readLine_193 ?_
            obtain ⟨v894, e895⟩ : ∃ z, Rv h872 a0 27 = z := ⟨_, rfl⟩
            have t896 := ok_R O875 e882 rE_12_27 e895
            have l897 := ok_L O875 e882 rE_12_27 e895
            refine gf_R C fk_LandSurveyModel_146 rfl e882 e895 dX12_readLine_194 ?_
            refine g_iload_n C rfl 0 rfl dX12_readLine_197 ?_
            refine g_sipush C (by decide) dX12_readLine_198 ?_
            refine g_aload_n C rfl 1 rfl dX12_readLine_201 ?_
            refine gf_I C fk_LandSurveyModel_336 rfl e882 e887 dX12_readLine_202 ?_
            have f898 : (12800 : Int) ≤ (12800 + v7) ∧ (12800 + v7) ≤ (14400 : Int) := ia_add (il 12800) f9 (by decide) (by decide)
            refine g_iadd C dX12_readLine_205 ?_
            refine g_iast C t896 rfl l897 (ix f30 (by decide) (by decide)) (iw f898 (by decide) (by decide)) dX12_readLine_206 (fun h900 hh899 => ?_)
            have O901 := O875.pIa t896 ar_127100 hh899 rI_127100_0 (iw f898 (by decide) (by decide)) nofun
            refine g_aload_n C rfl 1 rfl dX12_readLine_207 ?_
            refine g_iconst C dX12_readLine_208 ?_
            have e902 : Tg h900 a0 = 12 := ((pIT hh899).trans e882)
            have e903 : Iv h900 a0 7 = v880 := ((pI_n hh899 (ne_tag e882 t896 (by decide))).trans e881)
            have e904 : Iv h900 a0 8 = v884 := ((pI_n hh899 (ne_tag e882 t896 (by decide))).trans e885)
            have e905 : Iv h900 a0 28 = v7 := ((pI_n hh899 (ne_tag e882 t896 (by decide))).trans e887)
            have p906 := (TK_fx O875 ((Fx.rf (wr := [25420000]) (h := h872)).pIa t896 ar_127100 hh899 rfl) e882 rfl p888)
            have p907 := ((NT_fx O875 ((Fx.rf (wr := [25420000]) (h := h872)).pIa t896 ar_127100 hh899 rfl) e882 rfl).trans p892)
            refine g_callV (st := []) (gc_V C lk_LandSurveyModel_392 (k_all_0 l D cy w z0 O901 e902 (il 0) ⟨p906, by rw [e903, p907]; omega, by rw [e904, e903, p907]; omega, by rw [e905, e903]; omega⟩) e902 rfl rfl rfl ⟨by decide, by decide⟩ (Nat.le_of_ble_eq_true rfl) dX12_readLine_209 ⟨(by decide), (by decide)⟩) (fun h909 K910 => ?_)
            obtain ⟨O912, F913, p914, p915, p916, p917⟩ := K910
            obtain ⟨v918, e919⟩ : ∃ z, Iv h909 a0 7 = z := ⟨_, rfl⟩
            have e920 : Tg h909 a0 = 12 := (fxT F913 e902)
            have f921 := ok_I O912 e920 rI_12_7 e919
            obtain ⟨v922, e923⟩ : ∃ z, Iv h909 a0 8 = z := ⟨_, rfl⟩
            have f924 := ok_I O912 e920 rI_12_8 e923
            obtain ⟨v925, e926⟩ : ∃ z, Iv h909 a0 28 = z := ⟨_, rfl⟩
            have f927 := ok_I O912 e920 rI_12_28 e926
            obtain ⟨p928, p929, p930, p931⟩ := p914
            have p932 := ((NT_fx O901 F913 e902 rfl).trans p907)
            rw [e919, p932] at p929
            rw [e923, e919, p932] at p930
            rw [e926, e919] at p931
            have p933 := p915
            unfold ST at p933
            rw [e903, e919, e905, e926, e904, e923] at p933
            refine g_aload_n C rfl 1 rfl dX12_readLine_212 ?_
            refine g_iconst C dX12_readLine_213 ?_
            refine g_iconst C dX12_readLine_214 ?_
            refine g_callV (st := []) (gc_V C lk_LandSurveyModel_395 (k_X12_emit l D cy w z0 O912 e920 (iw (il 0) (by decide) (by decide)) (iw (il 0) (by decide) (by decide)) (by rw [e926]; omega)) e920 rfl rfl rfl ⟨by decide, by decide⟩ (Nat.le_of_ble_eq_true rfl) dX12_readLine_215 ⟨(by decide), (by decide)⟩) (fun h935 K936 => ?_)
            obtain ⟨O938, F939, p940⟩ := K936
            have e941 : Iv h935 a0 28 = v925 + 1 := by rw [p940.1, e926]
            obtain ⟨v942, e943⟩ : ∃ z, Iv h935 a0 28 = z := ⟨_, rfl⟩
            have e944 : Tg h935 a0 = 12 := (fxT F939 e920)
            have f945 := ok_I O938 e944 rI_12_28 e943
            rw [e943] at e941
            refine g_aload_n C rfl 1 rfl dX12_readLine_218 ?_
            have e946 : Rv h935 a0 24 = v18 := ((fxR F939 e920 rfl).trans ((fxR F913 e902 rfl).trans ((pIR hh899).trans ((fxR F876 e865 rfl).trans ((pIR hh862).trans ((fxR F840 e817 rfl).trans ((pIR hh814).trans ((pIR hh807).trans ((fxR F79 e68 rfl).trans ((fxR F40 ta0 rfl).trans e19))))))))))
            refine gf_R C fk_LandSurveyModel_137 rfl e944 e946 dX12_readLine_219 ?_
            refine g_bipush C (by decide) dX12_readLine_222 ?_
            refine g_dup2 C rfl rfl dX12_readLine_224 ?_
            have e947 : Tg h935 v18 = 124100 := (fxT F939 (fxT F913 ((pIT hh899).trans (fxT F876 ((pIT hh862).trans (fxT F840 ((pIT hh814).trans ((pIT hh807).trans (fxT F79 (fxT F40 t20))))))))))
            have e948 : Tg h36 v18 = 124100 := (fxT F40 t20)
            have e949 : Tg h815 v18 = 124100 := ((pIT hh814).trans ((pIT hh807).trans (fxT F79 e948)))
            have e950 : Tg h863 v18 = 124100 := ((pIT hh862).trans (fxT F840 e949))
            have e951 : Tg h900 v18 = 124100 := ((pIT hh899).trans (fxT F876 e950))
            have e952 : Tg h909 v18 = 124100 := (fxT F913 e951)
            have e953 : Ln h935 v18 = 9 := ((fxL F939 e952).trans ((fxL F913 e951).trans ((pIL hh899).trans ((fxL F876 e950).trans ((pIL hh862).trans ((fxL F840 e949).trans ((pIL hh814).trans ((pIL hh807).trans ((fxL F79 e948).trans ((fxL F40 t20).trans l21))))))))))
            have e954 : Tg h75 v18 = 124100 := (fxT F79 e948)
            have e955 : Tg h808 v18 = 124100 := ((pIT hh807).trans e954)
            have e956 : Tg h836 v18 = 124100 := (fxT F840 e949)
            have e957 : Tg h872 v18 = 124100 := (fxT F876 e950)
            have e958 : Iv h935 v18 ((8 : Int).toNat) = v22 := ((fxIa F939 e952 ar_124100 rfl).trans ((fxIa F913 e951 ar_124100 rfl).trans ((pI_n hh899 (ne_tag e957 t896 (by decide))).trans ((fxIa F876 e950 ar_124100 rfl).trans ((pI_n hh862 (ne_tag e956 e860 (by decide))).trans ((fxIa F840 e949 ar_124100 rfl).trans ((pI_n hh814 (ne_tag e955 e810 (by decide))).trans ((pI_n hh807 (ne_tag e954 e804 (by decide))).trans ((fxIa F79 e948 ar_124100 rfl).trans ((fxIa F40 t20 ar_124100 rfl).trans e23))))))))))
            refine g_iald C e947 rfl e953 (ix (il 8) (by decide) (by decide)) e958 dX12_readLine_225 ?_
            refine g_iconst C dX12_readLine_226 ?_
            have f959 : (1 : Int) ≤ (v22 + 1) ∧ (v22 + 1) ≤ (24 : Int) := ia_add f27 (il 1) (by decide) (by decide)
            refine g_iadd C dX12_readLine_227 ?_
            refine g_iast C e947 rfl e953 (ix (il 8) (by decide) (by decide)) (iw f959 (by decide) (by decide)) dX12_readLine_228 (fun h961 hh960 => ?_)
            have O962 := O938.pIa e947 ar_124100 hh960 rI_124100_0 (iw f959 (by decide) (by decide)) nofun
            have e963 : Iv h961 a0 7 = v918 := ((pI_n hh960 (ne_tag e944 e947 (by decide))).trans ((fxI F939 e920 rfl).trans e919))
            have e964 : Iv h961 a0 8 = v922 := ((pI_n hh960 (ne_tag e944 e947 (by decide))).trans ((fxI F939 e920 rfl).trans e923))
            have e965 : Iv h961 a0 28 = v942 := ((pI_n hh960 (ne_tag e944 e947 (by decide))).trans e943)
            have p966 := (TK_fx O938 ((Fx.rf (wr := [24820000]) (h := h935)).pIa e947 ar_124100 hh960 rfl) e944 rfl (TK_fx O912 F939 e920 rfl p928))
            have p967 := ((NT_fx O938 ((Fx.rf (wr := [24820000]) (h := h935)).pIa e947 ar_124100 hh960 rfl) e944 rfl).trans ((NT_fx O912 F939 e920 rfl).trans p932))
            have p968 := (MInv_w O938 e944 e947 (by decide) hh960 ⟨fun e => by omega, fun e => by omega, fun e => by omega⟩ (MInv_cf O912 F939 e920 rfl (EM.cf p940) (MInv_cf O901 F913 e902 rfl p916 (MInv_w O875 e882 t896 (by decide) hh899 ⟨fun e => by omega, fun e => by omega, fun e => by omega⟩ (MInv_fx O864 F876 e865 rfl (MInv_w O839 e848 e860 (by decide) hh862 ⟨fun e => by omega, fun e => by omega, fun e => by omega⟩ (MInv_fx O816 F840 e817 rfl (MInv_fx O809 ((Fx.rf (wr := [2407]) (h := h808)).pI e810 hh814 rfl) e810 rfl (MInv_w O78 e811 e804 (by decide) hh807 ⟨fun e => by omega, fun e => by omega, fun e => by omega⟩ (MInv_fx O39 F79 e68 rfl (MInv_fx O F40 ta0 rfl P_MInv)))))))))))
            have p969 := (DLn_cf O912 F939 e920 rfl (EM.cf p940) (DLn_cf O901 F913 e902 rfl p916 (DLn_w O875 e882 t896 (by decide) hh899 (by omega) (DLn_fx O864 F876 e865 rfl (DLn_w O839 e848 e860 (by decide) hh862 (by omega) (DLn_fx O816 F840 e817 rfl (DLn_fx O809 ((Fx.rf (wr := [2407]) (h := h808)).pI e810 hh814 rfl) e810 rfl (DLn_w O78 e811 e804 (by decide) hh807 (by omega) (DLn_fx O39 F79 e68 rfl (DLn_fx O F40 ta0 rfl p29))))))))))
            have e970 : Rv h935 a0 25 = v31 := ((fxR F939 e920 rfl).trans ((fxR F913 e902 rfl).trans ((pIR hh899).trans ((fxR F876 e865 rfl).trans ((pIR hh862).trans ((fxR F840 e817 rfl).trans e818))))))
            have e971 : Tg h836 v31 = 125100 := (fxT F840 e819)
            have e972 : Tg h863 v31 = 125100 := ((pIT hh862).trans e971)
            have e973 : Tg h872 v31 = 125100 := (fxT F876 e972)
            have e974 : Tg h900 v31 = 125100 := ((pIT hh899).trans e973)
            have e975 : Tg h909 v31 = 125100 := (fxT F913 e974)
            have e976 : Iv h935 v31 ((192 + v22).toNat) = 2 := ((fxIa F939 e975 ar_125100 rfl).trans ((fxIa F913 e974 ar_125100 rfl).trans ((pI_n hh899 (ne_tag e973 t896 (by decide))).trans ((fxIa F876 e972 ar_125100 rfl).trans ((pI_n hh862 (ne_tag e971 e860 (by decide))).trans ((fxIa F840 e819 ar_125100 rfl).trans e822))))))
            have e977 : Rv h935 a0 26 = v827 := ((fxR F939 e920 rfl).trans ((fxR F913 e902 rfl).trans ((pIR hh899).trans ((fxR F876 e865 rfl).trans ((pIR hh862).trans ((fxR F840 e817 rfl).trans e828))))))
            have e978 : Tg h863 v827 = 126100 := ((pIT hh862).trans e860)
            have e979 : Tg h872 v827 = 126100 := (fxT F876 e978)
            have e980 : Tg h900 v827 = 126100 := ((pIT hh899).trans e979)
            have e981 : Tg h909 v827 = 126100 := (fxT F913 e980)
            have e982 : Iv h935 v827 ((192 + v22).toNat) = r835 := ((fxIa F939 e981 ar_126100 rfl).trans ((fxIa F913 e980 ar_126100 rfl).trans ((pI_n hh899 (ne_tag e979 t896 (by decide))).trans ((fxIa F876 e978 ar_126100 rfl).trans (pI_e hh862)))))
            have e983 : Rv h935 a0 27 = v894 := ((fxR F939 e920 rfl).trans ((fxR F913 e902 rfl).trans ((pIR hh899).trans e895)))
            have e984 : Tg h900 v894 = 127100 := ((pIT hh899).trans t896)
            have e985 : Tg h909 v894 = 127100 := (fxT F913 e984)
            have e986 : Iv h935 v894 ((192 + v22).toNat) = (12800 + v7) := ((fxIa F939 e985 ar_127100 rfl).trans ((fxIa F913 e984 ar_127100 rfl).trans (pI_e hh899)))
            have e987 : Rv h961 a0 24 = v18 := ((pIR hh960).trans e946)
            have p988 : Iv h961 a0 8 = 0 → DLn h961 a0 (v22 + 1) := fun z => DLn_fx O938 ((Fx.rf (wr := [24820000]) (h := h935)).pIa e947 ar_124100 hh960 rfl) e944 rfl (DL_new (p917 (by rw [e964] at z; rw [e923]; omega)) p940 (by omega) (by rw [e983, e986, e905]) (by rw [e970]; exact e976) (by rw [e977]; exact e982) (by omega) p969)
            have e989 : Iv h961 (Rv h961 a0 24) 8 = v22 + 1 := by rw [e987]; exact (pI_e hh960)
            exact g_vret C hr ⟨O962, ((((((((((((Fx.rf (wr := wr_k_X12_readLine)).call F40 rfl).call F79 rfl).pIa e804 ar_125100 hh807 rfl).pI e810 hh814 rfl).call F840 rfl).pIa e860 ar_126100 hh862 rfl).call F876 rfl).pIa t896 ar_127100 hh899 rfl).call F913 rfl).call F939 rfl).pIa e947 ar_124100 hh960 rfl), ⟨p966, by rw [e963, p967]; omega, by rw [e964, e963, p967]; omega, by rw [e965, e963]; omega⟩, (by unfold ST; rw [e2, e963, e8, e965, e5, e964]; omega), p968, (fun z => by rw [e989]; exact p988 z)⟩ (by decide) (by decide) dX12_readLine_229
        · exact (no_eq (il 2) (il 1) q824 (by decide)).elim
    · have f990 : (1 : Int) ≤ r35 ∧ r35 ≤ (1 : Int) := r_nl f41 q66
      refine g_iconst C dX12_readLine_43 ?_
      refine g_goto C 60 (by decide) dX12_readLine_44 ?_
      have e991 : Tg h36 v31 = 125100 := (fxT F40 t33)
      have e992 : Ln h36 v31 = 216 := ((fxL F40 t33).trans l34)
      refine g_iast C e991 rfl e992 (ix f30 (by decide) (by decide)) (iw (il 1) (by decide) (by decide)) dX12_readLine_60 (fun h994 hh993 => ?_)
      have O995 := O39.pIa e991 ar_125100 hh993 rI_125100_0 (iw (il 1) (by decide) (by decide)) nofun
      refine g_aload_n C rfl 1 rfl dX12_readLine_61 ?_
      refine g_dup C rfl dX12_readLine_62 ?_
      have e996 : Tg h994 a0 = 12 := ((pIT hh993).trans (fxT F40 ta0))
      have e997 : Tg h36 a0 = 12 := (fxT F40 ta0)
      have e998 : Iv h994 a0 7 = v1 := ((pI_n hh993 (ne_tag e997 e991 (by decide))).trans ((fxI F40 ta0 rfl).trans e2))
      refine gf_I C fk_LandSurveyModel_317 rfl e996 e998 dX12_readLine_63 ?_
      refine g_iconst C dX12_readLine_66 ?_
      have f999 : (1 : Int) ≤ (v1 + 1) ∧ (v1 + 1) ≤ (1502 : Int) := ia_add f3 (il 1) (by decide) (by decide)
      refine g_iadd C dX12_readLine_67 ?_
      refine gp_I C fk_LandSurveyModel_317 pk_LandSurveyModel_7 rfl e996 (iw f999 (by decide) (by decide)) (nf_i _) dX12_readLine_68 (fun h1001 hh1000 => ?_)
      have O1002 := O995.pI e996 hh1000 rI_12_7 (by omega) nofun
      refine g_aload_n C rfl 1 rfl dX12_readLine_71 ?_
      have e1003 : Tg h1001 a0 = 12 := ((pIT hh1000).trans e996)
      have e1004 : Rv h1001 a0 25 = v31 := ((pIR hh1000).trans ((pIR hh993).trans ((fxR F40 ta0 rfl).trans e32)))
      refine gf_R C fk_LandSurveyModel_140 rfl e1003 e1004 dX12_readLine_72 ?_
      refine g_iload_n C rfl 0 rfl dX12_readLine_75 ?_
      have e1005 : Tg h1001 v31 = 125100 := ((pIT hh1000).trans ((pIT hh993).trans e991))
      have e1006 : Ln h1001 v31 = 216 := ((pIL hh1000).trans ((pIL hh993).trans e992))
      have e1007 : Tg h994 v31 = 125100 := ((pIT hh993).trans e991)
      have e1008 : Iv h1001 v31 ((192 + v22).toNat) = 1 := ((pI_n hh1000 (ne_tag e1007 e996 (by decide))).trans (pI_e hh993))
      refine g_iald C e1005 rfl e1006 (ix f30 (by decide) (by decide)) e1008 dX12_readLine_76 ?_
      refine g_iconst C dX12_readLine_77 ?_
      refine g_icmp_ne C (iw (il 1) (by decide) (by decide)) (iw (il 1) (by decide) (by decide)) 94 (by decide) dX12_readLine_78 (fun q1009 => ?_) (fun q1010 => ?_)
      · exact (no_ne (il 1) (il 1) q1009 (by decide)).elim
      · refine g_aload_n C rfl 1 rfl dX12_readLine_81 ?_
        obtain ⟨v1011, e1012⟩ : ∃ z, Rv h1001 a0 26 = z := ⟨_, rfl⟩
        have t1013 := ok_R O1002 e1003 rE_12_26 e1012
        have l1014 := ok_L O1002 e1003 rE_12_26 e1012
        refine gf_R C fk_LandSurveyModel_143 rfl e1003 e1012 dX12_readLine_82 ?_
        refine g_iload_n C rfl 0 rfl dX12_readLine_85 ?_
        refine g_aload_n C rfl 1 rfl dX12_readLine_86 ?_
        have e1015 : Iv h1001 a0 8 = v4 := ((pI_j hh1000 (by decide)).trans ((pI_n hh993 (ne_tag e997 e991 (by decide))).trans ((fxI F40 ta0 rfl).trans e5)))
        have e1016 : Iv h1001 a0 28 = v7 := ((pI_j hh1000 (by decide)).trans ((pI_n hh993 (ne_tag e997 e991 (by decide))).trans ((fxI F40 ta0 rfl).trans e8)))
        have p1017 := (TK_fx O995 ((Fx.rf (wr := [2407]) (h := h994)).pI e996 hh1000 rfl) e996 rfl (TK_fx O39 ((Fx.rf (wr := [25020000]) (h := h36)).pIa e991 ar_125100 hh993 rfl) e997 rfl (TK_fx O F40 ta0 rfl p10)))
        have p1018 := ((NT_fx O995 ((Fx.rf (wr := [2407]) (h := h994)).pI e996 hh1000 rfl) e996 rfl).trans ((NT_fx O39 ((Fx.rf (wr := [25020000]) (h := h36)).pIa e991 ar_125100 hh993 rfl) e997 rfl).trans ((NT_fx O F40 ta0 rfl).trans e15)))
        refine g_callI (st := [.inl (192 + v22), .inr (.inr v1011)]) (gc_V C lk_LandSurveyModel_374 (k_X12_takeRock l D cy w z0 O1002 e1003 ⟨p1017, by rw [(pI_e hh1000), p1018]; omega, by rw [e1015, (pI_e hh1000), p1018]; omega, by rw [e1016, (pI_e hh1000)]; omega⟩) e1003 rfl rfl rfl ⟨by decide, by decide⟩ (Nat.le_of_ble_eq_true rfl) dX12_readLine_87 ⟨(by decide), (by decide)⟩) (fun r1019 h1020 f1022 K1021 => ?_)
        obtain ⟨O1023, F1024, f1025, p1026, p1027⟩ := K1021
        obtain ⟨v1028, e1029⟩ : ∃ z, Iv h1020 a0 7 = z := ⟨_, rfl⟩
        have e1030 : Tg h1020 a0 = 12 := (fxT F1024 e1003)
        have f1031 := ok_I O1023 e1030 rI_12_7 e1029
        obtain ⟨v1032, e1033⟩ : ∃ z, Iv h1020 a0 8 = z := ⟨_, rfl⟩
        have f1034 := ok_I O1023 e1030 rI_12_8 e1033
        have e1035 : Iv h1020 a0 28 = v7 := ((fxI F1024 e1003 rfl).trans e1016)
        obtain ⟨p1036, p1037, p1038, p1039⟩ := p1026
        have p1040 := ((NT_fx O1002 F1024 e1003 rfl).trans p1018)
        rw [e1029, p1040] at p1037
        rw [e1033, e1029, p1040] at p1038
        rw [e1035, e1029] at p1039
        have p1041 := p1027
        unfold ST at p1041
        rw [(pI_e hh1000), e1029, e1016, e1035, e1015, e1033] at p1041
        have e1042 : Tg h1020 v1011 = 126100 := (fxT F1024 t1013)
        have e1043 : Ln h1020 v1011 = 216 := ((fxL F1024 t1013).trans l1014)
        refine g_iast C e1042 rfl e1043 (ix f30 (by decide) (by decide)) (iw f1025 (by decide) (by decide)) dX12_readLine_90 (fun h1045 hh1044 => ?_)
        have O1046 := O1023.pIa e1042 ar_126100 hh1044 rI_126100_0 (iw f1025 (by decide) (by decide)) nofun
        refine g_goto C 187 (by decide) dX12_readLine_91 ?_
        refine g_aload_n C rfl 1 rfl dX12_readLine_187 ?_
        refine g_bipush C (by decide) dX12_readLine_188 ?_
        have e1047 : Tg h1045 a0 = 12 := ((pIT hh1044).trans e1030)
        have e1048 : Iv h1045 a0 7 = v1028 := ((pI_n hh1044 (ne_tag e1030 e1042 (by decide))).trans e1029)
        have e1049 : Iv h1045 a0 8 = v1032 := ((pI_n hh1044 (ne_tag e1030 e1042 (by decide))).trans e1033)
        have e1050 : Iv h1045 a0 28 = v7 := ((pI_n hh1044 (ne_tag e1030 e1042 (by decide))).trans e1035)
        have p1051 := (TK_fx O1023 ((Fx.rf (wr := [25220000]) (h := h1020)).pIa e1042 ar_126100 hh1044 rfl) e1030 rfl p1036)
        have p1052 := ((NT_fx O1023 ((Fx.rf (wr := [25220000]) (h := h1020)).pIa e1042 ar_126100 hh1044 rfl) e1030 rfl).trans p1040)
        refine g_callV (st := []) (gc_V C lk_LandSurveyModel_387 (k_X12_takeWord l D cy w z0 O1046 e1047 (iw (il 11) (by decide) (by decide)) ⟨p1051, by rw [e1048, p1052]; omega, by rw [e1049, e1048, p1052]; omega, by rw [e1050, e1048]; omega⟩) e1047 rfl rfl rfl ⟨by decide, by decide⟩ (Nat.le_of_ble_eq_true rfl) dX12_readLine_190 ⟨(by decide), (by decide)⟩) (fun h1054 K1055 => ?_)
        obtain ⟨O1057, F1058, p1059, p1060, p1061⟩ := K1055
        obtain ⟨v1062, e1063⟩ : ∃ z, Iv h1054 a0 7 = z := ⟨_, rfl⟩
        have e1064 : Tg h1054 a0 = 12 := (fxT F1058 e1047)
        have f1065 := ok_I O1057 e1064 rI_12_7 e1063
        obtain ⟨v1066, e1067⟩ : ∃ z, Iv h1054 a0 8 = z := ⟨_, rfl⟩
        have f1068 := ok_I O1057 e1064 rI_12_8 e1067
        have e1069 : Iv h1054 a0 28 = v7 := ((fxI F1058 e1047 rfl).trans e1050)
        obtain ⟨p1070, p1071, p1072, p1073⟩ := p1059
        have p1074 := ((NT_fx O1046 F1058 e1047 rfl).trans p1052)
        rw [e1063, p1074] at p1071
        rw [e1067, e1063, p1074] at p1072
        rw [e1069, e1063] at p1073
        have p1075 := p1060
        unfold ST at p1075
        rw [e1048, e1063, e1050, e1069, e1049, e1067] at p1075
        rw [e1067, e1063, e1048] at p1061
        refine g_aload_n C rfl 1 rfl dX12_readLine_193 ?_
        obtain ⟨v1076, e1077⟩ : ∃ z, Rv h1054 a0 27 = z := ⟨_, rfl⟩
        have t1078 := ok_R O1057 e1064 rE_12_27 e1077
        have l1079 := ok_L O1057 e1064 rE_12_27 e1077
        refine gf_R C fk_LandSurveyModel_146 rfl e1064 e1077 dX12_readLine_194 ?_
        refine g_iload_n C rfl 0 rfl dX12_readLine_197 ?_
        refine g_sipush C (by decide) dX12_readLine_198 ?_
        refine g_aload_n C rfl 1 rfl dX12_readLine_201 ?_
        refine gf_I C fk_LandSurveyModel_336 rfl e1064 e1069 dX12_readLine_202 ?_
        have f1080 : (12800 : Int) ≤ (12800 + v7) ∧ (12800 + v7) ≤ (14400 : Int) := ia_add (il 12800) f9 (by decide) (by decide)
        refine g_iadd C dX12_readLine_205 ?_
        refine g_iast C t1078 rfl l1079 (ix f30 (by decide) (by decide)) (iw f1080 (by decide) (by decide)) dX12_readLine_206 (fun h1082 hh1081 => ?_)
        have O1083 := O1057.pIa t1078 ar_127100 hh1081 rI_127100_0 (iw f1080 (by decide) (by decide)) nofun
        refine g_aload_n C rfl 1 rfl dX12_readLine_207 ?_
        refine g_iconst C dX12_readLine_208 ?_
        have e1084 : Tg h1082 a0 = 12 := ((pIT hh1081).trans e1064)
        have e1085 : Iv h1082 a0 7 = v1062 := ((pI_n hh1081 (ne_tag e1064 t1078 (by decide))).trans e1063)
        have e1086 : Iv h1082 a0 8 = v1066 := ((pI_n hh1081 (ne_tag e1064 t1078 (by decide))).trans e1067)
        have e1087 : Iv h1082 a0 28 = v7 := ((pI_n hh1081 (ne_tag e1064 t1078 (by decide))).trans e1069)
        have p1088 := (TK_fx O1057 ((Fx.rf (wr := [25420000]) (h := h1054)).pIa t1078 ar_127100 hh1081 rfl) e1064 rfl p1070)
        have p1089 := ((NT_fx O1057 ((Fx.rf (wr := [25420000]) (h := h1054)).pIa t1078 ar_127100 hh1081 rfl) e1064 rfl).trans p1074)
        refine g_callV (st := []) (gc_V C lk_LandSurveyModel_392 (k_all_0 l D cy w z0 O1083 e1084 (il 0) ⟨p1088, by rw [e1085, p1089]; omega, by rw [e1086, e1085, p1089]; omega, by rw [e1087, e1085]; omega⟩) e1084 rfl rfl rfl ⟨by decide, by decide⟩ (Nat.le_of_ble_eq_true rfl) dX12_readLine_209 ⟨(by decide), (by decide)⟩) (fun h1091 K1092 => ?_)
        obtain ⟨O1094, F1095, p1096, p1097, p1098, p1099⟩ := K1092
        obtain ⟨v1100, e1101⟩ : ∃ z, Iv h1091 a0 7 = z := ⟨_, rfl⟩
        have e1102 : Tg h1091 a0 = 12 := (fxT F1095 e1084)
        have f1103 := ok_I O1094 e1102 rI_12_7 e1101
        obtain ⟨v1104, e1105⟩ : ∃ z, Iv h1091 a0 8 = z := ⟨_, rfl⟩
        have f1106 := ok_I O1094 e1102 rI_12_8 e1105
        obtain ⟨v1107, e1108⟩ : ∃ z, Iv h1091 a0 28 = z := ⟨_, rfl⟩
        have f1109 := ok_I O1094 e1102 rI_12_28 e1108
        obtain ⟨p1110, p1111, p1112, p1113⟩ := p1096
        have p1114 := ((NT_fx O1083 F1095 e1084 rfl).trans p1089)
        rw [e1101, p1114] at p1111
        rw [e1105, e1101, p1114] at p1112
        rw [e1108, e1101] at p1113
        have p1115 := p1097
        unfold ST at p1115
        rw [e1085, e1101, e1087, e1108, e1086, e1105] at p1115
        refine g_aload_n C rfl 1 rfl dX12_readLine_212 ?_
        refine g_iconst C dX12_readLine_213 ?_
        refine g_iconst C dX12_readLine_214 ?_
        refine g_callV (st := []) (gc_V C lk_LandSurveyModel_395 (k_X12_emit l D cy w z0 O1094 e1102 (iw (il 0) (by decide) (by decide)) (iw (il 0) (by decide) (by decide)) (by rw [e1108]; omega)) e1102 rfl rfl rfl ⟨by decide, by decide⟩ (Nat.le_of_ble_eq_true rfl) dX12_readLine_215 ⟨(by decide), (by decide)⟩) (fun h1117 K1118 => ?_)
        obtain ⟨O1120, F1121, p1122⟩ := K1118
        have e1123 : Iv h1117 a0 28 = v1107 + 1 := by rw [p1122.1, e1108]
        obtain ⟨v1124, e1125⟩ : ∃ z, Iv h1117 a0 28 = z := ⟨_, rfl⟩
        have e1126 : Tg h1117 a0 = 12 := (fxT F1121 e1102)
        have f1127 := ok_I O1120 e1126 rI_12_28 e1125
        rw [e1125] at e1123
        refine g_aload_n C rfl 1 rfl dX12_readLine_218 ?_
        have e1128 : Rv h1117 a0 24 = v18 := ((fxR F1121 e1102 rfl).trans ((fxR F1095 e1084 rfl).trans ((pIR hh1081).trans ((fxR F1058 e1047 rfl).trans ((pIR hh1044).trans ((fxR F1024 e1003 rfl).trans ((pIR hh1000).trans ((pIR hh993).trans ((fxR F40 ta0 rfl).trans e19)))))))))
        refine gf_R C fk_LandSurveyModel_137 rfl e1126 e1128 dX12_readLine_219 ?_
        refine g_bipush C (by decide) dX12_readLine_222 ?_
        refine g_dup2 C rfl rfl dX12_readLine_224 ?_
        have e1129 : Tg h1117 v18 = 124100 := (fxT F1121 (fxT F1095 ((pIT hh1081).trans (fxT F1058 ((pIT hh1044).trans (fxT F1024 ((pIT hh1000).trans ((pIT hh993).trans (fxT F40 t20)))))))))
        have e1130 : Tg h1001 v18 = 124100 := ((pIT hh1000).trans ((pIT hh993).trans (fxT F40 t20)))
        have e1131 : Tg h1045 v18 = 124100 := ((pIT hh1044).trans (fxT F1024 e1130))
        have e1132 : Tg h1082 v18 = 124100 := ((pIT hh1081).trans (fxT F1058 e1131))
        have e1133 : Tg h1091 v18 = 124100 := (fxT F1095 e1132)
        have e1134 : Ln h1117 v18 = 9 := ((fxL F1121 e1133).trans ((fxL F1095 e1132).trans ((pIL hh1081).trans ((fxL F1058 e1131).trans ((pIL hh1044).trans ((fxL F1024 e1130).trans ((pIL hh1000).trans ((pIL hh993).trans ((fxL F40 t20).trans l21)))))))))
        have e1135 : Tg h36 v18 = 124100 := (fxT F40 t20)
        have e1136 : Tg h994 v18 = 124100 := ((pIT hh993).trans e1135)
        have e1137 : Tg h1020 v18 = 124100 := (fxT F1024 e1130)
        have e1138 : Tg h1054 v18 = 124100 := (fxT F1058 e1131)
        have e1139 : Iv h1117 v18 ((8 : Int).toNat) = v22 := ((fxIa F1121 e1133 ar_124100 rfl).trans ((fxIa F1095 e1132 ar_124100 rfl).trans ((pI_n hh1081 (ne_tag e1138 t1078 (by decide))).trans ((fxIa F1058 e1131 ar_124100 rfl).trans ((pI_n hh1044 (ne_tag e1137 e1042 (by decide))).trans ((fxIa F1024 e1130 ar_124100 rfl).trans ((pI_n hh1000 (ne_tag e1136 e996 (by decide))).trans ((pI_n hh993 (ne_tag e1135 e991 (by decide))).trans ((fxIa F40 t20 ar_124100 rfl).trans e23)))))))))
        refine g_iald C e1129 rfl e1134 (ix (il 8) (by decide) (by decide)) e1139 dX12_readLine_225 ?_
        refine g_iconst C dX12_readLine_226 ?_
        have f1140 : (1 : Int) ≤ (v22 + 1) ∧ (v22 + 1) ≤ (24 : Int) := ia_add f27 (il 1) (by decide) (by decide)
        refine g_iadd C dX12_readLine_227 ?_
        refine g_iast C e1129 rfl e1134 (ix (il 8) (by decide) (by decide)) (iw f1140 (by decide) (by decide)) dX12_readLine_228 (fun h1142 hh1141 => ?_)
        have O1143 := O1120.pIa e1129 ar_124100 hh1141 rI_124100_0 (iw f1140 (by decide) (by decide)) nofun
        have e1144 : Iv h1142 a0 7 = v1100 := ((pI_n hh1141 (ne_tag e1126 e1129 (by decide))).trans ((fxI F1121 e1102 rfl).trans e1101))
        have e1145 : Iv h1142 a0 8 = v1104 := ((pI_n hh1141 (ne_tag e1126 e1129 (by decide))).trans ((fxI F1121 e1102 rfl).trans e1105))
        have e1146 : Iv h1142 a0 28 = v1124 := ((pI_n hh1141 (ne_tag e1126 e1129 (by decide))).trans e1125)
        have p1147 := (TK_fx O1120 ((Fx.rf (wr := [24820000]) (h := h1117)).pIa e1129 ar_124100 hh1141 rfl) e1126 rfl (TK_fx O1094 F1121 e1102 rfl p1110))
        have p1148 := ((NT_fx O1120 ((Fx.rf (wr := [24820000]) (h := h1117)).pIa e1129 ar_124100 hh1141 rfl) e1126 rfl).trans ((NT_fx O1094 F1121 e1102 rfl).trans p1114))
        have p1149 := (MInv_w O1120 e1126 e1129 (by decide) hh1141 ⟨fun e => by omega, fun e => by omega, fun e => by omega⟩ (MInv_cf O1094 F1121 e1102 rfl (EM.cf p1122) (MInv_cf O1083 F1095 e1084 rfl p1098 (MInv_w O1057 e1064 t1078 (by decide) hh1081 ⟨fun e => by omega, fun e => by omega, fun e => by omega⟩ (MInv_fx O1046 F1058 e1047 rfl (MInv_w O1023 e1030 e1042 (by decide) hh1044 ⟨fun e => by omega, fun e => by omega, fun e => by omega⟩ (MInv_fx O1002 F1024 e1003 rfl (MInv_fx O995 ((Fx.rf (wr := [2407]) (h := h994)).pI e996 hh1000 rfl) e996 rfl (MInv_w O39 e997 e991 (by decide) hh993 ⟨fun e => by omega, fun e => by omega, fun e => by omega⟩ (MInv_fx O F40 ta0 rfl P_MInv))))))))))
        have p1150 := (DLn_cf O1094 F1121 e1102 rfl (EM.cf p1122) (DLn_cf O1083 F1095 e1084 rfl p1098 (DLn_w O1057 e1064 t1078 (by decide) hh1081 (by omega) (DLn_fx O1046 F1058 e1047 rfl (DLn_w O1023 e1030 e1042 (by decide) hh1044 (by omega) (DLn_fx O1002 F1024 e1003 rfl (DLn_fx O995 ((Fx.rf (wr := [2407]) (h := h994)).pI e996 hh1000 rfl) e996 rfl (DLn_w O39 e997 e991 (by decide) hh993 (by omega) (DLn_fx O F40 ta0 rfl p29)))))))))
        have e1151 : Rv h1117 a0 25 = v31 := ((fxR F1121 e1102 rfl).trans ((fxR F1095 e1084 rfl).trans ((pIR hh1081).trans ((fxR F1058 e1047 rfl).trans ((pIR hh1044).trans ((fxR F1024 e1003 rfl).trans e1004))))))
        have e1152 : Tg h1020 v31 = 125100 := (fxT F1024 e1005)
        have e1153 : Tg h1045 v31 = 125100 := ((pIT hh1044).trans e1152)
        have e1154 : Tg h1054 v31 = 125100 := (fxT F1058 e1153)
        have e1155 : Tg h1082 v31 = 125100 := ((pIT hh1081).trans e1154)
        have e1156 : Tg h1091 v31 = 125100 := (fxT F1095 e1155)
        have e1157 : Iv h1117 v31 ((192 + v22).toNat) = 1 := ((fxIa F1121 e1156 ar_125100 rfl).trans ((fxIa F1095 e1155 ar_125100 rfl).trans ((pI_n hh1081 (ne_tag e1154 t1078 (by decide))).trans ((fxIa F1058 e1153 ar_125100 rfl).trans ((pI_n hh1044 (ne_tag e1152 e1042 (by decide))).trans ((fxIa F1024 e1005 ar_125100 rfl).trans e1008))))))
        have e1158 : Rv h1117 a0 26 = v1011 := ((fxR F1121 e1102 rfl).trans ((fxR F1095 e1084 rfl).trans ((pIR hh1081).trans ((fxR F1058 e1047 rfl).trans ((pIR hh1044).trans ((fxR F1024 e1003 rfl).trans e1012))))))
        have e1159 : Tg h1045 v1011 = 126100 := ((pIT hh1044).trans e1042)
        have e1160 : Tg h1054 v1011 = 126100 := (fxT F1058 e1159)
        have e1161 : Tg h1082 v1011 = 126100 := ((pIT hh1081).trans e1160)
        have e1162 : Tg h1091 v1011 = 126100 := (fxT F1095 e1161)
        have e1163 : Iv h1117 v1011 ((192 + v22).toNat) = r1019 := ((fxIa F1121 e1162 ar_126100 rfl).trans ((fxIa F1095 e1161 ar_126100 rfl).trans ((pI_n hh1081 (ne_tag e1160 t1078 (by decide))).trans ((fxIa F1058 e1159 ar_126100 rfl).trans (pI_e hh1044)))))
        have e1164 : Rv h1117 a0 27 = v1076 := ((fxR F1121 e1102 rfl).trans ((fxR F1095 e1084 rfl).trans ((pIR hh1081).trans e1077)))
        have e1165 : Tg h1082 v1076 = 127100 := ((pIT hh1081).trans t1078)
        have e1166 : Tg h1091 v1076 = 127100 := (fxT F1095 e1165)
        have e1167 : Iv h1117 v1076 ((192 + v22).toNat) = (12800 + v7) := ((fxIa F1121 e1166 ar_127100 rfl).trans ((fxIa F1095 e1165 ar_127100 rfl).trans (pI_e hh1081)))
        have e1168 : Rv h1142 a0 24 = v18 := ((pIR hh1141).trans e1128)
        have p1169 : Iv h1142 a0 8 = 0 → DLn h1142 a0 (v22 + 1) := fun z => DLn_fx O1120 ((Fx.rf (wr := [24820000]) (h := h1117)).pIa e1129 ar_124100 hh1141 rfl) e1126 rfl (DL_new (p1099 (by rw [e1145] at z; rw [e1105]; omega)) p1122 (by omega) (by rw [e1164, e1167, e1087]) (by rw [e1151]; exact e1157) (by rw [e1158]; exact e1163) (by omega) p1150)
        have e1170 : Iv h1142 (Rv h1142 a0 24) 8 = v22 + 1 := by rw [e1168]; exact (pI_e hh1141)
        exact g_vret C hr ⟨O1143, (((((((((((Fx.rf (wr := wr_k_X12_readLine)).call F40 rfl).pIa e991 ar_125100 hh993 rfl).pI e996 hh1000 rfl).call F1024 rfl).pIa e1042 ar_126100 hh1044 rfl).call F1058 rfl).pIa t1078 ar_127100 hh1081 rfl).call F1095 rfl).call F1121 rfl).pIa e1129 ar_124100 hh1141 rfl), ⟨p1147, by rw [e1144, p1148]; omega, by rw [e1145, e1144, p1148]; omega, by rw [e1146, e1144]; omega⟩, (by unfold ST; rw [e2, e1144, e8, e1146, e5, e1145]; omega), p1149, (fun z => by rw [e1170]; exact p1169 z)⟩ (by decide) (by decide) dX12_readLine_229
  · have f1171 : (24 : Int) ≤ v22 ∧ v22 ≤ (24 : Int) := ii f24 (r_eq (il 24) q26) (by decide) (by decide)
    refine g_aload_n C rfl 0 rfl dX12_readLine_12 ?_
    refine g_iconst C dX12_readLine_13 ?_
    refine g_callV (st := []) (gc_V C lk_LandSurveyModel_326 (k_X12_wrong l D cy w z0 O ta0 (iw (il 5) (by decide) (by decide))) ta0 rfl rfl rfl ⟨by decide, by decide⟩ (Nat.le_of_ble_eq_true rfl) dX12_readLine_14 ⟨(by decide), (by decide)⟩) (fun h1173 K1174 => ?_)
    obtain ⟨O1176, F1177, p1178⟩ := K1174
    obtain ⟨v1179, e1180⟩ : ∃ z, Iv h1173 a0 8 = z := ⟨_, rfl⟩
    have e1181 : Tg h1173 a0 = 12 := (fxT F1177 ta0)
    have f1182 := ok_I O1176 e1181 rI_12_8 e1180
    rw [e1180] at p1178
    have f1183 : (1 : Int) ≤ v1179 ∧ v1179 ≤ (24005 : Int) := by omega
    have e1184 : Iv h1173 a0 7 = v1 := ((fxI F1177 ta0 rfl).trans e2)
    have e1185 : Iv h1173 a0 28 = v7 := ((fxI F1177 ta0 rfl).trans e8)
    have p1186 := (TK_fx O F1177 ta0 rfl p10)
    have p1187 := ((NT_fx O F1177 ta0 rfl).trans e15)
    have p1188 := (MInv_fx O F1177 ta0 rfl P_MInv)
    exact g_vret C hr ⟨O1176, ((Fx.rf (wr := wr_k_X12_readLine)).call F1177 rfl), ⟨p1186, by rw [e1184, p1187]; omega, by rw [e1180, e1184, p1187]; omega, by rw [e1185, e1184]; omega⟩, (by unfold ST; rw [e2, e1184, e8, e1185, e5, e1180]; omega), p1188, (fun z => by rw [e1180] at z; omega)⟩ (by decide) (by decide) dX12_readLine_17
def wr_k_X12_readNext : List Nat := [2407, 2408, 2428, 22420000, 22620400, 22820000, 23020000, 23220200, 23420200, 23620200, 23820000, 24020200, 24220000, 24420000, 24620000, 24820000, 25020000, 25220000, 25420000, 25820000, 26020000]
set_option maxRecDepth 100000 in
set_option maxHeartbeats 4000000 in
theorem k_X12_readNext (l : Launch) (D : va_G) (cy : Nat → ClassId) (w : Nat → Nat) (z0 : Nat) {h : Hp} {a0 : Nat}  (O : Okh h) (ta0 : Tg h a0 = 12) (P_RD : RD h a0) (P_MInv : MInv h a0) (P_DLf : DLf h a0) : MV l D cy w z0 yX12_readNext cX12_readNext 3 none 23 509 0 0 [.inr (.inr a0)] h (fun h1 => Okh h1 ∧ Fx wr_k_X12_readNext h h1 ∧ (RD h1 a0) ∧ (ST h h1 a0) ∧ (MInv h1 a0) ∧ (DLf h1 a0) ∧ (Iv h1 a0 8 = 0 → Iv h a0 7 < Iv h1 a0 7)) := by
  obtain ⟨v1, e2⟩ : ∃ z, Iv h a0 7 = z := ⟨_, rfl⟩
  have f3 := ok_I O ta0 rI_12_7 e2
  obtain ⟨v4, e5⟩ : ∃ z, Iv h a0 8 = z := ⟨_, rfl⟩
  have f6 := ok_I O ta0 rI_12_8 e5
  obtain ⟨v7, e8⟩ : ∃ z, Iv h a0 28 = z := ⟨_, rfl⟩
  have f9 := ok_I O ta0 rI_12_28 e8
  obtain ⟨p10, p11, p12, p13⟩ := P_RD
  obtain ⟨v14, e15⟩ : ∃ z, NT h a0 = z := ⟨_, rfl⟩
  have f16 : (0 : Int) ≤ v14 ∧ v14 ≤ (1500 : Int) := NT_rng p10 e15
  rw [e2, e15] at p11
  rw [e5, e2, e15] at p12
  rw [e8, e2] at p13
  refine hm_go (by decide +kernel) (Nat.le_of_ble_eq_true rfl) (fun p e s m below meth c C hr hn => ?_)
  refine g_aload_n C rfl 0 rfl dX12_readNext_0 ?_
  refine g_iconst C dX12_readNext_1 ?_
  refine g_callI (st := []) (gc_V C lk_LandSurveyModel_330 (k_X12_isWord l D cy w z0 O ta0 (iw (il 0) (by decide) (by decide)) ⟨p10, by rw [e2, e15]; omega, by rw [e5, e2, e15]; omega, by rw [e8, e2]; omega⟩) ta0 rfl rfl rfl ⟨by decide, by decide⟩ (Nat.le_of_ble_eq_true rfl) dX12_readNext_2 ⟨(by decide), (by decide)⟩) (fun r17 h18 f20 K19 => ?_)
  obtain ⟨O21, F22, f23, p24, p25⟩ := K19
  rw [e5, e2, e15] at p24
  obtain ⟨v26, e27⟩ : ∃ z, Rv h a0 4 = z := ⟨_, rfl⟩
  have t28 := ok_R O ta0 rE_12_4 e27
  have l29 := ok_L O ta0 rE_12_4 e27
  obtain ⟨v30, e31⟩ : ∃ z, Iv h v26 v1.toNat = z := ⟨_, rfl⟩
  have f32 := ok_Ia O t28 ar_104100 rI_104100_0 e31
  obtain ⟨v33, e34⟩ : ∃ z, Rv h a0 6 = z := ⟨_, rfl⟩
  have t35 := ok_R O ta0 rE_12_6 e34
  have l36 := ok_L O ta0 rE_12_6 e34
  obtain ⟨v37, e38⟩ : ∃ z, Jv h v33 v1.toNat = z := ⟨_, rfl⟩
  have f39 := inL_J O e38
  obtain ⟨v40, e41⟩ : ∃ z, Rv h a0 9 = z := ⟨_, rfl⟩
  have t42 := ok_R O ta0 rE_12_9 e41
  have l43 := ok_L O ta0 rE_12_9 e41
  obtain ⟨v44, e45⟩ : ∃ z, Jv h v40 ((0 : Int).toNat) = z := ⟨_, rfl⟩
  have f46 := inL_J O e45
  rw [e5, e27, e2, e31, e34, e38, e41, e45] at p25
  refine g_if_eq C (iw f23 (by decide) (by decide)) 15 (by decide) dX12_readNext_5 (fun q47 => ?_) (fun q48 => ?_)
  · have f49 : (0 : Int) ≤ r17 ∧ r17 ≤ (0 : Int) := ii f23 (r_eq (il 0) q47) (by decide) (by decide)
    refine g_aload_n C rfl 0 rfl dX12_readNext_15 ?_
    refine g_iconst C dX12_readNext_16 ?_
    have e50 : Tg h18 a0 = 12 := (fxT F22 ta0)
    have e51 : Iv h18 a0 7 = v1 := ((fxI F22 ta0 rfl).trans e2)
    have e52 : Iv h18 a0 8 = v4 := ((fxI F22 ta0 rfl).trans e5)
    have e53 : Iv h18 a0 28 = v7 := ((fxI F22 ta0 rfl).trans e8)
    have p54 := (TK_fx O F22 ta0 rfl p10)
    have p55 := ((NT_fx O F22 ta0 rfl).trans e15)
    refine g_callI (st := []) (gc_V C lk_LandSurveyModel_330 (k_X12_isWord l D cy w z0 O21 e50 (iw (il 1) (by decide) (by decide)) ⟨p54, by rw [e51, p55]; omega, by rw [e52, e51, p55]; omega, by rw [e53, e51]; omega⟩) e50 rfl rfl rfl ⟨by decide, by decide⟩ (Nat.le_of_ble_eq_true rfl) dX12_readNext_17 ⟨(by decide), (by decide)⟩) (fun r56 h57 f59 K58 => ?_)
    obtain ⟨O60, F61, f62, p63, p64⟩ := K58
    rw [e52, e51, p55] at p63
    have e65 : Rv h18 a0 4 = v26 := ((fxR F22 ta0 rfl).trans e27)
    have e66 : Iv h18 v26 v1.toNat = v30 := ((fxIa F22 t28 ar_104100 rfl).trans e31)
    have e67 : Rv h18 a0 6 = v33 := ((fxR F22 ta0 rfl).trans e34)
    have e68 : Jv h18 v33 v1.toNat = v37 := ((fxJa F22 t35 ar_106102 rfl).trans e38)
    have e69 : Rv h18 a0 9 = v40 := ((fxR F22 ta0 rfl).trans e41)
    obtain ⟨v70, e71⟩ : ∃ z, Jv h18 v40 ((1 : Int).toNat) = z := ⟨_, rfl⟩
    have e72 : Tg h18 v40 = 109102 := (fxT F22 t42)
    have f73 := inL_J O21 e71
    rw [e52, e65, e51, e66, e67, e68, e69, e71] at p64
    refine g_if_ne C (iw f62 (by decide) (by decide)) 39 (by decide) dX12_readNext_20 (fun q74 => ?_) (fun q75 => ?_)
    · have f76 : (1 : Int) ≤ r56 ∧ r56 ≤ (1 : Int) := r_nl f62 q74
      refine g_aload_n C rfl 0 rfl dX12_readNext_39 ?_
      have e77 : Tg h57 a0 = 12 := (fxT F61 e50)
      have e78 : Iv h57 a0 7 = v1 := ((fxI F61 e50 rfl).trans e51)
      have e79 : Iv h57 a0 8 = v4 := ((fxI F61 e50 rfl).trans e52)
      have e80 : Iv h57 a0 28 = v7 := ((fxI F61 e50 rfl).trans e53)
      have p81 := (TK_fx O21 F61 e50 rfl p54)
      have p82 := ((NT_fx O21 F61 e50 rfl).trans p55)
      have p83 := (MInv_fx O21 F61 e50 rfl (MInv_fx O F22 ta0 rfl P_MInv))
      have p84 := (DLf_fx O21 F61 e50 rfl (DLf_fx O F22 ta0 rfl P_DLf))
      refine g_callV (st := []) (gc_V C lk_LandSurveyModel_368 (k_X12_readLine l D cy w z0 O60 e77 ⟨p81, by rw [e78, p82]; omega, by rw [e79, e78, p82]; omega, by rw [e80, e78]; omega⟩ (by rw [e79, e78, p82]; omega) p83 p84) e77 rfl rfl rfl ⟨by decide, by decide⟩ (Nat.le_of_ble_eq_true rfl) dX12_readNext_40 ⟨(by decide), (by decide)⟩) (fun h86 K87 => ?_)
      obtain ⟨O89, F90, p91, p92, p93, p94⟩ := K87
      obtain ⟨v95, e96⟩ : ∃ z, Iv h86 a0 7 = z := ⟨_, rfl⟩
      have e97 : Tg h86 a0 = 12 := (fxT F90 e77)
      have f98 := ok_I O89 e97 rI_12_7 e96
      obtain ⟨v99, e100⟩ : ∃ z, Iv h86 a0 8 = z := ⟨_, rfl⟩
      have f101 := ok_I O89 e97 rI_12_8 e100
      obtain ⟨v102, e103⟩ : ∃ z, Iv h86 a0 28 = z := ⟨_, rfl⟩
      have f104 := ok_I O89 e97 rI_12_28 e103
      obtain ⟨p105, p106, p107, p108⟩ := p91
      have p109 := ((NT_fx O60 F90 e77 rfl).trans p82)
      rw [e96, p109] at p106
      rw [e100, e96, p109] at p107
      rw [e103, e96] at p108
      have p110 := p92
      unfold ST at p110
      rw [e78, e96, e80, e103, e79, e100] at p110
      refine g_goto C 184 (by decide) dX12_readNext_43 ?_
      refine g_aload_n C rfl 0 rfl dX12_readNext_184 ?_
      refine g_bipush C (by decide) dX12_readNext_185 ?_
      refine g_callV (st := []) (gc_V C lk_LandSurveyModel_380 (k_X12_takeSign l D cy w z0 O89 e97 (iw (il 59) (by decide) (by decide)) ⟨p105, by rw [e96, p109]; omega, by rw [e100, e96, p109]; omega, by rw [e103, e96]; omega⟩) e97 rfl rfl rfl ⟨by decide, by decide⟩ (Nat.le_of_ble_eq_true rfl) dX12_readNext_187 ⟨(by decide), (by decide)⟩) (fun h112 K113 => ?_)
      obtain ⟨O115, F116, p117, p118, p119⟩ := K113
      obtain ⟨v120, e121⟩ : ∃ z, Iv h112 a0 7 = z := ⟨_, rfl⟩
      have e122 : Tg h112 a0 = 12 := (fxT F116 e97)
      have f123 := ok_I O115 e122 rI_12_7 e121
      obtain ⟨v124, e125⟩ : ∃ z, Iv h112 a0 8 = z := ⟨_, rfl⟩
      have f126 := ok_I O115 e122 rI_12_8 e125
      have e127 : Iv h112 a0 28 = v102 := ((fxI F116 e97 rfl).trans e103)
      obtain ⟨p128, p129, p130, p131⟩ := p117
      have p132 := ((NT_fx O89 F116 e97 rfl).trans p109)
      rw [e121, p132] at p129
      rw [e125, e121, p132] at p130
      rw [e127, e121] at p131
      have p133 := p118
      unfold ST at p133
      rw [e96, e121, e103, e127, e100, e125] at p133
      rw [e125, e121, e96] at p119
      have p134 := (MInv_fx O89 F116 e97 rfl p93)
      have p135 := (DLf_mono O89 F116 e97 rfl p118.2.2 p94)
      exact g_vret C hr ⟨O115, (((((Fx.rf (wr := wr_k_X12_readNext)).call F22 rfl).call F61 rfl).call F90 rfl).call F116 rfl), ⟨p128, by rw [e121, p132]; omega, by rw [e125, e121, p132]; omega, by rw [e127, e121]; omega⟩, (by unfold ST; rw [e2, e121, e8, e127, e5, e125]; omega), p134, p135, (by rw [e125, e2, e121]; omega)⟩ (by decide) (by decide) dX12_readNext_190
    · have f136 : (0 : Int) ≤ r56 ∧ r56 ≤ (0 : Int) := ii f62 (r_eq (il 0) q75) (by decide) (by decide)
      refine g_aload_n C rfl 0 rfl dX12_readNext_23 ?_
      refine g_iconst C dX12_readNext_24 ?_
      have e137 : Tg h57 a0 = 12 := (fxT F61 e50)
      have e138 : Iv h57 a0 7 = v1 := ((fxI F61 e50 rfl).trans e51)
      have e139 : Iv h57 a0 8 = v4 := ((fxI F61 e50 rfl).trans e52)
      have e140 : Iv h57 a0 28 = v7 := ((fxI F61 e50 rfl).trans e53)
      have p141 := (TK_fx O21 F61 e50 rfl p54)
      have p142 := ((NT_fx O21 F61 e50 rfl).trans p55)
      refine g_callI (st := []) (gc_V C lk_LandSurveyModel_330 (k_X12_isWord l D cy w z0 O60 e137 (iw (il 2) (by decide) (by decide)) ⟨p141, by rw [e138, p142]; omega, by rw [e139, e138, p142]; omega, by rw [e140, e138]; omega⟩) e137 rfl rfl rfl ⟨by decide, by decide⟩ (Nat.le_of_ble_eq_true rfl) dX12_readNext_25 ⟨(by decide), (by decide)⟩) (fun r143 h144 f146 K145 => ?_)
      obtain ⟨O147, F148, f149, p150, p151⟩ := K145
      rw [e139, e138, p142] at p150
      have e152 : Rv h57 a0 4 = v26 := ((fxR F61 e50 rfl).trans e65)
      have e153 : Tg h18 v26 = 104100 := (fxT F22 t28)
      have e154 : Iv h57 v26 v1.toNat = v30 := ((fxIa F61 e153 ar_104100 rfl).trans e66)
      have e155 : Rv h57 a0 6 = v33 := ((fxR F61 e50 rfl).trans e67)
      have e156 : Tg h18 v33 = 106102 := (fxT F22 t35)
      have e157 : Jv h57 v33 v1.toNat = v37 := ((fxJa F61 e156 ar_106102 rfl).trans e68)
      have e158 : Rv h57 a0 9 = v40 := ((fxR F61 e50 rfl).trans e69)
      obtain ⟨v159, e160⟩ : ∃ z, Jv h57 v40 ((2 : Int).toNat) = z := ⟨_, rfl⟩
      have e161 : Tg h57 v40 = 109102 := (fxT F61 e72)
      have f162 := inL_J O60 e160
      rw [e139, e152, e138, e154, e155, e157, e158, e160] at p151
      refine g_if_ne C (iw f149 (by decide) (by decide)) 39 (by decide) dX12_readNext_28 (fun q163 => ?_) (fun q164 => ?_)
      · have f165 : (1 : Int) ≤ r143 ∧ r143 ≤ (1 : Int) := r_nl f149 q163
        refine g_aload_n C rfl 0 rfl dX12_readNext_39 ?_
        have e166 : Tg h144 a0 = 12 := (fxT F148 e137)
        have e167 : Iv h144 a0 7 = v1 := ((fxI F148 e137 rfl).trans e138)
        have e168 : Iv h144 a0 8 = v4 := ((fxI F148 e137 rfl).trans e139)
        have e169 : Iv h144 a0 28 = v7 := ((fxI F148 e137 rfl).trans e140)
        have p170 := (TK_fx O60 F148 e137 rfl p141)
        have p171 := ((NT_fx O60 F148 e137 rfl).trans p142)
        have p172 := (MInv_fx O60 F148 e137 rfl (MInv_fx O21 F61 e50 rfl (MInv_fx O F22 ta0 rfl P_MInv)))
        have p173 := (DLf_fx O60 F148 e137 rfl (DLf_fx O21 F61 e50 rfl (DLf_fx O F22 ta0 rfl P_DLf)))
        refine g_callV (st := []) (gc_V C lk_LandSurveyModel_368 (k_X12_readLine l D cy w z0 O147 e166 ⟨p170, by rw [e167, p171]; omega, by rw [e168, e167, p171]; omega, by rw [e169, e167]; omega⟩ (by rw [e168, e167, p171]; omega) p172 p173) e166 rfl rfl rfl ⟨by decide, by decide⟩ (Nat.le_of_ble_eq_true rfl) dX12_readNext_40 ⟨(by decide), (by decide)⟩) (fun h175 K176 => ?_)
        obtain ⟨O178, F179, p180, p181, p182, p183⟩ := K176
        obtain ⟨v184, e185⟩ : ∃ z, Iv h175 a0 7 = z := ⟨_, rfl⟩
        have e186 : Tg h175 a0 = 12 := (fxT F179 e166)
        have f187 := ok_I O178 e186 rI_12_7 e185
        obtain ⟨v188, e189⟩ : ∃ z, Iv h175 a0 8 = z := ⟨_, rfl⟩
        have f190 := ok_I O178 e186 rI_12_8 e189
        obtain ⟨v191, e192⟩ : ∃ z, Iv h175 a0 28 = z := ⟨_, rfl⟩
        have f193 := ok_I O178 e186 rI_12_28 e192
        obtain ⟨p194, p195, p196, p197⟩ := p180
        have p198 := ((NT_fx O147 F179 e166 rfl).trans p171)
        rw [e185, p198] at p195
        rw [e189, e185, p198] at p196
        rw [e192, e185] at p197
        have p199 := p181
        unfold ST at p199
        rw [e167, e185, e169, e192, e168, e189] at p199
        refine g_goto C 184 (by decide) dX12_readNext_43 ?_
        refine g_aload_n C rfl 0 rfl dX12_readNext_184 ?_
        refine g_bipush C (by decide) dX12_readNext_185 ?_
        refine g_callV (st := []) (gc_V C lk_LandSurveyModel_380 (k_X12_takeSign l D cy w z0 O178 e186 (iw (il 59) (by decide) (by decide)) ⟨p194, by rw [e185, p198]; omega, by rw [e189, e185, p198]; omega, by rw [e192, e185]; omega⟩) e186 rfl rfl rfl ⟨by decide, by decide⟩ (Nat.le_of_ble_eq_true rfl) dX12_readNext_187 ⟨(by decide), (by decide)⟩) (fun h201 K202 => ?_)
        obtain ⟨O204, F205, p206, p207, p208⟩ := K202
        obtain ⟨v209, e210⟩ : ∃ z, Iv h201 a0 7 = z := ⟨_, rfl⟩
        have e211 : Tg h201 a0 = 12 := (fxT F205 e186)
        have f212 := ok_I O204 e211 rI_12_7 e210
        obtain ⟨v213, e214⟩ : ∃ z, Iv h201 a0 8 = z := ⟨_, rfl⟩
        have f215 := ok_I O204 e211 rI_12_8 e214
        have e216 : Iv h201 a0 28 = v191 := ((fxI F205 e186 rfl).trans e192)
        obtain ⟨p217, p218, p219, p220⟩ := p206
        have p221 := ((NT_fx O178 F205 e186 rfl).trans p198)
        rw [e210, p221] at p218
        rw [e214, e210, p221] at p219
        rw [e216, e210] at p220
        have p222 := p207
        unfold ST at p222
        rw [e185, e210, e192, e216, e189, e214] at p222
        rw [e214, e210, e185] at p208
        have p223 := (MInv_fx O178 F205 e186 rfl p182)
        have p224 := (DLf_mono O178 F205 e186 rfl p207.2.2 p183)
        exact g_vret C hr ⟨O204, ((((((Fx.rf (wr := wr_k_X12_readNext)).call F22 rfl).call F61 rfl).call F148 rfl).call F179 rfl).call F205 rfl), ⟨p217, by rw [e210, p221]; omega, by rw [e214, e210, p221]; omega, by rw [e216, e210]; omega⟩, (by unfold ST; rw [e2, e210, e8, e216, e5, e214]; omega), p223, p224, (by rw [e214, e2, e210]; omega)⟩ (by decide) (by decide) dX12_readNext_190
      · have f225 : (0 : Int) ≤ r143 ∧ r143 ≤ (0 : Int) := ii f149 (r_eq (il 0) q164) (by decide) (by decide)
        refine g_aload_n C rfl 0 rfl dX12_readNext_31 ?_
        refine g_iconst C dX12_readNext_32 ?_
        have e226 : Tg h144 a0 = 12 := (fxT F148 e137)
        have e227 : Iv h144 a0 7 = v1 := ((fxI F148 e137 rfl).trans e138)
        have e228 : Iv h144 a0 8 = v4 := ((fxI F148 e137 rfl).trans e139)
        have e229 : Iv h144 a0 28 = v7 := ((fxI F148 e137 rfl).trans e140)
        have p230 := (TK_fx O60 F148 e137 rfl p141)
        have p231 := ((NT_fx O60 F148 e137 rfl).trans p142)
        refine g_callI (st := []) (gc_V C lk_LandSurveyModel_330 (k_X12_isWord l D cy w z0 O147 e226 (iw (il 3) (by decide) (by decide)) ⟨p230, by rw [e227, p231]; omega, by rw [e228, e227, p231]; omega, by rw [e229, e227]; omega⟩) e226 rfl rfl rfl ⟨by decide, by decide⟩ (Nat.le_of_ble_eq_true rfl) dX12_readNext_33 ⟨(by decide), (by decide)⟩) (fun r232 h233 f235 K234 => ?_)
        obtain ⟨O236, F237, f238, p239, p240⟩ := K234
        rw [e228, e227, p231] at p239
        have e241 : Rv h144 a0 4 = v26 := ((fxR F148 e137 rfl).trans e152)
        have e242 : Tg h57 v26 = 104100 := (fxT F61 e153)
        have e243 : Iv h144 v26 v1.toNat = v30 := ((fxIa F148 e242 ar_104100 rfl).trans e154)
        have e244 : Rv h144 a0 6 = v33 := ((fxR F148 e137 rfl).trans e155)
        have e245 : Tg h57 v33 = 106102 := (fxT F61 e156)
        have e246 : Jv h144 v33 v1.toNat = v37 := ((fxJa F148 e245 ar_106102 rfl).trans e157)
        have e247 : Rv h144 a0 9 = v40 := ((fxR F148 e137 rfl).trans e158)
        obtain ⟨v248, e249⟩ : ∃ z, Jv h144 v40 ((3 : Int).toNat) = z := ⟨_, rfl⟩
        have e250 : Tg h144 v40 = 109102 := (fxT F148 e161)
        have f251 := inL_J O147 e249
        rw [e228, e241, e227, e243, e244, e246, e247, e249] at p240
        refine g_if_eq C (iw f238 (by decide) (by decide)) 46 (by decide) dX12_readNext_36 (fun q252 => ?_) (fun q253 => ?_)
        · have f254 : (0 : Int) ≤ r232 ∧ r232 ≤ (0 : Int) := ii f238 (r_eq (il 0) q252) (by decide) (by decide)
          refine g_aload_n C rfl 0 rfl dX12_readNext_46 ?_
          refine g_iconst C dX12_readNext_47 ?_
          have e255 : Tg h233 a0 = 12 := (fxT F237 e226)
          have e256 : Iv h233 a0 7 = v1 := ((fxI F237 e226 rfl).trans e227)
          have e257 : Iv h233 a0 8 = v4 := ((fxI F237 e226 rfl).trans e228)
          have e258 : Iv h233 a0 28 = v7 := ((fxI F237 e226 rfl).trans e229)
          have p259 := (TK_fx O147 F237 e226 rfl p230)
          have p260 := ((NT_fx O147 F237 e226 rfl).trans p231)
          refine g_callI (st := []) (gc_V C lk_LandSurveyModel_330 (k_X12_isWord l D cy w z0 O236 e255 (iw (il 4) (by decide) (by decide)) ⟨p259, by rw [e256, p260]; omega, by rw [e257, e256, p260]; omega, by rw [e258, e256]; omega⟩) e255 rfl rfl rfl ⟨by decide, by decide⟩ (Nat.le_of_ble_eq_true rfl) dX12_readNext_48 ⟨(by decide), (by decide)⟩) (fun r261 h262 f264 K263 => ?_)
          obtain ⟨O265, F266, f267, p268, p269⟩ := K263
          rw [e257, e256, p260] at p268
          have e270 : Rv h233 a0 4 = v26 := ((fxR F237 e226 rfl).trans e241)
          have e271 : Tg h144 v26 = 104100 := (fxT F148 e242)
          have e272 : Iv h233 v26 v1.toNat = v30 := ((fxIa F237 e271 ar_104100 rfl).trans e243)
          have e273 : Rv h233 a0 6 = v33 := ((fxR F237 e226 rfl).trans e244)
          have e274 : Tg h144 v33 = 106102 := (fxT F148 e245)
          have e275 : Jv h233 v33 v1.toNat = v37 := ((fxJa F237 e274 ar_106102 rfl).trans e246)
          have e276 : Rv h233 a0 9 = v40 := ((fxR F237 e226 rfl).trans e247)
          obtain ⟨v277, e278⟩ : ∃ z, Jv h233 v40 ((4 : Int).toNat) = z := ⟨_, rfl⟩
          have e279 : Tg h233 v40 = 109102 := (fxT F237 e250)
          have f280 := inL_J O236 e278
          rw [e257, e270, e256, e272, e273, e275, e276, e278] at p269
          refine g_if_ne C (iw f267 (by decide) (by decide)) 62 (by decide) dX12_readNext_51 (fun q281 => ?_) (fun q282 => ?_)
          · have f283 : (1 : Int) ≤ r261 ∧ r261 ≤ (1 : Int) := r_nl f267 q281
            refine g_aload_n C rfl 0 rfl dX12_readNext_62 ?_
            have e284 : Tg h262 a0 = 12 := (fxT F266 e255)
            have e285 : Iv h262 a0 7 = v1 := ((fxI F266 e255 rfl).trans e256)
            have e286 : Iv h262 a0 8 = v4 := ((fxI F266 e255 rfl).trans e257)
            have e287 : Iv h262 a0 28 = v7 := ((fxI F266 e255 rfl).trans e258)
            have p288 := (TK_fx O236 F266 e255 rfl p259)
            have p289 := ((NT_fx O236 F266 e255 rfl).trans p260)
            refine g_callV (st := []) (gc_V C lk_LandSurveyModel_371 (k_X12_readBound l D cy w z0 O265 e284 ⟨p288, by rw [e285, p289]; omega, by rw [e286, e285, p289]; omega, by rw [e287, e285]; omega⟩ (by rw [e286, e285, p289]; omega)) e284 rfl rfl rfl ⟨by decide, by decide⟩ (Nat.le_of_ble_eq_true rfl) dX12_readNext_63 ⟨(by decide), (by decide)⟩) (fun h291 K292 => ?_)
            obtain ⟨O294, F295, p296, p297⟩ := K292
            obtain ⟨v298, e299⟩ : ∃ z, Iv h291 a0 7 = z := ⟨_, rfl⟩
            have e300 : Tg h291 a0 = 12 := (fxT F295 e284)
            have f301 := ok_I O294 e300 rI_12_7 e299
            obtain ⟨v302, e303⟩ : ∃ z, Iv h291 a0 8 = z := ⟨_, rfl⟩
            have f304 := ok_I O294 e300 rI_12_8 e303
            have e305 : Iv h291 a0 28 = v7 := ((fxI F295 e284 rfl).trans e287)
            obtain ⟨p306, p307, p308, p309⟩ := p296
            have p310 := ((NT_fx O265 F295 e284 rfl).trans p289)
            rw [e299, p310] at p307
            rw [e303, e299, p310] at p308
            rw [e305, e299] at p309
            have p311 := p297
            unfold ST at p311
            rw [e285, e299, e287, e305, e286, e303] at p311
            refine g_goto C 184 (by decide) dX12_readNext_66 ?_
            refine g_aload_n C rfl 0 rfl dX12_readNext_184 ?_
            refine g_bipush C (by decide) dX12_readNext_185 ?_
            refine g_callV (st := []) (gc_V C lk_LandSurveyModel_380 (k_X12_takeSign l D cy w z0 O294 e300 (iw (il 59) (by decide) (by decide)) ⟨p306, by rw [e299, p310]; omega, by rw [e303, e299, p310]; omega, by rw [e305, e299]; omega⟩) e300 rfl rfl rfl ⟨by decide, by decide⟩ (Nat.le_of_ble_eq_true rfl) dX12_readNext_187 ⟨(by decide), (by decide)⟩) (fun h313 K314 => ?_)
            obtain ⟨O316, F317, p318, p319, p320⟩ := K314
            obtain ⟨v321, e322⟩ : ∃ z, Iv h313 a0 7 = z := ⟨_, rfl⟩
            have e323 : Tg h313 a0 = 12 := (fxT F317 e300)
            have f324 := ok_I O316 e323 rI_12_7 e322
            obtain ⟨v325, e326⟩ : ∃ z, Iv h313 a0 8 = z := ⟨_, rfl⟩
            have f327 := ok_I O316 e323 rI_12_8 e326
            have e328 : Iv h313 a0 28 = v7 := ((fxI F317 e300 rfl).trans e305)
            obtain ⟨p329, p330, p331, p332⟩ := p318
            have p333 := ((NT_fx O294 F317 e300 rfl).trans p310)
            rw [e322, p333] at p330
            rw [e326, e322, p333] at p331
            rw [e328, e322] at p332
            have p334 := p319
            unfold ST at p334
            rw [e299, e322, e305, e328, e303, e326] at p334
            rw [e326, e322, e299] at p320
            have p335 := (MInv_fx O294 F317 e300 rfl (MInv_fx O265 F295 e284 rfl (MInv_fx O236 F266 e255 rfl (MInv_fx O147 F237 e226 rfl (MInv_fx O60 F148 e137 rfl (MInv_fx O21 F61 e50 rfl (MInv_fx O F22 ta0 rfl P_MInv)))))))
            have p336 := (DLf_mono O294 F317 e300 rfl p319.2.2 (DLf_mono O265 F295 e284 rfl p297.2.2 (DLf_fx O236 F266 e255 rfl (DLf_fx O147 F237 e226 rfl (DLf_fx O60 F148 e137 rfl (DLf_fx O21 F61 e50 rfl (DLf_fx O F22 ta0 rfl P_DLf)))))))
            exact g_vret C hr ⟨O316, ((((((((Fx.rf (wr := wr_k_X12_readNext)).call F22 rfl).call F61 rfl).call F148 rfl).call F237 rfl).call F266 rfl).call F295 rfl).call F317 rfl), ⟨p329, by rw [e322, p333]; omega, by rw [e326, e322, p333]; omega, by rw [e328, e322]; omega⟩, (by unfold ST; rw [e2, e322, e8, e328, e5, e326]; omega), p335, p336, (by rw [e326, e2, e322]; omega)⟩ (by decide) (by decide) dX12_readNext_190
          · have f337 : (0 : Int) ≤ r261 ∧ r261 ≤ (0 : Int) := ii f267 (r_eq (il 0) q282) (by decide) (by decide)
            refine g_aload_n C rfl 0 rfl dX12_readNext_54 ?_
            refine g_iconst C dX12_readNext_55 ?_
            have e338 : Tg h262 a0 = 12 := (fxT F266 e255)
            have e339 : Iv h262 a0 7 = v1 := ((fxI F266 e255 rfl).trans e256)
            have e340 : Iv h262 a0 8 = v4 := ((fxI F266 e255 rfl).trans e257)
            have e341 : Iv h262 a0 28 = v7 := ((fxI F266 e255 rfl).trans e258)
            have p342 := (TK_fx O236 F266 e255 rfl p259)
            have p343 := ((NT_fx O236 F266 e255 rfl).trans p260)
            refine g_callI (st := []) (gc_V C lk_LandSurveyModel_330 (k_X12_isWord l D cy w z0 O265 e338 (iw (il 5) (by decide) (by decide)) ⟨p342, by rw [e339, p343]; omega, by rw [e340, e339, p343]; omega, by rw [e341, e339]; omega⟩) e338 rfl rfl rfl ⟨by decide, by decide⟩ (Nat.le_of_ble_eq_true rfl) dX12_readNext_56 ⟨(by decide), (by decide)⟩) (fun r344 h345 f347 K346 => ?_)
            obtain ⟨O348, F349, f350, p351, p352⟩ := K346
            rw [e340, e339, p343] at p351
            have e353 : Rv h262 a0 4 = v26 := ((fxR F266 e255 rfl).trans e270)
            have e354 : Tg h233 v26 = 104100 := (fxT F237 e271)
            have e355 : Iv h262 v26 v1.toNat = v30 := ((fxIa F266 e354 ar_104100 rfl).trans e272)
            have e356 : Rv h262 a0 6 = v33 := ((fxR F266 e255 rfl).trans e273)
            have e357 : Tg h233 v33 = 106102 := (fxT F237 e274)
            have e358 : Jv h262 v33 v1.toNat = v37 := ((fxJa F266 e357 ar_106102 rfl).trans e275)
            have e359 : Rv h262 a0 9 = v40 := ((fxR F266 e255 rfl).trans e276)
            obtain ⟨v360, e361⟩ : ∃ z, Jv h262 v40 ((5 : Int).toNat) = z := ⟨_, rfl⟩
            have e362 : Tg h262 v40 = 109102 := (fxT F266 e279)
            have f363 := inL_J O265 e361
            rw [e340, e353, e339, e355, e356, e358, e359, e361] at p352
            refine g_if_eq C (iw f350 (by decide) (by decide)) 69 (by decide) dX12_readNext_59 (fun q364 => ?_) (fun q365 => ?_)
            · have f366 : (0 : Int) ≤ r344 ∧ r344 ≤ (0 : Int) := ii f350 (r_eq (il 0) q364) (by decide) (by decide)
              refine g_aload_n C rfl 0 rfl dX12_readNext_69 ?_
              refine g_bipush C (by decide) dX12_readNext_70 ?_
              have e367 : Tg h345 a0 = 12 := (fxT F349 e338)
              have e368 : Iv h345 a0 7 = v1 := ((fxI F349 e338 rfl).trans e339)
              have e369 : Iv h345 a0 8 = v4 := ((fxI F349 e338 rfl).trans e340)
              have e370 : Iv h345 a0 28 = v7 := ((fxI F349 e338 rfl).trans e341)
              have p371 := (TK_fx O265 F349 e338 rfl p342)
              have p372 := ((NT_fx O265 F349 e338 rfl).trans p343)
              refine g_callI (st := []) (gc_V C lk_LandSurveyModel_330 (k_X12_isWord l D cy w z0 O348 e367 (iw (il 6) (by decide) (by decide)) ⟨p371, by rw [e368, p372]; omega, by rw [e369, e368, p372]; omega, by rw [e370, e368]; omega⟩) e367 rfl rfl rfl ⟨by decide, by decide⟩ (Nat.le_of_ble_eq_true rfl) dX12_readNext_72 ⟨(by decide), (by decide)⟩) (fun r373 h374 f376 K375 => ?_)
              obtain ⟨O377, F378, f379, p380, p381⟩ := K375
              rw [e369, e368, p372] at p380
              have e382 : Rv h345 a0 4 = v26 := ((fxR F349 e338 rfl).trans e353)
              have e383 : Tg h262 v26 = 104100 := (fxT F266 e354)
              have e384 : Iv h345 v26 v1.toNat = v30 := ((fxIa F349 e383 ar_104100 rfl).trans e355)
              have e385 : Rv h345 a0 6 = v33 := ((fxR F349 e338 rfl).trans e356)
              have e386 : Tg h262 v33 = 106102 := (fxT F266 e357)
              have e387 : Jv h345 v33 v1.toNat = v37 := ((fxJa F349 e386 ar_106102 rfl).trans e358)
              have e388 : Rv h345 a0 9 = v40 := ((fxR F349 e338 rfl).trans e359)
              obtain ⟨v389, e390⟩ : ∃ z, Jv h345 v40 ((6 : Int).toNat) = z := ⟨_, rfl⟩
              have e391 : Tg h345 v40 = 109102 := (fxT F349 e362)
              have f392 := inL_J O348 e390
              rw [e369, e382, e368, e384, e385, e387, e388, e390] at p381
              refine g_if_ne C (iw f379 (by decide) (by decide)) 87 (by decide) dX12_readNext_75 (fun q393 => ?_) (fun q394 => ?_)
              · have f395 : (1 : Int) ≤ r373 ∧ r373 ≤ (1 : Int) := r_nl f379 q393
                refine g_aload_n C rfl 0 rfl dX12_readNext_87 ?_
                refine g_bipush C (by decide) dX12_readNext_88 ?_
                have e396 : Tg h374 a0 = 12 := (fxT F378 e367)
                have e397 : Iv h374 a0 7 = v1 := ((fxI F378 e367 rfl).trans e368)
                have e398 : Iv h374 a0 8 = v4 := ((fxI F378 e367 rfl).trans e369)
                have e399 : Iv h374 a0 28 = v7 := ((fxI F378 e367 rfl).trans e370)
                have p400 := (TK_fx O348 F378 e367 rfl p371)
                have p401 := ((NT_fx O348 F378 e367 rfl).trans p372)
                refine g_callI (st := []) (gc_V C lk_LandSurveyModel_330 (k_X12_isWord l D cy w z0 O377 e396 (iw (il 7) (by decide) (by decide)) ⟨p400, by rw [e397, p401]; omega, by rw [e398, e397, p401]; omega, by rw [e399, e397]; omega⟩) e396 rfl rfl rfl ⟨by decide, by decide⟩ (Nat.le_of_ble_eq_true rfl) dX12_readNext_90 ⟨(by decide), (by decide)⟩) (fun r402 h403 f405 K404 => ?_)
                obtain ⟨O406, F407, f408, p409, p410⟩ := K404
                rw [e398, e397, p401] at p409
                have e411 : Rv h374 a0 4 = v26 := ((fxR F378 e367 rfl).trans e382)
                have e412 : Tg h345 v26 = 104100 := (fxT F349 e383)
                have e413 : Iv h374 v26 v1.toNat = v30 := ((fxIa F378 e412 ar_104100 rfl).trans e384)
                have e414 : Rv h374 a0 6 = v33 := ((fxR F378 e367 rfl).trans e385)
                have e415 : Tg h345 v33 = 106102 := (fxT F349 e386)
                have e416 : Jv h374 v33 v1.toNat = v37 := ((fxJa F378 e415 ar_106102 rfl).trans e387)
                have e417 : Rv h374 a0 9 = v40 := ((fxR F378 e367 rfl).trans e388)
                obtain ⟨v418, e419⟩ : ∃ z, Jv h374 v40 ((7 : Int).toNat) = z := ⟨_, rfl⟩
                have e420 : Tg h374 v40 = 109102 := (fxT F378 e391)
                have f421 := inL_J O377 e419
                rw [e398, e411, e397, e413, e414, e416, e417, e419] at p410
                refine g_istore_n C [(1, .inl r402), (0, .inr (.inr a0))] rfl (by decide) rfl dX12_readNext_93 ?_
                refine g_aload_n C rfl 1 rfl dX12_readNext_94 ?_
                refine g_dup C rfl dX12_readNext_95 ?_
                have e422 : Tg h403 a0 = 12 := (fxT F407 e396)
                have e423 : Iv h403 a0 7 = v1 := ((fxI F407 e396 rfl).trans e397)
                refine gf_I C fk_LandSurveyModel_317 rfl e422 e423 dX12_readNext_96 ?_
                refine g_iconst C dX12_readNext_99 ?_
                have f424 : (1 : Int) ≤ (v1 + 1) ∧ (v1 + 1) ≤ (1502 : Int) := ia_add f3 (il 1) (by decide) (by decide)
                refine g_iadd C dX12_readNext_100 ?_
                refine gp_I C fk_LandSurveyModel_317 pk_LandSurveyModel_7 rfl e422 (iw f424 (by decide) (by decide)) (nf_i _) dX12_readNext_101 (fun h426 hh425 => ?_)
                have O427 := O406.pI e422 hh425 rI_12_7 (by omega) nofun
                refine g_bipush C (by decide) dX12_readNext_104 ?_
                refine g_aload_n C rfl 1 rfl dX12_readNext_106 ?_
                have e428 : Tg h426 a0 = 12 := ((pIT hh425).trans e422)
                have e429 : Iv h426 a0 8 = v4 := ((pI_j hh425 (by decide)).trans ((fxI F407 e396 rfl).trans e398))
                have e430 : Iv h426 a0 28 = v7 := ((pI_j hh425 (by decide)).trans ((fxI F407 e396 rfl).trans e399))
                have p431 := (TK_fx O406 ((Fx.rf (wr := [2407]) (h := h403)).pI e422 hh425 rfl) e422 rfl (TK_fx O377 F407 e396 rfl p400))
                have p432 := ((NT_fx O406 ((Fx.rf (wr := [2407]) (h := h403)).pI e422 hh425 rfl) e422 rfl).trans ((NT_fx O377 F407 e396 rfl).trans p401))
                refine g_callI (st := [.inl 80]) (gc_V C lk_LandSurveyModel_374 (k_X12_takeRock l D cy w z0 O427 e428 ⟨p431, by rw [(pI_e hh425), p432]; omega, by rw [e429, (pI_e hh425), p432]; omega, by rw [e430, (pI_e hh425)]; omega⟩) e428 rfl rfl rfl ⟨by decide, by decide⟩ (Nat.le_of_ble_eq_true rfl) dX12_readNext_107 ⟨(by decide), (by decide)⟩) (fun r433 h434 f436 K435 => ?_)
                obtain ⟨O437, F438, f439, p440, p441⟩ := K435
                obtain ⟨v442, e443⟩ : ∃ z, Iv h434 a0 7 = z := ⟨_, rfl⟩
                have e444 : Tg h434 a0 = 12 := (fxT F438 e428)
                have f445 := ok_I O437 e444 rI_12_7 e443
                obtain ⟨v446, e447⟩ : ∃ z, Iv h434 a0 8 = z := ⟨_, rfl⟩
                have f448 := ok_I O437 e444 rI_12_8 e447
                have e449 : Iv h434 a0 28 = v7 := ((fxI F438 e428 rfl).trans e430)
                obtain ⟨p450, p451, p452, p453⟩ := p440
                have p454 := ((NT_fx O427 F438 e428 rfl).trans p432)
                rw [e443, p454] at p451
                rw [e447, e443, p454] at p452
                rw [e449, e443] at p453
                have p455 := p441
                unfold ST at p455
                rw [(pI_e hh425), e443, e430, e449, e429, e447] at p455
                have f456 : (80 : Int) ≤ (80 + r433) ∧ (80 + r433) ≤ (89 : Int) := ia_add (il 80) f439 (by decide) (by decide)
                refine g_iadd C dX12_readNext_110 ?_
                refine g_istore_n C [(2, .inl (80 + r433)), (1, .inl r402), (0, .inr (.inr a0))] rfl (by decide) rfl dX12_readNext_111 ?_
                refine g_aload_n C rfl 2 rfl dX12_readNext_112 ?_
                obtain ⟨v457, e458⟩ : ∃ z, Rv h434 a0 17 = z := ⟨_, rfl⟩
                have t459 := ok_R O437 e444 rE_12_17 e458
                have l460 := ok_L O437 e444 rE_12_17 e458
                refine gf_R C fk_LandSurveyModel_116 rfl e444 e458 dX12_readNext_113 ?_
                refine g_iload_n C rfl 0 rfl dX12_readNext_116 ?_
                refine g_aload_n C rfl 2 rfl dX12_readNext_117 ?_
                refine gf_R C fk_LandSurveyModel_116 rfl e444 e458 dX12_readNext_118 ?_
                refine g_iload_n C rfl 0 rfl dX12_readNext_121 ?_
                obtain ⟨v461, e462⟩ : ∃ z, Iv h434 v457 ((80 + r433).toNat) = z := ⟨_, rfl⟩
                have f463 := ok_Ia O437 t459 ar_117101 rI_117101_0 e462
                refine g_zald C t459 rfl l460 (ix f456 (by decide) (by decide)) e462 dX12_readNext_122 ?_
                refine g_if_ne C (iw f463 (by decide) (by decide)) 130 (by decide) dX12_readNext_123 (fun q464 => ?_) (fun q465 => ?_)
                · have f466 : (1 : Int) ≤ v461 ∧ v461 ≤ (1 : Int) := r_nl f463 q464
                  refine g_iconst C dX12_readNext_130 ?_
                  refine g_goto C 135 (by decide) dX12_readNext_131 ?_
                  refine g_zast C t459 rfl l460 (ix f456 (by decide) (by decide)) (iw (il 1) (by decide) (by decide)) dX12_readNext_135 (fun h468 hh467 => ?_)
                  have O469 := O437.pIa t459 ar_117101 hh467 rI_117101_0 (iw (il 1) (by decide) (by decide)) nofun
                  refine g_aload_n C rfl 2 rfl dX12_readNext_136 ?_
                  have e470 : Tg h468 a0 = 12 := ((pIT hh467).trans e444)
                  obtain ⟨v471, e472⟩ : ∃ z, Rv h468 a0 16 = z := ⟨_, rfl⟩
                  have t473 := ok_R O469 e470 rE_12_16 e472
                  have l474 := ok_L O469 e470 rE_12_16 e472
                  refine gf_R C fk_LandSurveyModel_112 rfl e470 e472 dX12_readNext_137 ?_
                  refine g_iload_n C rfl 0 rfl dX12_readNext_140 ?_
                  refine g_aload_n C rfl 2 rfl dX12_readNext_141 ?_
                  refine gf_R C fk_LandSurveyModel_112 rfl e470 e472 dX12_readNext_142 ?_
                  refine g_iload_n C rfl 0 rfl dX12_readNext_145 ?_
                  obtain ⟨v475, e476⟩ : ∃ z, Iv h468 v471 ((80 + r433).toNat) = z := ⟨_, rfl⟩
                  have f477 := ok_Ia O469 t473 ar_116101 rI_116101_0 e476
                  refine g_zald C t473 rfl l474 (ix f456 (by decide) (by decide)) e476 dX12_readNext_146 ?_
                  refine g_if_ne C (iw f477 (by decide) (by decide)) 154 (by decide) dX12_readNext_147 (fun q478 => ?_) (fun q479 => ?_)
                  · have f480 : (1 : Int) ≤ v475 ∧ v475 ≤ (1 : Int) := r_nl f477 q478
                    refine g_iconst C dX12_readNext_154 ?_
                    refine g_goto C 159 (by decide) dX12_readNext_155 ?_
                    refine g_zast C t473 rfl l474 (ix f456 (by decide) (by decide)) (iw (il 1) (by decide) (by decide)) dX12_readNext_159 (fun h482 hh481 => ?_)
                    have O483 := O469.pIa t473 ar_116101 hh481 rI_116101_0 (iw (il 1) (by decide) (by decide)) nofun
                    refine g_goto C 184 (by decide) dX12_readNext_160 ?_
                    refine g_aload_n C rfl 2 rfl dX12_readNext_184 ?_
                    refine g_bipush C (by decide) dX12_readNext_185 ?_
                    have e484 : Tg h482 a0 = 12 := ((pIT hh481).trans e470)
                    have e485 : Iv h482 a0 7 = v442 := ((pI_n hh481 (ne_tag e470 t473 (by decide))).trans ((pI_n hh467 (ne_tag e444 t459 (by decide))).trans e443))
                    have e486 : Iv h482 a0 8 = v446 := ((pI_n hh481 (ne_tag e470 t473 (by decide))).trans ((pI_n hh467 (ne_tag e444 t459 (by decide))).trans e447))
                    have e487 : Iv h482 a0 28 = v7 := ((pI_n hh481 (ne_tag e470 t473 (by decide))).trans ((pI_n hh467 (ne_tag e444 t459 (by decide))).trans e449))
                    have p488 := (TK_fx O469 ((Fx.rf (wr := [23220200]) (h := h468)).pIa t473 ar_116101 hh481 rfl) e470 rfl (TK_fx O437 ((Fx.rf (wr := [23420200]) (h := h434)).pIa t459 ar_117101 hh467 rfl) e444 rfl p450))
                    have p489 := ((NT_fx O469 ((Fx.rf (wr := [23220200]) (h := h468)).pIa t473 ar_116101 hh481 rfl) e470 rfl).trans ((NT_fx O437 ((Fx.rf (wr := [23420200]) (h := h434)).pIa t459 ar_117101 hh467 rfl) e444 rfl).trans p454))
                    refine g_callV (st := []) (gc_V C lk_LandSurveyModel_380 (k_X12_takeSign l D cy w z0 O483 e484 (iw (il 59) (by decide) (by decide)) ⟨p488, by rw [e485, p489]; omega, by rw [e486, e485, p489]; omega, by rw [e487, e485]; omega⟩) e484 rfl rfl rfl ⟨by decide, by decide⟩ (Nat.le_of_ble_eq_true rfl) dX12_readNext_187 ⟨(by decide), (by decide)⟩) (fun h491 K492 => ?_)
                    obtain ⟨O494, F495, p496, p497, p498⟩ := K492
                    obtain ⟨v499, e500⟩ : ∃ z, Iv h491 a0 7 = z := ⟨_, rfl⟩
                    have e501 : Tg h491 a0 = 12 := (fxT F495 e484)
                    have f502 := ok_I O494 e501 rI_12_7 e500
                    obtain ⟨v503, e504⟩ : ∃ z, Iv h491 a0 8 = z := ⟨_, rfl⟩
                    have f505 := ok_I O494 e501 rI_12_8 e504
                    have e506 : Iv h491 a0 28 = v7 := ((fxI F495 e484 rfl).trans e487)
                    obtain ⟨p507, p508, p509, p510⟩ := p496
                    have p511 := ((NT_fx O483 F495 e484 rfl).trans p489)
                    rw [e500, p511] at p508
                    rw [e504, e500, p511] at p509
                    rw [e506, e500] at p510
                    have p512 := p497
                    unfold ST at p512
                    rw [e485, e500, e487, e506, e486, e504] at p512
                    rw [e504, e500, e485] at p498
                    have p513 := (MInv_fx O483 F495 e484 rfl (MInv_fx O469 ((Fx.rf (wr := [23220200]) (h := h468)).pIa t473 ar_116101 hh481 rfl) e470 rfl (MInv_fx O437 ((Fx.rf (wr := [23420200]) (h := h434)).pIa t459 ar_117101 hh467 rfl) e444 rfl (MInv_fx O427 F438 e428 rfl (MInv_fx O406 ((Fx.rf (wr := [2407]) (h := h403)).pI e422 hh425 rfl) e422 rfl (MInv_fx O377 F407 e396 rfl (MInv_fx O348 F378 e367 rfl (MInv_fx O265 F349 e338 rfl (MInv_fx O236 F266 e255 rfl (MInv_fx O147 F237 e226 rfl (MInv_fx O60 F148 e137 rfl (MInv_fx O21 F61 e50 rfl (MInv_fx O F22 ta0 rfl P_MInv)))))))))))))
                    have p514 := (DLf_mono O483 F495 e484 rfl p497.2.2 (DLf_fx O469 ((Fx.rf (wr := [23220200]) (h := h468)).pIa t473 ar_116101 hh481 rfl) e470 rfl (DLf_fx O437 ((Fx.rf (wr := [23420200]) (h := h434)).pIa t459 ar_117101 hh467 rfl) e444 rfl (DLf_mono O427 F438 e428 rfl p441.2.2 (DLf_fx O406 ((Fx.rf (wr := [2407]) (h := h403)).pI e422 hh425 rfl) e422 rfl (DLf_fx O377 F407 e396 rfl (DLf_fx O348 F378 e367 rfl (DLf_fx O265 F349 e338 rfl (DLf_fx O236 F266 e255 rfl (DLf_fx O147 F237 e226 rfl (DLf_fx O60 F148 e137 rfl (DLf_fx O21 F61 e50 rfl (DLf_fx O F22 ta0 rfl P_DLf)))))))))))))
                    exact g_vret C hr ⟨O494, ((((((((((((((Fx.rf (wr := wr_k_X12_readNext)).call F22 rfl).call F61 rfl).call F148 rfl).call F237 rfl).call F266 rfl).call F349 rfl).call F378 rfl).call F407 rfl).pI e422 hh425 rfl).call F438 rfl).pIa t459 ar_117101 hh467 rfl).pIa t473 ar_116101 hh481 rfl).call F495 rfl), ⟨p507, by rw [e500, p511]; omega, by rw [e504, e500, p511]; omega, by rw [e506, e500]; omega⟩, (by unfold ST; rw [e2, e500, e8, e506, e5, e504]; omega), p513, p514, (by rw [e504, e2, e500]; omega)⟩ (by decide) (by decide) dX12_readNext_190
                  · have f515 : (0 : Int) ≤ v475 ∧ v475 ≤ (0 : Int) := ii f477 (r_eq (il 0) q479) (by decide) (by decide)
                    refine g_iload_n C rfl 1 rfl dX12_readNext_150 ?_
                    refine g_if_ne C (iw f408 (by decide) (by decide)) 158 (by decide) dX12_readNext_151 (fun q516 => ?_) (fun q517 => ?_)
                    · have f518 : (1 : Int) ≤ r402 ∧ r402 ≤ (1 : Int) := r_nl f408 q516
                      refine g_iconst C dX12_readNext_158 ?_
                      refine g_zast C t473 rfl l474 (ix f456 (by decide) (by decide)) (iw (il 0) (by decide) (by decide)) dX12_readNext_159 (fun h520 hh519 => ?_)
                      have O521 := O469.pIa t473 ar_116101 hh519 rI_116101_0 (iw (il 0) (by decide) (by decide)) nofun
                      refine g_goto C 184 (by decide) dX12_readNext_160 ?_
                      refine g_aload_n C rfl 2 rfl dX12_readNext_184 ?_
                      refine g_bipush C (by decide) dX12_readNext_185 ?_
                      have e522 : Tg h520 a0 = 12 := ((pIT hh519).trans e470)
                      have e523 : Iv h520 a0 7 = v442 := ((pI_n hh519 (ne_tag e470 t473 (by decide))).trans ((pI_n hh467 (ne_tag e444 t459 (by decide))).trans e443))
                      have e524 : Iv h520 a0 8 = v446 := ((pI_n hh519 (ne_tag e470 t473 (by decide))).trans ((pI_n hh467 (ne_tag e444 t459 (by decide))).trans e447))
                      have e525 : Iv h520 a0 28 = v7 := ((pI_n hh519 (ne_tag e470 t473 (by decide))).trans ((pI_n hh467 (ne_tag e444 t459 (by decide))).trans e449))
                      have p526 := (TK_fx O469 ((Fx.rf (wr := [23220200]) (h := h468)).pIa t473 ar_116101 hh519 rfl) e470 rfl (TK_fx O437 ((Fx.rf (wr := [23420200]) (h := h434)).pIa t459 ar_117101 hh467 rfl) e444 rfl p450))
                      have p527 := ((NT_fx O469 ((Fx.rf (wr := [23220200]) (h := h468)).pIa t473 ar_116101 hh519 rfl) e470 rfl).trans ((NT_fx O437 ((Fx.rf (wr := [23420200]) (h := h434)).pIa t459 ar_117101 hh467 rfl) e444 rfl).trans p454))
                      refine g_callV (st := []) (gc_V C lk_LandSurveyModel_380 (k_X12_takeSign l D cy w z0 O521 e522 (iw (il 59) (by decide) (by decide)) ⟨p526, by rw [e523, p527]; omega, by rw [e524, e523, p527]; omega, by rw [e525, e523]; omega⟩) e522 rfl rfl rfl ⟨by decide, by decide⟩ (Nat.le_of_ble_eq_true rfl) dX12_readNext_187 ⟨(by decide), (by decide)⟩) (fun h529 K530 => ?_)
                      obtain ⟨O532, F533, p534, p535, p536⟩ := K530
                      obtain ⟨v537, e538⟩ : ∃ z, Iv h529 a0 7 = z := ⟨_, rfl⟩
                      have e539 : Tg h529 a0 = 12 := (fxT F533 e522)
                      have f540 := ok_I O532 e539 rI_12_7 e538
                      obtain ⟨v541, e542⟩ : ∃ z, Iv h529 a0 8 = z := ⟨_, rfl⟩
                      have f543 := ok_I O532 e539 rI_12_8 e542
                      have e544 : Iv h529 a0 28 = v7 := ((fxI F533 e522 rfl).trans e525)
                      obtain ⟨p545, p546, p547, p548⟩ := p534
                      have p549 := ((NT_fx O521 F533 e522 rfl).trans p527)
                      rw [e538, p549] at p546
                      rw [e542, e538, p549] at p547
                      rw [e544, e538] at p548
                      have p550 := p535
                      unfold ST at p550
                      rw [e523, e538, e525, e544, e524, e542] at p550
                      rw [e542, e538, e523] at p536
                      have p551 := (MInv_fx O521 F533 e522 rfl (MInv_fx O469 ((Fx.rf (wr := [23220200]) (h := h468)).pIa t473 ar_116101 hh519 rfl) e470 rfl (MInv_fx O437 ((Fx.rf (wr := [23420200]) (h := h434)).pIa t459 ar_117101 hh467 rfl) e444 rfl (MInv_fx O427 F438 e428 rfl (MInv_fx O406 ((Fx.rf (wr := [2407]) (h := h403)).pI e422 hh425 rfl) e422 rfl (MInv_fx O377 F407 e396 rfl (MInv_fx O348 F378 e367 rfl (MInv_fx O265 F349 e338 rfl (MInv_fx O236 F266 e255 rfl (MInv_fx O147 F237 e226 rfl (MInv_fx O60 F148 e137 rfl (MInv_fx O21 F61 e50 rfl (MInv_fx O F22 ta0 rfl P_MInv)))))))))))))
                      have p552 := (DLf_mono O521 F533 e522 rfl p535.2.2 (DLf_fx O469 ((Fx.rf (wr := [23220200]) (h := h468)).pIa t473 ar_116101 hh519 rfl) e470 rfl (DLf_fx O437 ((Fx.rf (wr := [23420200]) (h := h434)).pIa t459 ar_117101 hh467 rfl) e444 rfl (DLf_mono O427 F438 e428 rfl p441.2.2 (DLf_fx O406 ((Fx.rf (wr := [2407]) (h := h403)).pI e422 hh425 rfl) e422 rfl (DLf_fx O377 F407 e396 rfl (DLf_fx O348 F378 e367 rfl (DLf_fx O265 F349 e338 rfl (DLf_fx O236 F266 e255 rfl (DLf_fx O147 F237 e226 rfl (DLf_fx O60 F148 e137 rfl (DLf_fx O21 F61 e50 rfl (DLf_fx O F22 ta0 rfl P_DLf)))))))))))))
                      exact g_vret C hr ⟨O532, ((((((((((((((Fx.rf (wr := wr_k_X12_readNext)).call F22 rfl).call F61 rfl).call F148 rfl).call F237 rfl).call F266 rfl).call F349 rfl).call F378 rfl).call F407 rfl).pI e422 hh425 rfl).call F438 rfl).pIa t459 ar_117101 hh467 rfl).pIa t473 ar_116101 hh519 rfl).call F533 rfl), ⟨p545, by rw [e538, p549]; omega, by rw [e542, e538, p549]; omega, by rw [e544, e538]; omega⟩, (by unfold ST; rw [e2, e538, e8, e544, e5, e542]; omega), p551, p552, (by rw [e542, e2, e538]; omega)⟩ (by decide) (by decide) dX12_readNext_190
                    · have f553 : (0 : Int) ≤ r402 ∧ r402 ≤ (0 : Int) := ii f408 (r_eq (il 0) q517) (by decide) (by decide)
                      refine g_iconst C dX12_readNext_154 ?_
                      refine g_goto C 159 (by decide) dX12_readNext_155 ?_
                      refine g_zast C t473 rfl l474 (ix f456 (by decide) (by decide)) (iw (il 1) (by decide) (by decide)) dX12_readNext_159 (fun h555 hh554 => ?_)
                      have O556 := O469.pIa t473 ar_116101 hh554 rI_116101_0 (iw (il 1) (by decide) (by decide)) nofun
                      refine g_goto C 184 (by decide) dX12_readNext_160 ?_
                      refine g_aload_n C rfl 2 rfl dX12_readNext_184 ?_
                      refine g_bipush C (by decide) dX12_readNext_185 ?_
                      have e557 : Tg h555 a0 = 12 := ((pIT hh554).trans e470)
                      have e558 : Iv h555 a0 7 = v442 := ((pI_n hh554 (ne_tag e470 t473 (by decide))).trans ((pI_n hh467 (ne_tag e444 t459 (by decide))).trans e443))
                      have e559 : Iv h555 a0 8 = v446 := ((pI_n hh554 (ne_tag e470 t473 (by decide))).trans ((pI_n hh467 (ne_tag e444 t459 (by decide))).trans e447))
                      have e560 : Iv h555 a0 28 = v7 := ((pI_n hh554 (ne_tag e470 t473 (by decide))).trans ((pI_n hh467 (ne_tag e444 t459 (by decide))).trans e449))
                      have p561 := (TK_fx O469 ((Fx.rf (wr := [23220200]) (h := h468)).pIa t473 ar_116101 hh554 rfl) e470 rfl (TK_fx O437 ((Fx.rf (wr := [23420200]) (h := h434)).pIa t459 ar_117101 hh467 rfl) e444 rfl p450))
                      have p562 := ((NT_fx O469 ((Fx.rf (wr := [23220200]) (h := h468)).pIa t473 ar_116101 hh554 rfl) e470 rfl).trans ((NT_fx O437 ((Fx.rf (wr := [23420200]) (h := h434)).pIa t459 ar_117101 hh467 rfl) e444 rfl).trans p454))
                      refine g_callV (st := []) (gc_V C lk_LandSurveyModel_380 (k_X12_takeSign l D cy w z0 O556 e557 (iw (il 59) (by decide) (by decide)) ⟨p561, by rw [e558, p562]; omega, by rw [e559, e558, p562]; omega, by rw [e560, e558]; omega⟩) e557 rfl rfl rfl ⟨by decide, by decide⟩ (Nat.le_of_ble_eq_true rfl) dX12_readNext_187 ⟨(by decide), (by decide)⟩) (fun h564 K565 => ?_)
                      obtain ⟨O567, F568, p569, p570, p571⟩ := K565
                      obtain ⟨v572, e573⟩ : ∃ z, Iv h564 a0 7 = z := ⟨_, rfl⟩
                      have e574 : Tg h564 a0 = 12 := (fxT F568 e557)
                      have f575 := ok_I O567 e574 rI_12_7 e573
                      obtain ⟨v576, e577⟩ : ∃ z, Iv h564 a0 8 = z := ⟨_, rfl⟩
                      have f578 := ok_I O567 e574 rI_12_8 e577
                      have e579 : Iv h564 a0 28 = v7 := ((fxI F568 e557 rfl).trans e560)
                      obtain ⟨p580, p581, p582, p583⟩ := p569
                      have p584 := ((NT_fx O556 F568 e557 rfl).trans p562)
                      rw [e573, p584] at p581
                      rw [e577, e573, p584] at p582
                      rw [e579, e573] at p583
                      have p585 := p570
                      unfold ST at p585
                      rw [e558, e573, e560, e579, e559, e577] at p585
                      rw [e577, e573, e558] at p571
                      have p586 := (MInv_fx O556 F568 e557 rfl (MInv_fx O469 ((Fx.rf (wr := [23220200]) (h := h468)).pIa t473 ar_116101 hh554 rfl) e470 rfl (MInv_fx O437 ((Fx.rf (wr := [23420200]) (h := h434)).pIa t459 ar_117101 hh467 rfl) e444 rfl (MInv_fx O427 F438 e428 rfl (MInv_fx O406 ((Fx.rf (wr := [2407]) (h := h403)).pI e422 hh425 rfl) e422 rfl (MInv_fx O377 F407 e396 rfl (MInv_fx O348 F378 e367 rfl (MInv_fx O265 F349 e338 rfl (MInv_fx O236 F266 e255 rfl (MInv_fx O147 F237 e226 rfl (MInv_fx O60 F148 e137 rfl (MInv_fx O21 F61 e50 rfl (MInv_fx O F22 ta0 rfl P_MInv)))))))))))))
                      have p587 := (DLf_mono O556 F568 e557 rfl p570.2.2 (DLf_fx O469 ((Fx.rf (wr := [23220200]) (h := h468)).pIa t473 ar_116101 hh554 rfl) e470 rfl (DLf_fx O437 ((Fx.rf (wr := [23420200]) (h := h434)).pIa t459 ar_117101 hh467 rfl) e444 rfl (DLf_mono O427 F438 e428 rfl p441.2.2 (DLf_fx O406 ((Fx.rf (wr := [2407]) (h := h403)).pI e422 hh425 rfl) e422 rfl (DLf_fx O377 F407 e396 rfl (DLf_fx O348 F378 e367 rfl (DLf_fx O265 F349 e338 rfl (DLf_fx O236 F266 e255 rfl (DLf_fx O147 F237 e226 rfl (DLf_fx O60 F148 e137 rfl (DLf_fx O21 F61 e50 rfl (DLf_fx O F22 ta0 rfl P_DLf)))))))))))))
                      exact g_vret C hr ⟨O567, ((((((((((((((Fx.rf (wr := wr_k_X12_readNext)).call F22 rfl).call F61 rfl).call F148 rfl).call F237 rfl).call F266 rfl).call F349 rfl).call F378 rfl).call F407 rfl).pI e422 hh425 rfl).call F438 rfl).pIa t459 ar_117101 hh467 rfl).pIa t473 ar_116101 hh554 rfl).call F568 rfl), ⟨p580, by rw [e573, p584]; omega, by rw [e577, e573, p584]; omega, by rw [e579, e573]; omega⟩, (by unfold ST; rw [e2, e573, e8, e579, e5, e577]; omega), p586, p587, (by rw [e577, e2, e573]; omega)⟩ (by decide) (by decide) dX12_readNext_190
                · have f588 : (0 : Int) ≤ v461 ∧ v461 ≤ (0 : Int) := ii f463 (r_eq (il 0) q465) (by decide) (by decide)
                  refine g_iload_n C rfl 1 rfl dX12_readNext_126 ?_
                  refine g_if_eq C (iw f408 (by decide) (by decide)) 134 (by decide) dX12_readNext_127 (fun q589 => ?_) (fun q590 => ?_)
                  · have f591 : (0 : Int) ≤ r402 ∧ r402 ≤ (0 : Int) := ii f408 (r_eq (il 0) q589) (by decide) (by decide)
                    refine g_iconst C dX12_readNext_134 ?_
                    refine g_zast C t459 rfl l460 (ix f456 (by decide) (by decide)) (iw (il 0) (by decide) (by decide)) dX12_readNext_135 (fun h593 hh592 => ?_)
                    have O594 := O437.pIa t459 ar_117101 hh592 rI_117101_0 (iw (il 0) (by decide) (by decide)) nofun
                    refine g_aload_n C rfl 2 rfl dX12_readNext_136 ?_
                    have e595 : Tg h593 a0 = 12 := ((pIT hh592).trans e444)
                    obtain ⟨v596, e597⟩ : ∃ z, Rv h593 a0 16 = z := ⟨_, rfl⟩
                    have t598 := ok_R O594 e595 rE_12_16 e597
                    have l599 := ok_L O594 e595 rE_12_16 e597
                    refine gf_R C fk_LandSurveyModel_112 rfl e595 e597 dX12_readNext_137 ?_
                    refine g_iload_n C rfl 0 rfl dX12_readNext_140 ?_
                    refine g_aload_n C rfl 2 rfl dX12_readNext_141 ?_
                    refine gf_R C fk_LandSurveyModel_112 rfl e595 e597 dX12_readNext_142 ?_
                    refine g_iload_n C rfl 0 rfl dX12_readNext_145 ?_
                    obtain ⟨v600, e601⟩ : ∃ z, Iv h593 v596 ((80 + r433).toNat) = z := ⟨_, rfl⟩
                    have f602 := ok_Ia O594 t598 ar_116101 rI_116101_0 e601
                    refine g_zald C t598 rfl l599 (ix f456 (by decide) (by decide)) e601 dX12_readNext_146 ?_
                    refine g_if_ne C (iw f602 (by decide) (by decide)) 154 (by decide) dX12_readNext_147 (fun q603 => ?_) (fun q604 => ?_)
                    · have f605 : (1 : Int) ≤ v600 ∧ v600 ≤ (1 : Int) := r_nl f602 q603
                      refine g_iconst C dX12_readNext_154 ?_
                      refine g_goto C 159 (by decide) dX12_readNext_155 ?_
                      refine g_zast C t598 rfl l599 (ix f456 (by decide) (by decide)) (iw (il 1) (by decide) (by decide)) dX12_readNext_159 (fun h607 hh606 => ?_)
                      have O608 := O594.pIa t598 ar_116101 hh606 rI_116101_0 (iw (il 1) (by decide) (by decide)) nofun
                      refine g_goto C 184 (by decide) dX12_readNext_160 ?_
                      refine g_aload_n C rfl 2 rfl dX12_readNext_184 ?_
                      refine g_bipush C (by decide) dX12_readNext_185 ?_
                      have e609 : Tg h607 a0 = 12 := ((pIT hh606).trans e595)
                      have e610 : Iv h607 a0 7 = v442 := ((pI_n hh606 (ne_tag e595 t598 (by decide))).trans ((pI_n hh592 (ne_tag e444 t459 (by decide))).trans e443))
                      have e611 : Iv h607 a0 8 = v446 := ((pI_n hh606 (ne_tag e595 t598 (by decide))).trans ((pI_n hh592 (ne_tag e444 t459 (by decide))).trans e447))
                      have e612 : Iv h607 a0 28 = v7 := ((pI_n hh606 (ne_tag e595 t598 (by decide))).trans ((pI_n hh592 (ne_tag e444 t459 (by decide))).trans e449))
                      have p613 := (TK_fx O594 ((Fx.rf (wr := [23220200]) (h := h593)).pIa t598 ar_116101 hh606 rfl) e595 rfl (TK_fx O437 ((Fx.rf (wr := [23420200]) (h := h434)).pIa t459 ar_117101 hh592 rfl) e444 rfl p450))
                      have p614 := ((NT_fx O594 ((Fx.rf (wr := [23220200]) (h := h593)).pIa t598 ar_116101 hh606 rfl) e595 rfl).trans ((NT_fx O437 ((Fx.rf (wr := [23420200]) (h := h434)).pIa t459 ar_117101 hh592 rfl) e444 rfl).trans p454))
                      refine g_callV (st := []) (gc_V C lk_LandSurveyModel_380 (k_X12_takeSign l D cy w z0 O608 e609 (iw (il 59) (by decide) (by decide)) ⟨p613, by rw [e610, p614]; omega, by rw [e611, e610, p614]; omega, by rw [e612, e610]; omega⟩) e609 rfl rfl rfl ⟨by decide, by decide⟩ (Nat.le_of_ble_eq_true rfl) dX12_readNext_187 ⟨(by decide), (by decide)⟩) (fun h616 K617 => ?_)
                      obtain ⟨O619, F620, p621, p622, p623⟩ := K617
                      obtain ⟨v624, e625⟩ : ∃ z, Iv h616 a0 7 = z := ⟨_, rfl⟩
                      have e626 : Tg h616 a0 = 12 := (fxT F620 e609)
                      have f627 := ok_I O619 e626 rI_12_7 e625
                      obtain ⟨v628, e629⟩ : ∃ z, Iv h616 a0 8 = z := ⟨_, rfl⟩
                      have f630 := ok_I O619 e626 rI_12_8 e629
                      have e631 : Iv h616 a0 28 = v7 := ((fxI F620 e609 rfl).trans e612)
                      obtain ⟨p632, p633, p634, p635⟩ := p621
                      have p636 := ((NT_fx O608 F620 e609 rfl).trans p614)
                      rw [e625, p636] at p633
                      rw [e629, e625, p636] at p634
                      rw [e631, e625] at p635
                      have p637 := p622
                      unfold ST at p637
                      rw [e610, e625, e612, e631, e611, e629] at p637
                      rw [e629, e625, e610] at p623
                      have p638 := (MInv_fx O608 F620 e609 rfl (MInv_fx O594 ((Fx.rf (wr := [23220200]) (h := h593)).pIa t598 ar_116101 hh606 rfl) e595 rfl (MInv_fx O437 ((Fx.rf (wr := [23420200]) (h := h434)).pIa t459 ar_117101 hh592 rfl) e444 rfl (MInv_fx O427 F438 e428 rfl (MInv_fx O406 ((Fx.rf (wr := [2407]) (h := h403)).pI e422 hh425 rfl) e422 rfl (MInv_fx O377 F407 e396 rfl (MInv_fx O348 F378 e367 rfl (MInv_fx O265 F349 e338 rfl (MInv_fx O236 F266 e255 rfl (MInv_fx O147 F237 e226 rfl (MInv_fx O60 F148 e137 rfl (MInv_fx O21 F61 e50 rfl (MInv_fx O F22 ta0 rfl P_MInv)))))))))))))
                      have p639 := (DLf_mono O608 F620 e609 rfl p622.2.2 (DLf_fx O594 ((Fx.rf (wr := [23220200]) (h := h593)).pIa t598 ar_116101 hh606 rfl) e595 rfl (DLf_fx O437 ((Fx.rf (wr := [23420200]) (h := h434)).pIa t459 ar_117101 hh592 rfl) e444 rfl (DLf_mono O427 F438 e428 rfl p441.2.2 (DLf_fx O406 ((Fx.rf (wr := [2407]) (h := h403)).pI e422 hh425 rfl) e422 rfl (DLf_fx O377 F407 e396 rfl (DLf_fx O348 F378 e367 rfl (DLf_fx O265 F349 e338 rfl (DLf_fx O236 F266 e255 rfl (DLf_fx O147 F237 e226 rfl (DLf_fx O60 F148 e137 rfl (DLf_fx O21 F61 e50 rfl (DLf_fx O F22 ta0 rfl P_DLf)))))))))))))
                      exact g_vret C hr ⟨O619, ((((((((((((((Fx.rf (wr := wr_k_X12_readNext)).call F22 rfl).call F61 rfl).call F148 rfl).call F237 rfl).call F266 rfl).call F349 rfl).call F378 rfl).call F407 rfl).pI e422 hh425 rfl).call F438 rfl).pIa t459 ar_117101 hh592 rfl).pIa t598 ar_116101 hh606 rfl).call F620 rfl), ⟨p632, by rw [e625, p636]; omega, by rw [e629, e625, p636]; omega, by rw [e631, e625]; omega⟩, (by unfold ST; rw [e2, e625, e8, e631, e5, e629]; omega), p638, p639, (by rw [e629, e2, e625]; omega)⟩ (by decide) (by decide) dX12_readNext_190
                    · have f640 : (0 : Int) ≤ v600 ∧ v600 ≤ (0 : Int) := ii f602 (r_eq (il 0) q604) (by decide) (by decide)
                      refine g_iload_n C rfl 1 rfl dX12_readNext_150 ?_
                      refine g_if_ne C (iw f591 (by decide) (by decide)) 158 (by decide) dX12_readNext_151 (fun q641 => ?_) (fun q642 => ?_)
                      · exact (no_ne f591 (il 0) q641 (by decide)).elim
                      · refine g_iconst C dX12_readNext_154 ?_
                        refine g_goto C 159 (by decide) dX12_readNext_155 ?_
                        refine g_zast C t598 rfl l599 (ix f456 (by decide) (by decide)) (iw (il 1) (by decide) (by decide)) dX12_readNext_159 (fun h644 hh643 => ?_)
                        have O645 := O594.pIa t598 ar_116101 hh643 rI_116101_0 (iw (il 1) (by decide) (by decide)) nofun
                        refine g_goto C 184 (by decide) dX12_readNext_160 ?_
                        refine g_aload_n C rfl 2 rfl dX12_readNext_184 ?_
                        refine g_bipush C (by decide) dX12_readNext_185 ?_
                        have e646 : Tg h644 a0 = 12 := ((pIT hh643).trans e595)
                        have e647 : Iv h644 a0 7 = v442 := ((pI_n hh643 (ne_tag e595 t598 (by decide))).trans ((pI_n hh592 (ne_tag e444 t459 (by decide))).trans e443))
                        have e648 : Iv h644 a0 8 = v446 := ((pI_n hh643 (ne_tag e595 t598 (by decide))).trans ((pI_n hh592 (ne_tag e444 t459 (by decide))).trans e447))
                        have e649 : Iv h644 a0 28 = v7 := ((pI_n hh643 (ne_tag e595 t598 (by decide))).trans ((pI_n hh592 (ne_tag e444 t459 (by decide))).trans e449))
                        have p650 := (TK_fx O594 ((Fx.rf (wr := [23220200]) (h := h593)).pIa t598 ar_116101 hh643 rfl) e595 rfl (TK_fx O437 ((Fx.rf (wr := [23420200]) (h := h434)).pIa t459 ar_117101 hh592 rfl) e444 rfl p450))
                        have p651 := ((NT_fx O594 ((Fx.rf (wr := [23220200]) (h := h593)).pIa t598 ar_116101 hh643 rfl) e595 rfl).trans ((NT_fx O437 ((Fx.rf (wr := [23420200]) (h := h434)).pIa t459 ar_117101 hh592 rfl) e444 rfl).trans p454))
                        refine g_callV (st := []) (gc_V C lk_LandSurveyModel_380 (k_X12_takeSign l D cy w z0 O645 e646 (iw (il 59) (by decide) (by decide)) ⟨p650, by rw [e647, p651]; omega, by rw [e648, e647, p651]; omega, by rw [e649, e647]; omega⟩) e646 rfl rfl rfl ⟨by decide, by decide⟩ (Nat.le_of_ble_eq_true rfl) dX12_readNext_187 ⟨(by decide), (by decide)⟩) (fun h653 K654 => ?_)
                        obtain ⟨O656, F657, p658, p659, p660⟩ := K654
                        obtain ⟨v661, e662⟩ : ∃ z, Iv h653 a0 7 = z := ⟨_, rfl⟩
                        have e663 : Tg h653 a0 = 12 := (fxT F657 e646)
                        have f664 := ok_I O656 e663 rI_12_7 e662
                        obtain ⟨v665, e666⟩ : ∃ z, Iv h653 a0 8 = z := ⟨_, rfl⟩
                        have f667 := ok_I O656 e663 rI_12_8 e666
                        have e668 : Iv h653 a0 28 = v7 := ((fxI F657 e646 rfl).trans e649)
                        obtain ⟨p669, p670, p671, p672⟩ := p658
                        have p673 := ((NT_fx O645 F657 e646 rfl).trans p651)
                        rw [e662, p673] at p670
                        rw [e666, e662, p673] at p671
                        rw [e668, e662] at p672
                        have p674 := p659
                        unfold ST at p674
                        rw [e647, e662, e649, e668, e648, e666] at p674
                        rw [e666, e662, e647] at p660
                        have p675 := (MInv_fx O645 F657 e646 rfl (MInv_fx O594 ((Fx.rf (wr := [23220200]) (h := h593)).pIa t598 ar_116101 hh643 rfl) e595 rfl (MInv_fx O437 ((Fx.rf (wr := [23420200]) (h := h434)).pIa t459 ar_117101 hh592 rfl) e444 rfl (MInv_fx O427 F438 e428 rfl (MInv_fx O406 ((Fx.rf (wr := [2407]) (h := h403)).pI e422 hh425 rfl) e422 rfl (MInv_fx O377 F407 e396 rfl (MInv_fx O348 F378 e367 rfl (MInv_fx O265 F349 e338 rfl (MInv_fx O236 F266 e255 rfl (MInv_fx O147 F237 e226 rfl (MInv_fx O60 F148 e137 rfl (MInv_fx O21 F61 e50 rfl (MInv_fx O F22 ta0 rfl P_MInv)))))))))))))
                        have p676 := (DLf_mono O645 F657 e646 rfl p659.2.2 (DLf_fx O594 ((Fx.rf (wr := [23220200]) (h := h593)).pIa t598 ar_116101 hh643 rfl) e595 rfl (DLf_fx O437 ((Fx.rf (wr := [23420200]) (h := h434)).pIa t459 ar_117101 hh592 rfl) e444 rfl (DLf_mono O427 F438 e428 rfl p441.2.2 (DLf_fx O406 ((Fx.rf (wr := [2407]) (h := h403)).pI e422 hh425 rfl) e422 rfl (DLf_fx O377 F407 e396 rfl (DLf_fx O348 F378 e367 rfl (DLf_fx O265 F349 e338 rfl (DLf_fx O236 F266 e255 rfl (DLf_fx O147 F237 e226 rfl (DLf_fx O60 F148 e137 rfl (DLf_fx O21 F61 e50 rfl (DLf_fx O F22 ta0 rfl P_DLf)))))))))))))
                        exact g_vret C hr ⟨O656, ((((((((((((((Fx.rf (wr := wr_k_X12_readNext)).call F22 rfl).call F61 rfl).call F148 rfl).call F237 rfl).call F266 rfl).call F349 rfl).call F378 rfl).call F407 rfl).pI e422 hh425 rfl).call F438 rfl).pIa t459 ar_117101 hh592 rfl).pIa t598 ar_116101 hh643 rfl).call F657 rfl), ⟨p669, by rw [e662, p673]; omega, by rw [e666, e662, p673]; omega, by rw [e668, e662]; omega⟩, (by unfold ST; rw [e2, e662, e8, e668, e5, e666]; omega), p675, p676, (by rw [e666, e2, e662]; omega)⟩ (by decide) (by decide) dX12_readNext_190
                  · have f677 : (1 : Int) ≤ r402 ∧ r402 ≤ (1 : Int) := r_nl f408 q590
                    refine g_iconst C dX12_readNext_130 ?_
                    refine g_goto C 135 (by decide) dX12_readNext_131 ?_
                    refine g_zast C t459 rfl l460 (ix f456 (by decide) (by decide)) (iw (il 1) (by decide) (by decide)) dX12_readNext_135 (fun h679 hh678 => ?_)
                    have O680 := O437.pIa t459 ar_117101 hh678 rI_117101_0 (iw (il 1) (by decide) (by decide)) nofun
                    refine g_aload_n C rfl 2 rfl dX12_readNext_136 ?_
                    have e681 : Tg h679 a0 = 12 := ((pIT hh678).trans e444)
                    obtain ⟨v682, e683⟩ : ∃ z, Rv h679 a0 16 = z := ⟨_, rfl⟩
                    have t684 := ok_R O680 e681 rE_12_16 e683
                    have l685 := ok_L O680 e681 rE_12_16 e683
                    refine gf_R C fk_LandSurveyModel_112 rfl e681 e683 dX12_readNext_137 ?_
                    refine g_iload_n C rfl 0 rfl dX12_readNext_140 ?_
                    refine g_aload_n C rfl 2 rfl dX12_readNext_141 ?_
                    refine gf_R C fk_LandSurveyModel_112 rfl e681 e683 dX12_readNext_142 ?_
                    refine g_iload_n C rfl 0 rfl dX12_readNext_145 ?_
                    obtain ⟨v686, e687⟩ : ∃ z, Iv h679 v682 ((80 + r433).toNat) = z := ⟨_, rfl⟩
                    have f688 := ok_Ia O680 t684 ar_116101 rI_116101_0 e687
                    refine g_zald C t684 rfl l685 (ix f456 (by decide) (by decide)) e687 dX12_readNext_146 ?_
                    refine g_if_ne C (iw f688 (by decide) (by decide)) 154 (by decide) dX12_readNext_147 (fun q689 => ?_) (fun q690 => ?_)
                    · have f691 : (1 : Int) ≤ v686 ∧ v686 ≤ (1 : Int) := r_nl f688 q689
                      refine g_iconst C dX12_readNext_154 ?_
                      refine g_goto C 159 (by decide) dX12_readNext_155 ?_
                      refine g_zast C t684 rfl l685 (ix f456 (by decide) (by decide)) (iw (il 1) (by decide) (by decide)) dX12_readNext_159 (fun h693 hh692 => ?_)
                      have O694 := O680.pIa t684 ar_116101 hh692 rI_116101_0 (iw (il 1) (by decide) (by decide)) nofun
                      refine g_goto C 184 (by decide) dX12_readNext_160 ?_
                      refine g_aload_n C rfl 2 rfl dX12_readNext_184 ?_
                      refine g_bipush C (by decide) dX12_readNext_185 ?_
                      have e695 : Tg h693 a0 = 12 := ((pIT hh692).trans e681)
                      have e696 : Iv h693 a0 7 = v442 := ((pI_n hh692 (ne_tag e681 t684 (by decide))).trans ((pI_n hh678 (ne_tag e444 t459 (by decide))).trans e443))
                      have e697 : Iv h693 a0 8 = v446 := ((pI_n hh692 (ne_tag e681 t684 (by decide))).trans ((pI_n hh678 (ne_tag e444 t459 (by decide))).trans e447))
                      have e698 : Iv h693 a0 28 = v7 := ((pI_n hh692 (ne_tag e681 t684 (by decide))).trans ((pI_n hh678 (ne_tag e444 t459 (by decide))).trans e449))
                      have p699 := (TK_fx O680 ((Fx.rf (wr := [23220200]) (h := h679)).pIa t684 ar_116101 hh692 rfl) e681 rfl (TK_fx O437 ((Fx.rf (wr := [23420200]) (h := h434)).pIa t459 ar_117101 hh678 rfl) e444 rfl p450))
                      have p700 := ((NT_fx O680 ((Fx.rf (wr := [23220200]) (h := h679)).pIa t684 ar_116101 hh692 rfl) e681 rfl).trans ((NT_fx O437 ((Fx.rf (wr := [23420200]) (h := h434)).pIa t459 ar_117101 hh678 rfl) e444 rfl).trans p454))
                      refine g_callV (st := []) (gc_V C lk_LandSurveyModel_380 (k_X12_takeSign l D cy w z0 O694 e695 (iw (il 59) (by decide) (by decide)) ⟨p699, by rw [e696, p700]; omega, by rw [e697, e696, p700]; omega, by rw [e698, e696]; omega⟩) e695 rfl rfl rfl ⟨by decide, by decide⟩ (Nat.le_of_ble_eq_true rfl) dX12_readNext_187 ⟨(by decide), (by decide)⟩) (fun h702 K703 => ?_)
                      obtain ⟨O705, F706, p707, p708, p709⟩ := K703
                      obtain ⟨v710, e711⟩ : ∃ z, Iv h702 a0 7 = z := ⟨_, rfl⟩
                      have e712 : Tg h702 a0 = 12 := (fxT F706 e695)
                      have f713 := ok_I O705 e712 rI_12_7 e711
                      obtain ⟨v714, e715⟩ : ∃ z, Iv h702 a0 8 = z := ⟨_, rfl⟩
                      have f716 := ok_I O705 e712 rI_12_8 e715
                      have e717 : Iv h702 a0 28 = v7 := ((fxI F706 e695 rfl).trans e698)
                      obtain ⟨p718, p719, p720, p721⟩ := p707
                      have p722 := ((NT_fx O694 F706 e695 rfl).trans p700)
                      rw [e711, p722] at p719
                      rw [e715, e711, p722] at p720
                      rw [e717, e711] at p721
                      have p723 := p708
                      unfold ST at p723
                      rw [e696, e711, e698, e717, e697, e715] at p723
                      rw [e715, e711, e696] at p709
                      have p724 := (MInv_fx O694 F706 e695 rfl (MInv_fx O680 ((Fx.rf (wr := [23220200]) (h := h679)).pIa t684 ar_116101 hh692 rfl) e681 rfl (MInv_fx O437 ((Fx.rf (wr := [23420200]) (h := h434)).pIa t459 ar_117101 hh678 rfl) e444 rfl (MInv_fx O427 F438 e428 rfl (MInv_fx O406 ((Fx.rf (wr := [2407]) (h := h403)).pI e422 hh425 rfl) e422 rfl (MInv_fx O377 F407 e396 rfl (MInv_fx O348 F378 e367 rfl (MInv_fx O265 F349 e338 rfl (MInv_fx O236 F266 e255 rfl (MInv_fx O147 F237 e226 rfl (MInv_fx O60 F148 e137 rfl (MInv_fx O21 F61 e50 rfl (MInv_fx O F22 ta0 rfl P_MInv)))))))))))))
                      have p725 := (DLf_mono O694 F706 e695 rfl p708.2.2 (DLf_fx O680 ((Fx.rf (wr := [23220200]) (h := h679)).pIa t684 ar_116101 hh692 rfl) e681 rfl (DLf_fx O437 ((Fx.rf (wr := [23420200]) (h := h434)).pIa t459 ar_117101 hh678 rfl) e444 rfl (DLf_mono O427 F438 e428 rfl p441.2.2 (DLf_fx O406 ((Fx.rf (wr := [2407]) (h := h403)).pI e422 hh425 rfl) e422 rfl (DLf_fx O377 F407 e396 rfl (DLf_fx O348 F378 e367 rfl (DLf_fx O265 F349 e338 rfl (DLf_fx O236 F266 e255 rfl (DLf_fx O147 F237 e226 rfl (DLf_fx O60 F148 e137 rfl (DLf_fx O21 F61 e50 rfl (DLf_fx O F22 ta0 rfl P_DLf)))))))))))))
                      exact g_vret C hr ⟨O705, ((((((((((((((Fx.rf (wr := wr_k_X12_readNext)).call F22 rfl).call F61 rfl).call F148 rfl).call F237 rfl).call F266 rfl).call F349 rfl).call F378 rfl).call F407 rfl).pI e422 hh425 rfl).call F438 rfl).pIa t459 ar_117101 hh678 rfl).pIa t684 ar_116101 hh692 rfl).call F706 rfl), ⟨p718, by rw [e711, p722]; omega, by rw [e715, e711, p722]; omega, by rw [e717, e711]; omega⟩, (by unfold ST; rw [e2, e711, e8, e717, e5, e715]; omega), p724, p725, (by rw [e715, e2, e711]; omega)⟩ (by decide) (by decide) dX12_readNext_190
                    · have f726 : (0 : Int) ≤ v686 ∧ v686 ≤ (0 : Int) := ii f688 (r_eq (il 0) q690) (by decide) (by decide)
                      refine g_iload_n C rfl 1 rfl dX12_readNext_150 ?_
                      refine g_if_ne C (iw f677 (by decide) (by decide)) 158 (by decide) dX12_readNext_151 (fun q727 => ?_) (fun q728 => ?_)
                      · refine g_iconst C dX12_readNext_158 ?_
                        refine g_zast C t684 rfl l685 (ix f456 (by decide) (by decide)) (iw (il 0) (by decide) (by decide)) dX12_readNext_159 (fun h730 hh729 => ?_)
                        have O731 := O680.pIa t684 ar_116101 hh729 rI_116101_0 (iw (il 0) (by decide) (by decide)) nofun
                        refine g_goto C 184 (by decide) dX12_readNext_160 ?_
                        refine g_aload_n C rfl 2 rfl dX12_readNext_184 ?_
                        refine g_bipush C (by decide) dX12_readNext_185 ?_
                        have e732 : Tg h730 a0 = 12 := ((pIT hh729).trans e681)
                        have e733 : Iv h730 a0 7 = v442 := ((pI_n hh729 (ne_tag e681 t684 (by decide))).trans ((pI_n hh678 (ne_tag e444 t459 (by decide))).trans e443))
                        have e734 : Iv h730 a0 8 = v446 := ((pI_n hh729 (ne_tag e681 t684 (by decide))).trans ((pI_n hh678 (ne_tag e444 t459 (by decide))).trans e447))
                        have e735 : Iv h730 a0 28 = v7 := ((pI_n hh729 (ne_tag e681 t684 (by decide))).trans ((pI_n hh678 (ne_tag e444 t459 (by decide))).trans e449))
                        have p736 := (TK_fx O680 ((Fx.rf (wr := [23220200]) (h := h679)).pIa t684 ar_116101 hh729 rfl) e681 rfl (TK_fx O437 ((Fx.rf (wr := [23420200]) (h := h434)).pIa t459 ar_117101 hh678 rfl) e444 rfl p450))
                        have p737 := ((NT_fx O680 ((Fx.rf (wr := [23220200]) (h := h679)).pIa t684 ar_116101 hh729 rfl) e681 rfl).trans ((NT_fx O437 ((Fx.rf (wr := [23420200]) (h := h434)).pIa t459 ar_117101 hh678 rfl) e444 rfl).trans p454))
                        refine g_callV (st := []) (gc_V C lk_LandSurveyModel_380 (k_X12_takeSign l D cy w z0 O731 e732 (iw (il 59) (by decide) (by decide)) ⟨p736, by rw [e733, p737]; omega, by rw [e734, e733, p737]; omega, by rw [e735, e733]; omega⟩) e732 rfl rfl rfl ⟨by decide, by decide⟩ (Nat.le_of_ble_eq_true rfl) dX12_readNext_187 ⟨(by decide), (by decide)⟩) (fun h739 K740 => ?_)
                        obtain ⟨O742, F743, p744, p745, p746⟩ := K740
                        obtain ⟨v747, e748⟩ : ∃ z, Iv h739 a0 7 = z := ⟨_, rfl⟩
                        have e749 : Tg h739 a0 = 12 := (fxT F743 e732)
                        have f750 := ok_I O742 e749 rI_12_7 e748
                        obtain ⟨v751, e752⟩ : ∃ z, Iv h739 a0 8 = z := ⟨_, rfl⟩
                        have f753 := ok_I O742 e749 rI_12_8 e752
                        have e754 : Iv h739 a0 28 = v7 := ((fxI F743 e732 rfl).trans e735)
                        obtain ⟨p755, p756, p757, p758⟩ := p744
                        have p759 := ((NT_fx O731 F743 e732 rfl).trans p737)
                        rw [e748, p759] at p756
                        rw [e752, e748, p759] at p757
                        rw [e754, e748] at p758
                        have p760 := p745
                        unfold ST at p760
                        rw [e733, e748, e735, e754, e734, e752] at p760
                        rw [e752, e748, e733] at p746
                        have p761 := (MInv_fx O731 F743 e732 rfl (MInv_fx O680 ((Fx.rf (wr := [23220200]) (h := h679)).pIa t684 ar_116101 hh729 rfl) e681 rfl (MInv_fx O437 ((Fx.rf (wr := [23420200]) (h := h434)).pIa t459 ar_117101 hh678 rfl) e444 rfl (MInv_fx O427 F438 e428 rfl (MInv_fx O406 ((Fx.rf (wr := [2407]) (h := h403)).pI e422 hh425 rfl) e422 rfl (MInv_fx O377 F407 e396 rfl (MInv_fx O348 F378 e367 rfl (MInv_fx O265 F349 e338 rfl (MInv_fx O236 F266 e255 rfl (MInv_fx O147 F237 e226 rfl (MInv_fx O60 F148 e137 rfl (MInv_fx O21 F61 e50 rfl (MInv_fx O F22 ta0 rfl P_MInv)))))))))))))
                        have p762 := (DLf_mono O731 F743 e732 rfl p745.2.2 (DLf_fx O680 ((Fx.rf (wr := [23220200]) (h := h679)).pIa t684 ar_116101 hh729 rfl) e681 rfl (DLf_fx O437 ((Fx.rf (wr := [23420200]) (h := h434)).pIa t459 ar_117101 hh678 rfl) e444 rfl (DLf_mono O427 F438 e428 rfl p441.2.2 (DLf_fx O406 ((Fx.rf (wr := [2407]) (h := h403)).pI e422 hh425 rfl) e422 rfl (DLf_fx O377 F407 e396 rfl (DLf_fx O348 F378 e367 rfl (DLf_fx O265 F349 e338 rfl (DLf_fx O236 F266 e255 rfl (DLf_fx O147 F237 e226 rfl (DLf_fx O60 F148 e137 rfl (DLf_fx O21 F61 e50 rfl (DLf_fx O F22 ta0 rfl P_DLf)))))))))))))
                        exact g_vret C hr ⟨O742, ((((((((((((((Fx.rf (wr := wr_k_X12_readNext)).call F22 rfl).call F61 rfl).call F148 rfl).call F237 rfl).call F266 rfl).call F349 rfl).call F378 rfl).call F407 rfl).pI e422 hh425 rfl).call F438 rfl).pIa t459 ar_117101 hh678 rfl).pIa t684 ar_116101 hh729 rfl).call F743 rfl), ⟨p755, by rw [e748, p759]; omega, by rw [e752, e748, p759]; omega, by rw [e754, e748]; omega⟩, (by unfold ST; rw [e2, e748, e8, e754, e5, e752]; omega), p761, p762, (by rw [e752, e2, e748]; omega)⟩ (by decide) (by decide) dX12_readNext_190
                      · exact (no_eq f677 (il 0) q728 (by decide)).elim
              · have f763 : (0 : Int) ≤ r373 ∧ r373 ≤ (0 : Int) := ii f379 (r_eq (il 0) q394) (by decide) (by decide)
                refine g_aload_n C rfl 0 rfl dX12_readNext_78 ?_
                refine g_bipush C (by decide) dX12_readNext_79 ?_
                have e764 : Tg h374 a0 = 12 := (fxT F378 e367)
                have e765 : Iv h374 a0 7 = v1 := ((fxI F378 e367 rfl).trans e368)
                have e766 : Iv h374 a0 8 = v4 := ((fxI F378 e367 rfl).trans e369)
                have e767 : Iv h374 a0 28 = v7 := ((fxI F378 e367 rfl).trans e370)
                have p768 := (TK_fx O348 F378 e367 rfl p371)
                have p769 := ((NT_fx O348 F378 e367 rfl).trans p372)
                refine g_callI (st := []) (gc_V C lk_LandSurveyModel_330 (k_X12_isWord l D cy w z0 O377 e764 (iw (il 7) (by decide) (by decide)) ⟨p768, by rw [e765, p769]; omega, by rw [e766, e765, p769]; omega, by rw [e767, e765]; omega⟩) e764 rfl rfl rfl ⟨by decide, by decide⟩ (Nat.le_of_ble_eq_true rfl) dX12_readNext_81 ⟨(by decide), (by decide)⟩) (fun r770 h771 f773 K772 => ?_)
                obtain ⟨O774, F775, f776, p777, p778⟩ := K772
                rw [e766, e765, p769] at p777
                have e779 : Rv h374 a0 4 = v26 := ((fxR F378 e367 rfl).trans e382)
                have e780 : Tg h345 v26 = 104100 := (fxT F349 e383)
                have e781 : Iv h374 v26 v1.toNat = v30 := ((fxIa F378 e780 ar_104100 rfl).trans e384)
                have e782 : Rv h374 a0 6 = v33 := ((fxR F378 e367 rfl).trans e385)
                have e783 : Tg h345 v33 = 106102 := (fxT F349 e386)
                have e784 : Jv h374 v33 v1.toNat = v37 := ((fxJa F378 e783 ar_106102 rfl).trans e387)
                have e785 : Rv h374 a0 9 = v40 := ((fxR F378 e367 rfl).trans e388)
                obtain ⟨v786, e787⟩ : ∃ z, Jv h374 v40 ((7 : Int).toNat) = z := ⟨_, rfl⟩
                have e788 : Tg h374 v40 = 109102 := (fxT F378 e391)
                have f789 := inL_J O377 e787
                rw [e766, e779, e765, e781, e782, e784, e785, e787] at p778
                refine g_if_eq C (iw f776 (by decide) (by decide)) 163 (by decide) dX12_readNext_84 (fun q790 => ?_) (fun q791 => ?_)
                · have f792 : (0 : Int) ≤ r770 ∧ r770 ≤ (0 : Int) := ii f776 (r_eq (il 0) q790) (by decide) (by decide)
                  refine g_aload_n C rfl 0 rfl dX12_readNext_163 ?_
                  refine g_bipush C (by decide) dX12_readNext_164 ?_
                  have e793 : Tg h771 a0 = 12 := (fxT F775 e764)
                  have e794 : Iv h771 a0 7 = v1 := ((fxI F775 e764 rfl).trans e765)
                  have e795 : Iv h771 a0 8 = v4 := ((fxI F775 e764 rfl).trans e766)
                  have e796 : Iv h771 a0 28 = v7 := ((fxI F775 e764 rfl).trans e767)
                  have p797 := (TK_fx O377 F775 e764 rfl p768)
                  have p798 := ((NT_fx O377 F775 e764 rfl).trans p769)
                  refine g_callI (st := []) (gc_V C lk_LandSurveyModel_330 (k_X12_isWord l D cy w z0 O774 e793 (iw (il 8) (by decide) (by decide)) ⟨p797, by rw [e794, p798]; omega, by rw [e795, e794, p798]; omega, by rw [e796, e794]; omega⟩) e793 rfl rfl rfl ⟨by decide, by decide⟩ (Nat.le_of_ble_eq_true rfl) dX12_readNext_166 ⟨(by decide), (by decide)⟩) (fun r799 h800 f802 K801 => ?_)
                  obtain ⟨O803, F804, f805, p806, p807⟩ := K801
                  rw [e795, e794, p798] at p806
                  have e808 : Rv h771 a0 4 = v26 := ((fxR F775 e764 rfl).trans e779)
                  have e809 : Tg h374 v26 = 104100 := (fxT F378 e780)
                  have e810 : Iv h771 v26 v1.toNat = v30 := ((fxIa F775 e809 ar_104100 rfl).trans e781)
                  have e811 : Rv h771 a0 6 = v33 := ((fxR F775 e764 rfl).trans e782)
                  have e812 : Tg h374 v33 = 106102 := (fxT F378 e783)
                  have e813 : Jv h771 v33 v1.toNat = v37 := ((fxJa F775 e812 ar_106102 rfl).trans e784)
                  have e814 : Rv h771 a0 9 = v40 := ((fxR F775 e764 rfl).trans e785)
                  obtain ⟨v815, e816⟩ : ∃ z, Jv h771 v40 ((8 : Int).toNat) = z := ⟨_, rfl⟩
                  have e817 : Tg h771 v40 = 109102 := (fxT F775 e788)
                  have f818 := inL_J O774 e816
                  rw [e795, e808, e794, e810, e811, e813, e814, e816] at p807
                  refine g_if_eq C (iw f805 (by decide) (by decide)) 179 (by decide) dX12_readNext_169 (fun q819 => ?_) (fun q820 => ?_)
                  · have f821 : (0 : Int) ≤ r799 ∧ r799 ≤ (0 : Int) := ii f805 (r_eq (il 0) q819) (by decide) (by decide)
                    refine g_aload_n C rfl 0 rfl dX12_readNext_179 ?_
                    refine g_iconst C dX12_readNext_180 ?_
                    have e822 : Tg h800 a0 = 12 := (fxT F804 e793)
                    refine g_callV (st := []) (gc_V C lk_LandSurveyModel_326 (k_X12_wrong l D cy w z0 O803 e822 (iw (il 1) (by decide) (by decide))) e822 rfl rfl rfl ⟨by decide, by decide⟩ (Nat.le_of_ble_eq_true rfl) dX12_readNext_181 ⟨(by decide), (by decide)⟩) (fun h824 K825 => ?_)
                    obtain ⟨O827, F828, p829⟩ := K825
                    obtain ⟨v830, e831⟩ : ∃ z, Iv h824 a0 8 = z := ⟨_, rfl⟩
                    have e832 : Tg h824 a0 = 12 := (fxT F828 e822)
                    have f833 := ok_I O827 e832 rI_12_8 e831
                    rw [e831] at p829
                    have f834 : (1 : Int) ≤ v830 ∧ v830 ≤ (24005 : Int) := by omega
                    refine g_aload_n C rfl 0 rfl dX12_readNext_184 ?_
                    refine g_bipush C (by decide) dX12_readNext_185 ?_
                    have e835 : Iv h824 a0 7 = v1 := ((fxI F828 e822 rfl).trans ((fxI F804 e793 rfl).trans e794))
                    have e836 : Iv h824 a0 28 = v7 := ((fxI F828 e822 rfl).trans ((fxI F804 e793 rfl).trans e796))
                    have p837 := (TK_fx O803 F828 e822 rfl (TK_fx O774 F804 e793 rfl p797))
                    have p838 := ((NT_fx O803 F828 e822 rfl).trans ((NT_fx O774 F804 e793 rfl).trans p798))
                    refine g_callV (st := []) (gc_V C lk_LandSurveyModel_380 (k_X12_takeSign l D cy w z0 O827 e832 (iw (il 59) (by decide) (by decide)) ⟨p837, by rw [e835, p838]; omega, by rw [e831, e835, p838]; omega, by rw [e836, e835]; omega⟩) e832 rfl rfl rfl ⟨by decide, by decide⟩ (Nat.le_of_ble_eq_true rfl) dX12_readNext_187 ⟨(by decide), (by decide)⟩) (fun h840 K841 => ?_)
                    obtain ⟨O843, F844, p845, p846, p847⟩ := K841
                    obtain ⟨v848, e849⟩ : ∃ z, Iv h840 a0 7 = z := ⟨_, rfl⟩
                    have e850 : Tg h840 a0 = 12 := (fxT F844 e832)
                    have f851 := ok_I O843 e850 rI_12_7 e849
                    obtain ⟨v852, e853⟩ : ∃ z, Iv h840 a0 8 = z := ⟨_, rfl⟩
                    have f854 := ok_I O843 e850 rI_12_8 e853
                    have e855 : Iv h840 a0 28 = v7 := ((fxI F844 e832 rfl).trans e836)
                    obtain ⟨p856, p857, p858, p859⟩ := p845
                    have p860 := ((NT_fx O827 F844 e832 rfl).trans p838)
                    rw [e849, p860] at p857
                    rw [e853, e849, p860] at p858
                    rw [e855, e849] at p859
                    have p861 := p846
                    unfold ST at p861
                    rw [e835, e849, e836, e855, e831, e853] at p861
                    rw [e853, e849, e835] at p847
                    have p862 := (MInv_fx O827 F844 e832 rfl (MInv_fx O803 F828 e822 rfl (MInv_fx O774 F804 e793 rfl (MInv_fx O377 F775 e764 rfl (MInv_fx O348 F378 e367 rfl (MInv_fx O265 F349 e338 rfl (MInv_fx O236 F266 e255 rfl (MInv_fx O147 F237 e226 rfl (MInv_fx O60 F148 e137 rfl (MInv_fx O21 F61 e50 rfl (MInv_fx O F22 ta0 rfl P_MInv)))))))))))
                    exact g_vret C hr ⟨O843, ((((((((((((Fx.rf (wr := wr_k_X12_readNext)).call F22 rfl).call F61 rfl).call F148 rfl).call F237 rfl).call F266 rfl).call F349 rfl).call F378 rfl).call F775 rfl).call F804 rfl).call F828 rfl).call F844 rfl), ⟨p856, by rw [e849, p860]; omega, by rw [e853, e849, p860]; omega, by rw [e855, e849]; omega⟩, (by unfold ST; rw [e2, e849, e8, e855, e5, e853]; omega), p862, (fun z => by rw [e853] at z; omega), (by rw [e853, e2, e849]; omega)⟩ (by decide) (by decide) dX12_readNext_190
                  · have f863 : (1 : Int) ≤ r799 ∧ r799 ≤ (1 : Int) := r_nl f805 q820
                    refine g_aload_n C rfl 0 rfl dX12_readNext_172 ?_
                    have e864 : Tg h800 a0 = 12 := (fxT F804 e793)
                    have e865 : Iv h800 a0 7 = v1 := ((fxI F804 e793 rfl).trans e794)
                    have e866 : Iv h800 a0 8 = v4 := ((fxI F804 e793 rfl).trans e795)
                    have e867 : Iv h800 a0 28 = v7 := ((fxI F804 e793 rfl).trans e796)
                    have p868 := (TK_fx O774 F804 e793 rfl p797)
                    have p869 := ((NT_fx O774 F804 e793 rfl).trans p798)
                    refine g_callV (st := []) (gc_V C lk_LandSurveyModel_377 (k_X12_readRemain l D cy w z0 O803 e864 ⟨p868, by rw [e865, p869]; omega, by rw [e866, e865, p869]; omega, by rw [e867, e865]; omega⟩ (by rw [e866, e865, p869]; omega)) e864 rfl rfl rfl ⟨by decide, by decide⟩ (Nat.le_of_ble_eq_true rfl) dX12_readNext_173 ⟨(by decide), (by decide)⟩) (fun h871 K872 => ?_)
                    obtain ⟨O874, F875, p876, p877⟩ := K872
                    obtain ⟨v878, e879⟩ : ∃ z, Iv h871 a0 7 = z := ⟨_, rfl⟩
                    have e880 : Tg h871 a0 = 12 := (fxT F875 e864)
                    have f881 := ok_I O874 e880 rI_12_7 e879
                    obtain ⟨v882, e883⟩ : ∃ z, Iv h871 a0 8 = z := ⟨_, rfl⟩
                    have f884 := ok_I O874 e880 rI_12_8 e883
                    have e885 : Iv h871 a0 28 = v7 := ((fxI F875 e864 rfl).trans e867)
                    obtain ⟨p886, p887, p888, p889⟩ := p876
                    have p890 := ((NT_fx O803 F875 e864 rfl).trans p869)
                    rw [e879, p890] at p887
                    rw [e883, e879, p890] at p888
                    rw [e885, e879] at p889
                    have p891 := p877
                    unfold ST at p891
                    rw [e865, e879, e867, e885, e866, e883] at p891
                    refine g_goto C 184 (by decide) dX12_readNext_176 ?_
                    refine g_aload_n C rfl 0 rfl dX12_readNext_184 ?_
                    refine g_bipush C (by decide) dX12_readNext_185 ?_
                    refine g_callV (st := []) (gc_V C lk_LandSurveyModel_380 (k_X12_takeSign l D cy w z0 O874 e880 (iw (il 59) (by decide) (by decide)) ⟨p886, by rw [e879, p890]; omega, by rw [e883, e879, p890]; omega, by rw [e885, e879]; omega⟩) e880 rfl rfl rfl ⟨by decide, by decide⟩ (Nat.le_of_ble_eq_true rfl) dX12_readNext_187 ⟨(by decide), (by decide)⟩) (fun h893 K894 => ?_)
                    obtain ⟨O896, F897, p898, p899, p900⟩ := K894
                    obtain ⟨v901, e902⟩ : ∃ z, Iv h893 a0 7 = z := ⟨_, rfl⟩
                    have e903 : Tg h893 a0 = 12 := (fxT F897 e880)
                    have f904 := ok_I O896 e903 rI_12_7 e902
                    obtain ⟨v905, e906⟩ : ∃ z, Iv h893 a0 8 = z := ⟨_, rfl⟩
                    have f907 := ok_I O896 e903 rI_12_8 e906
                    have e908 : Iv h893 a0 28 = v7 := ((fxI F897 e880 rfl).trans e885)
                    obtain ⟨p909, p910, p911, p912⟩ := p898
                    have p913 := ((NT_fx O874 F897 e880 rfl).trans p890)
                    rw [e902, p913] at p910
                    rw [e906, e902, p913] at p911
                    rw [e908, e902] at p912
                    have p914 := p899
                    unfold ST at p914
                    rw [e879, e902, e885, e908, e883, e906] at p914
                    rw [e906, e902, e879] at p900
                    have p915 := (MInv_fx O874 F897 e880 rfl (MInv_fx O803 F875 e864 rfl (MInv_fx O774 F804 e793 rfl (MInv_fx O377 F775 e764 rfl (MInv_fx O348 F378 e367 rfl (MInv_fx O265 F349 e338 rfl (MInv_fx O236 F266 e255 rfl (MInv_fx O147 F237 e226 rfl (MInv_fx O60 F148 e137 rfl (MInv_fx O21 F61 e50 rfl (MInv_fx O F22 ta0 rfl P_MInv)))))))))))
                    have p916 := (DLf_mono O874 F897 e880 rfl p899.2.2 (DLf_mono O803 F875 e864 rfl p877.2.2 (DLf_fx O774 F804 e793 rfl (DLf_fx O377 F775 e764 rfl (DLf_fx O348 F378 e367 rfl (DLf_fx O265 F349 e338 rfl (DLf_fx O236 F266 e255 rfl (DLf_fx O147 F237 e226 rfl (DLf_fx O60 F148 e137 rfl (DLf_fx O21 F61 e50 rfl (DLf_fx O F22 ta0 rfl P_DLf)))))))))))
                    exact g_vret C hr ⟨O896, ((((((((((((Fx.rf (wr := wr_k_X12_readNext)).call F22 rfl).call F61 rfl).call F148 rfl).call F237 rfl).call F266 rfl).call F349 rfl).call F378 rfl).call F775 rfl).call F804 rfl).call F875 rfl).call F897 rfl), ⟨p909, by rw [e902, p913]; omega, by rw [e906, e902, p913]; omega, by rw [e908, e902]; omega⟩, (by unfold ST; rw [e2, e902, e8, e908, e5, e906]; omega), p915, p916, (by rw [e906, e2, e902]; omega)⟩ (by decide) (by decide) dX12_readNext_190
                · have f917 : (1 : Int) ≤ r770 ∧ r770 ≤ (1 : Int) := r_nl f776 q791
                  refine g_aload_n C rfl 0 rfl dX12_readNext_87 ?_
                  refine g_bipush C (by decide) dX12_readNext_88 ?_
                  have e918 : Tg h771 a0 = 12 := (fxT F775 e764)
                  have e919 : Iv h771 a0 7 = v1 := ((fxI F775 e764 rfl).trans e765)
                  have e920 : Iv h771 a0 8 = v4 := ((fxI F775 e764 rfl).trans e766)
                  have e921 : Iv h771 a0 28 = v7 := ((fxI F775 e764 rfl).trans e767)
                  have p922 := (TK_fx O377 F775 e764 rfl p768)
                  have p923 := ((NT_fx O377 F775 e764 rfl).trans p769)
                  refine g_callI (st := []) (gc_V C lk_LandSurveyModel_330 (k_X12_isWord l D cy w z0 O774 e918 (iw (il 7) (by decide) (by decide)) ⟨p922, by rw [e919, p923]; omega, by rw [e920, e919, p923]; omega, by rw [e921, e919]; omega⟩) e918 rfl rfl rfl ⟨by decide, by decide⟩ (Nat.le_of_ble_eq_true rfl) dX12_readNext_90 ⟨(by decide), (by decide)⟩) (fun r924 h925 f927 K926 => ?_)
                  obtain ⟨O928, F929, f930, p931, p932⟩ := K926
                  rw [e920, e919, p923] at p931
                  have e933 : Rv h771 a0 4 = v26 := ((fxR F775 e764 rfl).trans e779)
                  have e934 : Tg h374 v26 = 104100 := (fxT F378 e780)
                  have e935 : Iv h771 v26 v1.toNat = v30 := ((fxIa F775 e934 ar_104100 rfl).trans e781)
                  have e936 : Rv h771 a0 6 = v33 := ((fxR F775 e764 rfl).trans e782)
                  have e937 : Tg h374 v33 = 106102 := (fxT F378 e783)
                  have e938 : Jv h771 v33 v1.toNat = v37 := ((fxJa F775 e937 ar_106102 rfl).trans e784)
                  have e939 : Rv h771 a0 9 = v40 := ((fxR F775 e764 rfl).trans e785)
                  have e940 : Jv h771 v40 ((7 : Int).toNat) = v786 := ((fxJa F775 e788 ar_109102 rfl).trans e787)
                  rw [e920, e933, e919, e935, e936, e938, e939, e940] at p932
                  refine g_istore_n C [(1, .inl r924), (0, .inr (.inr a0))] rfl (by decide) rfl dX12_readNext_93 ?_
                  refine g_aload_n C rfl 1 rfl dX12_readNext_94 ?_
                  refine g_dup C rfl dX12_readNext_95 ?_
                  have e941 : Tg h925 a0 = 12 := (fxT F929 e918)
                  have e942 : Iv h925 a0 7 = v1 := ((fxI F929 e918 rfl).trans e919)
                  refine gf_I C fk_LandSurveyModel_317 rfl e941 e942 dX12_readNext_96 ?_
                  refine g_iconst C dX12_readNext_99 ?_
                  have f943 : (1 : Int) ≤ (v1 + 1) ∧ (v1 + 1) ≤ (1502 : Int) := ia_add f3 (il 1) (by decide) (by decide)
                  refine g_iadd C dX12_readNext_100 ?_
                  refine gp_I C fk_LandSurveyModel_317 pk_LandSurveyModel_7 rfl e941 (iw f943 (by decide) (by decide)) (nf_i _) dX12_readNext_101 (fun h945 hh944 => ?_)
                  have O946 := O928.pI e941 hh944 rI_12_7 (by omega) nofun
                  refine g_bipush C (by decide) dX12_readNext_104 ?_
                  refine g_aload_n C rfl 1 rfl dX12_readNext_106 ?_
                  have e947 : Tg h945 a0 = 12 := ((pIT hh944).trans e941)
                  have e948 : Iv h945 a0 8 = v4 := ((pI_j hh944 (by decide)).trans ((fxI F929 e918 rfl).trans e920))
                  have e949 : Iv h945 a0 28 = v7 := ((pI_j hh944 (by decide)).trans ((fxI F929 e918 rfl).trans e921))
                  have p950 := (TK_fx O928 ((Fx.rf (wr := [2407]) (h := h925)).pI e941 hh944 rfl) e941 rfl (TK_fx O774 F929 e918 rfl p922))
                  have p951 := ((NT_fx O928 ((Fx.rf (wr := [2407]) (h := h925)).pI e941 hh944 rfl) e941 rfl).trans ((NT_fx O774 F929 e918 rfl).trans p923))
                  refine g_callI (st := [.inl 80]) (gc_V C lk_LandSurveyModel_374 (k_X12_takeRock l D cy w z0 O946 e947 ⟨p950, by rw [(pI_e hh944), p951]; omega, by rw [e948, (pI_e hh944), p951]; omega, by rw [e949, (pI_e hh944)]; omega⟩) e947 rfl rfl rfl ⟨by decide, by decide⟩ (Nat.le_of_ble_eq_true rfl) dX12_readNext_107 ⟨(by decide), (by decide)⟩) (fun r952 h953 f955 K954 => ?_)
                  obtain ⟨O956, F957, f958, p959, p960⟩ := K954
                  obtain ⟨v961, e962⟩ : ∃ z, Iv h953 a0 7 = z := ⟨_, rfl⟩
                  have e963 : Tg h953 a0 = 12 := (fxT F957 e947)
                  have f964 := ok_I O956 e963 rI_12_7 e962
                  obtain ⟨v965, e966⟩ : ∃ z, Iv h953 a0 8 = z := ⟨_, rfl⟩
                  have f967 := ok_I O956 e963 rI_12_8 e966
                  have e968 : Iv h953 a0 28 = v7 := ((fxI F957 e947 rfl).trans e949)
                  obtain ⟨p969, p970, p971, p972⟩ := p959
                  have p973 := ((NT_fx O946 F957 e947 rfl).trans p951)
                  rw [e962, p973] at p970
                  rw [e966, e962, p973] at p971
                  rw [e968, e962] at p972
                  have p974 := p960
                  unfold ST at p974
                  rw [(pI_e hh944), e962, e949, e968, e948, e966] at p974
                  have f975 : (80 : Int) ≤ (80 + r952) ∧ (80 + r952) ≤ (89 : Int) := ia_add (il 80) f958 (by decide) (by decide)
                  refine g_iadd C dX12_readNext_110 ?_
                  refine g_istore_n C [(2, .inl (80 + r952)), (1, .inl r924), (0, .inr (.inr a0))] rfl (by decide) rfl dX12_readNext_111 ?_
                  refine g_aload_n C rfl 2 rfl dX12_readNext_112 ?_
                  obtain ⟨v976, e977⟩ : ∃ z, Rv h953 a0 17 = z := ⟨_, rfl⟩
                  have t978 := ok_R O956 e963 rE_12_17 e977
                  have l979 := ok_L O956 e963 rE_12_17 e977
                  refine gf_R C fk_LandSurveyModel_116 rfl e963 e977 dX12_readNext_113 ?_
                  refine g_iload_n C rfl 0 rfl dX12_readNext_116 ?_
                  refine g_aload_n C rfl 2 rfl dX12_readNext_117 ?_
                  refine gf_R C fk_LandSurveyModel_116 rfl e963 e977 dX12_readNext_118 ?_
                  refine g_iload_n C rfl 0 rfl dX12_readNext_121 ?_
                  obtain ⟨v980, e981⟩ : ∃ z, Iv h953 v976 ((80 + r952).toNat) = z := ⟨_, rfl⟩
                  have f982 := ok_Ia O956 t978 ar_117101 rI_117101_0 e981
                  refine g_zald C t978 rfl l979 (ix f975 (by decide) (by decide)) e981 dX12_readNext_122 ?_
                  refine g_if_ne C (iw f982 (by decide) (by decide)) 130 (by decide) dX12_readNext_123 (fun q983 => ?_) (fun q984 => ?_)
                  · have f985 : (1 : Int) ≤ v980 ∧ v980 ≤ (1 : Int) := r_nl f982 q983
                    refine g_iconst C dX12_readNext_130 ?_
                    refine g_goto C 135 (by decide) dX12_readNext_131 ?_
                    refine g_zast C t978 rfl l979 (ix f975 (by decide) (by decide)) (iw (il 1) (by decide) (by decide)) dX12_readNext_135 (fun h987 hh986 => ?_)
                    have O988 := O956.pIa t978 ar_117101 hh986 rI_117101_0 (iw (il 1) (by decide) (by decide)) nofun
                    refine g_aload_n C rfl 2 rfl dX12_readNext_136 ?_
                    have e989 : Tg h987 a0 = 12 := ((pIT hh986).trans e963)
                    obtain ⟨v990, e991⟩ : ∃ z, Rv h987 a0 16 = z := ⟨_, rfl⟩
                    have t992 := ok_R O988 e989 rE_12_16 e991
                    have l993 := ok_L O988 e989 rE_12_16 e991
                    refine gf_R C fk_LandSurveyModel_112 rfl e989 e991 dX12_readNext_137 ?_
                    refine g_iload_n C rfl 0 rfl dX12_readNext_140 ?_
                    refine g_aload_n C rfl 2 rfl dX12_readNext_141 ?_
                    refine gf_R C fk_LandSurveyModel_112 rfl e989 e991 dX12_readNext_142 ?_
                    refine g_iload_n C rfl 0 rfl dX12_readNext_145 ?_
                    obtain ⟨v994, e995⟩ : ∃ z, Iv h987 v990 ((80 + r952).toNat) = z := ⟨_, rfl⟩
                    have f996 := ok_Ia O988 t992 ar_116101 rI_116101_0 e995
                    refine g_zald C t992 rfl l993 (ix f975 (by decide) (by decide)) e995 dX12_readNext_146 ?_
                    refine g_if_ne C (iw f996 (by decide) (by decide)) 154 (by decide) dX12_readNext_147 (fun q997 => ?_) (fun q998 => ?_)
                    · have f999 : (1 : Int) ≤ v994 ∧ v994 ≤ (1 : Int) := r_nl f996 q997
                      refine g_iconst C dX12_readNext_154 ?_
                      refine g_goto C 159 (by decide) dX12_readNext_155 ?_
                      refine g_zast C t992 rfl l993 (ix f975 (by decide) (by decide)) (iw (il 1) (by decide) (by decide)) dX12_readNext_159 (fun h1001 hh1000 => ?_)
                      have O1002 := O988.pIa t992 ar_116101 hh1000 rI_116101_0 (iw (il 1) (by decide) (by decide)) nofun
                      refine g_goto C 184 (by decide) dX12_readNext_160 ?_
                      refine g_aload_n C rfl 2 rfl dX12_readNext_184 ?_
                      refine g_bipush C (by decide) dX12_readNext_185 ?_
                      have e1003 : Tg h1001 a0 = 12 := ((pIT hh1000).trans e989)
                      have e1004 : Iv h1001 a0 7 = v961 := ((pI_n hh1000 (ne_tag e989 t992 (by decide))).trans ((pI_n hh986 (ne_tag e963 t978 (by decide))).trans e962))
                      have e1005 : Iv h1001 a0 8 = v965 := ((pI_n hh1000 (ne_tag e989 t992 (by decide))).trans ((pI_n hh986 (ne_tag e963 t978 (by decide))).trans e966))
                      have e1006 : Iv h1001 a0 28 = v7 := ((pI_n hh1000 (ne_tag e989 t992 (by decide))).trans ((pI_n hh986 (ne_tag e963 t978 (by decide))).trans e968))
                      have p1007 := (TK_fx O988 ((Fx.rf (wr := [23220200]) (h := h987)).pIa t992 ar_116101 hh1000 rfl) e989 rfl (TK_fx O956 ((Fx.rf (wr := [23420200]) (h := h953)).pIa t978 ar_117101 hh986 rfl) e963 rfl p969))
                      have p1008 := ((NT_fx O988 ((Fx.rf (wr := [23220200]) (h := h987)).pIa t992 ar_116101 hh1000 rfl) e989 rfl).trans ((NT_fx O956 ((Fx.rf (wr := [23420200]) (h := h953)).pIa t978 ar_117101 hh986 rfl) e963 rfl).trans p973))
                      refine g_callV (st := []) (gc_V C lk_LandSurveyModel_380 (k_X12_takeSign l D cy w z0 O1002 e1003 (iw (il 59) (by decide) (by decide)) ⟨p1007, by rw [e1004, p1008]; omega, by rw [e1005, e1004, p1008]; omega, by rw [e1006, e1004]; omega⟩) e1003 rfl rfl rfl ⟨by decide, by decide⟩ (Nat.le_of_ble_eq_true rfl) dX12_readNext_187 ⟨(by decide), (by decide)⟩) (fun h1010 K1011 => ?_)
                      obtain ⟨O1013, F1014, p1015, p1016, p1017⟩ := K1011
                      obtain ⟨v1018, e1019⟩ : ∃ z, Iv h1010 a0 7 = z := ⟨_, rfl⟩
                      have e1020 : Tg h1010 a0 = 12 := (fxT F1014 e1003)
                      have f1021 := ok_I O1013 e1020 rI_12_7 e1019
                      obtain ⟨v1022, e1023⟩ : ∃ z, Iv h1010 a0 8 = z := ⟨_, rfl⟩
                      have f1024 := ok_I O1013 e1020 rI_12_8 e1023
                      have e1025 : Iv h1010 a0 28 = v7 := ((fxI F1014 e1003 rfl).trans e1006)
                      obtain ⟨p1026, p1027, p1028, p1029⟩ := p1015
                      have p1030 := ((NT_fx O1002 F1014 e1003 rfl).trans p1008)
                      rw [e1019, p1030] at p1027
                      rw [e1023, e1019, p1030] at p1028
                      rw [e1025, e1019] at p1029
                      have p1031 := p1016
                      unfold ST at p1031
                      rw [e1004, e1019, e1006, e1025, e1005, e1023] at p1031
                      rw [e1023, e1019, e1004] at p1017
                      have p1032 := (MInv_fx O1002 F1014 e1003 rfl (MInv_fx O988 ((Fx.rf (wr := [23220200]) (h := h987)).pIa t992 ar_116101 hh1000 rfl) e989 rfl (MInv_fx O956 ((Fx.rf (wr := [23420200]) (h := h953)).pIa t978 ar_117101 hh986 rfl) e963 rfl (MInv_fx O946 F957 e947 rfl (MInv_fx O928 ((Fx.rf (wr := [2407]) (h := h925)).pI e941 hh944 rfl) e941 rfl (MInv_fx O774 F929 e918 rfl (MInv_fx O377 F775 e764 rfl (MInv_fx O348 F378 e367 rfl (MInv_fx O265 F349 e338 rfl (MInv_fx O236 F266 e255 rfl (MInv_fx O147 F237 e226 rfl (MInv_fx O60 F148 e137 rfl (MInv_fx O21 F61 e50 rfl (MInv_fx O F22 ta0 rfl P_MInv))))))))))))))
                      have p1033 := (DLf_mono O1002 F1014 e1003 rfl p1016.2.2 (DLf_fx O988 ((Fx.rf (wr := [23220200]) (h := h987)).pIa t992 ar_116101 hh1000 rfl) e989 rfl (DLf_fx O956 ((Fx.rf (wr := [23420200]) (h := h953)).pIa t978 ar_117101 hh986 rfl) e963 rfl (DLf_mono O946 F957 e947 rfl p960.2.2 (DLf_fx O928 ((Fx.rf (wr := [2407]) (h := h925)).pI e941 hh944 rfl) e941 rfl (DLf_fx O774 F929 e918 rfl (DLf_fx O377 F775 e764 rfl (DLf_fx O348 F378 e367 rfl (DLf_fx O265 F349 e338 rfl (DLf_fx O236 F266 e255 rfl (DLf_fx O147 F237 e226 rfl (DLf_fx O60 F148 e137 rfl (DLf_fx O21 F61 e50 rfl (DLf_fx O F22 ta0 rfl P_DLf))))))))))))))
                      exact g_vret C hr ⟨O1013, (((((((((((((((Fx.rf (wr := wr_k_X12_readNext)).call F22 rfl).call F61 rfl).call F148 rfl).call F237 rfl).call F266 rfl).call F349 rfl).call F378 rfl).call F775 rfl).call F929 rfl).pI e941 hh944 rfl).call F957 rfl).pIa t978 ar_117101 hh986 rfl).pIa t992 ar_116101 hh1000 rfl).call F1014 rfl), ⟨p1026, by rw [e1019, p1030]; omega, by rw [e1023, e1019, p1030]; omega, by rw [e1025, e1019]; omega⟩, (by unfold ST; rw [e2, e1019, e8, e1025, e5, e1023]; omega), p1032, p1033, (by rw [e1023, e2, e1019]; omega)⟩ (by decide) (by decide) dX12_readNext_190
                    · have f1034 : (0 : Int) ≤ v994 ∧ v994 ≤ (0 : Int) := ii f996 (r_eq (il 0) q998) (by decide) (by decide)
                      refine g_iload_n C rfl 1 rfl dX12_readNext_150 ?_
                      refine g_if_ne C (iw f930 (by decide) (by decide)) 158 (by decide) dX12_readNext_151 (fun q1035 => ?_) (fun q1036 => ?_)
                      · have f1037 : (1 : Int) ≤ r924 ∧ r924 ≤ (1 : Int) := r_nl f930 q1035
                        refine g_iconst C dX12_readNext_158 ?_
                        refine g_zast C t992 rfl l993 (ix f975 (by decide) (by decide)) (iw (il 0) (by decide) (by decide)) dX12_readNext_159 (fun h1039 hh1038 => ?_)
                        have O1040 := O988.pIa t992 ar_116101 hh1038 rI_116101_0 (iw (il 0) (by decide) (by decide)) nofun
                        refine g_goto C 184 (by decide) dX12_readNext_160 ?_
                        refine g_aload_n C rfl 2 rfl dX12_readNext_184 ?_
                        refine g_bipush C (by decide) dX12_readNext_185 ?_
                        have e1041 : Tg h1039 a0 = 12 := ((pIT hh1038).trans e989)
                        have e1042 : Iv h1039 a0 7 = v961 := ((pI_n hh1038 (ne_tag e989 t992 (by decide))).trans ((pI_n hh986 (ne_tag e963 t978 (by decide))).trans e962))
                        have e1043 : Iv h1039 a0 8 = v965 := ((pI_n hh1038 (ne_tag e989 t992 (by decide))).trans ((pI_n hh986 (ne_tag e963 t978 (by decide))).trans e966))
                        have e1044 : Iv h1039 a0 28 = v7 := ((pI_n hh1038 (ne_tag e989 t992 (by decide))).trans ((pI_n hh986 (ne_tag e963 t978 (by decide))).trans e968))
                        have p1045 := (TK_fx O988 ((Fx.rf (wr := [23220200]) (h := h987)).pIa t992 ar_116101 hh1038 rfl) e989 rfl (TK_fx O956 ((Fx.rf (wr := [23420200]) (h := h953)).pIa t978 ar_117101 hh986 rfl) e963 rfl p969))
                        have p1046 := ((NT_fx O988 ((Fx.rf (wr := [23220200]) (h := h987)).pIa t992 ar_116101 hh1038 rfl) e989 rfl).trans ((NT_fx O956 ((Fx.rf (wr := [23420200]) (h := h953)).pIa t978 ar_117101 hh986 rfl) e963 rfl).trans p973))
                        refine g_callV (st := []) (gc_V C lk_LandSurveyModel_380 (k_X12_takeSign l D cy w z0 O1040 e1041 (iw (il 59) (by decide) (by decide)) ⟨p1045, by rw [e1042, p1046]; omega, by rw [e1043, e1042, p1046]; omega, by rw [e1044, e1042]; omega⟩) e1041 rfl rfl rfl ⟨by decide, by decide⟩ (Nat.le_of_ble_eq_true rfl) dX12_readNext_187 ⟨(by decide), (by decide)⟩) (fun h1048 K1049 => ?_)
                        obtain ⟨O1051, F1052, p1053, p1054, p1055⟩ := K1049
                        obtain ⟨v1056, e1057⟩ : ∃ z, Iv h1048 a0 7 = z := ⟨_, rfl⟩
                        have e1058 : Tg h1048 a0 = 12 := (fxT F1052 e1041)
                        have f1059 := ok_I O1051 e1058 rI_12_7 e1057
                        obtain ⟨v1060, e1061⟩ : ∃ z, Iv h1048 a0 8 = z := ⟨_, rfl⟩
                        have f1062 := ok_I O1051 e1058 rI_12_8 e1061
                        have e1063 : Iv h1048 a0 28 = v7 := ((fxI F1052 e1041 rfl).trans e1044)
                        obtain ⟨p1064, p1065, p1066, p1067⟩ := p1053
                        have p1068 := ((NT_fx O1040 F1052 e1041 rfl).trans p1046)
                        rw [e1057, p1068] at p1065
                        rw [e1061, e1057, p1068] at p1066
                        rw [e1063, e1057] at p1067
                        have p1069 := p1054
                        unfold ST at p1069
                        rw [e1042, e1057, e1044, e1063, e1043, e1061] at p1069
                        rw [e1061, e1057, e1042] at p1055
                        have p1070 := (MInv_fx O1040 F1052 e1041 rfl (MInv_fx O988 ((Fx.rf (wr := [23220200]) (h := h987)).pIa t992 ar_116101 hh1038 rfl) e989 rfl (MInv_fx O956 ((Fx.rf (wr := [23420200]) (h := h953)).pIa t978 ar_117101 hh986 rfl) e963 rfl (MInv_fx O946 F957 e947 rfl (MInv_fx O928 ((Fx.rf (wr := [2407]) (h := h925)).pI e941 hh944 rfl) e941 rfl (MInv_fx O774 F929 e918 rfl (MInv_fx O377 F775 e764 rfl (MInv_fx O348 F378 e367 rfl (MInv_fx O265 F349 e338 rfl (MInv_fx O236 F266 e255 rfl (MInv_fx O147 F237 e226 rfl (MInv_fx O60 F148 e137 rfl (MInv_fx O21 F61 e50 rfl (MInv_fx O F22 ta0 rfl P_MInv))))))))))))))
                        have p1071 := (DLf_mono O1040 F1052 e1041 rfl p1054.2.2 (DLf_fx O988 ((Fx.rf (wr := [23220200]) (h := h987)).pIa t992 ar_116101 hh1038 rfl) e989 rfl (DLf_fx O956 ((Fx.rf (wr := [23420200]) (h := h953)).pIa t978 ar_117101 hh986 rfl) e963 rfl (DLf_mono O946 F957 e947 rfl p960.2.2 (DLf_fx O928 ((Fx.rf (wr := [2407]) (h := h925)).pI e941 hh944 rfl) e941 rfl (DLf_fx O774 F929 e918 rfl (DLf_fx O377 F775 e764 rfl (DLf_fx O348 F378 e367 rfl (DLf_fx O265 F349 e338 rfl (DLf_fx O236 F266 e255 rfl (DLf_fx O147 F237 e226 rfl (DLf_fx O60 F148 e137 rfl (DLf_fx O21 F61 e50 rfl (DLf_fx O F22 ta0 rfl P_DLf))))))))))))))
                        exact g_vret C hr ⟨O1051, (((((((((((((((Fx.rf (wr := wr_k_X12_readNext)).call F22 rfl).call F61 rfl).call F148 rfl).call F237 rfl).call F266 rfl).call F349 rfl).call F378 rfl).call F775 rfl).call F929 rfl).pI e941 hh944 rfl).call F957 rfl).pIa t978 ar_117101 hh986 rfl).pIa t992 ar_116101 hh1038 rfl).call F1052 rfl), ⟨p1064, by rw [e1057, p1068]; omega, by rw [e1061, e1057, p1068]; omega, by rw [e1063, e1057]; omega⟩, (by unfold ST; rw [e2, e1057, e8, e1063, e5, e1061]; omega), p1070, p1071, (by rw [e1061, e2, e1057]; omega)⟩ (by decide) (by decide) dX12_readNext_190
                      · have f1072 : (0 : Int) ≤ r924 ∧ r924 ≤ (0 : Int) := ii f930 (r_eq (il 0) q1036) (by decide) (by decide)
                        refine g_iconst C dX12_readNext_154 ?_
                        refine g_goto C 159 (by decide) dX12_readNext_155 ?_
                        refine g_zast C t992 rfl l993 (ix f975 (by decide) (by decide)) (iw (il 1) (by decide) (by decide)) dX12_readNext_159 (fun h1074 hh1073 => ?_)
                        have O1075 := O988.pIa t992 ar_116101 hh1073 rI_116101_0 (iw (il 1) (by decide) (by decide)) nofun
                        refine g_goto C 184 (by decide) dX12_readNext_160 ?_
                        refine g_aload_n C rfl 2 rfl dX12_readNext_184 ?_
                        refine g_bipush C (by decide) dX12_readNext_185 ?_
                        have e1076 : Tg h1074 a0 = 12 := ((pIT hh1073).trans e989)
                        have e1077 : Iv h1074 a0 7 = v961 := ((pI_n hh1073 (ne_tag e989 t992 (by decide))).trans ((pI_n hh986 (ne_tag e963 t978 (by decide))).trans e962))
                        have e1078 : Iv h1074 a0 8 = v965 := ((pI_n hh1073 (ne_tag e989 t992 (by decide))).trans ((pI_n hh986 (ne_tag e963 t978 (by decide))).trans e966))
                        have e1079 : Iv h1074 a0 28 = v7 := ((pI_n hh1073 (ne_tag e989 t992 (by decide))).trans ((pI_n hh986 (ne_tag e963 t978 (by decide))).trans e968))
                        have p1080 := (TK_fx O988 ((Fx.rf (wr := [23220200]) (h := h987)).pIa t992 ar_116101 hh1073 rfl) e989 rfl (TK_fx O956 ((Fx.rf (wr := [23420200]) (h := h953)).pIa t978 ar_117101 hh986 rfl) e963 rfl p969))
                        have p1081 := ((NT_fx O988 ((Fx.rf (wr := [23220200]) (h := h987)).pIa t992 ar_116101 hh1073 rfl) e989 rfl).trans ((NT_fx O956 ((Fx.rf (wr := [23420200]) (h := h953)).pIa t978 ar_117101 hh986 rfl) e963 rfl).trans p973))
                        refine g_callV (st := []) (gc_V C lk_LandSurveyModel_380 (k_X12_takeSign l D cy w z0 O1075 e1076 (iw (il 59) (by decide) (by decide)) ⟨p1080, by rw [e1077, p1081]; omega, by rw [e1078, e1077, p1081]; omega, by rw [e1079, e1077]; omega⟩) e1076 rfl rfl rfl ⟨by decide, by decide⟩ (Nat.le_of_ble_eq_true rfl) dX12_readNext_187 ⟨(by decide), (by decide)⟩) (fun h1083 K1084 => ?_)
                        obtain ⟨O1086, F1087, p1088, p1089, p1090⟩ := K1084
                        obtain ⟨v1091, e1092⟩ : ∃ z, Iv h1083 a0 7 = z := ⟨_, rfl⟩
                        have e1093 : Tg h1083 a0 = 12 := (fxT F1087 e1076)
                        have f1094 := ok_I O1086 e1093 rI_12_7 e1092
                        obtain ⟨v1095, e1096⟩ : ∃ z, Iv h1083 a0 8 = z := ⟨_, rfl⟩
                        have f1097 := ok_I O1086 e1093 rI_12_8 e1096
                        have e1098 : Iv h1083 a0 28 = v7 := ((fxI F1087 e1076 rfl).trans e1079)
                        obtain ⟨p1099, p1100, p1101, p1102⟩ := p1088
                        have p1103 := ((NT_fx O1075 F1087 e1076 rfl).trans p1081)
                        rw [e1092, p1103] at p1100
                        rw [e1096, e1092, p1103] at p1101
                        rw [e1098, e1092] at p1102
                        have p1104 := p1089
                        unfold ST at p1104
                        rw [e1077, e1092, e1079, e1098, e1078, e1096] at p1104
                        rw [e1096, e1092, e1077] at p1090
                        have p1105 := (MInv_fx O1075 F1087 e1076 rfl (MInv_fx O988 ((Fx.rf (wr := [23220200]) (h := h987)).pIa t992 ar_116101 hh1073 rfl) e989 rfl (MInv_fx O956 ((Fx.rf (wr := [23420200]) (h := h953)).pIa t978 ar_117101 hh986 rfl) e963 rfl (MInv_fx O946 F957 e947 rfl (MInv_fx O928 ((Fx.rf (wr := [2407]) (h := h925)).pI e941 hh944 rfl) e941 rfl (MInv_fx O774 F929 e918 rfl (MInv_fx O377 F775 e764 rfl (MInv_fx O348 F378 e367 rfl (MInv_fx O265 F349 e338 rfl (MInv_fx O236 F266 e255 rfl (MInv_fx O147 F237 e226 rfl (MInv_fx O60 F148 e137 rfl (MInv_fx O21 F61 e50 rfl (MInv_fx O F22 ta0 rfl P_MInv))))))))))))))
                        have p1106 := (DLf_mono O1075 F1087 e1076 rfl p1089.2.2 (DLf_fx O988 ((Fx.rf (wr := [23220200]) (h := h987)).pIa t992 ar_116101 hh1073 rfl) e989 rfl (DLf_fx O956 ((Fx.rf (wr := [23420200]) (h := h953)).pIa t978 ar_117101 hh986 rfl) e963 rfl (DLf_mono O946 F957 e947 rfl p960.2.2 (DLf_fx O928 ((Fx.rf (wr := [2407]) (h := h925)).pI e941 hh944 rfl) e941 rfl (DLf_fx O774 F929 e918 rfl (DLf_fx O377 F775 e764 rfl (DLf_fx O348 F378 e367 rfl (DLf_fx O265 F349 e338 rfl (DLf_fx O236 F266 e255 rfl (DLf_fx O147 F237 e226 rfl (DLf_fx O60 F148 e137 rfl (DLf_fx O21 F61 e50 rfl (DLf_fx O F22 ta0 rfl P_DLf))))))))))))))
                        exact g_vret C hr ⟨O1086, (((((((((((((((Fx.rf (wr := wr_k_X12_readNext)).call F22 rfl).call F61 rfl).call F148 rfl).call F237 rfl).call F266 rfl).call F349 rfl).call F378 rfl).call F775 rfl).call F929 rfl).pI e941 hh944 rfl).call F957 rfl).pIa t978 ar_117101 hh986 rfl).pIa t992 ar_116101 hh1073 rfl).call F1087 rfl), ⟨p1099, by rw [e1092, p1103]; omega, by rw [e1096, e1092, p1103]; omega, by rw [e1098, e1092]; omega⟩, (by unfold ST; rw [e2, e1092, e8, e1098, e5, e1096]; omega), p1105, p1106, (by rw [e1096, e2, e1092]; omega)⟩ (by decide) (by decide) dX12_readNext_190
                  · have f1107 : (0 : Int) ≤ v980 ∧ v980 ≤ (0 : Int) := ii f982 (r_eq (il 0) q984) (by decide) (by decide)
                    refine g_iload_n C rfl 1 rfl dX12_readNext_126 ?_
                    refine g_if_eq C (iw f930 (by decide) (by decide)) 134 (by decide) dX12_readNext_127 (fun q1108 => ?_) (fun q1109 => ?_)
                    · have f1110 : (0 : Int) ≤ r924 ∧ r924 ≤ (0 : Int) := ii f930 (r_eq (il 0) q1108) (by decide) (by decide)
                      refine g_iconst C dX12_readNext_134 ?_
                      refine g_zast C t978 rfl l979 (ix f975 (by decide) (by decide)) (iw (il 0) (by decide) (by decide)) dX12_readNext_135 (fun h1112 hh1111 => ?_)
                      have O1113 := O956.pIa t978 ar_117101 hh1111 rI_117101_0 (iw (il 0) (by decide) (by decide)) nofun
                      refine g_aload_n C rfl 2 rfl dX12_readNext_136 ?_
                      have e1114 : Tg h1112 a0 = 12 := ((pIT hh1111).trans e963)
                      obtain ⟨v1115, e1116⟩ : ∃ z, Rv h1112 a0 16 = z := ⟨_, rfl⟩
                      have t1117 := ok_R O1113 e1114 rE_12_16 e1116
                      have l1118 := ok_L O1113 e1114 rE_12_16 e1116
                      refine gf_R C fk_LandSurveyModel_112 rfl e1114 e1116 dX12_readNext_137 ?_
                      refine g_iload_n C rfl 0 rfl dX12_readNext_140 ?_
                      refine g_aload_n C rfl 2 rfl dX12_readNext_141 ?_
                      refine gf_R C fk_LandSurveyModel_112 rfl e1114 e1116 dX12_readNext_142 ?_
                      refine g_iload_n C rfl 0 rfl dX12_readNext_145 ?_
                      obtain ⟨v1119, e1120⟩ : ∃ z, Iv h1112 v1115 ((80 + r952).toNat) = z := ⟨_, rfl⟩
                      have f1121 := ok_Ia O1113 t1117 ar_116101 rI_116101_0 e1120
                      refine g_zald C t1117 rfl l1118 (ix f975 (by decide) (by decide)) e1120 dX12_readNext_146 ?_
                      refine g_if_ne C (iw f1121 (by decide) (by decide)) 154 (by decide) dX12_readNext_147 (fun q1122 => ?_) (fun q1123 => ?_)
                      · have f1124 : (1 : Int) ≤ v1119 ∧ v1119 ≤ (1 : Int) := r_nl f1121 q1122
                        refine g_iconst C dX12_readNext_154 ?_
                        refine g_goto C 159 (by decide) dX12_readNext_155 ?_
                        refine g_zast C t1117 rfl l1118 (ix f975 (by decide) (by decide)) (iw (il 1) (by decide) (by decide)) dX12_readNext_159 (fun h1126 hh1125 => ?_)
                        have O1127 := O1113.pIa t1117 ar_116101 hh1125 rI_116101_0 (iw (il 1) (by decide) (by decide)) nofun
                        refine g_goto C 184 (by decide) dX12_readNext_160 ?_
                        refine g_aload_n C rfl 2 rfl dX12_readNext_184 ?_
                        refine g_bipush C (by decide) dX12_readNext_185 ?_
                        have e1128 : Tg h1126 a0 = 12 := ((pIT hh1125).trans e1114)
                        have e1129 : Iv h1126 a0 7 = v961 := ((pI_n hh1125 (ne_tag e1114 t1117 (by decide))).trans ((pI_n hh1111 (ne_tag e963 t978 (by decide))).trans e962))
                        have e1130 : Iv h1126 a0 8 = v965 := ((pI_n hh1125 (ne_tag e1114 t1117 (by decide))).trans ((pI_n hh1111 (ne_tag e963 t978 (by decide))).trans e966))
                        have e1131 : Iv h1126 a0 28 = v7 := ((pI_n hh1125 (ne_tag e1114 t1117 (by decide))).trans ((pI_n hh1111 (ne_tag e963 t978 (by decide))).trans e968))
                        have p1132 := (TK_fx O1113 ((Fx.rf (wr := [23220200]) (h := h1112)).pIa t1117 ar_116101 hh1125 rfl) e1114 rfl (TK_fx O956 ((Fx.rf (wr := [23420200]) (h := h953)).pIa t978 ar_117101 hh1111 rfl) e963 rfl p969))
                        have p1133 := ((NT_fx O1113 ((Fx.rf (wr := [23220200]) (h := h1112)).pIa t1117 ar_116101 hh1125 rfl) e1114 rfl).trans ((NT_fx O956 ((Fx.rf (wr := [23420200]) (h := h953)).pIa t978 ar_117101 hh1111 rfl) e963 rfl).trans p973))
                        refine g_callV (st := []) (gc_V C lk_LandSurveyModel_380 (k_X12_takeSign l D cy w z0 O1127 e1128 (iw (il 59) (by decide) (by decide)) ⟨p1132, by rw [e1129, p1133]; omega, by rw [e1130, e1129, p1133]; omega, by rw [e1131, e1129]; omega⟩) e1128 rfl rfl rfl ⟨by decide, by decide⟩ (Nat.le_of_ble_eq_true rfl) dX12_readNext_187 ⟨(by decide), (by decide)⟩) (fun h1135 K1136 => ?_)
                        obtain ⟨O1138, F1139, p1140, p1141, p1142⟩ := K1136
                        obtain ⟨v1143, e1144⟩ : ∃ z, Iv h1135 a0 7 = z := ⟨_, rfl⟩
                        have e1145 : Tg h1135 a0 = 12 := (fxT F1139 e1128)
                        have f1146 := ok_I O1138 e1145 rI_12_7 e1144
                        obtain ⟨v1147, e1148⟩ : ∃ z, Iv h1135 a0 8 = z := ⟨_, rfl⟩
                        have f1149 := ok_I O1138 e1145 rI_12_8 e1148
                        have e1150 : Iv h1135 a0 28 = v7 := ((fxI F1139 e1128 rfl).trans e1131)
                        obtain ⟨p1151, p1152, p1153, p1154⟩ := p1140
                        have p1155 := ((NT_fx O1127 F1139 e1128 rfl).trans p1133)
                        rw [e1144, p1155] at p1152
                        rw [e1148, e1144, p1155] at p1153
                        rw [e1150, e1144] at p1154
                        have p1156 := p1141
                        unfold ST at p1156
                        rw [e1129, e1144, e1131, e1150, e1130, e1148] at p1156
                        rw [e1148, e1144, e1129] at p1142
                        have p1157 := (MInv_fx O1127 F1139 e1128 rfl (MInv_fx O1113 ((Fx.rf (wr := [23220200]) (h := h1112)).pIa t1117 ar_116101 hh1125 rfl) e1114 rfl (MInv_fx O956 ((Fx.rf (wr := [23420200]) (h := h953)).pIa t978 ar_117101 hh1111 rfl) e963 rfl (MInv_fx O946 F957 e947 rfl (MInv_fx O928 ((Fx.rf (wr := [2407]) (h := h925)).pI e941 hh944 rfl) e941 rfl (MInv_fx O774 F929 e918 rfl (MInv_fx O377 F775 e764 rfl (MInv_fx O348 F378 e367 rfl (MInv_fx O265 F349 e338 rfl (MInv_fx O236 F266 e255 rfl (MInv_fx O147 F237 e226 rfl (MInv_fx O60 F148 e137 rfl (MInv_fx O21 F61 e50 rfl (MInv_fx O F22 ta0 rfl P_MInv))))))))))))))
                        have p1158 := (DLf_mono O1127 F1139 e1128 rfl p1141.2.2 (DLf_fx O1113 ((Fx.rf (wr := [23220200]) (h := h1112)).pIa t1117 ar_116101 hh1125 rfl) e1114 rfl (DLf_fx O956 ((Fx.rf (wr := [23420200]) (h := h953)).pIa t978 ar_117101 hh1111 rfl) e963 rfl (DLf_mono O946 F957 e947 rfl p960.2.2 (DLf_fx O928 ((Fx.rf (wr := [2407]) (h := h925)).pI e941 hh944 rfl) e941 rfl (DLf_fx O774 F929 e918 rfl (DLf_fx O377 F775 e764 rfl (DLf_fx O348 F378 e367 rfl (DLf_fx O265 F349 e338 rfl (DLf_fx O236 F266 e255 rfl (DLf_fx O147 F237 e226 rfl (DLf_fx O60 F148 e137 rfl (DLf_fx O21 F61 e50 rfl (DLf_fx O F22 ta0 rfl P_DLf))))))))))))))
                        exact g_vret C hr ⟨O1138, (((((((((((((((Fx.rf (wr := wr_k_X12_readNext)).call F22 rfl).call F61 rfl).call F148 rfl).call F237 rfl).call F266 rfl).call F349 rfl).call F378 rfl).call F775 rfl).call F929 rfl).pI e941 hh944 rfl).call F957 rfl).pIa t978 ar_117101 hh1111 rfl).pIa t1117 ar_116101 hh1125 rfl).call F1139 rfl), ⟨p1151, by rw [e1144, p1155]; omega, by rw [e1148, e1144, p1155]; omega, by rw [e1150, e1144]; omega⟩, (by unfold ST; rw [e2, e1144, e8, e1150, e5, e1148]; omega), p1157, p1158, (by rw [e1148, e2, e1144]; omega)⟩ (by decide) (by decide) dX12_readNext_190
                      · have f1159 : (0 : Int) ≤ v1119 ∧ v1119 ≤ (0 : Int) := ii f1121 (r_eq (il 0) q1123) (by decide) (by decide)
                        refine g_iload_n C rfl 1 rfl dX12_readNext_150 ?_
                        refine g_if_ne C (iw f1110 (by decide) (by decide)) 158 (by decide) dX12_readNext_151 (fun q1160 => ?_) (fun q1161 => ?_)
                        · exact (no_ne f1110 (il 0) q1160 (by decide)).elim
                        · refine g_iconst C dX12_readNext_154 ?_
                          refine g_goto C 159 (by decide) dX12_readNext_155 ?_
                          refine g_zast C t1117 rfl l1118 (ix f975 (by decide) (by decide)) (iw (il 1) (by decide) (by decide)) dX12_readNext_159 (fun h1163 hh1162 => ?_)
                          have O1164 := O1113.pIa t1117 ar_116101 hh1162 rI_116101_0 (iw (il 1) (by decide) (by decide)) nofun
                          refine g_goto C 184 (by decide) dX12_readNext_160 ?_
                          refine g_aload_n C rfl 2 rfl dX12_readNext_184 ?_
                          refine g_bipush C (by decide) dX12_readNext_185 ?_
                          have e1165 : Tg h1163 a0 = 12 := ((pIT hh1162).trans e1114)
                          have e1166 : Iv h1163 a0 7 = v961 := ((pI_n hh1162 (ne_tag e1114 t1117 (by decide))).trans ((pI_n hh1111 (ne_tag e963 t978 (by decide))).trans e962))
                          have e1167 : Iv h1163 a0 8 = v965 := ((pI_n hh1162 (ne_tag e1114 t1117 (by decide))).trans ((pI_n hh1111 (ne_tag e963 t978 (by decide))).trans e966))
                          have e1168 : Iv h1163 a0 28 = v7 := ((pI_n hh1162 (ne_tag e1114 t1117 (by decide))).trans ((pI_n hh1111 (ne_tag e963 t978 (by decide))).trans e968))
                          have p1169 := (TK_fx O1113 ((Fx.rf (wr := [23220200]) (h := h1112)).pIa t1117 ar_116101 hh1162 rfl) e1114 rfl (TK_fx O956 ((Fx.rf (wr := [23420200]) (h := h953)).pIa t978 ar_117101 hh1111 rfl) e963 rfl p969))
                          have p1170 := ((NT_fx O1113 ((Fx.rf (wr := [23220200]) (h := h1112)).pIa t1117 ar_116101 hh1162 rfl) e1114 rfl).trans ((NT_fx O956 ((Fx.rf (wr := [23420200]) (h := h953)).pIa t978 ar_117101 hh1111 rfl) e963 rfl).trans p973))
                          refine g_callV (st := []) (gc_V C lk_LandSurveyModel_380 (k_X12_takeSign l D cy w z0 O1164 e1165 (iw (il 59) (by decide) (by decide)) ⟨p1169, by rw [e1166, p1170]; omega, by rw [e1167, e1166, p1170]; omega, by rw [e1168, e1166]; omega⟩) e1165 rfl rfl rfl ⟨by decide, by decide⟩ (Nat.le_of_ble_eq_true rfl) dX12_readNext_187 ⟨(by decide), (by decide)⟩) (fun h1172 K1173 => ?_)
                          obtain ⟨O1175, F1176, p1177, p1178, p1179⟩ := K1173
                          obtain ⟨v1180, e1181⟩ : ∃ z, Iv h1172 a0 7 = z := ⟨_, rfl⟩
                          have e1182 : Tg h1172 a0 = 12 := (fxT F1176 e1165)
                          have f1183 := ok_I O1175 e1182 rI_12_7 e1181
                          obtain ⟨v1184, e1185⟩ : ∃ z, Iv h1172 a0 8 = z := ⟨_, rfl⟩
                          have f1186 := ok_I O1175 e1182 rI_12_8 e1185
                          have e1187 : Iv h1172 a0 28 = v7 := ((fxI F1176 e1165 rfl).trans e1168)
                          obtain ⟨p1188, p1189, p1190, p1191⟩ := p1177
                          have p1192 := ((NT_fx O1164 F1176 e1165 rfl).trans p1170)
                          rw [e1181, p1192] at p1189
                          rw [e1185, e1181, p1192] at p1190
                          rw [e1187, e1181] at p1191
                          have p1193 := p1178
                          unfold ST at p1193
                          rw [e1166, e1181, e1168, e1187, e1167, e1185] at p1193
                          rw [e1185, e1181, e1166] at p1179
                          have p1194 := (MInv_fx O1164 F1176 e1165 rfl (MInv_fx O1113 ((Fx.rf (wr := [23220200]) (h := h1112)).pIa t1117 ar_116101 hh1162 rfl) e1114 rfl (MInv_fx O956 ((Fx.rf (wr := [23420200]) (h := h953)).pIa t978 ar_117101 hh1111 rfl) e963 rfl (MInv_fx O946 F957 e947 rfl (MInv_fx O928 ((Fx.rf (wr := [2407]) (h := h925)).pI e941 hh944 rfl) e941 rfl (MInv_fx O774 F929 e918 rfl (MInv_fx O377 F775 e764 rfl (MInv_fx O348 F378 e367 rfl (MInv_fx O265 F349 e338 rfl (MInv_fx O236 F266 e255 rfl (MInv_fx O147 F237 e226 rfl (MInv_fx O60 F148 e137 rfl (MInv_fx O21 F61 e50 rfl (MInv_fx O F22 ta0 rfl P_MInv))))))))))))))
                          have p1195 := (DLf_mono O1164 F1176 e1165 rfl p1178.2.2 (DLf_fx O1113 ((Fx.rf (wr := [23220200]) (h := h1112)).pIa t1117 ar_116101 hh1162 rfl) e1114 rfl (DLf_fx O956 ((Fx.rf (wr := [23420200]) (h := h953)).pIa t978 ar_117101 hh1111 rfl) e963 rfl (DLf_mono O946 F957 e947 rfl p960.2.2 (DLf_fx O928 ((Fx.rf (wr := [2407]) (h := h925)).pI e941 hh944 rfl) e941 rfl (DLf_fx O774 F929 e918 rfl (DLf_fx O377 F775 e764 rfl (DLf_fx O348 F378 e367 rfl (DLf_fx O265 F349 e338 rfl (DLf_fx O236 F266 e255 rfl (DLf_fx O147 F237 e226 rfl (DLf_fx O60 F148 e137 rfl (DLf_fx O21 F61 e50 rfl (DLf_fx O F22 ta0 rfl P_DLf))))))))))))))
                          exact g_vret C hr ⟨O1175, (((((((((((((((Fx.rf (wr := wr_k_X12_readNext)).call F22 rfl).call F61 rfl).call F148 rfl).call F237 rfl).call F266 rfl).call F349 rfl).call F378 rfl).call F775 rfl).call F929 rfl).pI e941 hh944 rfl).call F957 rfl).pIa t978 ar_117101 hh1111 rfl).pIa t1117 ar_116101 hh1162 rfl).call F1176 rfl), ⟨p1188, by rw [e1181, p1192]; omega, by rw [e1185, e1181, p1192]; omega, by rw [e1187, e1181]; omega⟩, (by unfold ST; rw [e2, e1181, e8, e1187, e5, e1185]; omega), p1194, p1195, (by rw [e1185, e2, e1181]; omega)⟩ (by decide) (by decide) dX12_readNext_190
                    · have f1196 : (1 : Int) ≤ r924 ∧ r924 ≤ (1 : Int) := r_nl f930 q1109
                      refine g_iconst C dX12_readNext_130 ?_
                      refine g_goto C 135 (by decide) dX12_readNext_131 ?_
                      refine g_zast C t978 rfl l979 (ix f975 (by decide) (by decide)) (iw (il 1) (by decide) (by decide)) dX12_readNext_135 (fun h1198 hh1197 => ?_)
                      have O1199 := O956.pIa t978 ar_117101 hh1197 rI_117101_0 (iw (il 1) (by decide) (by decide)) nofun
                      refine g_aload_n C rfl 2 rfl dX12_readNext_136 ?_
                      have e1200 : Tg h1198 a0 = 12 := ((pIT hh1197).trans e963)
                      obtain ⟨v1201, e1202⟩ : ∃ z, Rv h1198 a0 16 = z := ⟨_, rfl⟩
                      have t1203 := ok_R O1199 e1200 rE_12_16 e1202
                      have l1204 := ok_L O1199 e1200 rE_12_16 e1202
                      refine gf_R C fk_LandSurveyModel_112 rfl e1200 e1202 dX12_readNext_137 ?_
                      refine g_iload_n C rfl 0 rfl dX12_readNext_140 ?_
                      refine g_aload_n C rfl 2 rfl dX12_readNext_141 ?_
                      refine gf_R C fk_LandSurveyModel_112 rfl e1200 e1202 dX12_readNext_142 ?_
                      refine g_iload_n C rfl 0 rfl dX12_readNext_145 ?_
                      obtain ⟨v1205, e1206⟩ : ∃ z, Iv h1198 v1201 ((80 + r952).toNat) = z := ⟨_, rfl⟩
                      have f1207 := ok_Ia O1199 t1203 ar_116101 rI_116101_0 e1206
                      refine g_zald C t1203 rfl l1204 (ix f975 (by decide) (by decide)) e1206 dX12_readNext_146 ?_
                      refine g_if_ne C (iw f1207 (by decide) (by decide)) 154 (by decide) dX12_readNext_147 (fun q1208 => ?_) (fun q1209 => ?_)
                      · have f1210 : (1 : Int) ≤ v1205 ∧ v1205 ≤ (1 : Int) := r_nl f1207 q1208
                        refine g_iconst C dX12_readNext_154 ?_
                        refine g_goto C 159 (by decide) dX12_readNext_155 ?_
                        refine g_zast C t1203 rfl l1204 (ix f975 (by decide) (by decide)) (iw (il 1) (by decide) (by decide)) dX12_readNext_159 (fun h1212 hh1211 => ?_)
                        have O1213 := O1199.pIa t1203 ar_116101 hh1211 rI_116101_0 (iw (il 1) (by decide) (by decide)) nofun
                        refine g_goto C 184 (by decide) dX12_readNext_160 ?_
                        refine g_aload_n C rfl 2 rfl dX12_readNext_184 ?_
                        refine g_bipush C (by decide) dX12_readNext_185 ?_
                        have e1214 : Tg h1212 a0 = 12 := ((pIT hh1211).trans e1200)
                        have e1215 : Iv h1212 a0 7 = v961 := ((pI_n hh1211 (ne_tag e1200 t1203 (by decide))).trans ((pI_n hh1197 (ne_tag e963 t978 (by decide))).trans e962))
                        have e1216 : Iv h1212 a0 8 = v965 := ((pI_n hh1211 (ne_tag e1200 t1203 (by decide))).trans ((pI_n hh1197 (ne_tag e963 t978 (by decide))).trans e966))
                        have e1217 : Iv h1212 a0 28 = v7 := ((pI_n hh1211 (ne_tag e1200 t1203 (by decide))).trans ((pI_n hh1197 (ne_tag e963 t978 (by decide))).trans e968))
                        have p1218 := (TK_fx O1199 ((Fx.rf (wr := [23220200]) (h := h1198)).pIa t1203 ar_116101 hh1211 rfl) e1200 rfl (TK_fx O956 ((Fx.rf (wr := [23420200]) (h := h953)).pIa t978 ar_117101 hh1197 rfl) e963 rfl p969))
                        have p1219 := ((NT_fx O1199 ((Fx.rf (wr := [23220200]) (h := h1198)).pIa t1203 ar_116101 hh1211 rfl) e1200 rfl).trans ((NT_fx O956 ((Fx.rf (wr := [23420200]) (h := h953)).pIa t978 ar_117101 hh1197 rfl) e963 rfl).trans p973))
                        refine g_callV (st := []) (gc_V C lk_LandSurveyModel_380 (k_X12_takeSign l D cy w z0 O1213 e1214 (iw (il 59) (by decide) (by decide)) ⟨p1218, by rw [e1215, p1219]; omega, by rw [e1216, e1215, p1219]; omega, by rw [e1217, e1215]; omega⟩) e1214 rfl rfl rfl ⟨by decide, by decide⟩ (Nat.le_of_ble_eq_true rfl) dX12_readNext_187 ⟨(by decide), (by decide)⟩) (fun h1221 K1222 => ?_)
                        obtain ⟨O1224, F1225, p1226, p1227, p1228⟩ := K1222
                        obtain ⟨v1229, e1230⟩ : ∃ z, Iv h1221 a0 7 = z := ⟨_, rfl⟩
                        have e1231 : Tg h1221 a0 = 12 := (fxT F1225 e1214)
                        have f1232 := ok_I O1224 e1231 rI_12_7 e1230
                        obtain ⟨v1233, e1234⟩ : ∃ z, Iv h1221 a0 8 = z := ⟨_, rfl⟩
                        have f1235 := ok_I O1224 e1231 rI_12_8 e1234
                        have e1236 : Iv h1221 a0 28 = v7 := ((fxI F1225 e1214 rfl).trans e1217)
                        obtain ⟨p1237, p1238, p1239, p1240⟩ := p1226
                        have p1241 := ((NT_fx O1213 F1225 e1214 rfl).trans p1219)
                        rw [e1230, p1241] at p1238
                        rw [e1234, e1230, p1241] at p1239
                        rw [e1236, e1230] at p1240
                        have p1242 := p1227
                        unfold ST at p1242
                        rw [e1215, e1230, e1217, e1236, e1216, e1234] at p1242
                        rw [e1234, e1230, e1215] at p1228
                        have p1243 := (MInv_fx O1213 F1225 e1214 rfl (MInv_fx O1199 ((Fx.rf (wr := [23220200]) (h := h1198)).pIa t1203 ar_116101 hh1211 rfl) e1200 rfl (MInv_fx O956 ((Fx.rf (wr := [23420200]) (h := h953)).pIa t978 ar_117101 hh1197 rfl) e963 rfl (MInv_fx O946 F957 e947 rfl (MInv_fx O928 ((Fx.rf (wr := [2407]) (h := h925)).pI e941 hh944 rfl) e941 rfl (MInv_fx O774 F929 e918 rfl (MInv_fx O377 F775 e764 rfl (MInv_fx O348 F378 e367 rfl (MInv_fx O265 F349 e338 rfl (MInv_fx O236 F266 e255 rfl (MInv_fx O147 F237 e226 rfl (MInv_fx O60 F148 e137 rfl (MInv_fx O21 F61 e50 rfl (MInv_fx O F22 ta0 rfl P_MInv))))))))))))))
                        have p1244 := (DLf_mono O1213 F1225 e1214 rfl p1227.2.2 (DLf_fx O1199 ((Fx.rf (wr := [23220200]) (h := h1198)).pIa t1203 ar_116101 hh1211 rfl) e1200 rfl (DLf_fx O956 ((Fx.rf (wr := [23420200]) (h := h953)).pIa t978 ar_117101 hh1197 rfl) e963 rfl (DLf_mono O946 F957 e947 rfl p960.2.2 (DLf_fx O928 ((Fx.rf (wr := [2407]) (h := h925)).pI e941 hh944 rfl) e941 rfl (DLf_fx O774 F929 e918 rfl (DLf_fx O377 F775 e764 rfl (DLf_fx O348 F378 e367 rfl (DLf_fx O265 F349 e338 rfl (DLf_fx O236 F266 e255 rfl (DLf_fx O147 F237 e226 rfl (DLf_fx O60 F148 e137 rfl (DLf_fx O21 F61 e50 rfl (DLf_fx O F22 ta0 rfl P_DLf))))))))))))))
                        exact g_vret C hr ⟨O1224, (((((((((((((((Fx.rf (wr := wr_k_X12_readNext)).call F22 rfl).call F61 rfl).call F148 rfl).call F237 rfl).call F266 rfl).call F349 rfl).call F378 rfl).call F775 rfl).call F929 rfl).pI e941 hh944 rfl).call F957 rfl).pIa t978 ar_117101 hh1197 rfl).pIa t1203 ar_116101 hh1211 rfl).call F1225 rfl), ⟨p1237, by rw [e1230, p1241]; omega, by rw [e1234, e1230, p1241]; omega, by rw [e1236, e1230]; omega⟩, (by unfold ST; rw [e2, e1230, e8, e1236, e5, e1234]; omega), p1243, p1244, (by rw [e1234, e2, e1230]; omega)⟩ (by decide) (by decide) dX12_readNext_190
                      · have f1245 : (0 : Int) ≤ v1205 ∧ v1205 ≤ (0 : Int) := ii f1207 (r_eq (il 0) q1209) (by decide) (by decide)
                        refine g_iload_n C rfl 1 rfl dX12_readNext_150 ?_
                        refine g_if_ne C (iw f1196 (by decide) (by decide)) 158 (by decide) dX12_readNext_151 (fun q1246 => ?_) (fun q1247 => ?_)
                        · refine g_iconst C dX12_readNext_158 ?_
                          refine g_zast C t1203 rfl l1204 (ix f975 (by decide) (by decide)) (iw (il 0) (by decide) (by decide)) dX12_readNext_159 (fun h1249 hh1248 => ?_)
                          have O1250 := O1199.pIa t1203 ar_116101 hh1248 rI_116101_0 (iw (il 0) (by decide) (by decide)) nofun
                          refine g_goto C 184 (by decide) dX12_readNext_160 ?_
                          refine g_aload_n C rfl 2 rfl dX12_readNext_184 ?_
                          refine g_bipush C (by decide) dX12_readNext_185 ?_
                          have e1251 : Tg h1249 a0 = 12 := ((pIT hh1248).trans e1200)
                          have e1252 : Iv h1249 a0 7 = v961 := ((pI_n hh1248 (ne_tag e1200 t1203 (by decide))).trans ((pI_n hh1197 (ne_tag e963 t978 (by decide))).trans e962))
                          have e1253 : Iv h1249 a0 8 = v965 := ((pI_n hh1248 (ne_tag e1200 t1203 (by decide))).trans ((pI_n hh1197 (ne_tag e963 t978 (by decide))).trans e966))
                          have e1254 : Iv h1249 a0 28 = v7 := ((pI_n hh1248 (ne_tag e1200 t1203 (by decide))).trans ((pI_n hh1197 (ne_tag e963 t978 (by decide))).trans e968))
                          have p1255 := (TK_fx O1199 ((Fx.rf (wr := [23220200]) (h := h1198)).pIa t1203 ar_116101 hh1248 rfl) e1200 rfl (TK_fx O956 ((Fx.rf (wr := [23420200]) (h := h953)).pIa t978 ar_117101 hh1197 rfl) e963 rfl p969))
                          have p1256 := ((NT_fx O1199 ((Fx.rf (wr := [23220200]) (h := h1198)).pIa t1203 ar_116101 hh1248 rfl) e1200 rfl).trans ((NT_fx O956 ((Fx.rf (wr := [23420200]) (h := h953)).pIa t978 ar_117101 hh1197 rfl) e963 rfl).trans p973))
                          refine g_callV (st := []) (gc_V C lk_LandSurveyModel_380 (k_X12_takeSign l D cy w z0 O1250 e1251 (iw (il 59) (by decide) (by decide)) ⟨p1255, by rw [e1252, p1256]; omega, by rw [e1253, e1252, p1256]; omega, by rw [e1254, e1252]; omega⟩) e1251 rfl rfl rfl ⟨by decide, by decide⟩ (Nat.le_of_ble_eq_true rfl) dX12_readNext_187 ⟨(by decide), (by decide)⟩) (fun h1258 K1259 => ?_)
                          obtain ⟨O1261, F1262, p1263, p1264, p1265⟩ := K1259
                          obtain ⟨v1266, e1267⟩ : ∃ z, Iv h1258 a0 7 = z := ⟨_, rfl⟩
                          have e1268 : Tg h1258 a0 = 12 := (fxT F1262 e1251)
                          have f1269 := ok_I O1261 e1268 rI_12_7 e1267
                          obtain ⟨v1270, e1271⟩ : ∃ z, Iv h1258 a0 8 = z := ⟨_, rfl⟩
                          have f1272 := ok_I O1261 e1268 rI_12_8 e1271
                          have e1273 : Iv h1258 a0 28 = v7 := ((fxI F1262 e1251 rfl).trans e1254)
                          obtain ⟨p1274, p1275, p1276, p1277⟩ := p1263
                          have p1278 := ((NT_fx O1250 F1262 e1251 rfl).trans p1256)
                          rw [e1267, p1278] at p1275
                          rw [e1271, e1267, p1278] at p1276
                          rw [e1273, e1267] at p1277
                          have p1279 := p1264
                          unfold ST at p1279
                          rw [e1252, e1267, e1254, e1273, e1253, e1271] at p1279
                          rw [e1271, e1267, e1252] at p1265
                          have p1280 := (MInv_fx O1250 F1262 e1251 rfl (MInv_fx O1199 ((Fx.rf (wr := [23220200]) (h := h1198)).pIa t1203 ar_116101 hh1248 rfl) e1200 rfl (MInv_fx O956 ((Fx.rf (wr := [23420200]) (h := h953)).pIa t978 ar_117101 hh1197 rfl) e963 rfl (MInv_fx O946 F957 e947 rfl (MInv_fx O928 ((Fx.rf (wr := [2407]) (h := h925)).pI e941 hh944 rfl) e941 rfl (MInv_fx O774 F929 e918 rfl (MInv_fx O377 F775 e764 rfl (MInv_fx O348 F378 e367 rfl (MInv_fx O265 F349 e338 rfl (MInv_fx O236 F266 e255 rfl (MInv_fx O147 F237 e226 rfl (MInv_fx O60 F148 e137 rfl (MInv_fx O21 F61 e50 rfl (MInv_fx O F22 ta0 rfl P_MInv))))))))))))))
                          have p1281 := (DLf_mono O1250 F1262 e1251 rfl p1264.2.2 (DLf_fx O1199 ((Fx.rf (wr := [23220200]) (h := h1198)).pIa t1203 ar_116101 hh1248 rfl) e1200 rfl (DLf_fx O956 ((Fx.rf (wr := [23420200]) (h := h953)).pIa t978 ar_117101 hh1197 rfl) e963 rfl (DLf_mono O946 F957 e947 rfl p960.2.2 (DLf_fx O928 ((Fx.rf (wr := [2407]) (h := h925)).pI e941 hh944 rfl) e941 rfl (DLf_fx O774 F929 e918 rfl (DLf_fx O377 F775 e764 rfl (DLf_fx O348 F378 e367 rfl (DLf_fx O265 F349 e338 rfl (DLf_fx O236 F266 e255 rfl (DLf_fx O147 F237 e226 rfl (DLf_fx O60 F148 e137 rfl (DLf_fx O21 F61 e50 rfl (DLf_fx O F22 ta0 rfl P_DLf))))))))))))))
                          exact g_vret C hr ⟨O1261, (((((((((((((((Fx.rf (wr := wr_k_X12_readNext)).call F22 rfl).call F61 rfl).call F148 rfl).call F237 rfl).call F266 rfl).call F349 rfl).call F378 rfl).call F775 rfl).call F929 rfl).pI e941 hh944 rfl).call F957 rfl).pIa t978 ar_117101 hh1197 rfl).pIa t1203 ar_116101 hh1248 rfl).call F1262 rfl), ⟨p1274, by rw [e1267, p1278]; omega, by rw [e1271, e1267, p1278]; omega, by rw [e1273, e1267]; omega⟩, (by unfold ST; rw [e2, e1267, e8, e1273, e5, e1271]; omega), p1280, p1281, (by rw [e1271, e2, e1267]; omega)⟩ (by decide) (by decide) dX12_readNext_190
                        · exact (no_eq f1196 (il 0) q1247 (by decide)).elim
            · have f1282 : (1 : Int) ≤ r344 ∧ r344 ≤ (1 : Int) := r_nl f350 q365
              refine g_aload_n C rfl 0 rfl dX12_readNext_62 ?_
              have e1283 : Tg h345 a0 = 12 := (fxT F349 e338)
              have e1284 : Iv h345 a0 7 = v1 := ((fxI F349 e338 rfl).trans e339)
              have e1285 : Iv h345 a0 8 = v4 := ((fxI F349 e338 rfl).trans e340)
              have e1286 : Iv h345 a0 28 = v7 := ((fxI F349 e338 rfl).trans e341)
              have p1287 := (TK_fx O265 F349 e338 rfl p342)
              have p1288 := ((NT_fx O265 F349 e338 rfl).trans p343)
              refine g_callV (st := []) (gc_V C lk_LandSurveyModel_371 (k_X12_readBound l D cy w z0 O348 e1283 ⟨p1287, by rw [e1284, p1288]; omega, by rw [e1285, e1284, p1288]; omega, by rw [e1286, e1284]; omega⟩ (by rw [e1285, e1284, p1288]; omega)) e1283 rfl rfl rfl ⟨by decide, by decide⟩ (Nat.le_of_ble_eq_true rfl) dX12_readNext_63 ⟨(by decide), (by decide)⟩) (fun h1290 K1291 => ?_)
              obtain ⟨O1293, F1294, p1295, p1296⟩ := K1291
              obtain ⟨v1297, e1298⟩ : ∃ z, Iv h1290 a0 7 = z := ⟨_, rfl⟩
              have e1299 : Tg h1290 a0 = 12 := (fxT F1294 e1283)
              have f1300 := ok_I O1293 e1299 rI_12_7 e1298
              obtain ⟨v1301, e1302⟩ : ∃ z, Iv h1290 a0 8 = z := ⟨_, rfl⟩
              have f1303 := ok_I O1293 e1299 rI_12_8 e1302
              have e1304 : Iv h1290 a0 28 = v7 := ((fxI F1294 e1283 rfl).trans e1286)
              obtain ⟨p1305, p1306, p1307, p1308⟩ := p1295
              have p1309 := ((NT_fx O348 F1294 e1283 rfl).trans p1288)
              rw [e1298, p1309] at p1306
              rw [e1302, e1298, p1309] at p1307
              rw [e1304, e1298] at p1308
              have p1310 := p1296
              unfold ST at p1310
              rw [e1284, e1298, e1286, e1304, e1285, e1302] at p1310
              refine g_goto C 184 (by decide) dX12_readNext_66 ?_
              refine g_aload_n C rfl 0 rfl dX12_readNext_184 ?_
              refine g_bipush C (by decide) dX12_readNext_185 ?_
              refine g_callV (st := []) (gc_V C lk_LandSurveyModel_380 (k_X12_takeSign l D cy w z0 O1293 e1299 (iw (il 59) (by decide) (by decide)) ⟨p1305, by rw [e1298, p1309]; omega, by rw [e1302, e1298, p1309]; omega, by rw [e1304, e1298]; omega⟩) e1299 rfl rfl rfl ⟨by decide, by decide⟩ (Nat.le_of_ble_eq_true rfl) dX12_readNext_187 ⟨(by decide), (by decide)⟩) (fun h1312 K1313 => ?_)
              obtain ⟨O1315, F1316, p1317, p1318, p1319⟩ := K1313
              obtain ⟨v1320, e1321⟩ : ∃ z, Iv h1312 a0 7 = z := ⟨_, rfl⟩
              have e1322 : Tg h1312 a0 = 12 := (fxT F1316 e1299)
              have f1323 := ok_I O1315 e1322 rI_12_7 e1321
              obtain ⟨v1324, e1325⟩ : ∃ z, Iv h1312 a0 8 = z := ⟨_, rfl⟩
              have f1326 := ok_I O1315 e1322 rI_12_8 e1325
              have e1327 : Iv h1312 a0 28 = v7 := ((fxI F1316 e1299 rfl).trans e1304)
              obtain ⟨p1328, p1329, p1330, p1331⟩ := p1317
              have p1332 := ((NT_fx O1293 F1316 e1299 rfl).trans p1309)
              rw [e1321, p1332] at p1329
              rw [e1325, e1321, p1332] at p1330
              rw [e1327, e1321] at p1331
              have p1333 := p1318
              unfold ST at p1333
              rw [e1298, e1321, e1304, e1327, e1302, e1325] at p1333
              rw [e1325, e1321, e1298] at p1319
              have p1334 := (MInv_fx O1293 F1316 e1299 rfl (MInv_fx O348 F1294 e1283 rfl (MInv_fx O265 F349 e338 rfl (MInv_fx O236 F266 e255 rfl (MInv_fx O147 F237 e226 rfl (MInv_fx O60 F148 e137 rfl (MInv_fx O21 F61 e50 rfl (MInv_fx O F22 ta0 rfl P_MInv))))))))
              have p1335 := (DLf_mono O1293 F1316 e1299 rfl p1318.2.2 (DLf_mono O348 F1294 e1283 rfl p1296.2.2 (DLf_fx O265 F349 e338 rfl (DLf_fx O236 F266 e255 rfl (DLf_fx O147 F237 e226 rfl (DLf_fx O60 F148 e137 rfl (DLf_fx O21 F61 e50 rfl (DLf_fx O F22 ta0 rfl P_DLf))))))))
              exact g_vret C hr ⟨O1315, (((((((((Fx.rf (wr := wr_k_X12_readNext)).call F22 rfl).call F61 rfl).call F148 rfl).call F237 rfl).call F266 rfl).call F349 rfl).call F1294 rfl).call F1316 rfl), ⟨p1328, by rw [e1321, p1332]; omega, by rw [e1325, e1321, p1332]; omega, by rw [e1327, e1321]; omega⟩, (by unfold ST; rw [e2, e1321, e8, e1327, e5, e1325]; omega), p1334, p1335, (by rw [e1325, e2, e1321]; omega)⟩ (by decide) (by decide) dX12_readNext_190
        · have f1336 : (1 : Int) ≤ r232 ∧ r232 ≤ (1 : Int) := r_nl f238 q253
          refine g_aload_n C rfl 0 rfl dX12_readNext_39 ?_
          have e1337 : Tg h233 a0 = 12 := (fxT F237 e226)
          have e1338 : Iv h233 a0 7 = v1 := ((fxI F237 e226 rfl).trans e227)
          have e1339 : Iv h233 a0 8 = v4 := ((fxI F237 e226 rfl).trans e228)
          have e1340 : Iv h233 a0 28 = v7 := ((fxI F237 e226 rfl).trans e229)
          have p1341 := (TK_fx O147 F237 e226 rfl p230)
          have p1342 := ((NT_fx O147 F237 e226 rfl).trans p231)
          have p1343 := (MInv_fx O147 F237 e226 rfl (MInv_fx O60 F148 e137 rfl (MInv_fx O21 F61 e50 rfl (MInv_fx O F22 ta0 rfl P_MInv))))
          have p1344 := (DLf_fx O147 F237 e226 rfl (DLf_fx O60 F148 e137 rfl (DLf_fx O21 F61 e50 rfl (DLf_fx O F22 ta0 rfl P_DLf))))
          refine g_callV (st := []) (gc_V C lk_LandSurveyModel_368 (k_X12_readLine l D cy w z0 O236 e1337 ⟨p1341, by rw [e1338, p1342]; omega, by rw [e1339, e1338, p1342]; omega, by rw [e1340, e1338]; omega⟩ (by rw [e1339, e1338, p1342]; omega) p1343 p1344) e1337 rfl rfl rfl ⟨by decide, by decide⟩ (Nat.le_of_ble_eq_true rfl) dX12_readNext_40 ⟨(by decide), (by decide)⟩) (fun h1346 K1347 => ?_)
          obtain ⟨O1349, F1350, p1351, p1352, p1353, p1354⟩ := K1347
          obtain ⟨v1355, e1356⟩ : ∃ z, Iv h1346 a0 7 = z := ⟨_, rfl⟩
          have e1357 : Tg h1346 a0 = 12 := (fxT F1350 e1337)
          have f1358 := ok_I O1349 e1357 rI_12_7 e1356
          obtain ⟨v1359, e1360⟩ : ∃ z, Iv h1346 a0 8 = z := ⟨_, rfl⟩
          have f1361 := ok_I O1349 e1357 rI_12_8 e1360
          obtain ⟨v1362, e1363⟩ : ∃ z, Iv h1346 a0 28 = z := ⟨_, rfl⟩
          have f1364 := ok_I O1349 e1357 rI_12_28 e1363
          obtain ⟨p1365, p1366, p1367, p1368⟩ := p1351
          have p1369 := ((NT_fx O236 F1350 e1337 rfl).trans p1342)
          rw [e1356, p1369] at p1366
          rw [e1360, e1356, p1369] at p1367
          rw [e1363, e1356] at p1368
          have p1370 := p1352
          unfold ST at p1370
          rw [e1338, e1356, e1340, e1363, e1339, e1360] at p1370
          refine g_goto C 184 (by decide) dX12_readNext_43 ?_
          refine g_aload_n C rfl 0 rfl dX12_readNext_184 ?_
          refine g_bipush C (by decide) dX12_readNext_185 ?_
          refine g_callV (st := []) (gc_V C lk_LandSurveyModel_380 (k_X12_takeSign l D cy w z0 O1349 e1357 (iw (il 59) (by decide) (by decide)) ⟨p1365, by rw [e1356, p1369]; omega, by rw [e1360, e1356, p1369]; omega, by rw [e1363, e1356]; omega⟩) e1357 rfl rfl rfl ⟨by decide, by decide⟩ (Nat.le_of_ble_eq_true rfl) dX12_readNext_187 ⟨(by decide), (by decide)⟩) (fun h1372 K1373 => ?_)
          obtain ⟨O1375, F1376, p1377, p1378, p1379⟩ := K1373
          obtain ⟨v1380, e1381⟩ : ∃ z, Iv h1372 a0 7 = z := ⟨_, rfl⟩
          have e1382 : Tg h1372 a0 = 12 := (fxT F1376 e1357)
          have f1383 := ok_I O1375 e1382 rI_12_7 e1381
          obtain ⟨v1384, e1385⟩ : ∃ z, Iv h1372 a0 8 = z := ⟨_, rfl⟩
          have f1386 := ok_I O1375 e1382 rI_12_8 e1385
          have e1387 : Iv h1372 a0 28 = v1362 := ((fxI F1376 e1357 rfl).trans e1363)
          obtain ⟨p1388, p1389, p1390, p1391⟩ := p1377
          have p1392 := ((NT_fx O1349 F1376 e1357 rfl).trans p1369)
          rw [e1381, p1392] at p1389
          rw [e1385, e1381, p1392] at p1390
          rw [e1387, e1381] at p1391
          have p1393 := p1378
          unfold ST at p1393
          rw [e1356, e1381, e1363, e1387, e1360, e1385] at p1393
          rw [e1385, e1381, e1356] at p1379
          have p1394 := (MInv_fx O1349 F1376 e1357 rfl p1353)
          have p1395 := (DLf_mono O1349 F1376 e1357 rfl p1378.2.2 p1354)
          exact g_vret C hr ⟨O1375, (((((((Fx.rf (wr := wr_k_X12_readNext)).call F22 rfl).call F61 rfl).call F148 rfl).call F237 rfl).call F1350 rfl).call F1376 rfl), ⟨p1388, by rw [e1381, p1392]; omega, by rw [e1385, e1381, p1392]; omega, by rw [e1387, e1381]; omega⟩, (by unfold ST; rw [e2, e1381, e8, e1387, e5, e1385]; omega), p1394, p1395, (by rw [e1385, e2, e1381]; omega)⟩ (by decide) (by decide) dX12_readNext_190
  · have f1396 : (1 : Int) ≤ r17 ∧ r17 ≤ (1 : Int) := r_nl f23 q48
    refine g_aload_n C rfl 0 rfl dX12_readNext_8 ?_
    have e1397 : Tg h18 a0 = 12 := (fxT F22 ta0)
    have e1398 : Iv h18 a0 7 = v1 := ((fxI F22 ta0 rfl).trans e2)
    have e1399 : Iv h18 a0 8 = v4 := ((fxI F22 ta0 rfl).trans e5)
    have e1400 : Iv h18 a0 28 = v7 := ((fxI F22 ta0 rfl).trans e8)
    have p1401 := (TK_fx O F22 ta0 rfl p10)
    have p1402 := ((NT_fx O F22 ta0 rfl).trans e15)
    refine g_callV (st := []) (gc_V C lk_LandSurveyModel_365 (k_X12_readRock l D cy w z0 O21 e1397 ⟨p1401, by rw [e1398, p1402]; omega, by rw [e1399, e1398, p1402]; omega, by rw [e1400, e1398]; omega⟩ (by rw [e1399, e1398, p1402]; omega)) e1397 rfl rfl rfl ⟨by decide, by decide⟩ (Nat.le_of_ble_eq_true rfl) dX12_readNext_9 ⟨(by decide), (by decide)⟩) (fun h1404 K1405 => ?_)
    obtain ⟨O1407, F1408, p1409, p1410⟩ := K1405
    obtain ⟨v1411, e1412⟩ : ∃ z, Iv h1404 a0 7 = z := ⟨_, rfl⟩
    have e1413 : Tg h1404 a0 = 12 := (fxT F1408 e1397)
    have f1414 := ok_I O1407 e1413 rI_12_7 e1412
    obtain ⟨v1415, e1416⟩ : ∃ z, Iv h1404 a0 8 = z := ⟨_, rfl⟩
    have f1417 := ok_I O1407 e1413 rI_12_8 e1416
    have e1418 : Iv h1404 a0 28 = v7 := ((fxI F1408 e1397 rfl).trans e1400)
    obtain ⟨p1419, p1420, p1421, p1422⟩ := p1409
    have p1423 := ((NT_fx O21 F1408 e1397 rfl).trans p1402)
    rw [e1412, p1423] at p1420
    rw [e1416, e1412, p1423] at p1421
    rw [e1418, e1412] at p1422
    have p1424 := p1410
    unfold ST at p1424
    rw [e1398, e1412, e1400, e1418, e1399, e1416] at p1424
    refine g_goto C 184 (by decide) dX12_readNext_12 ?_
    refine g_aload_n C rfl 0 rfl dX12_readNext_184 ?_
    refine g_bipush C (by decide) dX12_readNext_185 ?_
    refine g_callV (st := []) (gc_V C lk_LandSurveyModel_380 (k_X12_takeSign l D cy w z0 O1407 e1413 (iw (il 59) (by decide) (by decide)) ⟨p1419, by rw [e1412, p1423]; omega, by rw [e1416, e1412, p1423]; omega, by rw [e1418, e1412]; omega⟩) e1413 rfl rfl rfl ⟨by decide, by decide⟩ (Nat.le_of_ble_eq_true rfl) dX12_readNext_187 ⟨(by decide), (by decide)⟩) (fun h1426 K1427 => ?_)
    obtain ⟨O1429, F1430, p1431, p1432, p1433⟩ := K1427
    obtain ⟨v1434, e1435⟩ : ∃ z, Iv h1426 a0 7 = z := ⟨_, rfl⟩
    have e1436 : Tg h1426 a0 = 12 := (fxT F1430 e1413)
    have f1437 := ok_I O1429 e1436 rI_12_7 e1435
    obtain ⟨v1438, e1439⟩ : ∃ z, Iv h1426 a0 8 = z := ⟨_, rfl⟩
    have f1440 := ok_I O1429 e1436 rI_12_8 e1439
    have e1441 : Iv h1426 a0 28 = v7 := ((fxI F1430 e1413 rfl).trans e1418)
    obtain ⟨p1442, p1443, p1444, p1445⟩ := p1431
    have p1446 := ((NT_fx O1407 F1430 e1413 rfl).trans p1423)
    rw [e1435, p1446] at p1443
    rw [e1439, e1435, p1446] at p1444
    rw [e1441, e1435] at p1445
    have p1447 := p1432
    unfold ST at p1447
    rw [e1412, e1435, e1418, e1441, e1416, e1439] at p1447
    rw [e1439, e1435, e1412] at p1433
    have p1448 := (MInv_fx O1407 F1430 e1413 rfl (MInv_fx O21 F1408 e1397 rfl (MInv_fx O F22 ta0 rfl P_MInv)))
    have p1449 := (DLf_mono O1407 F1430 e1413 rfl p1432.2.2 (DLf_mono O21 F1408 e1397 rfl p1410.2.2 (DLf_fx O F22 ta0 rfl P_DLf)))
    exact g_vret C hr ⟨O1429, ((((Fx.rf (wr := wr_k_X12_readNext)).call F22 rfl).call F1408 rfl).call F1430 rfl), ⟨p1442, by rw [e1435, p1446]; omega, by rw [e1439, e1435, p1446]; omega, by rw [e1441, e1435]; omega⟩, (by unfold ST; rw [e2, e1435, e8, e1441, e5, e1439]; omega), p1448, p1449, (by rw [e1439, e2, e1435]; omega)⟩ (by decide) (by decide) dX12_readNext_190
def wr_k_X12_begins : List Nat := [2428, 22420000, 23220200, 23420200, 23620200, 23820000, 24020200, 24220000, 24420000, 24820000]
set_option maxRecDepth 100000 in
set_option maxHeartbeats 4000000 in
theorem k_X12_begins (l : Launch) (D : va_G) (cy : Nat → ClassId) (w : Nat → Nat) (z0 : Nat) {h : Hp} {a0 : Nat}  (O : Okh h) (ta0 : Tg h a0 = 12) (P_MInv : MInv h a0) : MV l D cy w z0 yX12_begins cX12_begins 2 none 0 0 0 0 [.inr (.inr a0)] h (fun h1 => Okh h1 ∧ Fx wr_k_X12_begins h h1 ∧ (MInv h1 a0) ∧ (Iv h1 a0 28 = 0 ∧ Iv h1 (Rv h1 a0 24) 8 = 0)) := by
  refine hm_go (by decide +kernel) (Nat.le_of_ble_eq_true rfl) (fun p e s m below meth c C hr hn => ?_)
  refine g_aload_n C rfl 0 rfl dX12_begins_0 ?_
  obtain ⟨v1, e2⟩ : ∃ z, Rv h a0 12 = z := ⟨_, rfl⟩
  have t3 := ok_R O ta0 rE_12_12 e2
  have l4 := ok_L O ta0 rE_12_12 e2
  refine gf_R C fk_LandSurveyModel_100 rfl ta0 e2 dX12_begins_1 ?_
  refine g_bipush C (by decide) dX12_begins_4 ?_
  refine g_iconst C dX12_begins_6 ?_
  refine g_iast C t3 rfl l4 (ix (il 8) (by decide) (by decide)) (iw (il 0) (by decide) (by decide)) dX12_begins_7 (fun h6 hh5 => ?_)
  have O7 := O.pIa t3 ar_112100 hh5 rI_112100_0 (iw (il 0) (by decide) (by decide)) nofun
  refine g_aload_n C rfl 0 rfl dX12_begins_8 ?_
  have e8 : Tg h6 a0 = 12 := ((pIT hh5).trans ta0)
  obtain ⟨v9, e10⟩ : ∃ z, Rv h6 a0 18 = z := ⟨_, rfl⟩
  have t11 := ok_R O7 e8 rE_12_18 e10
  have l12 := ok_L O7 e8 rE_12_18 e10
  refine gf_R C fk_LandSurveyModel_119 rfl e8 e10 dX12_begins_9 ?_
  refine g_bipush C (by decide) dX12_begins_12 ?_
  refine g_iconst C dX12_begins_14 ?_
  refine g_zast C t11 rfl l12 (ix (il 8) (by decide) (by decide)) (iw (il 0) (by decide) (by decide)) dX12_begins_15 (fun h14 hh13 => ?_)
  have O15 := O7.pIa t11 ar_118101 hh13 rI_118101_0 (iw (il 0) (by decide) (by decide)) nofun
  refine g_aload_n C rfl 0 rfl dX12_begins_16 ?_
  have e16 : Tg h14 a0 = 12 := ((pIT hh13).trans e8)
  obtain ⟨v17, e18⟩ : ∃ z, Rv h14 a0 19 = z := ⟨_, rfl⟩
  have t19 := ok_R O15 e16 rE_12_19 e18
  have l20 := ok_L O15 e16 rE_12_19 e18
  refine gf_R C fk_LandSurveyModel_122 rfl e16 e18 dX12_begins_17 ?_
  refine g_bipush C (by decide) dX12_begins_20 ?_
  refine g_bipush C (by decide) dX12_begins_22 ?_
  refine g_iast C t19 rfl l20 (ix (il 8) (by decide) (by decide)) (iw (il 10) (by decide) (by decide)) dX12_begins_24 (fun h22 hh21 => ?_)
  have O23 := O15.pIa t19 ar_119100 hh21 rI_119100_0 (iw (il 10) (by decide) (by decide)) nofun
  refine g_aload_n C rfl 0 rfl dX12_begins_25 ?_
  have e24 : Tg h22 a0 = 12 := ((pIT hh21).trans e16)
  obtain ⟨v25, e26⟩ : ∃ z, Rv h22 a0 20 = z := ⟨_, rfl⟩
  have t27 := ok_R O23 e24 rE_12_20 e26
  have l28 := ok_L O23 e24 rE_12_20 e26
  refine gf_R C fk_LandSurveyModel_125 rfl e24 e26 dX12_begins_26 ?_
  refine g_bipush C (by decide) dX12_begins_29 ?_
  refine g_iconst C dX12_begins_31 ?_
  refine g_zast C t27 rfl l28 (ix (il 8) (by decide) (by decide)) (iw (il 0) (by decide) (by decide)) dX12_begins_32 (fun h30 hh29 => ?_)
  have O31 := O23.pIa t27 ar_120101 hh29 rI_120101_0 (iw (il 0) (by decide) (by decide)) nofun
  refine g_aload_n C rfl 0 rfl dX12_begins_33 ?_
  have e32 : Tg h30 a0 = 12 := ((pIT hh29).trans e24)
  obtain ⟨v33, e34⟩ : ∃ z, Rv h30 a0 21 = z := ⟨_, rfl⟩
  have t35 := ok_R O31 e32 rE_12_21 e34
  have l36 := ok_L O31 e32 rE_12_21 e34
  refine gf_R C fk_LandSurveyModel_128 rfl e32 e34 dX12_begins_34 ?_
  refine g_bipush C (by decide) dX12_begins_37 ?_
  refine g_bipush C (by decide) dX12_begins_39 ?_
  refine g_iast C t35 rfl l36 (ix (il 8) (by decide) (by decide)) (iw (il 20) (by decide) (by decide)) dX12_begins_41 (fun h38 hh37 => ?_)
  have O39 := O31.pIa t35 ar_121100 hh37 rI_121100_0 (iw (il 20) (by decide) (by decide)) nofun
  refine g_aload_n C rfl 0 rfl dX12_begins_42 ?_
  have e40 : Tg h38 a0 = 12 := ((pIT hh37).trans e32)
  obtain ⟨v41, e42⟩ : ∃ z, Rv h38 a0 24 = z := ⟨_, rfl⟩
  have t43 := ok_R O39 e40 rE_12_24 e42
  have l44 := ok_L O39 e40 rE_12_24 e42
  refine gf_R C fk_LandSurveyModel_137 rfl e40 e42 dX12_begins_43 ?_
  refine g_bipush C (by decide) dX12_begins_46 ?_
  refine g_iconst C dX12_begins_48 ?_
  refine g_iast C t43 rfl l44 (ix (il 8) (by decide) (by decide)) (iw (il 0) (by decide) (by decide)) dX12_begins_49 (fun h46 hh45 => ?_)
  have O47 := O39.pIa t43 ar_124100 hh45 rI_124100_0 (iw (il 0) (by decide) (by decide)) nofun
  refine g_aload_n C rfl 0 rfl dX12_begins_50 ?_
  refine g_iconst C dX12_begins_51 ?_
  have e48 : Tg h46 a0 = 12 := ((pIT hh45).trans e40)
  refine gp_I C fk_LandSurveyModel_336 pk_LandSurveyModel_28 rfl e48 (iw (il 0) (by decide) (by decide)) (nf_i _) dX12_begins_52 (fun h50 hh49 => ?_)
  have O51 := O47.pI e48 hh49 rI_12_28 (iw (il 0) (by decide) (by decide)) nofun
  refine g_bipush C (by decide) dX12_begins_55 ?_
  refine g_istore_n C [(1, .inl 80), (0, .inr (.inr a0))] rfl (by decide) rfl dX12_begins_57 ?_
  refine GW.sub [1, 0] rfl ?_
  -- loop at 58
  have L54 : ∀ (μ : Nat) (x52 : Int) (h53 : Hp), (90 - x52).toNat = μ → Okh h53 → Fx [23220200, 23420200, 24420000] h50 h53 → ((80 : Int) ≤ x52 ∧ x52 ≤ (90 : Int)) → GW p l e (rmm 0 0 0 0) s m (List.map toV [.inr (.inr a0)]).toArray below meth c D cy z0 2 (MQ below (QV D cy z0 (fun h1 => Okh h1 ∧ Fx wr_k_X12_begins h h1 ∧ (MInv h1 a0) ∧ (Iv h1 a0 28 = 0 ∧ Iv h1 (Rv h1 a0 24) 8 = 0))) (List.map toV [.inr (.inr a0)]).toArray s 0 0 (Aof z0)) 58 [(0, .inr (.inr a0)), (1, .inl x52)] [] h53 0 0 := by
    intro μ
    induction μ using Nat.strongRecOn with
    | ind μ ih55 =>
      intro x52 h53 hm56 O57 F58 f59
      refine g_iload_n C rfl 1 rfl dX12_begins_58 ?_
      refine g_bipush C (by decide) dX12_begins_59 ?_
      refine g_icmp_ge C (iw f59 (by decide) (by decide)) (iw (il 90) (by decide) (by decide)) 91 (by decide) dX12_begins_61 (fun q60 => ?_) (fun q61 => ?_)
      · have f62 : (90 : Int) ≤ x52 ∧ x52 ≤ (90 : Int) := r_ge f59 (il 90) q60 (by decide) (by decide)
        have e63 : Tg h50 a0 = 12 := ((pIT hh49).trans e48)
        have p64 := (MInv_fx O51 F58 e63 rfl (MInv_fx O47 ((Fx.rf (wr := [2428]) (h := h46)).pI e48 hh49 rfl) e48 rfl (MInv_w O39 e40 t43 (by decide) hh45 ⟨fun e => by omega, fun e => by omega, fun e => by omega⟩ (MInv_fx O31 ((Fx.rf (wr := [24220000]) (h := h30)).pIa t35 ar_121100 hh37 rfl) e32 rfl (MInv_fx O23 ((Fx.rf (wr := [24020200]) (h := h22)).pIa t27 ar_120101 hh29 rfl) e24 rfl (MInv_fx O15 ((Fx.rf (wr := [23820000]) (h := h14)).pIa t19 ar_119100 hh21 rfl) e16 rfl (MInv_fx O7 ((Fx.rf (wr := [23620200]) (h := h6)).pIa t11 ar_118101 hh13 rfl) e8 rfl (MInv_fx O ((Fx.rf (wr := [22420000]) (h := h)).pIa t3 ar_112100 hh5 rfl) ta0 rfl P_MInv))))))))
        have e65 : Iv h53 a0 28 = 0 := ((fxI F58 e63 rfl).trans (pI_e hh49))
        have e66 : Rv h53 a0 24 = v41 := ((fxR F58 e63 rfl).trans ((pIR hh49).trans ((pIR hh45).trans e42)))
        have e67 : Tg h46 v41 = 124100 := ((pIT hh45).trans t43)
        have e68 : Tg h50 v41 = 124100 := ((pIT hh49).trans e67)
        have e69 : Iv h53 v41 ((8 : Int).toNat) = 0 := ((fxIa F58 e68 ar_124100 rfl).trans ((pI_n hh49 (ne_tag e67 e48 (by decide))).trans (pI_e hh45)))
        exact g_vret C hr ⟨O57, (((((((((Fx.rf (wr := wr_k_X12_begins)).pIa t3 ar_112100 hh5 rfl).pIa t11 ar_118101 hh13 rfl).pIa t19 ar_119100 hh21 rfl).pIa t27 ar_120101 hh29 rfl).pIa t35 ar_121100 hh37 rfl).pIa t43 ar_124100 hh45 rfl).pI e48 hh49 rfl).call F58 rfl), p64, ⟨e65, by rw [e66]; exact e69⟩⟩ (by decide) (by decide) dX12_begins_91
      · have f70 : (80 : Int) ≤ x52 ∧ x52 ≤ (89 : Int) := r_lt f59 (il 90) q61 (by decide) (by decide)
        refine g_aload_n C rfl 0 rfl dX12_begins_64 ?_
        have e71 : Tg h53 a0 = 12 := (fxT F58 ((pIT hh49).trans e48))
        obtain ⟨v72, e73⟩ : ∃ z, Rv h53 a0 22 = z := ⟨_, rfl⟩
        have t74 := ok_R O57 e71 rE_12_22 e73
        have l75 := ok_L O57 e71 rE_12_22 e73
        refine gf_R C fk_LandSurveyModel_131 rfl e71 e73 dX12_begins_65 ?_
        refine g_iload_n C rfl 1 rfl dX12_begins_68 ?_
        refine g_iconst C dX12_begins_69 ?_
        refine g_iast C t74 rfl l75 (ix f70 (by decide) (by decide)) (iw (il (-1)) (by decide) (by decide)) dX12_begins_70 (fun h77 hh76 => ?_)
        have O78 := O57.pIa t74 ar_122100 hh76 rI_122100_0 (iw (il (-1)) (by decide) (by decide)) nofun
        refine g_aload_n C rfl 0 rfl dX12_begins_71 ?_
        have e79 : Tg h77 a0 = 12 := ((pIT hh76).trans e71)
        obtain ⟨v80, e81⟩ : ∃ z, Rv h77 a0 16 = z := ⟨_, rfl⟩
        have t82 := ok_R O78 e79 rE_12_16 e81
        have l83 := ok_L O78 e79 rE_12_16 e81
        refine gf_R C fk_LandSurveyModel_112 rfl e79 e81 dX12_begins_72 ?_
        refine g_iload_n C rfl 1 rfl dX12_begins_75 ?_
        refine g_iconst C dX12_begins_76 ?_
        refine g_zast C t82 rfl l83 (ix f70 (by decide) (by decide)) (iw (il 0) (by decide) (by decide)) dX12_begins_77 (fun h85 hh84 => ?_)
        have O86 := O78.pIa t82 ar_116101 hh84 rI_116101_0 (iw (il 0) (by decide) (by decide)) nofun
        refine g_aload_n C rfl 0 rfl dX12_begins_78 ?_
        have e87 : Tg h85 a0 = 12 := ((pIT hh84).trans e79)
        obtain ⟨v88, e89⟩ : ∃ z, Rv h85 a0 17 = z := ⟨_, rfl⟩
        have t90 := ok_R O86 e87 rE_12_17 e89
        have l91 := ok_L O86 e87 rE_12_17 e89
        refine gf_R C fk_LandSurveyModel_116 rfl e87 e89 dX12_begins_79 ?_
        refine g_iload_n C rfl 1 rfl dX12_begins_82 ?_
        refine g_iconst C dX12_begins_83 ?_
        refine g_zast C t90 rfl l91 (ix f70 (by decide) (by decide)) (iw (il 0) (by decide) (by decide)) dX12_begins_84 (fun h93 hh92 => ?_)
        have O94 := O86.pIa t90 ar_117101 hh92 rI_117101_0 (iw (il 0) (by decide) (by decide)) nofun
        have f95 : (81 : Int) ≤ (x52 + 1) ∧ (x52 + 1) ≤ (90 : Int) := ia_add f70 (il 1) (by decide) (by decide)
        refine g_iinc C [(1, .inl (x52 + 1)), (0, .inr (.inr a0))] 1 rfl (by decide) rfl dX12_begins_85 ?_
        refine g_goto C 58 (by decide) dX12_begins_88 ?_
        refine GW.sub [1, 0] rfl ?_
        exact ih55 _ (by omega) (x52 + 1) h93 rfl O94 (((F58.pIa t74 ar_122100 hh76 rfl).pIa t82 ar_116101 hh84 rfl).pIa t90 ar_117101 hh92 rfl) (iw f95 (by decide) (by decide))
  exact L54 _ 80 h50 rfl O51 Fx.rf (iw (il 80) (by decide) (by decide))
def wr_k_X12_cutAll : List Nat := [2402, 2403, 2407, 2408, 20820000, 21020000, 21220400]
set_option maxRecDepth 100000 in
set_option maxHeartbeats 4000000 in
theorem k_X12_cutAll (l : Launch) (D : va_G) (cy : Nat → ClassId) (w : Nat → Nat) (z0 : Nat) {h : Hp} {a0 : Nat}  (O : Okh h) (ta0 : Tg h a0 = 12) : MV l D cy w z0 yX12_cutAll cX12_cutAll 7 none 2 40 0 0 [.inr (.inr a0)] h (fun h1 => Okh h1 ∧ Fx wr_k_X12_cutAll h h1 ∧ (TK h1 a0 ∧ Iv h1 a0 7 = 0 ∧ Iv h1 a0 8 = 0)) := by
  refine hm_go (by decide +kernel) (Nat.le_of_ble_eq_true rfl) (fun p e s m below meth c C hr hn => ?_)
  refine g_aload_n C rfl 0 rfl dX12_cutAll_0 ?_
  refine g_aload_n C rfl 0 rfl dX12_cutAll_1 ?_
  obtain ⟨v1, e2⟩ : ∃ z, Iv h a0 2 = z := ⟨_, rfl⟩
  have f3 := ok_I O ta0 rI_12_2 e2
  refine gf_I C fk_LandSurveyModel_11 rfl ta0 e2 dX12_cutAll_2 ?_
  refine gp_I C fk_LandSurveyModel_298 pk_LandSurveyModel_3 rfl ta0 (iw f3 (by decide) (by decide)) (nf_i _) dX12_cutAll_5 (fun h5 hh4 => ?_)
  have O6 := O.pI ta0 hh4 rI_12_3 f3 nofun
  refine g_aload_n C rfl 0 rfl dX12_cutAll_8 ?_
  refine g_iconst C dX12_cutAll_9 ?_
  have e7 : Tg h5 a0 = 12 := ((pIT hh4).trans ta0)
  refine gp_I C fk_LandSurveyModel_11 pk_LandSurveyModel_2 rfl e7 (iw (il 0) (by decide) (by decide)) (nf_i _) dX12_cutAll_10 (fun h9 hh8 => ?_)
  have O10 := O6.pI e7 hh8 rI_12_2 (iw (il 0) (by decide) (by decide)) nofun
  refine g_iconst C dX12_cutAll_13 ?_
  refine g_istore_n C [(1, .inl 0), (0, .inr (.inr a0))] rfl (by decide) rfl dX12_cutAll_14 ?_
  refine g_iconst C dX12_cutAll_15 ?_
  refine g_istore_n C [(2, .inl 0), (1, .inl 0), (0, .inr (.inr a0))] rfl (by decide) rfl dX12_cutAll_16 ?_
  refine GW.sub [2, 1, 0] rfl ?_
  -- loop at 17
  have L14 : ∀ (μ : Nat) (x11 : Int) (x12 : Int) (h13 : Hp), (1500 - x12).toNat = μ → Okh h13 → Fx [20820000, 21020000, 21220400] h9 h13 → ((0 : Int) ≤ x11 ∧ x11 ≤ (1500 : Int)) → ((0 : Int) ≤ x12 ∧ x12 ≤ (1500 : Int)) → (CU h13 a0 x11) → (x11 ≤ x12) → (x12 ≤ Iv h13 a0 3) → GW p l e (rmm 2 40 0 0) s m (List.map toV [.inr (.inr a0)]).toArray below meth c D cy z0 7 (MQ below (QV D cy z0 (fun h1 => Okh h1 ∧ Fx wr_k_X12_cutAll h h1 ∧ (TK h1 a0 ∧ Iv h1 a0 7 = 0 ∧ Iv h1 a0 8 = 0))) (List.map toV [.inr (.inr a0)]).toArray s 0 0 (Aof z0)) 17 [(0, .inr (.inr a0)), (1, .inl x11), (2, .inl x12)] [] h13 0 0 := by
    intro μ
    induction μ using Nat.strongRecOn with
    | ind μ ih15 =>
      intro x11 x12 h13 hm16 O17 F18 f19 f20 p21 p22 p23
      have e24 : Tg h9 a0 = 12 := ((pIT hh8).trans e7)
      have e25 : Iv h13 a0 3 = v1 := ((fxI F18 e24 rfl).trans ((pI_j hh8 (by decide)).trans (pI_e hh4)))
      rw [e25] at p23
      refine g_iload_n C rfl 2 rfl dX12_cutAll_17 ?_
      refine g_aload_n C rfl 0 rfl dX12_cutAll_18 ?_
      have e26 : Tg h13 a0 = 12 := (fxT F18 e24)
      refine gf_I C fk_LandSurveyModel_298 rfl e26 e25 dX12_cutAll_19 ?_
      refine g_icmp_ge C (iw f20 (by decide) (by decide)) (iw f3 (by decide) (by decide)) 279 (by decide) dX12_cutAll_22 (fun q27 => ?_) (fun q28 => ?_)
      · refine g_aload_n C rfl 0 rfl dX12_cutAll_279 ?_
        obtain ⟨v29, e30⟩ : ∃ z, Rv h13 a0 4 = z := ⟨_, rfl⟩
        have t31 := ok_R O17 e26 rE_12_4 e30
        have l32 := ok_L O17 e26 rE_12_4 e30
        refine gf_R C fk_LandSurveyModel_24 rfl e26 e30 dX12_cutAll_280 ?_
        refine g_iload_n C rfl 1 rfl dX12_cutAll_283 ?_
        refine g_iconst C dX12_cutAll_284 ?_
        refine g_iast C t31 rfl l32 (ix f19 (by decide) (by decide)) (iw (il 0) (by decide) (by decide)) dX12_cutAll_285 (fun h34 hh33 => ?_)
        have O35 := O17.pIa t31 ar_104100 hh33 rI_104100_0 (iw (il 0) (by decide) (by decide)) nofun
        refine g_aload_n C rfl 0 rfl dX12_cutAll_286 ?_
        have e36 : Tg h34 a0 = 12 := ((pIT hh33).trans e26)
        obtain ⟨v37, e38⟩ : ∃ z, Rv h34 a0 5 = z := ⟨_, rfl⟩
        have t39 := ok_R O35 e36 rE_12_5 e38
        have l40 := ok_L O35 e36 rE_12_5 e38
        refine gf_R C fk_LandSurveyModel_27 rfl e36 e38 dX12_cutAll_287 ?_
        refine g_iload_n C rfl 1 rfl dX12_cutAll_290 ?_
        refine g_aload_n C rfl 0 rfl dX12_cutAll_291 ?_
        have e41 : Iv h34 a0 3 = v1 := ((pI_n hh33 (ne_tag e26 t31 (by decide))).trans e25)
        refine gf_I C fk_LandSurveyModel_298 rfl e36 e41 dX12_cutAll_292 ?_
        refine g_iast C t39 rfl l40 (ix f19 (by decide) (by decide)) (iw f3 (by decide) (by decide)) dX12_cutAll_295 (fun h43 hh42 => ?_)
        have O44 := O35.pIa t39 ar_105100 hh42 rI_105100_0 f3 nofun
        refine g_aload_n C rfl 0 rfl dX12_cutAll_296 ?_
        refine g_iconst C dX12_cutAll_297 ?_
        have e45 : Tg h43 a0 = 12 := ((pIT hh42).trans e36)
        refine gp_I C fk_LandSurveyModel_317 pk_LandSurveyModel_7 rfl e45 (iw (il 0) (by decide) (by decide)) (nf_i _) dX12_cutAll_298 (fun h47 hh46 => ?_)
        have O48 := O44.pI e45 hh46 rI_12_7 (iw (il 0) (by decide) (by decide)) nofun
        refine g_aload_n C rfl 0 rfl dX12_cutAll_301 ?_
        refine g_iconst C dX12_cutAll_302 ?_
        have e49 : Tg h47 a0 = 12 := ((pIT hh46).trans e45)
        refine gp_I C fk_LandSurveyModel_320 pk_LandSurveyModel_8 rfl e49 (iw (il 0) (by decide) (by decide)) (nf_i _) dX12_cutAll_303 (fun h51 hh50 => ?_)
        have O52 := O48.pI e49 hh50 rI_12_8 (iw (il 0) (by decide) (by decide)) nofun
        have e53 : Rv h51 a0 4 = v29 := ((pIR hh50).trans ((pIR hh46).trans ((pIR hh42).trans ((pIR hh33).trans e30))))
        have e54 : Tg h34 v29 = 104100 := ((pIT hh33).trans t31)
        have e55 : Tg h43 v29 = 104100 := ((pIT hh42).trans e54)
        have e56 : Tg h47 v29 = 104100 := ((pIT hh46).trans e55)
        have e57 : Iv h51 v29 x11.toNat = 0 := ((pI_n hh50 (ne_tag e56 e49 (by decide))).trans ((pI_n hh46 (ne_tag e55 e45 (by decide))).trans ((pI_n hh42 (ne_tag e54 t39 (by decide))).trans (pI_e hh33))))
        have p58 := (CU_fx O48 ((Fx.rf (wr := [2408]) (h := h47)).pI e49 hh50 rfl) e49 rfl (CU_fx O44 ((Fx.rf (wr := [2407]) (h := h43)).pI e45 hh46 rfl) e45 rfl (CU_fx O35 ((Fx.rf (wr := [21020000]) (h := h34)).pIa t39 ar_105100 hh42 rfl) e36 rfl (CU_wI hh33 (by omega) p21))))
        have e59 : Iv h51 a0 7 = 0 := ((pI_j hh50 (by decide)).trans (pI_e hh46))
        exact g_vret C hr ⟨O52, ((((((((Fx.rf (wr := wr_k_X12_cutAll)).pI ta0 hh4 rfl).pI e7 hh8 rfl).call F18 rfl).pIa t31 ar_104100 hh33 rfl).pIa t39 ar_105100 hh42 rfl).pI e45 hh46 rfl).pI e49 hh50 rfl), ⟨TK_made (n := x11) (by omega) (by rw [e53]; exact e57) p58, e59, (pI_e hh50)⟩⟩ (by decide) (by decide) dX12_cutAll_306
      · have f60 : (0 : Int) ≤ x12 ∧ x12 ≤ (1499 : Int) := r_lt f20 f3 q28 (by decide) (by decide)
        have f61 : (1 : Int) ≤ v1 ∧ v1 ≤ (1500 : Int) := r_gt f3 f20 q28 (by decide) (by decide)
        refine g_aload_n C rfl 0 rfl dX12_cutAll_25 ?_
        obtain ⟨v62, e63⟩ : ∃ z, Rv h13 a0 1 = z := ⟨_, rfl⟩
        have t64 := ok_R O17 e26 rE_12_1 e63
        have l65 := ok_L O17 e26 rE_12_1 e63
        refine gf_R C fk_LandSurveyModel_14 rfl e26 e63 dX12_cutAll_26 ?_
        refine g_iload_n C rfl 2 rfl dX12_cutAll_29 ?_
        obtain ⟨v66, e67⟩ : ∃ z, Iv h13 v62 x12.toNat = z := ⟨_, rfl⟩
        have f68 := ok_Ia O17 t64 ar_101100 rI_101100_0 e67
        refine g_iald C t64 rfl l65 (ix f60 (by decide) (by decide)) e67 dX12_cutAll_30 ?_
        refine g_istore_n C [(3, .inl v66), (0, .inr (.inr a0)), (1, .inl x11), (2, .inl x12)] rfl (by decide) rfl dX12_cutAll_31 ?_
        refine g_iload_n C rfl 0 rfl dX12_cutAll_32 ?_
        refine g_bipush C (by decide) dX12_cutAll_33 ?_
        refine g_icmp_eq C (iw f68 (by decide) (by decide)) (iw (il 10) (by decide) (by decide)) 44 (by decide) dX12_cutAll_35 (fun q69 => ?_) (fun q70 => ?_)
        · have f71 : (10 : Int) ≤ v66 ∧ v66 ≤ (10 : Int) := ii f68 (r_eq (il 10) q69) (by decide) (by decide)
          have f72 : (1 : Int) ≤ (x12 + 1) ∧ (x12 + 1) ≤ (1500 : Int) := ia_add f60 (il 1) (by decide) (by decide)
          refine g_iinc C [(2, .inl (x12 + 1)), (3, .inl v66), (0, .inr (.inr a0)), (1, .inl x11)] 3 rfl (by decide) rfl dX12_cutAll_44 ?_
          refine g_goto C 17 (by decide) dX12_cutAll_47 ?_
          refine GW.sub [2, 3, 0] rfl ?_
          exact ih15 _ (by omega) x11 (x12 + 1) h13 rfl O17 F18 f19 (iw f72 (by decide) (by decide)) p21 (by omega) (by rw [e25]; omega)
        · refine g_iload_n C rfl 0 rfl dX12_cutAll_38 ?_
          refine g_bipush C (by decide) dX12_cutAll_39 ?_
          refine g_icmp_ne C (iw f68 (by decide) (by decide)) (iw (il 32) (by decide) (by decide)) 50 (by decide) dX12_cutAll_41 (fun q73 => ?_) (fun q74 => ?_)
          · refine g_iload_n C rfl 3 rfl dX12_cutAll_50 ?_
            refine g_istore C [(4, .inl x12), (3, .inl v66), (0, .inr (.inr a0)), (1, .inl x11), (2, .inl x12)] (by decide) rfl dX12_cutAll_51 ?_
            refine g_lconst (z := 0) C (by decide) dX12_cutAll_53 ?_
            refine g_lstore C [(5, .inr (.inl 0)), (4, .inl x12), (3, .inl v66), (0, .inr (.inr a0)), (1, .inl x11), (2, .inl x12)] (by decide) rfl dX12_cutAll_54 ?_
            refine g_aload_n C rfl 3 rfl dX12_cutAll_56 ?_
            obtain ⟨v75, e76⟩ : ∃ z, Rv h13 a0 5 = z := ⟨_, rfl⟩
            have t77 := ok_R O17 e26 rE_12_5 e76
            have l78 := ok_L O17 e26 rE_12_5 e76
            refine gf_R C fk_LandSurveyModel_27 rfl e26 e76 dX12_cutAll_57 ?_
            refine g_iload_n C rfl 4 rfl dX12_cutAll_60 ?_
            refine g_iload_n C rfl 5 rfl dX12_cutAll_61 ?_
            refine g_iast C t77 rfl l78 (ix f19 (by decide) (by decide)) (iw f60 (by decide) (by decide)) dX12_cutAll_62 (fun h80 hh79 => ?_)
            have O81 := O17.pIa t77 ar_105100 hh79 rI_105100_0 (iw f60 (by decide) (by decide)) nofun
            refine g_iload_n C rfl 2 rfl dX12_cutAll_63 ?_
            refine g_callI (st := []) (gc_S C lk_LandSurveyModel_294 (k_X12_isLetter l D cy w z0 O81 (iw f68 (by decide) (by decide))) rfl ⟨by decide, by decide⟩ (Nat.le_of_ble_eq_true rfl) dX12_cutAll_64 ⟨(by decide), (by decide)⟩) (fun r82 h83 f85 K84 => ?_)
            obtain ⟨O86, F87, f88, p89⟩ := K84
            refine g_if_eq C (iw f88 (by decide) (by decide)) 152 (by decide) dX12_cutAll_67 (fun q90 => ?_) (fun q91 => ?_)
            · have f92 : (0 : Int) ≤ r82 ∧ r82 ≤ (0 : Int) := ii f88 (r_eq (il 0) q90) (by decide) (by decide)
              refine g_iload_n C rfl 2 rfl dX12_cutAll_152 ?_
              refine g_callI (st := []) (gc_S C lk_LandSurveyModel_307 (k_X12_isDigit l D cy w z0 O86 (iw f68 (by decide) (by decide))) rfl ⟨by decide, by decide⟩ (Nat.le_of_ble_eq_true rfl) dX12_cutAll_153 ⟨(by decide), (by decide)⟩) (fun r93 h94 f96 K95 => ?_)
              obtain ⟨O97, F98, f99, p100⟩ := K95
              refine g_if_eq C (iw f99 (by decide) (by decide)) 240 (by decide) dX12_cutAll_156 (fun q101 => ?_) (fun q102 => ?_)
              · have f103 : (0 : Int) ≤ r93 ∧ r93 ≤ (0 : Int) := ii f99 (r_eq (il 0) q101) (by decide) (by decide)
                refine g_iload_n C rfl 2 rfl dX12_cutAll_240 ?_
                refine g_i2l C (iw f68 (by decide) (by decide)) dX12_cutAll_241 ?_
                refine g_lstore C [(5, .inr (.inl v66)), (4, .inl x12), (3, .inl v66), (0, .inr (.inr a0)), (1, .inl x11), (2, .inl x12)] (by decide) rfl dX12_cutAll_242 ?_
                refine g_aload_n C rfl 3 rfl dX12_cutAll_244 ?_
                have e104 : Tg h94 a0 = 12 := (fxT F98 (fxT F87 ((pIT hh79).trans e26)))
                obtain ⟨v105, e106⟩ : ∃ z, Rv h94 a0 4 = z := ⟨_, rfl⟩
                have t107 := ok_R O97 e104 rE_12_4 e106
                have l108 := ok_L O97 e104 rE_12_4 e106
                refine gf_R C fk_LandSurveyModel_24 rfl e104 e106 dX12_cutAll_245 ?_
                refine g_iload_n C rfl 4 rfl dX12_cutAll_248 ?_
                refine g_iload_n C rfl 2 rfl dX12_cutAll_249 ?_
                refine g_callI (st := [.inl x11, .inr (.inr v105)]) (gc_S C lk_LandSurveyModel_314 (k_X12_isSignOf l D cy w z0 O97 (iw f68 (by decide) (by decide))) rfl ⟨by decide, by decide⟩ (Nat.le_of_ble_eq_true rfl) dX12_cutAll_250 ⟨(by decide), (by decide)⟩) (fun r109 h110 f112 K111 => ?_)
                obtain ⟨O113, F114, f115⟩ := K111
                refine g_if_eq C (iw f115 (by decide) (by decide)) 260 (by decide) dX12_cutAll_253 (fun q116 => ?_) (fun q117 => ?_)
                · have f118 : (0 : Int) ≤ r109 ∧ r109 ≤ (0 : Int) := ii f115 (r_eq (il 0) q116) (by decide) (by decide)
                  refine g_iconst C dX12_cutAll_260 ?_
                  have e119 : Tg h110 v105 = 104100 := (fxT F114 t107)
                  have e120 : Ln h110 v105 = 1502 := ((fxL F114 t107).trans l108)
                  refine g_iast C e119 rfl e120 (ix f19 (by decide) (by decide)) (iw (il 4) (by decide) (by decide)) dX12_cutAll_261 (fun h122 hh121 => ?_)
                  have O123 := O113.pIa e119 ar_104100 hh121 rI_104100_0 (iw (il 4) (by decide) (by decide)) nofun
                  have f124 : (1 : Int) ≤ (x12 + 1) ∧ (x12 + 1) ≤ (1500 : Int) := ia_add f60 (il 1) (by decide) (by decide)
                  refine g_iinc C [(2, .inl (x12 + 1)), (5, .inr (.inl v66)), (4, .inl x12), (3, .inl v66), (0, .inr (.inr a0)), (1, .inl x11)] 5 rfl (by decide) rfl dX12_cutAll_262 ?_
                  refine g_aload_n C rfl 4 rfl dX12_cutAll_265 ?_
                  have e125 : Tg h122 a0 = 12 := ((pIT hh121).trans (fxT F114 e104))
                  obtain ⟨v126, e127⟩ : ∃ z, Rv h122 a0 6 = z := ⟨_, rfl⟩
                  have t128 := ok_R O123 e125 rE_12_6 e127
                  have l129 := ok_L O123 e125 rE_12_6 e127
                  refine gf_R C fk_LandSurveyModel_30 rfl e125 e127 dX12_cutAll_266 ?_
                  refine g_iload_n C rfl 5 rfl dX12_cutAll_269 ?_
                  refine g_lload C 1 rfl dX12_cutAll_270 ?_
                  refine g_last C t128 rfl l129 (ix f19 (by decide) (by decide)) (iw f68 (by decide) (by decide)) dX12_cutAll_272 (fun h131 hh130 => ?_)
                  have O132 := O123.pJ hh130 (iw f68 (by decide) (by decide))
                  have f133 : (1 : Int) ≤ (x11 + 1) ∧ (x11 + 1) ≤ (1501 : Int) := ia_add f19 (il 1) (by decide) (by decide)
                  refine g_iinc C [(1, .inl (x11 + 1)), (2, .inl (x12 + 1)), (5, .inr (.inl v66)), (4, .inl x12), (3, .inl v66), (0, .inr (.inr a0))] 5 rfl (by decide) rfl dX12_cutAll_273 ?_
                  refine g_goto C 17 (by decide) dX12_cutAll_276 ?_
                  refine GW.sub [5, 0, 1] rfl ?_
                  have e134 : Rv h131 a0 4 = v105 := ((pJR hh130).trans ((pIR hh121).trans ((fxR F114 e104 rfl).trans e106)))
                  have e135 : Rv h131 a0 6 = v126 := ((pJR hh130).trans e127)
                  have e136 : Iv h131 v105 x11.toNat = 4 := ((pJI hh130).trans (pI_e hh121))
                  have e137 : Tg h80 a0 = 12 := ((pIT hh79).trans e26)
                  have e138 : Tg h83 a0 = 12 := (fxT F87 e137)
                  have e139 : Tg h110 a0 = 12 := (fxT F114 e104)
                  have p140 := (CU_wJ hh130 (by omega) (CU_wI hh121 (by omega) (CU_fx O97 F114 e104 rfl (CU_fx O86 F98 e138 rfl (CU_fx O81 F87 e137 rfl (CU_fx O17 ((Fx.rf (wr := [21020000]) (h := h13)).pIa t77 ar_105100 hh79 rfl) e26 rfl p21))))))
                  have e141 : Iv h131 a0 3 = v1 := ((pJI hh130).trans ((pI_n hh121 (ne_tag e139 e119 (by decide))).trans ((fxI F114 e104 rfl).trans ((fxI F98 e138 rfl).trans ((fxI F87 e137 rfl).trans ((pI_n hh79 (ne_tag e26 t77 (by decide))).trans e25))))))
                  exact ih15 _ (by omega) (x11 + 1) (x12 + 1) h131 rfl O132 ((((((F18.pIa t77 ar_105100 hh79 rfl).call F87 rfl).call F98 rfl).call F114 rfl).pIa e119 ar_104100 hh121 rfl).pJa t128 ar_106102 hh130 rfl) (by omega) (iw f124 (by decide) (by decide)) (CU_new (by omega) (by rw [e134]; exact e136) (by rw [e135]; exact (pJ_e hh130)) (by omega) p140) (by omega) (by rw [e141]; omega)
                · have f142 : (1 : Int) ≤ r109 ∧ r109 ≤ (1 : Int) := r_nl f115 q117
                  refine g_iconst C dX12_cutAll_256 ?_
                  refine g_goto C 261 (by decide) dX12_cutAll_257 ?_
                  have e143 : Tg h110 v105 = 104100 := (fxT F114 t107)
                  have e144 : Ln h110 v105 = 1502 := ((fxL F114 t107).trans l108)
                  refine g_iast C e143 rfl e144 (ix f19 (by decide) (by decide)) (iw (il 3) (by decide) (by decide)) dX12_cutAll_261 (fun h146 hh145 => ?_)
                  have O147 := O113.pIa e143 ar_104100 hh145 rI_104100_0 (iw (il 3) (by decide) (by decide)) nofun
                  have f148 : (1 : Int) ≤ (x12 + 1) ∧ (x12 + 1) ≤ (1500 : Int) := ia_add f60 (il 1) (by decide) (by decide)
                  refine g_iinc C [(2, .inl (x12 + 1)), (5, .inr (.inl v66)), (4, .inl x12), (3, .inl v66), (0, .inr (.inr a0)), (1, .inl x11)] 5 rfl (by decide) rfl dX12_cutAll_262 ?_
                  refine g_aload_n C rfl 4 rfl dX12_cutAll_265 ?_
                  have e149 : Tg h146 a0 = 12 := ((pIT hh145).trans (fxT F114 e104))
                  obtain ⟨v150, e151⟩ : ∃ z, Rv h146 a0 6 = z := ⟨_, rfl⟩
                  have t152 := ok_R O147 e149 rE_12_6 e151
                  have l153 := ok_L O147 e149 rE_12_6 e151
                  refine gf_R C fk_LandSurveyModel_30 rfl e149 e151 dX12_cutAll_266 ?_
                  refine g_iload_n C rfl 5 rfl dX12_cutAll_269 ?_
                  refine g_lload C 1 rfl dX12_cutAll_270 ?_
                  refine g_last C t152 rfl l153 (ix f19 (by decide) (by decide)) (iw f68 (by decide) (by decide)) dX12_cutAll_272 (fun h155 hh154 => ?_)
                  have O156 := O147.pJ hh154 (iw f68 (by decide) (by decide))
                  have f157 : (1 : Int) ≤ (x11 + 1) ∧ (x11 + 1) ≤ (1501 : Int) := ia_add f19 (il 1) (by decide) (by decide)
                  refine g_iinc C [(1, .inl (x11 + 1)), (2, .inl (x12 + 1)), (5, .inr (.inl v66)), (4, .inl x12), (3, .inl v66), (0, .inr (.inr a0))] 5 rfl (by decide) rfl dX12_cutAll_273 ?_
                  refine g_goto C 17 (by decide) dX12_cutAll_276 ?_
                  refine GW.sub [5, 0, 1] rfl ?_
                  have e158 : Rv h155 a0 4 = v105 := ((pJR hh154).trans ((pIR hh145).trans ((fxR F114 e104 rfl).trans e106)))
                  have e159 : Rv h155 a0 6 = v150 := ((pJR hh154).trans e151)
                  have e160 : Iv h155 v105 x11.toNat = 3 := ((pJI hh154).trans (pI_e hh145))
                  have e161 : Tg h80 a0 = 12 := ((pIT hh79).trans e26)
                  have e162 : Tg h83 a0 = 12 := (fxT F87 e161)
                  have e163 : Tg h110 a0 = 12 := (fxT F114 e104)
                  have p164 := (CU_wJ hh154 (by omega) (CU_wI hh145 (by omega) (CU_fx O97 F114 e104 rfl (CU_fx O86 F98 e162 rfl (CU_fx O81 F87 e161 rfl (CU_fx O17 ((Fx.rf (wr := [21020000]) (h := h13)).pIa t77 ar_105100 hh79 rfl) e26 rfl p21))))))
                  have e165 : Iv h155 a0 3 = v1 := ((pJI hh154).trans ((pI_n hh145 (ne_tag e163 e143 (by decide))).trans ((fxI F114 e104 rfl).trans ((fxI F98 e162 rfl).trans ((fxI F87 e161 rfl).trans ((pI_n hh79 (ne_tag e26 t77 (by decide))).trans e25))))))
                  exact ih15 _ (by omega) (x11 + 1) (x12 + 1) h155 rfl O156 ((((((F18.pIa t77 ar_105100 hh79 rfl).call F87 rfl).call F98 rfl).call F114 rfl).pIa e143 ar_104100 hh145 rfl).pJa t152 ar_106102 hh154 rfl) (by omega) (iw f148 (by decide) (by decide)) (CU_new (by omega) (by rw [e158]; exact e160) (by rw [e159]; exact (pJ_e hh154)) (by omega) p164) (by omega) (by rw [e165]; omega)
              · have f166 : (1 : Int) ≤ r93 ∧ r93 ≤ (1 : Int) := r_nl f99 q102
                refine GW.sub [3, 4, 5, 2, 1, 0] rfl ?_
                -- loop at 159
                have L170 : ∀ (μ : Nat) (x167 : Int) (x168 : Int) (h169 : Hp), (1500 - x167).toNat = μ → Okh h169 → Fx [] h94 h169 → ((0 : Int) ≤ x167 ∧ x167 ≤ (1500 : Int)) → ((-9223372036854775808 : Int) ≤ x168 ∧ x168 ≤ (9223372036854775807 : Int)) → (x12 ≤ x167) → (x167 ≤ Iv h169 a0 3) → (x167 = x12 → Iv h169 (Rv h169 a0 1) x167.toNat = v66) → (0 ≤ x168 ∧ x168 ≤ 9999 ∧ (x167 - x12 ≤ 0 → x168 ≤ 0) ∧ (x167 - x12 ≤ 1 → x168 ≤ 9) ∧ (x167 - x12 ≤ 2 → x168 ≤ 99) ∧ (x167 - x12 ≤ 3 → x168 ≤ 999)) → GW p l e (rmm 2 40 0 0) s m (List.map toV [.inr (.inr a0)]).toArray below meth c D cy z0 7 (MQ below (QV D cy z0 (fun h1 => Okh h1 ∧ Fx wr_k_X12_cutAll h h1 ∧ (TK h1 a0 ∧ Iv h1 a0 7 = 0 ∧ Iv h1 a0 8 = 0))) (List.map toV [.inr (.inr a0)]).toArray s 0 0 (Aof z0)) 159 [(0, .inr (.inr a0)), (1, .inl x11), (2, .inl x167), (3, .inl v66), (4, .inl x12), (5, .inr (.inl x168))] [] h169 0 0 := by
                  intro μ
                  induction μ using Nat.strongRecOn with
                  | ind μ ih171 =>
                    intro x167 x168 h169 hm172 O173 F174 f175 f176 p177 p178 p179 p180
                    have e181 : Tg h80 a0 = 12 := ((pIT hh79).trans e26)
                    have e182 : Tg h83 a0 = 12 := (fxT F87 e181)
                    have e183 : Tg h94 a0 = 12 := (fxT F98 e182)
                    have e184 : Iv h169 a0 3 = v1 := ((fxI F174 e183 rfl).trans ((fxI F98 e182 rfl).trans ((fxI F87 e181 rfl).trans ((pI_n hh79 (ne_tag e26 t77 (by decide))).trans e25))))
                    rw [e184] at p178
                    refine g_iload_n C rfl 2 rfl dX12_cutAll_159 ?_
                    refine g_aload_n C rfl 0 rfl dX12_cutAll_160 ?_
                    have e185 : Tg h169 a0 = 12 := (fxT F174 e183)
                    refine gf_I C fk_LandSurveyModel_298 rfl e185 e184 dX12_cutAll_161 ?_
                    refine g_icmp_ge C (iw f175 (by decide) (by decide)) (iw f61 (by decide) (by decide)) 218 (by decide) dX12_cutAll_164 (fun q186 => ?_) (fun q187 => ?_)
                    · have f188 : (1 : Int) ≤ x167 ∧ x167 ≤ (1500 : Int) := r_ge f175 f61 q186 (by decide) (by decide)
                      refine g_aload_n C rfl 0 rfl dX12_cutAll_218 ?_
                      obtain ⟨v189, e190⟩ : ∃ z, Rv h169 a0 4 = z := ⟨_, rfl⟩
                      have t191 := ok_R O173 e185 rE_12_4 e190
                      have l192 := ok_L O173 e185 rE_12_4 e190
                      refine gf_R C fk_LandSurveyModel_24 rfl e185 e190 dX12_cutAll_219 ?_
                      refine g_iload_n C rfl 1 rfl dX12_cutAll_222 ?_
                      refine g_iload_n C rfl 2 rfl dX12_cutAll_223 ?_
                      refine g_iload C 4 rfl dX12_cutAll_224 ?_
                      have f193 : (-1498 : Int) ≤ (x167 - x12) ∧ (x167 - x12) ≤ (1500 : Int) := ia_sub f188 f60 (by decide) (by decide)
                      refine g_isub C dX12_cutAll_226 ?_
                      refine g_iconst C dX12_cutAll_227 ?_
                      refine g_icmp_le C (iw f193 (by decide) (by decide)) (iw (il 4) (by decide) (by decide)) 235 (by decide) dX12_cutAll_228 (fun q194 => ?_) (fun q195 => ?_)
                      · have f196 : (-1498 : Int) ≤ (x167 - x12) ∧ (x167 - x12) ≤ (4 : Int) := r_le f193 (il 4) q194 (by decide) (by decide)
                        refine g_iconst C dX12_cutAll_235 ?_
                        refine g_iast C t191 rfl l192 (ix f19 (by decide) (by decide)) (iw (il 2) (by decide) (by decide)) dX12_cutAll_236 (fun h198 hh197 => ?_)
                        have O199 := O173.pIa t191 ar_104100 hh197 rI_104100_0 (iw (il 2) (by decide) (by decide)) nofun
                        refine g_goto C 265 (by decide) dX12_cutAll_237 ?_
                        refine g_aload_n C rfl 0 rfl dX12_cutAll_265 ?_
                        have e200 : Tg h198 a0 = 12 := ((pIT hh197).trans e185)
                        obtain ⟨v201, e202⟩ : ∃ z, Rv h198 a0 6 = z := ⟨_, rfl⟩
                        have t203 := ok_R O199 e200 rE_12_6 e202
                        have l204 := ok_L O199 e200 rE_12_6 e202
                        refine gf_R C fk_LandSurveyModel_30 rfl e200 e202 dX12_cutAll_266 ?_
                        refine g_iload_n C rfl 1 rfl dX12_cutAll_269 ?_
                        refine g_lload C 5 rfl dX12_cutAll_270 ?_
                        refine g_last C t203 rfl l204 (ix f19 (by decide) (by decide)) f176 dX12_cutAll_272 (fun h206 hh205 => ?_)
                        have O207 := O199.pJ hh205 f176
                        have f208 : (1 : Int) ≤ (x11 + 1) ∧ (x11 + 1) ≤ (1501 : Int) := ia_add f19 (il 1) (by decide) (by decide)
                        refine g_iinc C [(1, .inl (x11 + 1)), (0, .inr (.inr a0)), (2, .inl x167), (3, .inl v66), (4, .inl x12), (5, .inr (.inl x168))] 1 rfl (by decide) rfl dX12_cutAll_273 ?_
                        refine g_goto C 17 (by decide) dX12_cutAll_276 ?_
                        refine GW.sub [1, 0, 2] rfl ?_
                        have e209 : Rv h206 a0 4 = v189 := ((pJR hh205).trans ((pIR hh197).trans e190))
                        have e210 : Rv h206 a0 6 = v201 := ((pJR hh205).trans e202)
                        have e211 : Iv h206 v189 x11.toNat = 2 := ((pJI hh205).trans (pI_e hh197))
                        have p212 := (CU_wJ hh205 (by omega) (CU_wI hh197 (by omega) (CU_fx O97 F174 e183 rfl (CU_fx O86 F98 e182 rfl (CU_fx O81 F87 e181 rfl (CU_fx O17 ((Fx.rf (wr := [21020000]) (h := h13)).pIa t77 ar_105100 hh79 rfl) e26 rfl p21))))))
                        have e213 : Iv h206 a0 3 = v1 := ((pJI hh205).trans ((pI_n hh197 (ne_tag e185 t191 (by decide))).trans e184))
                        exact ih15 _ (by omega) (x11 + 1) x167 h206 rfl O207 ((((((F18.pIa t77 ar_105100 hh79 rfl).call F87 rfl).call F98 rfl).call F174 rfl).pIa t191 ar_104100 hh197 rfl).pJa t203 ar_106102 hh205 rfl) (by omega) (iw f188 (by decide) (by decide)) (CU_new (by omega) (by rw [e209]; exact e211) (by rw [e210]; exact (pJ_e hh205)) (by omega) p212) (by omega) (by rw [e213]; omega)
                      · have f214 : (5 : Int) ≤ (x167 - x12) ∧ (x167 - x12) ≤ (1500 : Int) := r_gt f193 (il 4) q195 (by decide) (by decide)
                        refine g_iconst C dX12_cutAll_231 ?_
                        refine g_goto C 236 (by decide) dX12_cutAll_232 ?_
                        refine g_iast C t191 rfl l192 (ix f19 (by decide) (by decide)) (iw (il 4) (by decide) (by decide)) dX12_cutAll_236 (fun h216 hh215 => ?_)
                        have O217 := O173.pIa t191 ar_104100 hh215 rI_104100_0 (iw (il 4) (by decide) (by decide)) nofun
                        refine g_goto C 265 (by decide) dX12_cutAll_237 ?_
                        refine g_aload_n C rfl 0 rfl dX12_cutAll_265 ?_
                        have e218 : Tg h216 a0 = 12 := ((pIT hh215).trans e185)
                        obtain ⟨v219, e220⟩ : ∃ z, Rv h216 a0 6 = z := ⟨_, rfl⟩
                        have t221 := ok_R O217 e218 rE_12_6 e220
                        have l222 := ok_L O217 e218 rE_12_6 e220
                        refine gf_R C fk_LandSurveyModel_30 rfl e218 e220 dX12_cutAll_266 ?_
                        refine g_iload_n C rfl 1 rfl dX12_cutAll_269 ?_
                        refine g_lload C 5 rfl dX12_cutAll_270 ?_
                        refine g_last C t221 rfl l222 (ix f19 (by decide) (by decide)) f176 dX12_cutAll_272 (fun h224 hh223 => ?_)
                        have O225 := O217.pJ hh223 f176
                        have f226 : (1 : Int) ≤ (x11 + 1) ∧ (x11 + 1) ≤ (1501 : Int) := ia_add f19 (il 1) (by decide) (by decide)
                        refine g_iinc C [(1, .inl (x11 + 1)), (0, .inr (.inr a0)), (2, .inl x167), (3, .inl v66), (4, .inl x12), (5, .inr (.inl x168))] 1 rfl (by decide) rfl dX12_cutAll_273 ?_
                        refine g_goto C 17 (by decide) dX12_cutAll_276 ?_
                        refine GW.sub [1, 0, 2] rfl ?_
                        have e227 : Rv h224 a0 4 = v189 := ((pJR hh223).trans ((pIR hh215).trans e190))
                        have e228 : Rv h224 a0 6 = v219 := ((pJR hh223).trans e220)
                        have e229 : Iv h224 v189 x11.toNat = 4 := ((pJI hh223).trans (pI_e hh215))
                        have p230 := (CU_wJ hh223 (by omega) (CU_wI hh215 (by omega) (CU_fx O97 F174 e183 rfl (CU_fx O86 F98 e182 rfl (CU_fx O81 F87 e181 rfl (CU_fx O17 ((Fx.rf (wr := [21020000]) (h := h13)).pIa t77 ar_105100 hh79 rfl) e26 rfl p21))))))
                        have e231 : Iv h224 a0 3 = v1 := ((pJI hh223).trans ((pI_n hh215 (ne_tag e185 t191 (by decide))).trans e184))
                        exact ih15 _ (by omega) (x11 + 1) x167 h224 rfl O225 ((((((F18.pIa t77 ar_105100 hh79 rfl).call F87 rfl).call F98 rfl).call F174 rfl).pIa t191 ar_104100 hh215 rfl).pJa t221 ar_106102 hh223 rfl) (by omega) (iw f188 (by decide) (by decide)) (CU_new (by omega) (by rw [e227]; exact e229) (by rw [e228]; exact (pJ_e hh223)) (by omega) p230) (by omega) (by rw [e231]; omega)
                    · have f232 : (0 : Int) ≤ x167 ∧ x167 ≤ (1499 : Int) := r_lt f175 f61 q187 (by decide) (by decide)
                      refine g_aload_n C rfl 0 rfl dX12_cutAll_167 ?_
                      have e233 : Rv h169 a0 1 = v62 := ((fxR F174 e183 rfl).trans ((fxR F98 e182 rfl).trans ((fxR F87 e181 rfl).trans ((pIR hh79).trans e63))))
                      refine gf_R C fk_LandSurveyModel_14 rfl e185 e233 dX12_cutAll_168 ?_
                      refine g_iload_n C rfl 2 rfl dX12_cutAll_171 ?_
                      have e234 : Tg h169 v62 = 101100 := (fxT F174 (fxT F98 (fxT F87 ((pIT hh79).trans t64))))
                      have e235 : Tg h80 v62 = 101100 := ((pIT hh79).trans t64)
                      have e236 : Tg h83 v62 = 101100 := (fxT F87 e235)
                      have e237 : Tg h94 v62 = 101100 := (fxT F98 e236)
                      have e238 : Ln h169 v62 = 1500 := ((fxL F174 e237).trans ((fxL F98 e236).trans ((fxL F87 e235).trans ((pIL hh79).trans l65))))
                      obtain ⟨v239, e240⟩ : ∃ z, Iv h169 v62 x167.toNat = z := ⟨_, rfl⟩
                      have f241 := ok_Ia O173 e234 ar_101100 rI_101100_0 e240
                      refine g_iald C e234 rfl e238 (ix f232 (by decide) (by decide)) e240 dX12_cutAll_172 ?_
                      have z242 := p179
                      rw [e233, e240] at z242
                      refine g_callI (st := []) (gc_S C lk_LandSurveyModel_307 (k_X12_isDigit l D cy w z0 O173 (iw f241 (by decide) (by decide))) rfl ⟨by decide, by decide⟩ (Nat.le_of_ble_eq_true rfl) dX12_cutAll_173 ⟨(by decide), (by decide)⟩) (fun r243 h244 f246 K245 => ?_)
                      obtain ⟨O247, F248, f249, p250⟩ := K245
                      refine g_if_eq C (iw f249 (by decide) (by decide)) 218 (by decide) dX12_cutAll_176 (fun q251 => ?_) (fun q252 => ?_)
                      · have f253 : (0 : Int) ≤ r243 ∧ r243 ≤ (0 : Int) := ii f249 (r_eq (il 0) q251) (by decide) (by decide)
                        refine g_aload_n C rfl 0 rfl dX12_cutAll_218 ?_
                        have e254 : Tg h244 a0 = 12 := (fxT F248 e185)
                        obtain ⟨v255, e256⟩ : ∃ z, Rv h244 a0 4 = z := ⟨_, rfl⟩
                        have t257 := ok_R O247 e254 rE_12_4 e256
                        have l258 := ok_L O247 e254 rE_12_4 e256
                        refine gf_R C fk_LandSurveyModel_24 rfl e254 e256 dX12_cutAll_219 ?_
                        refine g_iload_n C rfl 1 rfl dX12_cutAll_222 ?_
                        refine g_iload_n C rfl 2 rfl dX12_cutAll_223 ?_
                        refine g_iload C 4 rfl dX12_cutAll_224 ?_
                        have f259 : (-1499 : Int) ≤ (x167 - x12) ∧ (x167 - x12) ≤ (1499 : Int) := ia_sub f232 f60 (by decide) (by decide)
                        refine g_isub C dX12_cutAll_226 ?_
                        refine g_iconst C dX12_cutAll_227 ?_
                        refine g_icmp_le C (iw f259 (by decide) (by decide)) (iw (il 4) (by decide) (by decide)) 235 (by decide) dX12_cutAll_228 (fun q260 => ?_) (fun q261 => ?_)
                        · have f262 : (-1499 : Int) ≤ (x167 - x12) ∧ (x167 - x12) ≤ (4 : Int) := r_le f259 (il 4) q260 (by decide) (by decide)
                          refine g_iconst C dX12_cutAll_235 ?_
                          refine g_iast C t257 rfl l258 (ix f19 (by decide) (by decide)) (iw (il 2) (by decide) (by decide)) dX12_cutAll_236 (fun h264 hh263 => ?_)
                          have O265 := O247.pIa t257 ar_104100 hh263 rI_104100_0 (iw (il 2) (by decide) (by decide)) nofun
                          refine g_goto C 265 (by decide) dX12_cutAll_237 ?_
                          refine g_aload_n C rfl 0 rfl dX12_cutAll_265 ?_
                          have e266 : Tg h264 a0 = 12 := ((pIT hh263).trans e254)
                          obtain ⟨v267, e268⟩ : ∃ z, Rv h264 a0 6 = z := ⟨_, rfl⟩
                          have t269 := ok_R O265 e266 rE_12_6 e268
                          have l270 := ok_L O265 e266 rE_12_6 e268
                          refine gf_R C fk_LandSurveyModel_30 rfl e266 e268 dX12_cutAll_266 ?_
                          refine g_iload_n C rfl 1 rfl dX12_cutAll_269 ?_
                          refine g_lload C 5 rfl dX12_cutAll_270 ?_
                          refine g_last C t269 rfl l270 (ix f19 (by decide) (by decide)) f176 dX12_cutAll_272 (fun h272 hh271 => ?_)
                          have O273 := O265.pJ hh271 f176
                          have f274 : (1 : Int) ≤ (x11 + 1) ∧ (x11 + 1) ≤ (1501 : Int) := ia_add f19 (il 1) (by decide) (by decide)
                          refine g_iinc C [(1, .inl (x11 + 1)), (0, .inr (.inr a0)), (2, .inl x167), (3, .inl v66), (4, .inl x12), (5, .inr (.inl x168))] 1 rfl (by decide) rfl dX12_cutAll_273 ?_
                          refine g_goto C 17 (by decide) dX12_cutAll_276 ?_
                          refine GW.sub [1, 0, 2] rfl ?_
                          have e275 : Rv h272 a0 4 = v255 := ((pJR hh271).trans ((pIR hh263).trans e256))
                          have e276 : Rv h272 a0 6 = v267 := ((pJR hh271).trans e268)
                          have e277 : Iv h272 v255 x11.toNat = 2 := ((pJI hh271).trans (pI_e hh263))
                          have p278 := (CU_wJ hh271 (by omega) (CU_wI hh263 (by omega) (CU_fx O173 F248 e185 rfl (CU_fx O97 F174 e183 rfl (CU_fx O86 F98 e182 rfl (CU_fx O81 F87 e181 rfl (CU_fx O17 ((Fx.rf (wr := [21020000]) (h := h13)).pIa t77 ar_105100 hh79 rfl) e26 rfl p21)))))))
                          have e279 : Iv h272 a0 3 = v1 := ((pJI hh271).trans ((pI_n hh263 (ne_tag e254 t257 (by decide))).trans ((fxI F248 e185 rfl).trans e184)))
                          exact ih15 _ (by omega) (x11 + 1) x167 h272 rfl O273 (((((((F18.pIa t77 ar_105100 hh79 rfl).call F87 rfl).call F98 rfl).call F174 rfl).call F248 rfl).pIa t257 ar_104100 hh263 rfl).pJa t269 ar_106102 hh271 rfl) (by omega) (iw f232 (by decide) (by decide)) (CU_new (by omega) (by rw [e275]; exact e277) (by rw [e276]; exact (pJ_e hh271)) (by omega) p278) (by omega) (by rw [e279]; omega)
                        · have f280 : (5 : Int) ≤ (x167 - x12) ∧ (x167 - x12) ≤ (1499 : Int) := r_gt f259 (il 4) q261 (by decide) (by decide)
                          refine g_iconst C dX12_cutAll_231 ?_
                          refine g_goto C 236 (by decide) dX12_cutAll_232 ?_
                          refine g_iast C t257 rfl l258 (ix f19 (by decide) (by decide)) (iw (il 4) (by decide) (by decide)) dX12_cutAll_236 (fun h282 hh281 => ?_)
                          have O283 := O247.pIa t257 ar_104100 hh281 rI_104100_0 (iw (il 4) (by decide) (by decide)) nofun
                          refine g_goto C 265 (by decide) dX12_cutAll_237 ?_
                          refine g_aload_n C rfl 0 rfl dX12_cutAll_265 ?_
                          have e284 : Tg h282 a0 = 12 := ((pIT hh281).trans e254)
                          obtain ⟨v285, e286⟩ : ∃ z, Rv h282 a0 6 = z := ⟨_, rfl⟩
                          have t287 := ok_R O283 e284 rE_12_6 e286
                          have l288 := ok_L O283 e284 rE_12_6 e286
                          refine gf_R C fk_LandSurveyModel_30 rfl e284 e286 dX12_cutAll_266 ?_
                          refine g_iload_n C rfl 1 rfl dX12_cutAll_269 ?_
                          refine g_lload C 5 rfl dX12_cutAll_270 ?_
                          refine g_last C t287 rfl l288 (ix f19 (by decide) (by decide)) f176 dX12_cutAll_272 (fun h290 hh289 => ?_)
                          have O291 := O283.pJ hh289 f176
                          have f292 : (1 : Int) ≤ (x11 + 1) ∧ (x11 + 1) ≤ (1501 : Int) := ia_add f19 (il 1) (by decide) (by decide)
                          refine g_iinc C [(1, .inl (x11 + 1)), (0, .inr (.inr a0)), (2, .inl x167), (3, .inl v66), (4, .inl x12), (5, .inr (.inl x168))] 1 rfl (by decide) rfl dX12_cutAll_273 ?_
                          refine g_goto C 17 (by decide) dX12_cutAll_276 ?_
                          refine GW.sub [1, 0, 2] rfl ?_
                          have e293 : Rv h290 a0 4 = v255 := ((pJR hh289).trans ((pIR hh281).trans e256))
                          have e294 : Rv h290 a0 6 = v285 := ((pJR hh289).trans e286)
                          have e295 : Iv h290 v255 x11.toNat = 4 := ((pJI hh289).trans (pI_e hh281))
                          have p296 := (CU_wJ hh289 (by omega) (CU_wI hh281 (by omega) (CU_fx O173 F248 e185 rfl (CU_fx O97 F174 e183 rfl (CU_fx O86 F98 e182 rfl (CU_fx O81 F87 e181 rfl (CU_fx O17 ((Fx.rf (wr := [21020000]) (h := h13)).pIa t77 ar_105100 hh79 rfl) e26 rfl p21)))))))
                          have e297 : Iv h290 a0 3 = v1 := ((pJI hh289).trans ((pI_n hh281 (ne_tag e254 t257 (by decide))).trans ((fxI F248 e185 rfl).trans e184)))
                          exact ih15 _ (by omega) (x11 + 1) x167 h290 rfl O291 (((((((F18.pIa t77 ar_105100 hh79 rfl).call F87 rfl).call F98 rfl).call F174 rfl).call F248 rfl).pIa t257 ar_104100 hh281 rfl).pJa t287 ar_106102 hh289 rfl) (by omega) (iw f232 (by decide) (by decide)) (CU_new (by omega) (by rw [e293]; exact e295) (by rw [e294]; exact (pJ_e hh289)) (by omega) p296) (by omega) (by rw [e297]; omega)
                      · have f298 : (1 : Int) ≤ r243 ∧ r243 ≤ (1 : Int) := r_nl f249 q252
                        refine g_iload_n C rfl 2 rfl dX12_cutAll_179 ?_
                        refine g_iload C 4 rfl dX12_cutAll_180 ?_
                        have f299 : (-1499 : Int) ≤ (x167 - x12) ∧ (x167 - x12) ≤ (1499 : Int) := ia_sub f232 f60 (by decide) (by decide)
                        refine g_isub C dX12_cutAll_182 ?_
                        refine g_iconst C dX12_cutAll_183 ?_
                        refine g_icmp_ge C (iw f299 (by decide) (by decide)) (iw (il 4) (by decide) (by decide)) 208 (by decide) dX12_cutAll_184 (fun q300 => ?_) (fun q301 => ?_)
                        · have f302 : (4 : Int) ≤ (x167 - x12) ∧ (x167 - x12) ≤ (1499 : Int) := r_ge f299 (il 4) q300 (by decide) (by decide)
                          refine g_lload C 5 rfl dX12_cutAll_208 ?_
                          refine g_lstore C [(5, .inr (.inl x168)), (0, .inr (.inr a0)), (1, .inl x11), (2, .inl x167), (3, .inl v66), (4, .inl x12)] (by decide) rfl dX12_cutAll_210 ?_
                          have f303 : (1 : Int) ≤ (x167 + 1) ∧ (x167 + 1) ≤ (1500 : Int) := ia_add f232 (il 1) (by decide) (by decide)
                          refine g_iinc C [(2, .inl (x167 + 1)), (5, .inr (.inl x168)), (0, .inr (.inr a0)), (1, .inl x11), (3, .inl v66), (4, .inl x12)] 3 rfl (by decide) rfl dX12_cutAll_212 ?_
                          refine g_goto C 159 (by decide) dX12_cutAll_215 ?_
                          refine GW.sub [2, 3, 0, 4, 5, 1] rfl ?_
                          have e304 : Iv h244 a0 3 = v1 := ((fxI F248 e185 rfl).trans e184)
                          exact ih171 _ (by omega) (x167 + 1) x168 h244 rfl O247 (F174.call F248 rfl) (iw f303 (by decide) (by decide)) f176 (by omega) (by rw [e304]; omega) (fun z => absurd z (by omega)) (by omega)
                        · have f305 : (-1499 : Int) ≤ (x167 - x12) ∧ (x167 - x12) ≤ (3 : Int) := r_lt f299 (il 4) q301 (by decide) (by decide)
                          refine g_ldc2 (z := 10) C kw_1786 (by decide) dX12_cutAll_187 ?_
                          refine g_lload C 5 rfl dX12_cutAll_190 ?_
                          refine g_lmul C dX12_cutAll_192 ?_
                          have f306 : (-9223372036854775808 : Int) ≤ (lM 10 x168) ∧ (lM 10 x168) ≤ (9223372036854775807 : Int) := inL_of _
                          refine g_aload_n C rfl 0 rfl dX12_cutAll_193 ?_
                          have e307 : Tg h244 a0 = 12 := (fxT F248 e185)
                          have e308 : Rv h244 a0 1 = v62 := ((fxR F248 e185 rfl).trans e233)
                          refine gf_R C fk_LandSurveyModel_14 rfl e307 e308 dX12_cutAll_194 ?_
                          refine g_iload_n C rfl 2 rfl dX12_cutAll_197 ?_
                          have e309 : Tg h244 v62 = 101100 := (fxT F248 e234)
                          have e310 : Ln h244 v62 = 1500 := ((fxL F248 e234).trans e238)
                          have e311 : Iv h244 v62 x167.toNat = v239 := ((fxIa F248 e234 ar_101100 rfl).trans e240)
                          refine g_iald C e309 rfl e310 (ix f232 (by decide) (by decide)) e311 dX12_cutAll_198 ?_
                          refine g_i2l C (iw f241 (by decide) (by decide)) dX12_cutAll_199 ?_
                          refine g_ladd C dX12_cutAll_200 ?_
                          have f312 : (-9223372036854775808 : Int) ≤ (lA (lM 10 x168) v239) ∧ (lA (lM 10 x168) v239) ≤ (9223372036854775807 : Int) := inL_of _
                          refine g_ldc2 (z := 48) C kw_1787 (by decide) dX12_cutAll_201 ?_
                          refine g_lsub C dX12_cutAll_204 ?_
                          have f313 : (-9223372036854775808 : Int) ≤ (lS (lA (lM 10 x168) v239) 48) ∧ (lS (lA (lM 10 x168) v239) 48) ≤ (9223372036854775807 : Int) := inL_of _
                          refine g_goto C 210 (by decide) dX12_cutAll_205 ?_
                          have z314 := la_dig2 (V := x168) (x := v239) (by omega) (by omega)
                          refine g_lstore C [(5, .inr (.inl (lS (lA (lM 10 x168) v239) 48))), (0, .inr (.inr a0)), (1, .inl x11), (2, .inl x167), (3, .inl v66), (4, .inl x12)] (by decide) rfl dX12_cutAll_210 ?_
                          have f315 : (1 : Int) ≤ (x167 + 1) ∧ (x167 + 1) ≤ (1500 : Int) := ia_add f232 (il 1) (by decide) (by decide)
                          refine g_iinc C [(2, .inl (x167 + 1)), (5, .inr (.inl (lS (lA (lM 10 x168) v239) 48))), (0, .inr (.inr a0)), (1, .inl x11), (3, .inl v66), (4, .inl x12)] 3 rfl (by decide) rfl dX12_cutAll_212 ?_
                          refine g_goto C 159 (by decide) dX12_cutAll_215 ?_
                          refine GW.sub [2, 3, 0, 4, 5, 1] rfl ?_
                          have e316 : Iv h244 a0 3 = v1 := ((fxI F248 e185 rfl).trans e184)
                          exact ih171 _ (by omega) (x167 + 1) (lS (lA (lM 10 x168) v239) 48) h244 rfl O247 (F174.call F248 rfl) (iw f315 (by decide) (by decide)) f313 (by omega) (by rw [e316]; omega) (fun z => absurd z (by omega)) (by omega)
                have e317 : Tg h80 a0 = 12 := ((pIT hh79).trans e26)
                have e318 : Tg h83 a0 = 12 := (fxT F87 e317)
                have e319 : Iv h94 a0 3 = v1 := ((fxI F98 e318 rfl).trans ((fxI F87 e317 rfl).trans ((pI_n hh79 (ne_tag e26 t77 (by decide))).trans e25)))
                have e320 : Rv h94 a0 1 = v62 := ((fxR F98 e318 rfl).trans ((fxR F87 e317 rfl).trans ((pIR hh79).trans e63)))
                have e321 : Tg h80 v62 = 101100 := ((pIT hh79).trans t64)
                have e322 : Tg h83 v62 = 101100 := (fxT F87 e321)
                have e323 : Iv h94 v62 x12.toNat = v66 := ((fxIa F98 e322 ar_101100 rfl).trans ((fxIa F87 e321 ar_101100 rfl).trans ((pI_n hh79 (ne_tag t64 t77 (by decide))).trans e67)))
                exact L170 _ x12 0 h94 rfl O97 Fx.rf (iw f60 (by decide) (by decide)) (iw (il 0) (by decide) (by decide)) (by omega) (by rw [e319]; omega) (fun _ => by rw [e320]; exact e323) (by omega)
            · have f324 : (1 : Int) ≤ r82 ∧ r82 ≤ (1 : Int) := r_nl f88 q91
              refine GW.sub [3, 4, 5, 2, 1, 0] rfl ?_
              -- loop at 70
              have L328 : ∀ (μ : Nat) (x325 : Int) (x326 : Int) (h327 : Hp), (1500 - x325).toNat = μ → Okh h327 → Fx [] h83 h327 → ((0 : Int) ≤ x325 ∧ x325 ≤ (1500 : Int)) → ((-9223372036854775808 : Int) ≤ x326 ∧ x326 ≤ (9223372036854775807 : Int)) → (x12 ≤ x325) → (x325 ≤ Iv h327 a0 3) → (x325 = x12 → Iv h327 (Rv h327 a0 1) x325.toNat = v66) → GW p l e (rmm 2 40 0 0) s m (List.map toV [.inr (.inr a0)]).toArray below meth c D cy z0 7 (MQ below (QV D cy z0 (fun h1 => Okh h1 ∧ Fx wr_k_X12_cutAll h h1 ∧ (TK h1 a0 ∧ Iv h1 a0 7 = 0 ∧ Iv h1 a0 8 = 0))) (List.map toV [.inr (.inr a0)]).toArray s 0 0 (Aof z0)) 70 [(0, .inr (.inr a0)), (1, .inl x11), (2, .inl x325), (3, .inl v66), (4, .inl x12), (5, .inr (.inl x326))] [] h327 0 0 := by
                intro μ
                induction μ using Nat.strongRecOn with
                | ind μ ih329 =>
                  intro x325 x326 h327 hm330 O331 F332 f333 f334 p335 p336 p337
                  have e338 : Tg h80 a0 = 12 := ((pIT hh79).trans e26)
                  have e339 : Tg h83 a0 = 12 := (fxT F87 e338)
                  have e340 : Iv h327 a0 3 = v1 := ((fxI F332 e339 rfl).trans ((fxI F87 e338 rfl).trans ((pI_n hh79 (ne_tag e26 t77 (by decide))).trans e25)))
                  rw [e340] at p336
                  refine g_iload_n C rfl 2 rfl dX12_cutAll_70 ?_
                  refine g_aload_n C rfl 0 rfl dX12_cutAll_71 ?_
                  have e341 : Tg h327 a0 = 12 := (fxT F332 e339)
                  refine gf_I C fk_LandSurveyModel_298 rfl e341 e340 dX12_cutAll_72 ?_
                  refine g_icmp_ge C (iw f333 (by decide) (by decide)) (iw f61 (by decide) (by decide)) 129 (by decide) dX12_cutAll_75 (fun q342 => ?_) (fun q343 => ?_)
                  · have f344 : (1 : Int) ≤ x325 ∧ x325 ≤ (1500 : Int) := r_ge f333 f61 q342 (by decide) (by decide)
                    refine g_aload_n C rfl 0 rfl dX12_cutAll_129 ?_
                    obtain ⟨v345, e346⟩ : ∃ z, Rv h327 a0 4 = z := ⟨_, rfl⟩
                    have t347 := ok_R O331 e341 rE_12_4 e346
                    have l348 := ok_L O331 e341 rE_12_4 e346
                    refine gf_R C fk_LandSurveyModel_24 rfl e341 e346 dX12_cutAll_130 ?_
                    refine g_iload_n C rfl 1 rfl dX12_cutAll_133 ?_
                    refine g_iload_n C rfl 2 rfl dX12_cutAll_134 ?_
                    refine g_iload C 4 rfl dX12_cutAll_135 ?_
                    have f349 : (-1498 : Int) ≤ (x325 - x12) ∧ (x325 - x12) ≤ (1500 : Int) := ia_sub f344 f60 (by decide) (by decide)
                    refine g_isub C dX12_cutAll_137 ?_
                    refine g_bipush C (by decide) dX12_cutAll_138 ?_
                    refine g_icmp_le C (iw f349 (by decide) (by decide)) (iw (il 8) (by decide) (by decide)) 147 (by decide) dX12_cutAll_140 (fun q350 => ?_) (fun q351 => ?_)
                    · have f352 : (-1498 : Int) ≤ (x325 - x12) ∧ (x325 - x12) ≤ (8 : Int) := r_le f349 (il 8) q350 (by decide) (by decide)
                      refine g_iconst C dX12_cutAll_147 ?_
                      refine g_iast C t347 rfl l348 (ix f19 (by decide) (by decide)) (iw (il 1) (by decide) (by decide)) dX12_cutAll_148 (fun h354 hh353 => ?_)
                      have O355 := O331.pIa t347 ar_104100 hh353 rI_104100_0 (iw (il 1) (by decide) (by decide)) nofun
                      refine g_goto C 265 (by decide) dX12_cutAll_149 ?_
                      refine g_aload_n C rfl 0 rfl dX12_cutAll_265 ?_
                      have e356 : Tg h354 a0 = 12 := ((pIT hh353).trans e341)
                      obtain ⟨v357, e358⟩ : ∃ z, Rv h354 a0 6 = z := ⟨_, rfl⟩
                      have t359 := ok_R O355 e356 rE_12_6 e358
                      have l360 := ok_L O355 e356 rE_12_6 e358
                      refine gf_R C fk_LandSurveyModel_30 rfl e356 e358 dX12_cutAll_266 ?_
                      refine g_iload_n C rfl 1 rfl dX12_cutAll_269 ?_
                      refine g_lload C 5 rfl dX12_cutAll_270 ?_
                      refine g_last C t359 rfl l360 (ix f19 (by decide) (by decide)) f334 dX12_cutAll_272 (fun h362 hh361 => ?_)
                      have O363 := O355.pJ hh361 f334
                      have f364 : (1 : Int) ≤ (x11 + 1) ∧ (x11 + 1) ≤ (1501 : Int) := ia_add f19 (il 1) (by decide) (by decide)
                      refine g_iinc C [(1, .inl (x11 + 1)), (0, .inr (.inr a0)), (2, .inl x325), (3, .inl v66), (4, .inl x12), (5, .inr (.inl x326))] 1 rfl (by decide) rfl dX12_cutAll_273 ?_
                      refine g_goto C 17 (by decide) dX12_cutAll_276 ?_
                      refine GW.sub [1, 0, 2] rfl ?_
                      have e365 : Rv h362 a0 4 = v345 := ((pJR hh361).trans ((pIR hh353).trans e346))
                      have e366 : Rv h362 a0 6 = v357 := ((pJR hh361).trans e358)
                      have e367 : Iv h362 v345 x11.toNat = 1 := ((pJI hh361).trans (pI_e hh353))
                      have p368 := (CU_wJ hh361 (by omega) (CU_wI hh353 (by omega) (CU_fx O86 F332 e339 rfl (CU_fx O81 F87 e338 rfl (CU_fx O17 ((Fx.rf (wr := [21020000]) (h := h13)).pIa t77 ar_105100 hh79 rfl) e26 rfl p21)))))
                      have e369 : Iv h362 a0 3 = v1 := ((pJI hh361).trans ((pI_n hh353 (ne_tag e341 t347 (by decide))).trans e340))
                      exact ih15 _ (by omega) (x11 + 1) x325 h362 rfl O363 (((((F18.pIa t77 ar_105100 hh79 rfl).call F87 rfl).call F332 rfl).pIa t347 ar_104100 hh353 rfl).pJa t359 ar_106102 hh361 rfl) (by omega) (iw f344 (by decide) (by decide)) (CU_new (by omega) (by rw [e365]; exact e367) (by rw [e366]; exact (pJ_e hh361)) (by omega) p368) (by omega) (by rw [e369]; omega)
                    · have f370 : (9 : Int) ≤ (x325 - x12) ∧ (x325 - x12) ≤ (1500 : Int) := r_gt f349 (il 8) q351 (by decide) (by decide)
                      refine g_iconst C dX12_cutAll_143 ?_
                      refine g_goto C 148 (by decide) dX12_cutAll_144 ?_
                      refine g_iast C t347 rfl l348 (ix f19 (by decide) (by decide)) (iw (il 4) (by decide) (by decide)) dX12_cutAll_148 (fun h372 hh371 => ?_)
                      have O373 := O331.pIa t347 ar_104100 hh371 rI_104100_0 (iw (il 4) (by decide) (by decide)) nofun
                      refine g_goto C 265 (by decide) dX12_cutAll_149 ?_
                      refine g_aload_n C rfl 0 rfl dX12_cutAll_265 ?_
                      have e374 : Tg h372 a0 = 12 := ((pIT hh371).trans e341)
                      obtain ⟨v375, e376⟩ : ∃ z, Rv h372 a0 6 = z := ⟨_, rfl⟩
                      have t377 := ok_R O373 e374 rE_12_6 e376
                      have l378 := ok_L O373 e374 rE_12_6 e376
                      refine gf_R C fk_LandSurveyModel_30 rfl e374 e376 dX12_cutAll_266 ?_
                      refine g_iload_n C rfl 1 rfl dX12_cutAll_269 ?_
                      refine g_lload C 5 rfl dX12_cutAll_270 ?_
                      refine g_last C t377 rfl l378 (ix f19 (by decide) (by decide)) f334 dX12_cutAll_272 (fun h380 hh379 => ?_)
                      have O381 := O373.pJ hh379 f334
                      have f382 : (1 : Int) ≤ (x11 + 1) ∧ (x11 + 1) ≤ (1501 : Int) := ia_add f19 (il 1) (by decide) (by decide)
                      refine g_iinc C [(1, .inl (x11 + 1)), (0, .inr (.inr a0)), (2, .inl x325), (3, .inl v66), (4, .inl x12), (5, .inr (.inl x326))] 1 rfl (by decide) rfl dX12_cutAll_273 ?_
                      refine g_goto C 17 (by decide) dX12_cutAll_276 ?_
                      refine GW.sub [1, 0, 2] rfl ?_
                      have e383 : Rv h380 a0 4 = v345 := ((pJR hh379).trans ((pIR hh371).trans e346))
                      have e384 : Rv h380 a0 6 = v375 := ((pJR hh379).trans e376)
                      have e385 : Iv h380 v345 x11.toNat = 4 := ((pJI hh379).trans (pI_e hh371))
                      have p386 := (CU_wJ hh379 (by omega) (CU_wI hh371 (by omega) (CU_fx O86 F332 e339 rfl (CU_fx O81 F87 e338 rfl (CU_fx O17 ((Fx.rf (wr := [21020000]) (h := h13)).pIa t77 ar_105100 hh79 rfl) e26 rfl p21)))))
                      have e387 : Iv h380 a0 3 = v1 := ((pJI hh379).trans ((pI_n hh371 (ne_tag e341 t347 (by decide))).trans e340))
                      exact ih15 _ (by omega) (x11 + 1) x325 h380 rfl O381 (((((F18.pIa t77 ar_105100 hh79 rfl).call F87 rfl).call F332 rfl).pIa t347 ar_104100 hh371 rfl).pJa t377 ar_106102 hh379 rfl) (by omega) (iw f344 (by decide) (by decide)) (CU_new (by omega) (by rw [e383]; exact e385) (by rw [e384]; exact (pJ_e hh379)) (by omega) p386) (by omega) (by rw [e387]; omega)
                  · have f388 : (0 : Int) ≤ x325 ∧ x325 ≤ (1499 : Int) := r_lt f333 f61 q343 (by decide) (by decide)
                    refine g_aload_n C rfl 0 rfl dX12_cutAll_78 ?_
                    have e389 : Rv h327 a0 1 = v62 := ((fxR F332 e339 rfl).trans ((fxR F87 e338 rfl).trans ((pIR hh79).trans e63)))
                    refine gf_R C fk_LandSurveyModel_14 rfl e341 e389 dX12_cutAll_79 ?_
                    refine g_iload_n C rfl 2 rfl dX12_cutAll_82 ?_
                    have e390 : Tg h327 v62 = 101100 := (fxT F332 (fxT F87 ((pIT hh79).trans t64)))
                    have e391 : Tg h80 v62 = 101100 := ((pIT hh79).trans t64)
                    have e392 : Tg h83 v62 = 101100 := (fxT F87 e391)
                    have e393 : Ln h327 v62 = 1500 := ((fxL F332 e392).trans ((fxL F87 e391).trans ((pIL hh79).trans l65)))
                    obtain ⟨v394, e395⟩ : ∃ z, Iv h327 v62 x325.toNat = z := ⟨_, rfl⟩
                    have f396 := ok_Ia O331 e390 ar_101100 rI_101100_0 e395
                    refine g_iald C e390 rfl e393 (ix f388 (by decide) (by decide)) e395 dX12_cutAll_83 ?_
                    have z397 := p337
                    rw [e389, e395] at z397
                    refine g_callI (st := []) (gc_S C lk_LandSurveyModel_294 (k_X12_isLetter l D cy w z0 O331 (iw f396 (by decide) (by decide))) rfl ⟨by decide, by decide⟩ (Nat.le_of_ble_eq_true rfl) dX12_cutAll_84 ⟨(by decide), (by decide)⟩) (fun r398 h399 f401 K400 => ?_)
                    obtain ⟨O402, F403, f404, p405⟩ := K400
                    refine g_if_eq C (iw f404 (by decide) (by decide)) 129 (by decide) dX12_cutAll_87 (fun q406 => ?_) (fun q407 => ?_)
                    · have f408 : (0 : Int) ≤ r398 ∧ r398 ≤ (0 : Int) := ii f404 (r_eq (il 0) q406) (by decide) (by decide)
                      refine g_aload_n C rfl 0 rfl dX12_cutAll_129 ?_
                      have e409 : Tg h399 a0 = 12 := (fxT F403 e341)
                      obtain ⟨v410, e411⟩ : ∃ z, Rv h399 a0 4 = z := ⟨_, rfl⟩
                      have t412 := ok_R O402 e409 rE_12_4 e411
                      have l413 := ok_L O402 e409 rE_12_4 e411
                      refine gf_R C fk_LandSurveyModel_24 rfl e409 e411 dX12_cutAll_130 ?_
                      refine g_iload_n C rfl 1 rfl dX12_cutAll_133 ?_
                      refine g_iload_n C rfl 2 rfl dX12_cutAll_134 ?_
                      refine g_iload C 4 rfl dX12_cutAll_135 ?_
                      have f414 : (-1499 : Int) ≤ (x325 - x12) ∧ (x325 - x12) ≤ (1499 : Int) := ia_sub f388 f60 (by decide) (by decide)
                      refine g_isub C dX12_cutAll_137 ?_
                      refine g_bipush C (by decide) dX12_cutAll_138 ?_
                      refine g_icmp_le C (iw f414 (by decide) (by decide)) (iw (il 8) (by decide) (by decide)) 147 (by decide) dX12_cutAll_140 (fun q415 => ?_) (fun q416 => ?_)
                      · have f417 : (-1499 : Int) ≤ (x325 - x12) ∧ (x325 - x12) ≤ (8 : Int) := r_le f414 (il 8) q415 (by decide) (by decide)
                        refine g_iconst C dX12_cutAll_147 ?_
                        refine g_iast C t412 rfl l413 (ix f19 (by decide) (by decide)) (iw (il 1) (by decide) (by decide)) dX12_cutAll_148 (fun h419 hh418 => ?_)
                        have O420 := O402.pIa t412 ar_104100 hh418 rI_104100_0 (iw (il 1) (by decide) (by decide)) nofun
                        refine g_goto C 265 (by decide) dX12_cutAll_149 ?_
                        refine g_aload_n C rfl 0 rfl dX12_cutAll_265 ?_
                        have e421 : Tg h419 a0 = 12 := ((pIT hh418).trans e409)
                        obtain ⟨v422, e423⟩ : ∃ z, Rv h419 a0 6 = z := ⟨_, rfl⟩
                        have t424 := ok_R O420 e421 rE_12_6 e423
                        have l425 := ok_L O420 e421 rE_12_6 e423
                        refine gf_R C fk_LandSurveyModel_30 rfl e421 e423 dX12_cutAll_266 ?_
                        refine g_iload_n C rfl 1 rfl dX12_cutAll_269 ?_
                        refine g_lload C 5 rfl dX12_cutAll_270 ?_
                        refine g_last C t424 rfl l425 (ix f19 (by decide) (by decide)) f334 dX12_cutAll_272 (fun h427 hh426 => ?_)
                        have O428 := O420.pJ hh426 f334
                        have f429 : (1 : Int) ≤ (x11 + 1) ∧ (x11 + 1) ≤ (1501 : Int) := ia_add f19 (il 1) (by decide) (by decide)
                        refine g_iinc C [(1, .inl (x11 + 1)), (0, .inr (.inr a0)), (2, .inl x325), (3, .inl v66), (4, .inl x12), (5, .inr (.inl x326))] 1 rfl (by decide) rfl dX12_cutAll_273 ?_
                        refine g_goto C 17 (by decide) dX12_cutAll_276 ?_
                        refine GW.sub [1, 0, 2] rfl ?_
                        have e430 : Rv h427 a0 4 = v410 := ((pJR hh426).trans ((pIR hh418).trans e411))
                        have e431 : Rv h427 a0 6 = v422 := ((pJR hh426).trans e423)
                        have e432 : Iv h427 v410 x11.toNat = 1 := ((pJI hh426).trans (pI_e hh418))
                        have p433 := (CU_wJ hh426 (by omega) (CU_wI hh418 (by omega) (CU_fx O331 F403 e341 rfl (CU_fx O86 F332 e339 rfl (CU_fx O81 F87 e338 rfl (CU_fx O17 ((Fx.rf (wr := [21020000]) (h := h13)).pIa t77 ar_105100 hh79 rfl) e26 rfl p21))))))
                        have e434 : Iv h427 a0 3 = v1 := ((pJI hh426).trans ((pI_n hh418 (ne_tag e409 t412 (by decide))).trans ((fxI F403 e341 rfl).trans e340)))
                        exact ih15 _ (by omega) (x11 + 1) x325 h427 rfl O428 ((((((F18.pIa t77 ar_105100 hh79 rfl).call F87 rfl).call F332 rfl).call F403 rfl).pIa t412 ar_104100 hh418 rfl).pJa t424 ar_106102 hh426 rfl) (by omega) (iw f388 (by decide) (by decide)) (CU_new (by omega) (by rw [e430]; exact e432) (by rw [e431]; exact (pJ_e hh426)) (by omega) p433) (by omega) (by rw [e434]; omega)
                      · have f435 : (9 : Int) ≤ (x325 - x12) ∧ (x325 - x12) ≤ (1499 : Int) := r_gt f414 (il 8) q416 (by decide) (by decide)
                        refine g_iconst C dX12_cutAll_143 ?_
                        refine g_goto C 148 (by decide) dX12_cutAll_144 ?_
                        refine g_iast C t412 rfl l413 (ix f19 (by decide) (by decide)) (iw (il 4) (by decide) (by decide)) dX12_cutAll_148 (fun h437 hh436 => ?_)
                        have O438 := O402.pIa t412 ar_104100 hh436 rI_104100_0 (iw (il 4) (by decide) (by decide)) nofun
                        refine g_goto C 265 (by decide) dX12_cutAll_149 ?_
                        refine g_aload_n C rfl 0 rfl dX12_cutAll_265 ?_
                        have e439 : Tg h437 a0 = 12 := ((pIT hh436).trans e409)
                        obtain ⟨v440, e441⟩ : ∃ z, Rv h437 a0 6 = z := ⟨_, rfl⟩
                        have t442 := ok_R O438 e439 rE_12_6 e441
                        have l443 := ok_L O438 e439 rE_12_6 e441
                        refine gf_R C fk_LandSurveyModel_30 rfl e439 e441 dX12_cutAll_266 ?_
                        refine g_iload_n C rfl 1 rfl dX12_cutAll_269 ?_
                        refine g_lload C 5 rfl dX12_cutAll_270 ?_
                        refine g_last C t442 rfl l443 (ix f19 (by decide) (by decide)) f334 dX12_cutAll_272 (fun h445 hh444 => ?_)
                        have O446 := O438.pJ hh444 f334
                        have f447 : (1 : Int) ≤ (x11 + 1) ∧ (x11 + 1) ≤ (1501 : Int) := ia_add f19 (il 1) (by decide) (by decide)
                        refine g_iinc C [(1, .inl (x11 + 1)), (0, .inr (.inr a0)), (2, .inl x325), (3, .inl v66), (4, .inl x12), (5, .inr (.inl x326))] 1 rfl (by decide) rfl dX12_cutAll_273 ?_
                        refine g_goto C 17 (by decide) dX12_cutAll_276 ?_
                        refine GW.sub [1, 0, 2] rfl ?_
                        have e448 : Rv h445 a0 4 = v410 := ((pJR hh444).trans ((pIR hh436).trans e411))
                        have e449 : Rv h445 a0 6 = v440 := ((pJR hh444).trans e441)
                        have e450 : Iv h445 v410 x11.toNat = 4 := ((pJI hh444).trans (pI_e hh436))
                        have p451 := (CU_wJ hh444 (by omega) (CU_wI hh436 (by omega) (CU_fx O331 F403 e341 rfl (CU_fx O86 F332 e339 rfl (CU_fx O81 F87 e338 rfl (CU_fx O17 ((Fx.rf (wr := [21020000]) (h := h13)).pIa t77 ar_105100 hh79 rfl) e26 rfl p21))))))
                        have e452 : Iv h445 a0 3 = v1 := ((pJI hh444).trans ((pI_n hh436 (ne_tag e409 t412 (by decide))).trans ((fxI F403 e341 rfl).trans e340)))
                        exact ih15 _ (by omega) (x11 + 1) x325 h445 rfl O446 ((((((F18.pIa t77 ar_105100 hh79 rfl).call F87 rfl).call F332 rfl).call F403 rfl).pIa t412 ar_104100 hh436 rfl).pJa t442 ar_106102 hh444 rfl) (by omega) (iw f388 (by decide) (by decide)) (CU_new (by omega) (by rw [e448]; exact e450) (by rw [e449]; exact (pJ_e hh444)) (by omega) p451) (by omega) (by rw [e452]; omega)
                    · have f453 : (1 : Int) ≤ r398 ∧ r398 ≤ (1 : Int) := r_nl f404 q407
                      refine g_iload_n C rfl 2 rfl dX12_cutAll_90 ?_
                      refine g_iload C 4 rfl dX12_cutAll_91 ?_
                      have f454 : (-1499 : Int) ≤ (x325 - x12) ∧ (x325 - x12) ≤ (1499 : Int) := ia_sub f388 f60 (by decide) (by decide)
                      refine g_isub C dX12_cutAll_93 ?_
                      refine g_bipush C (by decide) dX12_cutAll_94 ?_
                      refine g_icmp_ge C (iw f454 (by decide) (by decide)) (iw (il 8) (by decide) (by decide)) 119 (by decide) dX12_cutAll_96 (fun q455 => ?_) (fun q456 => ?_)
                      · have f457 : (8 : Int) ≤ (x325 - x12) ∧ (x325 - x12) ≤ (1499 : Int) := r_ge f454 (il 8) q455 (by decide) (by decide)
                        refine g_lload C 5 rfl dX12_cutAll_119 ?_
                        refine g_lstore C [(5, .inr (.inl x326)), (0, .inr (.inr a0)), (1, .inl x11), (2, .inl x325), (3, .inl v66), (4, .inl x12)] (by decide) rfl dX12_cutAll_121 ?_
                        have f458 : (1 : Int) ≤ (x325 + 1) ∧ (x325 + 1) ≤ (1500 : Int) := ia_add f388 (il 1) (by decide) (by decide)
                        refine g_iinc C [(2, .inl (x325 + 1)), (5, .inr (.inl x326)), (0, .inr (.inr a0)), (1, .inl x11), (3, .inl v66), (4, .inl x12)] 3 rfl (by decide) rfl dX12_cutAll_123 ?_
                        refine g_goto C 70 (by decide) dX12_cutAll_126 ?_
                        refine GW.sub [2, 3, 0, 4, 5, 1] rfl ?_
                        have e459 : Iv h399 a0 3 = v1 := ((fxI F403 e341 rfl).trans e340)
                        exact ih329 _ (by omega) (x325 + 1) x326 h399 rfl O402 (F332.call F403 rfl) (iw f458 (by decide) (by decide)) f334 (by omega) (by rw [e459]; omega) (fun z => absurd z (by omega))
                      · have f460 : (-1499 : Int) ≤ (x325 - x12) ∧ (x325 - x12) ≤ (7 : Int) := r_lt f454 (il 8) q456 (by decide) (by decide)
                        refine g_ldc2 (z := 37) C kw_1779 (by decide) dX12_cutAll_99 ?_
                        refine g_lload C 5 rfl dX12_cutAll_102 ?_
                        refine g_lmul C dX12_cutAll_104 ?_
                        have f461 : (-9223372036854775808 : Int) ≤ (lM 37 x326) ∧ (lM 37 x326) ≤ (9223372036854775807 : Int) := inL_of _
                        refine g_aload_n C rfl 0 rfl dX12_cutAll_105 ?_
                        have e462 : Tg h399 a0 = 12 := (fxT F403 e341)
                        have e463 : Rv h399 a0 1 = v62 := ((fxR F403 e341 rfl).trans e389)
                        refine gf_R C fk_LandSurveyModel_14 rfl e462 e463 dX12_cutAll_106 ?_
                        refine g_iload_n C rfl 2 rfl dX12_cutAll_109 ?_
                        have e464 : Tg h399 v62 = 101100 := (fxT F403 e390)
                        have e465 : Ln h399 v62 = 1500 := ((fxL F403 e390).trans e393)
                        have e466 : Iv h399 v62 x325.toNat = v394 := ((fxIa F403 e390 ar_101100 rfl).trans e395)
                        refine g_iald C e464 rfl e465 (ix f388 (by decide) (by decide)) e466 dX12_cutAll_110 ?_
                        refine g_callI (st := [.inr (.inl (lM 37 x326))]) (gc_S C lk_LandSurveyModel_303 (k_X12_rank l D cy w z0 O402 (iw f396 (by decide) (by decide))) rfl ⟨by decide, by decide⟩ (Nat.le_of_ble_eq_true rfl) dX12_cutAll_111 ⟨(by decide), (by decide)⟩) (fun r467 h468 f470 K469 => ?_)
                        obtain ⟨O471, F472, f473⟩ := K469
                        refine g_i2l C f473 dX12_cutAll_114 ?_
                        refine g_ladd C dX12_cutAll_115 ?_
                        have f474 : (-9223372036854775808 : Int) ≤ (lA (lM 37 x326) r467) ∧ (lA (lM 37 x326) r467) ≤ (9223372036854775807 : Int) := inL_of _
                        refine g_goto C 121 (by decide) dX12_cutAll_116 ?_
                        refine g_lstore C [(5, .inr (.inl (lA (lM 37 x326) r467))), (0, .inr (.inr a0)), (1, .inl x11), (2, .inl x325), (3, .inl v66), (4, .inl x12)] (by decide) rfl dX12_cutAll_121 ?_
                        have f475 : (1 : Int) ≤ (x325 + 1) ∧ (x325 + 1) ≤ (1500 : Int) := ia_add f388 (il 1) (by decide) (by decide)
                        refine g_iinc C [(2, .inl (x325 + 1)), (5, .inr (.inl (lA (lM 37 x326) r467))), (0, .inr (.inr a0)), (1, .inl x11), (3, .inl v66), (4, .inl x12)] 3 rfl (by decide) rfl dX12_cutAll_123 ?_
                        refine g_goto C 70 (by decide) dX12_cutAll_126 ?_
                        refine GW.sub [2, 3, 0, 4, 5, 1] rfl ?_
                        have e476 : Iv h468 a0 3 = v1 := ((fxI F472 e462 rfl).trans ((fxI F403 e341 rfl).trans e340))
                        exact ih329 _ (by omega) (x325 + 1) (lA (lM 37 x326) r467) h468 rfl O471 ((F332.call F403 rfl).call F472 rfl) (iw f475 (by decide) (by decide)) f474 (by omega) (by rw [e476]; omega) (fun z => absurd z (by omega))
              have e477 : Tg h80 a0 = 12 := ((pIT hh79).trans e26)
              have e478 : Iv h83 a0 3 = v1 := ((fxI F87 e477 rfl).trans ((pI_n hh79 (ne_tag e26 t77 (by decide))).trans e25))
              have e479 : Rv h83 a0 1 = v62 := ((fxR F87 e477 rfl).trans ((pIR hh79).trans e63))
              have e480 : Tg h80 v62 = 101100 := ((pIT hh79).trans t64)
              have e481 : Iv h83 v62 x12.toNat = v66 := ((fxIa F87 e480 ar_101100 rfl).trans ((pI_n hh79 (ne_tag t64 t77 (by decide))).trans e67))
              exact L328 _ x12 0 h83 rfl O86 Fx.rf (iw f60 (by decide) (by decide)) (iw (il 0) (by decide) (by decide)) (by omega) (by rw [e478]; omega) (fun _ => by rw [e479]; exact e481)
          · have f482 : (32 : Int) ≤ v66 ∧ v66 ≤ (32 : Int) := ii f68 (r_eq (il 32) q74) (by decide) (by decide)
            have f483 : (1 : Int) ≤ (x12 + 1) ∧ (x12 + 1) ≤ (1500 : Int) := ia_add f60 (il 1) (by decide) (by decide)
            refine g_iinc C [(2, .inl (x12 + 1)), (3, .inl v66), (0, .inr (.inr a0)), (1, .inl x11)] 3 rfl (by decide) rfl dX12_cutAll_44 ?_
            refine g_goto C 17 (by decide) dX12_cutAll_47 ?_
            refine GW.sub [2, 3, 0] rfl ?_
            exact ih15 _ (by omega) x11 (x12 + 1) h13 rfl O17 F18 f19 (iw f483 (by decide) (by decide)) p21 (by omega) (by rw [e25]; omega)
  have e484 : Iv h9 a0 3 = v1 := ((pI_j hh8 (by decide)).trans (pI_e hh4))
  exact L14 _ 0 0 h9 rfl O10 Fx.rf (iw (il 0) (by decide) (by decide)) (iw (il 0) (by decide) (by decide)) (fun k hk => absurd hk (by omega)) (by omega) (by rw [e484]; omega)
def wr_k_X12_keeps : List Nat := [22220000, 22420000, 22820000, 23020000, 23220200, 23420200, 23820000, 24220000, 24420000, 24620000, 24820000, 25020000, 25220000, 25420000, 25820000, 26020000]
set_option maxRecDepth 100000 in
set_option maxHeartbeats 4000000 in
theorem k_X12_keeps (l : Launch) (D : va_G) (cy : Nat → ClassId) (w : Nat → Nat) (z0 : Nat) {h : Hp} {a0 : Nat} {a1 : Int}  (O : Okh h) (ta0 : Tg h a0 = 12) (fa1 : 0 ≤ a1 ∧ a1 ≤ 7) (P_kp : BKn h a0 a1 ∧ LA h a0 ∧ DLn h a0 (Iv h (Rv h a0 24) 8)) : MV l D cy w z0 yX12_keeps cX12_keeps 3 none 0 0 0 0 [.inr (.inr a0), .inl a1] h (fun h1 => Okh h1 ∧ Fx wr_k_X12_keeps h h1 ∧ (BKn h1 a0 (a1 + 1) ∧ LA h1 a0)) := by
  refine hm_go (by decide +kernel) (Nat.le_of_ble_eq_true rfl) (fun p e s m below meth c C hr hn => ?_)
  obtain ⟨v1, e2⟩ : ∃ z, Rv h a0 24 = z := ⟨_, rfl⟩
  have t3 := ok_R O ta0 rE_12_24 e2
  have l4 := ok_L O ta0 rE_12_24 e2
  obtain ⟨v5, e6⟩ : ∃ z, Rv h a0 25 = z := ⟨_, rfl⟩
  have t7 := ok_R O ta0 rE_12_25 e6
  have l8 := ok_L O ta0 rE_12_25 e6
  obtain ⟨v9, e10⟩ : ∃ z, Rv h a0 26 = z := ⟨_, rfl⟩
  have t11 := ok_R O ta0 rE_12_26 e10
  have l12 := ok_L O ta0 rE_12_26 e10
  obtain ⟨v13, e14⟩ : ∃ z, Rv h a0 27 = z := ⟨_, rfl⟩
  have t15 := ok_R O ta0 rE_12_27 e14
  have l16 := ok_L O ta0 rE_12_27 e14
  obtain ⟨v17, e18⟩ : ∃ z, Rv h a0 29 = z := ⟨_, rfl⟩
  have t19 := ok_R O ta0 rE_12_29 e18
  have l20 := ok_L O ta0 rE_12_29 e18
  obtain ⟨v21, e22⟩ : ∃ z, Rv h a0 30 = z := ⟨_, rfl⟩
  have t23 := ok_R O ta0 rE_12_30 e22
  have l24 := ok_L O ta0 rE_12_30 e22
  obtain ⟨v25, e26⟩ : ∃ z, Iv h a0 28 = z := ⟨_, rfl⟩
  have f27 := ok_I O ta0 rI_12_28 e26
  obtain ⟨v28, e29⟩ : ∃ z, Iv h v1 ((8 : Int).toNat) = z := ⟨_, rfl⟩
  have f30 := ok_Ia O t3 ar_124100 rI_124100_0 e29
  refine g_aload_n C rfl 0 rfl dX12_keeps_0 ?_
  obtain ⟨v31, e32⟩ : ∃ z, Rv h a0 11 = z := ⟨_, rfl⟩
  have t33 := ok_R O ta0 rE_12_11 e32
  have l34 := ok_L O ta0 rE_12_11 e32
  refine gf_R C fk_LandSurveyModel_97 rfl ta0 e32 dX12_keeps_1 ?_
  refine g_iload_n C rfl 1 rfl dX12_keeps_4 ?_
  refine g_aload_n C rfl 0 rfl dX12_keeps_5 ?_
  obtain ⟨v35, e36⟩ : ∃ z, Iv h a0 33 = z := ⟨_, rfl⟩
  have f37 := ok_I O ta0 rI_12_33 e36
  refine gf_I C fk_LandSurveyModel_342 rfl ta0 e36 dX12_keeps_6 ?_
  refine g_iast C t33 rfl l34 (ix fa1 (by decide) (by decide)) (iw f37 (by decide) (by decide)) dX12_keeps_9 (fun h39 hh38 => ?_)
  have O40 := O.pIa t33 ar_111100 hh38 rI_111100_0 f37 nofun
  refine g_aload_n C rfl 0 rfl dX12_keeps_10 ?_
  have e41 : Tg h39 a0 = 12 := ((pIT hh38).trans ta0)
  obtain ⟨v42, e43⟩ : ∃ z, Rv h39 a0 12 = z := ⟨_, rfl⟩
  have t44 := ok_R O40 e41 rE_12_12 e43
  have l45 := ok_L O40 e41 rE_12_12 e43
  refine gf_R C fk_LandSurveyModel_100 rfl e41 e43 dX12_keeps_11 ?_
  refine g_iload_n C rfl 1 rfl dX12_keeps_14 ?_
  refine g_aload_n C rfl 0 rfl dX12_keeps_15 ?_
  refine gf_R C fk_LandSurveyModel_100 rfl e41 e43 dX12_keeps_16 ?_
  refine g_bipush C (by decide) dX12_keeps_19 ?_
  obtain ⟨v46, e47⟩ : ∃ z, Iv h39 v42 ((8 : Int).toNat) = z := ⟨_, rfl⟩
  have f48 := ok_Ia O40 t44 ar_112100 rI_112100_0 e47
  refine g_iald C t44 rfl l45 (ix (il 8) (by decide) (by decide)) e47 dX12_keeps_21 ?_
  refine g_iast C t44 rfl l45 (ix fa1 (by decide) (by decide)) (iw f48 (by decide) (by decide)) dX12_keeps_22 (fun h50 hh49 => ?_)
  have O51 := O40.pIa t44 ar_112100 hh49 rI_112100_0 f48 nofun
  refine g_aload_n C rfl 0 rfl dX12_keeps_23 ?_
  have e52 : Tg h50 a0 = 12 := ((pIT hh49).trans e41)
  obtain ⟨v53, e54⟩ : ∃ z, Rv h50 a0 19 = z := ⟨_, rfl⟩
  have t55 := ok_R O51 e52 rE_12_19 e54
  have l56 := ok_L O51 e52 rE_12_19 e54
  refine gf_R C fk_LandSurveyModel_122 rfl e52 e54 dX12_keeps_24 ?_
  refine g_iload_n C rfl 1 rfl dX12_keeps_27 ?_
  refine g_aload_n C rfl 0 rfl dX12_keeps_28 ?_
  refine gf_R C fk_LandSurveyModel_122 rfl e52 e54 dX12_keeps_29 ?_
  refine g_bipush C (by decide) dX12_keeps_32 ?_
  obtain ⟨v57, e58⟩ : ∃ z, Iv h50 v53 ((8 : Int).toNat) = z := ⟨_, rfl⟩
  have f59 := ok_Ia O51 t55 ar_119100 rI_119100_0 e58
  refine g_iald C t55 rfl l56 (ix (il 8) (by decide) (by decide)) e58 dX12_keeps_34 ?_
  refine g_iast C t55 rfl l56 (ix fa1 (by decide) (by decide)) (iw f59 (by decide) (by decide)) dX12_keeps_35 (fun h61 hh60 => ?_)
  have O62 := O51.pIa t55 ar_119100 hh60 rI_119100_0 f59 nofun
  refine g_aload_n C rfl 0 rfl dX12_keeps_36 ?_
  have e63 : Tg h61 a0 = 12 := ((pIT hh60).trans e52)
  obtain ⟨v64, e65⟩ : ∃ z, Rv h61 a0 21 = z := ⟨_, rfl⟩
  have t66 := ok_R O62 e63 rE_12_21 e65
  have l67 := ok_L O62 e63 rE_12_21 e65
  refine gf_R C fk_LandSurveyModel_128 rfl e63 e65 dX12_keeps_37 ?_
  refine g_iload_n C rfl 1 rfl dX12_keeps_40 ?_
  refine g_aload_n C rfl 0 rfl dX12_keeps_41 ?_
  refine gf_R C fk_LandSurveyModel_128 rfl e63 e65 dX12_keeps_42 ?_
  refine g_bipush C (by decide) dX12_keeps_45 ?_
  obtain ⟨v68, e69⟩ : ∃ z, Iv h61 v64 ((8 : Int).toNat) = z := ⟨_, rfl⟩
  have f70 := ok_Ia O62 t66 ar_121100 rI_121100_0 e69
  refine g_iald C t66 rfl l67 (ix (il 8) (by decide) (by decide)) e69 dX12_keeps_47 ?_
  refine g_iast C t66 rfl l67 (ix fa1 (by decide) (by decide)) (iw f70 (by decide) (by decide)) dX12_keeps_48 (fun h72 hh71 => ?_)
  have O73 := O62.pIa t66 ar_121100 hh71 rI_121100_0 f70 nofun
  refine g_aload_n C rfl 0 rfl dX12_keeps_49 ?_
  have e74 : Tg h72 a0 = 12 := ((pIT hh71).trans e63)
  have e75 : Rv h72 a0 24 = v1 := ((pIR hh71).trans ((pIR hh60).trans ((pIR hh49).trans ((pIR hh38).trans e2))))
  refine gf_R C fk_LandSurveyModel_137 rfl e74 e75 dX12_keeps_50 ?_
  refine g_iload_n C rfl 1 rfl dX12_keeps_53 ?_
  refine g_aload_n C rfl 0 rfl dX12_keeps_54 ?_
  refine gf_R C fk_LandSurveyModel_137 rfl e74 e75 dX12_keeps_55 ?_
  refine g_bipush C (by decide) dX12_keeps_58 ?_
  have e76 : Tg h72 v1 = 124100 := ((pIT hh71).trans ((pIT hh60).trans ((pIT hh49).trans ((pIT hh38).trans t3))))
  have e77 : Ln h72 v1 = 9 := ((pIL hh71).trans ((pIL hh60).trans ((pIL hh49).trans ((pIL hh38).trans l4))))
  have e78 : Tg h39 v1 = 124100 := ((pIT hh38).trans t3)
  have e79 : Tg h50 v1 = 124100 := ((pIT hh49).trans e78)
  have e80 : Tg h61 v1 = 124100 := ((pIT hh60).trans e79)
  have e81 : Iv h72 v1 ((8 : Int).toNat) = v28 := ((pI_n hh71 (ne_tag e80 t66 (by decide))).trans ((pI_n hh60 (ne_tag e79 t55 (by decide))).trans ((pI_n hh49 (ne_tag e78 t44 (by decide))).trans ((pI_n hh38 (ne_tag t3 t33 (by decide))).trans e29))))
  refine g_iald C e76 rfl e77 (ix (il 8) (by decide) (by decide)) e81 dX12_keeps_60 ?_
  refine g_iast C e76 rfl e77 (ix fa1 (by decide) (by decide)) (iw f30 (by decide) (by decide)) dX12_keeps_61 (fun h83 hh82 => ?_)
  have O84 := O73.pIa e76 ar_124100 hh82 rI_124100_0 f30 nofun
  refine g_iconst C dX12_keeps_62 ?_
  refine g_istore_n C [(2, .inl 0), (0, .inr (.inr a0)), (1, .inl a1)] rfl (by decide) rfl dX12_keeps_63 ?_
  refine GW.sub [1, 2, 0] rfl ?_
  -- loop at 64
  have L87 : ∀ (μ : Nat) (x85 : Int) (h86 : Hp), (10 - x85).toNat = μ → Okh h86 → Fx [22820000, 23020000, 23220200, 23420200, 24420000, 24620000] h83 h86 → ((0 : Int) ≤ x85 ∧ x85 ≤ (10 : Int)) → GW p l e (rmm 0 0 0 0) s m (List.map toV [.inr (.inr a0), .inl a1]).toArray below meth c D cy z0 3 (MQ below (QV D cy z0 (fun h1 => Okh h1 ∧ Fx wr_k_X12_keeps h h1 ∧ (BKn h1 a0 (a1 + 1) ∧ LA h1 a0))) (List.map toV [.inr (.inr a0), .inl a1]).toArray s 0 0 (Aof z0)) 64 [(0, .inr (.inr a0)), (1, .inl a1), (2, .inl x85)] [] h86 0 0 := by
    intro μ
    induction μ using Nat.strongRecOn with
    | ind μ ih88 =>
      intro x85 h86 hm89 O90 F91 f92
      refine g_iload_n C rfl 2 rfl dX12_keeps_64 ?_
      refine g_bipush C (by decide) dX12_keeps_65 ?_
      refine g_icmp_ge C (iw f92 (by decide) (by decide)) (iw (il 10) (by decide) (by decide)) 196 (by decide) dX12_keeps_67 (fun q93 => ?_) (fun q94 => ?_)
      · have f95 : (10 : Int) ≤ x85 ∧ x85 ≤ (10 : Int) := r_ge f92 (il 10) q93 (by decide) (by decide)
        refine g_iconst C dX12_keeps_196 ?_
        refine g_istore_n C [(2, .inl 0), (0, .inr (.inr a0)), (1, .inl a1)] rfl (by decide) rfl dX12_keeps_197 ?_
        refine GW.sub [1, 2, 0] rfl ?_
        -- loop at 198
        have L98 : ∀ (μ : Nat) (x96 : Int) (h97 : Hp), (24 - x96).toNat = μ → Okh h97 → Fx [25020000, 25220000, 25420000] h86 h97 → ((0 : Int) ≤ x96 ∧ x96 ≤ (24 : Int)) → (CP h h97 a0 a1 x96) → GW p l e (rmm 0 0 0 0) s m (List.map toV [.inr (.inr a0), .inl a1]).toArray below meth c D cy z0 3 (MQ below (QV D cy z0 (fun h1 => Okh h1 ∧ Fx wr_k_X12_keeps h h1 ∧ (BKn h1 a0 (a1 + 1) ∧ LA h1 a0))) (List.map toV [.inr (.inr a0), .inl a1]).toArray s 0 0 (Aof z0)) 198 [(0, .inr (.inr a0)), (1, .inl a1), (2, .inl x96)] [] h97 0 0 := by
          intro μ
          induction μ using Nat.strongRecOn with
          | ind μ ih99 =>
            intro x96 h97 hm100 O101 F102 f103 p104
            refine g_iload_n C rfl 2 rfl dX12_keeps_198 ?_
            refine g_bipush C (by decide) dX12_keeps_199 ?_
            refine g_icmp_ge C (iw f103 (by decide) (by decide)) (iw (il 24) (by decide) (by decide)) 283 (by decide) dX12_keeps_201 (fun q105 => ?_) (fun q106 => ?_)
            · have f107 : (24 : Int) ≤ x96 ∧ x96 ≤ (24 : Int) := r_ge f103 (il 24) q105 (by decide) (by decide)
              refine g_iconst C dX12_keeps_283 ?_
              refine g_istore_n C [(2, .inl 0), (0, .inr (.inr a0)), (1, .inl a1)] rfl (by decide) rfl dX12_keeps_284 ?_
              refine GW.sub [1, 2, 0] rfl ?_
              -- loop at 285
              have L110 : ∀ (μ : Nat) (x108 : Int) (h109 : Hp), (1600 - x108).toNat = μ → Okh h109 → Fx [25820000, 26020000] h97 h109 → ((0 : Int) ≤ x108 ∧ x108 ≤ (1600 : Int)) → (CO h h109 a0 a1 x108) → (x108 ≤ Iv h a0 28) → GW p l e (rmm 0 0 0 0) s m (List.map toV [.inr (.inr a0), .inl a1]).toArray below meth c D cy z0 3 (MQ below (QV D cy z0 (fun h1 => Okh h1 ∧ Fx wr_k_X12_keeps h h1 ∧ (BKn h1 a0 (a1 + 1) ∧ LA h1 a0))) (List.map toV [.inr (.inr a0), .inl a1]).toArray s 0 0 (Aof z0)) 285 [(0, .inr (.inr a0)), (1, .inl a1), (2, .inl x108)] [] h109 0 0 := by
                intro μ
                induction μ using Nat.strongRecOn with
                | ind μ ih111 =>
                  intro x108 h109 hm112 O113 F114 f115 p116 p117
                  have hcl := p117; rw [e26] at hcl
                  refine g_iload_n C rfl 2 rfl dX12_keeps_285 ?_
                  refine g_aload_n C rfl 0 rfl dX12_keeps_286 ?_
                  have e118 : Tg h109 a0 = 12 := (fxT F114 (fxT F102 (fxT F91 ((pIT hh82).trans e74))))
                  have e119 : Tg h83 a0 = 12 := ((pIT hh82).trans e74)
                  have e120 : Tg h86 a0 = 12 := (fxT F91 e119)
                  have e121 : Tg h97 a0 = 12 := (fxT F102 e120)
                  have e122 : Iv h109 a0 28 = v25 := ((fxI F114 e121 rfl).trans ((fxI F102 e120 rfl).trans ((fxI F91 e119 rfl).trans ((pI_n hh82 (ne_tag e74 e76 (by decide))).trans ((pI_n hh71 (ne_tag e63 t66 (by decide))).trans ((pI_n hh60 (ne_tag e52 t55 (by decide))).trans ((pI_n hh49 (ne_tag e41 t44 (by decide))).trans ((pI_n hh38 (ne_tag ta0 t33 (by decide))).trans e26))))))))
                  refine gf_I C fk_LandSurveyModel_336 rfl e118 e122 dX12_keeps_287 ?_
                  refine g_icmp_ge C (iw f115 (by decide) (by decide)) (iw f27 (by decide) (by decide)) 343 (by decide) dX12_keeps_290 (fun q123 => ?_) (fun q124 => ?_)
                  · have p125 := (CP_fx O101 F114 e121 rfl p104)
                    have e126 : Rv h109 a0 24 = v1 := ((fxR F114 e121 rfl).trans ((fxR F102 e120 rfl).trans ((fxR F91 e119 rfl).trans ((pIR hh82).trans e75))))
                    have e127 : Tg h83 v1 = 124100 := ((pIT hh82).trans e76)
                    have e128 : Tg h86 v1 = 124100 := (fxT F91 e127)
                    have e129 : Tg h97 v1 = 124100 := (fxT F102 e128)
                    have e130 : Iv h109 v1 a1.toNat = v28 := ((fxIa F114 e129 ar_124100 rfl).trans ((fxIa F102 e128 ar_124100 rfl).trans ((fxIa F91 e127 ar_124100 rfl).trans (pI_e hh82))))
                    have E131 : Iv h109 (Rv h109 a0 24) = Iv h83 (Rv h83 a0 24) := mAI (j := 24) O84 ((((Fx.rf (wr := [22820000, 23020000, 23220200, 23420200, 24420000, 24620000, 25020000, 25220000, 25420000, 25820000, 26020000]) (h := h83)).call F91 rfl).call F102 rfl).call F114 rfl) e119 rE_12_24 ar_124100 rfl rfl
                    have E132 : Iv h72 (Rv h72 a0 24) = Iv h (Rv h a0 24) := mAI (j := 24) O (((((Fx.rf (wr := [22220000, 22420000, 23820000, 24220000]) (h := h)).pIa t33 ar_111100 hh38 rfl).pIa t44 ar_112100 hh49 rfl).pIa t55 ar_119100 hh60 rfl).pIa t66 ar_121100 hh71 rfl) ta0 rE_12_24 ar_124100 rfl rfl
                    exact g_vret C hr ⟨O113, (((((((((Fx.rf (wr := wr_k_X12_keeps)).pIa t33 ar_111100 hh38 rfl).pIa t44 ar_112100 hh49 rfl).pIa t55 ar_119100 hh60 rfl).pIa t66 ar_121100 hh71 rfl).pIa e76 ar_124100 hh82 rfl).call F91 rfl).call F102 rfl).call F114 rfl), (kept_new (n := v25) (by omega) O ta0 e26 (by omega) (by rw [show (24 : Int) = x96 by omega]; exact p125) (by rw [show v25 = x108 by omega]; exact p116) (by rw [e126, e130, e2]; exact (Eq.symm e29)) (fun j hj => by rw [E131, pIR hh82, pI_j hh82 (by omega), E132]) P_kp.1 P_kp.2.1 P_kp.2.2)⟩ (by decide) (by decide) dX12_keeps_343
                  · have f133 : (0 : Int) ≤ x108 ∧ x108 ≤ (1599 : Int) := r_lt f115 f27 q124 (by decide) (by decide)
                    have f134 : (1 : Int) ≤ v25 ∧ v25 ≤ (1600 : Int) := r_gt f27 f115 q124 (by decide) (by decide)
                    refine g_aload_n C rfl 0 rfl dX12_keeps_293 ?_
                    have e135 : Rv h109 a0 29 = v17 := ((fxR F114 e121 rfl).trans ((fxR F102 e120 rfl).trans ((fxR F91 e119 rfl).trans ((pIR hh82).trans ((pIR hh71).trans ((pIR hh60).trans ((pIR hh49).trans ((pIR hh38).trans e18))))))))
                    refine gf_R C fk_LandSurveyModel_149 rfl e118 e135 dX12_keeps_294 ?_
                    refine g_sipush C (by decide) dX12_keeps_297 ?_
                    refine g_iload_n C rfl 1 rfl dX12_keeps_300 ?_
                    have f136 : (0 : Int) ≤ (1600 * a1) ∧ (1600 * a1) ≤ (11200 : Int) := ia_mul (by decide) fa1 (by decide) (by decide)
                    refine g_imul C dX12_keeps_301 ?_
                    refine g_iload_n C rfl 2 rfl dX12_keeps_302 ?_
                    have f137 : (0 : Int) ≤ ((1600 * a1) + x108) ∧ ((1600 * a1) + x108) ≤ (12799 : Int) := ia_add f136 f133 (by decide) (by decide)
                    refine g_iadd C dX12_keeps_303 ?_
                    refine g_aload_n C rfl 0 rfl dX12_keeps_304 ?_
                    refine gf_R C fk_LandSurveyModel_149 rfl e118 e135 dX12_keeps_305 ?_
                    refine g_sipush C (by decide) dX12_keeps_308 ?_
                    refine g_iload_n C rfl 2 rfl dX12_keeps_311 ?_
                    have f138 : (12800 : Int) ≤ (12800 + x108) ∧ (12800 + x108) ≤ (14399 : Int) := ia_add (il 12800) f133 (by decide) (by decide)
                    refine g_iadd C dX12_keeps_312 ?_
                    have e139 : Tg h109 v17 = 129100 := (fxT F114 (fxT F102 (fxT F91 ((pIT hh82).trans ((pIT hh71).trans ((pIT hh60).trans ((pIT hh49).trans ((pIT hh38).trans t19))))))))
                    have e140 : Tg h83 v17 = 129100 := ((pIT hh82).trans ((pIT hh71).trans ((pIT hh60).trans ((pIT hh49).trans ((pIT hh38).trans t19)))))
                    have e141 : Tg h86 v17 = 129100 := (fxT F91 e140)
                    have e142 : Tg h97 v17 = 129100 := (fxT F102 e141)
                    have e143 : Ln h109 v17 = 14400 := ((fxL F114 e142).trans ((fxL F102 e141).trans ((fxL F91 e140).trans ((pIL hh82).trans ((pIL hh71).trans ((pIL hh60).trans ((pIL hh49).trans ((pIL hh38).trans l20))))))))
                    obtain ⟨v144, e145⟩ : ∃ z, Iv h109 v17 ((12800 + x108).toNat) = z := ⟨_, rfl⟩
                    have f146 := ok_Ia O113 e139 ar_129100 rI_129100_0 e145
                    refine g_iald C e139 rfl e143 (ix f138 (by decide) (by decide)) e145 dX12_keeps_313 ?_
                    refine g_iast C e139 rfl e143 (ix f137 (by decide) (by decide)) (iw f146 (by decide) (by decide)) dX12_keeps_314 (fun h148 hh147 => ?_)
                    have O149 := O113.pIa e139 ar_129100 hh147 rI_129100_0 f146 nofun
                    refine g_aload_n C rfl 0 rfl dX12_keeps_315 ?_
                    have e150 : Tg h148 a0 = 12 := ((pIT hh147).trans e118)
                    have e151 : Rv h148 a0 30 = v21 := ((pIR hh147).trans ((fxR F114 e121 rfl).trans ((fxR F102 e120 rfl).trans ((fxR F91 e119 rfl).trans ((pIR hh82).trans ((pIR hh71).trans ((pIR hh60).trans ((pIR hh49).trans ((pIR hh38).trans e22)))))))))
                    refine gf_R C fk_LandSurveyModel_152 rfl e150 e151 dX12_keeps_316 ?_
                    refine g_sipush C (by decide) dX12_keeps_319 ?_
                    refine g_iload_n C rfl 1 rfl dX12_keeps_322 ?_
                    refine g_imul C dX12_keeps_323 ?_
                    refine g_iload_n C rfl 2 rfl dX12_keeps_324 ?_
                    refine g_iadd C dX12_keeps_325 ?_
                    refine g_aload_n C rfl 0 rfl dX12_keeps_326 ?_
                    refine gf_R C fk_LandSurveyModel_152 rfl e150 e151 dX12_keeps_327 ?_
                    refine g_sipush C (by decide) dX12_keeps_330 ?_
                    refine g_iload_n C rfl 2 rfl dX12_keeps_333 ?_
                    refine g_iadd C dX12_keeps_334 ?_
                    have e152 : Tg h148 v21 = 130100 := ((pIT hh147).trans (fxT F114 (fxT F102 (fxT F91 ((pIT hh82).trans ((pIT hh71).trans ((pIT hh60).trans ((pIT hh49).trans ((pIT hh38).trans t23)))))))))
                    have e153 : Tg h83 v21 = 130100 := ((pIT hh82).trans ((pIT hh71).trans ((pIT hh60).trans ((pIT hh49).trans ((pIT hh38).trans t23)))))
                    have e154 : Tg h86 v21 = 130100 := (fxT F91 e153)
                    have e155 : Tg h97 v21 = 130100 := (fxT F102 e154)
                    have e156 : Ln h148 v21 = 14400 := ((pIL hh147).trans ((fxL F114 e155).trans ((fxL F102 e154).trans ((fxL F91 e153).trans ((pIL hh82).trans ((pIL hh71).trans ((pIL hh60).trans ((pIL hh49).trans ((pIL hh38).trans l24)))))))))
                    obtain ⟨v157, e158⟩ : ∃ z, Iv h148 v21 ((12800 + x108).toNat) = z := ⟨_, rfl⟩
                    have f159 := ok_Ia O149 e152 ar_130100 rI_130100_0 e158
                    refine g_iald C e152 rfl e156 (ix f138 (by decide) (by decide)) e158 dX12_keeps_335 ?_
                    refine g_iast C e152 rfl e156 (ix f137 (by decide) (by decide)) f159 dX12_keeps_336 (fun h161 hh160 => ?_)
                    have O162 := O149.pIa e152 ar_130100 hh160 rI_130100_0 f159 nofun
                    have f163 : (1 : Int) ≤ (x108 + 1) ∧ (x108 + 1) ≤ (1600 : Int) := ia_add f133 (il 1) (by decide) (by decide)
                    refine g_iinc C [(2, .inl (x108 + 1)), (0, .inr (.inr a0)), (1, .inl a1)] 2 rfl (by decide) rfl dX12_keeps_337 ?_
                    refine g_goto C 285 (by decide) dX12_keeps_340 ?_
                    refine GW.sub [1, 2, 0] rfl ?_
                    have e164 : Rv h109 a0 30 = v21 := ((fxR F114 e121 rfl).trans ((fxR F102 e120 rfl).trans ((fxR F91 e119 rfl).trans ((pIR hh82).trans ((pIR hh71).trans ((pIR hh60).trans ((pIR hh49).trans ((pIR hh38).trans e22))))))))
                    obtain ⟨v165, e166⟩ : ∃ z, Iv h109 v21 ((12800 + x108).toNat) = z := ⟨_, rfl⟩
                    have e167 : Tg h109 v21 = 130100 := (fxT F114 e155)
                    have f168 := ok_Ia O113 e167 ar_130100 rI_130100_0 e166
                    exact ih111 _ (by omega) (x108 + 1) h161 rfl O162 ((F114.pIa e139 ar_129100 hh147 rfl).pIa e152 ar_130100 hh160 rfl) (iw f163 (by decide) (by decide)) (CO.step (k := x108) O113 e118 (by omega) (by omega) e135 e164 _ _ (by omega) (by omega) hh147 hh160 e145 e166 p116) (by rw [e26]; omega)
              have E169 : Iv h97 (Rv h97 a0 29) = Iv h (Rv h a0 29) := mAI (j := 29) O ((((((((Fx.rf (wr := [22220000, 22420000, 22820000, 23020000, 23220200, 23420200, 23820000, 24220000, 24420000, 24620000, 24820000, 25020000, 25220000, 25420000]) (h := h)).pIa t33 ar_111100 hh38 rfl).pIa t44 ar_112100 hh49 rfl).pIa t55 ar_119100 hh60 rfl).pIa t66 ar_121100 hh71 rfl).pIa e76 ar_124100 hh82 rfl).call F91 rfl).call F102 rfl) ta0 rE_12_29 ar_129100 rfl rfl
              have E170 : Iv h97 (Rv h97 a0 30) = Iv h (Rv h a0 30) := mAI (j := 30) O ((((((((Fx.rf (wr := [22220000, 22420000, 22820000, 23020000, 23220200, 23420200, 23820000, 24220000, 24420000, 24620000, 24820000, 25020000, 25220000, 25420000]) (h := h)).pIa t33 ar_111100 hh38 rfl).pIa t44 ar_112100 hh49 rfl).pIa t55 ar_119100 hh60 rfl).pIa t66 ar_121100 hh71 rfl).pIa e76 ar_124100 hh82 rfl).call F91 rfl).call F102 rfl) ta0 rE_12_30 ar_130100 rfl rfl
              exact L110 _ 0 h97 rfl O101 Fx.rf (iw (il 0) (by decide) (by decide)) (CO.start E169 E170) (by rw [e26]; omega)
            · have f171 : (0 : Int) ≤ x96 ∧ x96 ≤ (23 : Int) := r_lt f103 (il 24) q106 (by decide) (by decide)
              refine g_aload_n C rfl 0 rfl dX12_keeps_204 ?_
              have e172 : Tg h97 a0 = 12 := (fxT F102 (fxT F91 ((pIT hh82).trans e74)))
              have e173 : Tg h83 a0 = 12 := ((pIT hh82).trans e74)
              have e174 : Tg h86 a0 = 12 := (fxT F91 e173)
              have e175 : Rv h97 a0 25 = v5 := ((fxR F102 e174 rfl).trans ((fxR F91 e173 rfl).trans ((pIR hh82).trans ((pIR hh71).trans ((pIR hh60).trans ((pIR hh49).trans ((pIR hh38).trans e6)))))))
              refine gf_R C fk_LandSurveyModel_140 rfl e172 e175 dX12_keeps_205 ?_
              refine g_bipush C (by decide) dX12_keeps_208 ?_
              refine g_iload_n C rfl 1 rfl dX12_keeps_210 ?_
              have f176 : (0 : Int) ≤ (24 * a1) ∧ (24 * a1) ≤ (168 : Int) := ia_mul (by decide) fa1 (by decide) (by decide)
              refine g_imul C dX12_keeps_211 ?_
              refine g_iload_n C rfl 2 rfl dX12_keeps_212 ?_
              have f177 : (0 : Int) ≤ ((24 * a1) + x96) ∧ ((24 * a1) + x96) ≤ (191 : Int) := ia_add f176 f171 (by decide) (by decide)
              refine g_iadd C dX12_keeps_213 ?_
              refine g_aload_n C rfl 0 rfl dX12_keeps_214 ?_
              refine gf_R C fk_LandSurveyModel_140 rfl e172 e175 dX12_keeps_215 ?_
              refine g_sipush C (by decide) dX12_keeps_218 ?_
              refine g_iload_n C rfl 2 rfl dX12_keeps_221 ?_
              have f178 : (192 : Int) ≤ (192 + x96) ∧ (192 + x96) ≤ (215 : Int) := ia_add (il 192) f171 (by decide) (by decide)
              refine g_iadd C dX12_keeps_222 ?_
              have e179 : Tg h97 v5 = 125100 := (fxT F102 (fxT F91 ((pIT hh82).trans ((pIT hh71).trans ((pIT hh60).trans ((pIT hh49).trans ((pIT hh38).trans t7)))))))
              have e180 : Tg h83 v5 = 125100 := ((pIT hh82).trans ((pIT hh71).trans ((pIT hh60).trans ((pIT hh49).trans ((pIT hh38).trans t7)))))
              have e181 : Tg h86 v5 = 125100 := (fxT F91 e180)
              have e182 : Ln h97 v5 = 216 := ((fxL F102 e181).trans ((fxL F91 e180).trans ((pIL hh82).trans ((pIL hh71).trans ((pIL hh60).trans ((pIL hh49).trans ((pIL hh38).trans l8)))))))
              obtain ⟨v183, e184⟩ : ∃ z, Iv h97 v5 ((192 + x96).toNat) = z := ⟨_, rfl⟩
              have f185 := ok_Ia O101 e179 ar_125100 rI_125100_0 e184
              refine g_iald C e179 rfl e182 (ix f178 (by decide) (by decide)) e184 dX12_keeps_223 ?_
              refine g_iast C e179 rfl e182 (ix f177 (by decide) (by decide)) (iw f185 (by decide) (by decide)) dX12_keeps_224 (fun h187 hh186 => ?_)
              have O188 := O101.pIa e179 ar_125100 hh186 rI_125100_0 f185 nofun
              refine g_aload_n C rfl 0 rfl dX12_keeps_225 ?_
              have e189 : Tg h187 a0 = 12 := ((pIT hh186).trans e172)
              have e190 : Rv h187 a0 26 = v9 := ((pIR hh186).trans ((fxR F102 e174 rfl).trans ((fxR F91 e173 rfl).trans ((pIR hh82).trans ((pIR hh71).trans ((pIR hh60).trans ((pIR hh49).trans ((pIR hh38).trans e10))))))))
              refine gf_R C fk_LandSurveyModel_143 rfl e189 e190 dX12_keeps_226 ?_
              refine g_bipush C (by decide) dX12_keeps_229 ?_
              refine g_iload_n C rfl 1 rfl dX12_keeps_231 ?_
              refine g_imul C dX12_keeps_232 ?_
              refine g_iload_n C rfl 2 rfl dX12_keeps_233 ?_
              refine g_iadd C dX12_keeps_234 ?_
              refine g_aload_n C rfl 0 rfl dX12_keeps_235 ?_
              refine gf_R C fk_LandSurveyModel_143 rfl e189 e190 dX12_keeps_236 ?_
              refine g_sipush C (by decide) dX12_keeps_239 ?_
              refine g_iload_n C rfl 2 rfl dX12_keeps_242 ?_
              refine g_iadd C dX12_keeps_243 ?_
              have e191 : Tg h187 v9 = 126100 := ((pIT hh186).trans (fxT F102 (fxT F91 ((pIT hh82).trans ((pIT hh71).trans ((pIT hh60).trans ((pIT hh49).trans ((pIT hh38).trans t11))))))))
              have e192 : Tg h83 v9 = 126100 := ((pIT hh82).trans ((pIT hh71).trans ((pIT hh60).trans ((pIT hh49).trans ((pIT hh38).trans t11)))))
              have e193 : Tg h86 v9 = 126100 := (fxT F91 e192)
              have e194 : Ln h187 v9 = 216 := ((pIL hh186).trans ((fxL F102 e193).trans ((fxL F91 e192).trans ((pIL hh82).trans ((pIL hh71).trans ((pIL hh60).trans ((pIL hh49).trans ((pIL hh38).trans l12))))))))
              obtain ⟨v195, e196⟩ : ∃ z, Iv h187 v9 ((192 + x96).toNat) = z := ⟨_, rfl⟩
              have f197 := ok_Ia O188 e191 ar_126100 rI_126100_0 e196
              refine g_iald C e191 rfl e194 (ix f178 (by decide) (by decide)) e196 dX12_keeps_244 ?_
              refine g_iast C e191 rfl e194 (ix f177 (by decide) (by decide)) (iw f197 (by decide) (by decide)) dX12_keeps_245 (fun h199 hh198 => ?_)
              have O200 := O188.pIa e191 ar_126100 hh198 rI_126100_0 f197 nofun
              refine g_aload_n C rfl 0 rfl dX12_keeps_246 ?_
              have e201 : Tg h199 a0 = 12 := ((pIT hh198).trans e189)
              have e202 : Rv h199 a0 27 = v13 := ((pIR hh198).trans ((pIR hh186).trans ((fxR F102 e174 rfl).trans ((fxR F91 e173 rfl).trans ((pIR hh82).trans ((pIR hh71).trans ((pIR hh60).trans ((pIR hh49).trans ((pIR hh38).trans e14)))))))))
              refine gf_R C fk_LandSurveyModel_146 rfl e201 e202 dX12_keeps_247 ?_
              refine g_bipush C (by decide) dX12_keeps_250 ?_
              refine g_iload_n C rfl 1 rfl dX12_keeps_252 ?_
              refine g_imul C dX12_keeps_253 ?_
              refine g_iload_n C rfl 2 rfl dX12_keeps_254 ?_
              refine g_iadd C dX12_keeps_255 ?_
              refine g_aload_n C rfl 0 rfl dX12_keeps_256 ?_
              refine gf_R C fk_LandSurveyModel_146 rfl e201 e202 dX12_keeps_257 ?_
              refine g_sipush C (by decide) dX12_keeps_260 ?_
              refine g_iload_n C rfl 2 rfl dX12_keeps_263 ?_
              refine g_iadd C dX12_keeps_264 ?_
              have e203 : Tg h199 v13 = 127100 := ((pIT hh198).trans ((pIT hh186).trans (fxT F102 (fxT F91 ((pIT hh82).trans ((pIT hh71).trans ((pIT hh60).trans ((pIT hh49).trans ((pIT hh38).trans t15)))))))))
              have e204 : Tg h83 v13 = 127100 := ((pIT hh82).trans ((pIT hh71).trans ((pIT hh60).trans ((pIT hh49).trans ((pIT hh38).trans t15)))))
              have e205 : Tg h86 v13 = 127100 := (fxT F91 e204)
              have e206 : Ln h199 v13 = 216 := ((pIL hh198).trans ((pIL hh186).trans ((fxL F102 e205).trans ((fxL F91 e204).trans ((pIL hh82).trans ((pIL hh71).trans ((pIL hh60).trans ((pIL hh49).trans ((pIL hh38).trans l16)))))))))
              obtain ⟨v207, e208⟩ : ∃ z, Iv h199 v13 ((192 + x96).toNat) = z := ⟨_, rfl⟩
              have f209 := ok_Ia O200 e203 ar_127100 rI_127100_0 e208
              refine g_iald C e203 rfl e206 (ix f178 (by decide) (by decide)) e208 dX12_keeps_265 ?_
              refine g_sipush C (by decide) dX12_keeps_266 ?_
              have f210 : (-25600 : Int) ≤ (v207 - 12800) ∧ (v207 - 12800) ≤ (1600 : Int) := ia_sub f209 (il 12800) (by decide) (by decide)
              refine g_isub C dX12_keeps_269 ?_
              refine g_sipush C (by decide) dX12_keeps_270 ?_
              refine g_iload_n C rfl 1 rfl dX12_keeps_273 ?_
              have f211 : (0 : Int) ≤ (1600 * a1) ∧ (1600 * a1) ≤ (11200 : Int) := ia_mul (by decide) fa1 (by decide) (by decide)
              refine g_imul C dX12_keeps_274 ?_
              have f212 : (-25600 : Int) ≤ ((v207 - 12800) + (1600 * a1)) ∧ ((v207 - 12800) + (1600 * a1)) ≤ (12800 : Int) := ia_add f210 f211 (by decide) (by decide)
              refine g_iadd C dX12_keeps_275 ?_
              refine g_iast C e203 rfl e206 (ix f177 (by decide) (by decide)) (iw f212 (by decide) (by decide)) dX12_keeps_276 (fun h214 hh213 => ?_)
              have O215 := O200.pIa e203 ar_127100 hh213 rI_127100_0 (by omega) nofun
              have f216 : (1 : Int) ≤ (x96 + 1) ∧ (x96 + 1) ≤ (24 : Int) := ia_add f171 (il 1) (by decide) (by decide)
              refine g_iinc C [(2, .inl (x96 + 1)), (0, .inr (.inr a0)), (1, .inl a1)] 2 rfl (by decide) rfl dX12_keeps_277 ?_
              refine g_goto C 198 (by decide) dX12_keeps_280 ?_
              refine GW.sub [1, 2, 0] rfl ?_
              have e217 : Rv h97 a0 26 = v9 := ((fxR F102 e174 rfl).trans ((fxR F91 e173 rfl).trans ((pIR hh82).trans ((pIR hh71).trans ((pIR hh60).trans ((pIR hh49).trans ((pIR hh38).trans e10)))))))
              have e218 : Rv h97 a0 27 = v13 := ((fxR F102 e174 rfl).trans ((fxR F91 e173 rfl).trans ((pIR hh82).trans ((pIR hh71).trans ((pIR hh60).trans ((pIR hh49).trans ((pIR hh38).trans e14)))))))
              obtain ⟨v219, e220⟩ : ∃ z, Iv h97 v9 ((192 + x96).toNat) = z := ⟨_, rfl⟩
              have e221 : Tg h97 v9 = 126100 := (fxT F102 e193)
              have f222 := ok_Ia O101 e221 ar_126100 rI_126100_0 e220
              obtain ⟨v223, e224⟩ : ∃ z, Iv h97 v13 ((192 + x96).toNat) = z := ⟨_, rfl⟩
              have e225 : Tg h97 v13 = 127100 := (fxT F102 e205)
              have f226 := ok_Ia O101 e225 ar_127100 rI_127100_0 e224
              exact ih99 _ (by omega) (x96 + 1) h214 rfl O215 (((F102.pIa e179 ar_125100 hh186 rfl).pIa e191 ar_126100 hh198 rfl).pIa e203 ar_127100 hh213 rfl) (iw f216 (by decide) (by decide)) (CP.step (k := x96) O101 e172 (by omega) (by omega) e175 e217 e218 _ _ _ (by omega) (by omega) (by omega) hh186 hh198 hh213 e184 e220 (by rw [e224]) p104)
        have E227 : Iv h86 (Rv h86 a0 25) = Iv h (Rv h a0 25) := mAI (j := 25) O (((((((Fx.rf (wr := [22220000, 22420000, 22820000, 23020000, 23220200, 23420200, 23820000, 24220000, 24420000, 24620000, 24820000]) (h := h)).pIa t33 ar_111100 hh38 rfl).pIa t44 ar_112100 hh49 rfl).pIa t55 ar_119100 hh60 rfl).pIa t66 ar_121100 hh71 rfl).pIa e76 ar_124100 hh82 rfl).call F91 rfl) ta0 rE_12_25 ar_125100 rfl rfl
        have E228 : Iv h86 (Rv h86 a0 26) = Iv h (Rv h a0 26) := mAI (j := 26) O (((((((Fx.rf (wr := [22220000, 22420000, 22820000, 23020000, 23220200, 23420200, 23820000, 24220000, 24420000, 24620000, 24820000]) (h := h)).pIa t33 ar_111100 hh38 rfl).pIa t44 ar_112100 hh49 rfl).pIa t55 ar_119100 hh60 rfl).pIa t66 ar_121100 hh71 rfl).pIa e76 ar_124100 hh82 rfl).call F91 rfl) ta0 rE_12_26 ar_126100 rfl rfl
        have E229 : Iv h86 (Rv h86 a0 27) = Iv h (Rv h a0 27) := mAI (j := 27) O (((((((Fx.rf (wr := [22220000, 22420000, 22820000, 23020000, 23220200, 23420200, 23820000, 24220000, 24420000, 24620000, 24820000]) (h := h)).pIa t33 ar_111100 hh38 rfl).pIa t44 ar_112100 hh49 rfl).pIa t55 ar_119100 hh60 rfl).pIa t66 ar_121100 hh71 rfl).pIa e76 ar_124100 hh82 rfl).call F91 rfl) ta0 rE_12_27 ar_127100 rfl rfl
        exact L98 _ 0 h86 rfl O90 Fx.rf (iw (il 0) (by decide) (by decide)) (CP.start E227 E228 E229)
      · have f230 : (0 : Int) ≤ x85 ∧ x85 ≤ (9 : Int) := r_lt f92 (il 10) q94 (by decide) (by decide)
        refine g_aload_n C rfl 0 rfl dX12_keeps_70 ?_
        have e231 : Tg h86 a0 = 12 := (fxT F91 ((pIT hh82).trans e74))
        obtain ⟨v232, e233⟩ : ∃ z, Rv h86 a0 14 = z := ⟨_, rfl⟩
        have t234 := ok_R O90 e231 rE_12_14 e233
        have l235 := ok_L O90 e231 rE_12_14 e233
        refine gf_R C fk_LandSurveyModel_106 rfl e231 e233 dX12_keeps_71 ?_
        refine g_bipush C (by decide) dX12_keeps_74 ?_
        refine g_iload_n C rfl 1 rfl dX12_keeps_76 ?_
        have f236 : (0 : Int) ≤ (10 * a1) ∧ (10 * a1) ≤ (70 : Int) := ia_mul (by decide) fa1 (by decide) (by decide)
        refine g_imul C dX12_keeps_77 ?_
        refine g_iload_n C rfl 2 rfl dX12_keeps_78 ?_
        have f237 : (0 : Int) ≤ ((10 * a1) + x85) ∧ ((10 * a1) + x85) ≤ (79 : Int) := ia_add f236 f230 (by decide) (by decide)
        refine g_iadd C dX12_keeps_79 ?_
        refine g_aload_n C rfl 0 rfl dX12_keeps_80 ?_
        refine gf_R C fk_LandSurveyModel_106 rfl e231 e233 dX12_keeps_81 ?_
        refine g_bipush C (by decide) dX12_keeps_84 ?_
        refine g_iload_n C rfl 2 rfl dX12_keeps_86 ?_
        have f238 : (80 : Int) ≤ (80 + x85) ∧ (80 + x85) ≤ (89 : Int) := ia_add (il 80) f230 (by decide) (by decide)
        refine g_iadd C dX12_keeps_87 ?_
        obtain ⟨v239, e240⟩ : ∃ z, Iv h86 v232 ((80 + x85).toNat) = z := ⟨_, rfl⟩
        have f241 := ok_Ia O90 t234 ar_114100 rI_114100_0 e240
        refine g_iald C t234 rfl l235 (ix f238 (by decide) (by decide)) e240 dX12_keeps_88 ?_
        refine g_iast C t234 rfl l235 (ix f237 (by decide) (by decide)) (iw f241 (by decide) (by decide)) dX12_keeps_89 (fun h243 hh242 => ?_)
        have O244 := O90.pIa t234 ar_114100 hh242 rI_114100_0 f241 nofun
        refine g_aload_n C rfl 0 rfl dX12_keeps_90 ?_
        have e245 : Tg h243 a0 = 12 := ((pIT hh242).trans e231)
        obtain ⟨v246, e247⟩ : ∃ z, Rv h243 a0 15 = z := ⟨_, rfl⟩
        have t248 := ok_R O244 e245 rE_12_15 e247
        have l249 := ok_L O244 e245 rE_12_15 e247
        refine gf_R C fk_LandSurveyModel_109 rfl e245 e247 dX12_keeps_91 ?_
        refine g_bipush C (by decide) dX12_keeps_94 ?_
        refine g_iload_n C rfl 1 rfl dX12_keeps_96 ?_
        refine g_imul C dX12_keeps_97 ?_
        refine g_iload_n C rfl 2 rfl dX12_keeps_98 ?_
        refine g_iadd C dX12_keeps_99 ?_
        refine g_aload_n C rfl 0 rfl dX12_keeps_100 ?_
        refine gf_R C fk_LandSurveyModel_109 rfl e245 e247 dX12_keeps_101 ?_
        refine g_bipush C (by decide) dX12_keeps_104 ?_
        refine g_iload_n C rfl 2 rfl dX12_keeps_106 ?_
        refine g_iadd C dX12_keeps_107 ?_
        obtain ⟨v250, e251⟩ : ∃ z, Iv h243 v246 ((80 + x85).toNat) = z := ⟨_, rfl⟩
        have f252 := ok_Ia O244 t248 ar_115100 rI_115100_0 e251
        refine g_iald C t248 rfl l249 (ix f238 (by decide) (by decide)) e251 dX12_keeps_108 ?_
        refine g_iast C t248 rfl l249 (ix f237 (by decide) (by decide)) (iw f252 (by decide) (by decide)) dX12_keeps_109 (fun h254 hh253 => ?_)
        have O255 := O244.pIa t248 ar_115100 hh253 rI_115100_0 f252 nofun
        refine g_aload_n C rfl 0 rfl dX12_keeps_110 ?_
        have e256 : Tg h254 a0 = 12 := ((pIT hh253).trans e245)
        obtain ⟨v257, e258⟩ : ∃ z, Rv h254 a0 16 = z := ⟨_, rfl⟩
        have t259 := ok_R O255 e256 rE_12_16 e258
        have l260 := ok_L O255 e256 rE_12_16 e258
        refine gf_R C fk_LandSurveyModel_112 rfl e256 e258 dX12_keeps_111 ?_
        refine g_bipush C (by decide) dX12_keeps_114 ?_
        refine g_iload_n C rfl 1 rfl dX12_keeps_116 ?_
        refine g_imul C dX12_keeps_117 ?_
        refine g_iload_n C rfl 2 rfl dX12_keeps_118 ?_
        refine g_iadd C dX12_keeps_119 ?_
        refine g_aload_n C rfl 0 rfl dX12_keeps_120 ?_
        refine gf_R C fk_LandSurveyModel_112 rfl e256 e258 dX12_keeps_121 ?_
        refine g_bipush C (by decide) dX12_keeps_124 ?_
        refine g_iload_n C rfl 2 rfl dX12_keeps_126 ?_
        refine g_iadd C dX12_keeps_127 ?_
        obtain ⟨v261, e262⟩ : ∃ z, Iv h254 v257 ((80 + x85).toNat) = z := ⟨_, rfl⟩
        have f263 := ok_Ia O255 t259 ar_116101 rI_116101_0 e262
        refine g_zald C t259 rfl l260 (ix f238 (by decide) (by decide)) e262 dX12_keeps_128 ?_
        refine g_zast C t259 rfl l260 (ix f237 (by decide) (by decide)) f263 dX12_keeps_129 (fun h265 hh264 => ?_)
        have O266 := O255.pIa t259 ar_116101 hh264 rI_116101_0 f263 nofun
        refine g_aload_n C rfl 0 rfl dX12_keeps_130 ?_
        have e267 : Tg h265 a0 = 12 := ((pIT hh264).trans e256)
        obtain ⟨v268, e269⟩ : ∃ z, Rv h265 a0 17 = z := ⟨_, rfl⟩
        have t270 := ok_R O266 e267 rE_12_17 e269
        have l271 := ok_L O266 e267 rE_12_17 e269
        refine gf_R C fk_LandSurveyModel_116 rfl e267 e269 dX12_keeps_131 ?_
        refine g_bipush C (by decide) dX12_keeps_134 ?_
        refine g_iload_n C rfl 1 rfl dX12_keeps_136 ?_
        refine g_imul C dX12_keeps_137 ?_
        refine g_iload_n C rfl 2 rfl dX12_keeps_138 ?_
        refine g_iadd C dX12_keeps_139 ?_
        refine g_aload_n C rfl 0 rfl dX12_keeps_140 ?_
        refine gf_R C fk_LandSurveyModel_116 rfl e267 e269 dX12_keeps_141 ?_
        refine g_bipush C (by decide) dX12_keeps_144 ?_
        refine g_iload_n C rfl 2 rfl dX12_keeps_146 ?_
        refine g_iadd C dX12_keeps_147 ?_
        obtain ⟨v272, e273⟩ : ∃ z, Iv h265 v268 ((80 + x85).toNat) = z := ⟨_, rfl⟩
        have f274 := ok_Ia O266 t270 ar_117101 rI_117101_0 e273
        refine g_zald C t270 rfl l271 (ix f238 (by decide) (by decide)) e273 dX12_keeps_148 ?_
        refine g_zast C t270 rfl l271 (ix f237 (by decide) (by decide)) f274 dX12_keeps_149 (fun h276 hh275 => ?_)
        have O277 := O266.pIa t270 ar_117101 hh275 rI_117101_0 f274 nofun
        refine g_aload_n C rfl 0 rfl dX12_keeps_150 ?_
        have e278 : Tg h276 a0 = 12 := ((pIT hh275).trans e267)
        obtain ⟨v279, e280⟩ : ∃ z, Rv h276 a0 22 = z := ⟨_, rfl⟩
        have t281 := ok_R O277 e278 rE_12_22 e280
        have l282 := ok_L O277 e278 rE_12_22 e280
        refine gf_R C fk_LandSurveyModel_131 rfl e278 e280 dX12_keeps_151 ?_
        refine g_bipush C (by decide) dX12_keeps_154 ?_
        refine g_iload_n C rfl 1 rfl dX12_keeps_156 ?_
        refine g_imul C dX12_keeps_157 ?_
        refine g_iload_n C rfl 2 rfl dX12_keeps_158 ?_
        refine g_iadd C dX12_keeps_159 ?_
        refine g_aload_n C rfl 0 rfl dX12_keeps_160 ?_
        refine gf_R C fk_LandSurveyModel_131 rfl e278 e280 dX12_keeps_161 ?_
        refine g_bipush C (by decide) dX12_keeps_164 ?_
        refine g_iload_n C rfl 2 rfl dX12_keeps_166 ?_
        refine g_iadd C dX12_keeps_167 ?_
        obtain ⟨v283, e284⟩ : ∃ z, Iv h276 v279 ((80 + x85).toNat) = z := ⟨_, rfl⟩
        have f285 := ok_Ia O277 t281 ar_122100 rI_122100_0 e284
        refine g_iald C t281 rfl l282 (ix f238 (by decide) (by decide)) e284 dX12_keeps_168 ?_
        refine g_iast C t281 rfl l282 (ix f237 (by decide) (by decide)) (iw f285 (by decide) (by decide)) dX12_keeps_169 (fun h287 hh286 => ?_)
        have O288 := O277.pIa t281 ar_122100 hh286 rI_122100_0 f285 nofun
        refine g_aload_n C rfl 0 rfl dX12_keeps_170 ?_
        have e289 : Tg h287 a0 = 12 := ((pIT hh286).trans e278)
        obtain ⟨v290, e291⟩ : ∃ z, Rv h287 a0 23 = z := ⟨_, rfl⟩
        have t292 := ok_R O288 e289 rE_12_23 e291
        have l293 := ok_L O288 e289 rE_12_23 e291
        refine gf_R C fk_LandSurveyModel_134 rfl e289 e291 dX12_keeps_171 ?_
        refine g_bipush C (by decide) dX12_keeps_174 ?_
        refine g_iload_n C rfl 1 rfl dX12_keeps_176 ?_
        refine g_imul C dX12_keeps_177 ?_
        refine g_iload_n C rfl 2 rfl dX12_keeps_178 ?_
        refine g_iadd C dX12_keeps_179 ?_
        refine g_aload_n C rfl 0 rfl dX12_keeps_180 ?_
        refine gf_R C fk_LandSurveyModel_134 rfl e289 e291 dX12_keeps_181 ?_
        refine g_bipush C (by decide) dX12_keeps_184 ?_
        refine g_iload_n C rfl 2 rfl dX12_keeps_186 ?_
        refine g_iadd C dX12_keeps_187 ?_
        obtain ⟨v294, e295⟩ : ∃ z, Iv h287 v290 ((80 + x85).toNat) = z := ⟨_, rfl⟩
        have f296 := ok_Ia O288 t292 ar_123100 rI_123100_0 e295
        refine g_iald C t292 rfl l293 (ix f238 (by decide) (by decide)) e295 dX12_keeps_188 ?_
        refine g_iast C t292 rfl l293 (ix f237 (by decide) (by decide)) (iw f296 (by decide) (by decide)) dX12_keeps_189 (fun h298 hh297 => ?_)
        have O299 := O288.pIa t292 ar_123100 hh297 rI_123100_0 f296 nofun
        have f300 : (1 : Int) ≤ (x85 + 1) ∧ (x85 + 1) ≤ (10 : Int) := ia_add f230 (il 1) (by decide) (by decide)
        refine g_iinc C [(2, .inl (x85 + 1)), (0, .inr (.inr a0)), (1, .inl a1)] 2 rfl (by decide) rfl dX12_keeps_190 ?_
        refine g_goto C 64 (by decide) dX12_keeps_193 ?_
        refine GW.sub [1, 2, 0] rfl ?_
        exact ih88 _ (by omega) (x85 + 1) h298 rfl O299 ((((((F91.pIa t234 ar_114100 hh242 rfl).pIa t248 ar_115100 hh253 rfl).pIa t259 ar_116101 hh264 rfl).pIa t270 ar_117101 hh275 rfl).pIa t281 ar_122100 hh286 rfl).pIa t292 ar_123100 hh297 rfl) (iw f300 (by decide) (by decide))
  exact L87 _ 0 h83 rfl O84 Fx.rf (iw (il 0) (by decide) (by decide))
def wr_k_X12_rules : List Nat := [2400, 2402, 2403, 2407, 2408, 2410, 2428, 2435, 20820000, 21020000, 21220400, 22220000, 22420000, 22620400, 22820000, 23020000, 23220200, 23420200, 23620200, 23820000, 24020200, 24220000, 24420000, 24620000, 24820000, 25020000, 25220000, 25420000, 25820000, 26020000]
set_option maxRecDepth 100000 in
set_option maxHeartbeats 4000000 in
theorem k_X12_rules (l : Launch) (D : va_G) (cy : Nat → ClassId) (w : Nat → Nat) (z0 : Nat) {h : Hp} {a0 : Nat}  (O : Okh h) (ta0 : Tg h a0 = 12) (P_MInv : MInv h a0) : MI l D cy w z0 yX12_rules cX12_rules 2 (some .int) 24 531 0 0 [.inr (.inr a0)] h (fun v h1 => Okh h1 ∧ Fx wr_k_X12_rules h h1 ∧ ((-1) ≤ v ∧ v ≤ 24005) ∧ (MInv h1 a0)) := by
  refine hm_go (by decide +kernel) (Nat.le_of_ble_eq_true rfl) (fun p e s m below meth c C hr hn => ?_)
  obtain ⟨v1, e2⟩ : ∃ z, Iv h a0 10 = z := ⟨_, rfl⟩
  have f3 := ok_I O ta0 rI_12_10 e2
  obtain ⟨v4, e5⟩ : ∃ z, Iv h a0 33 = z := ⟨_, rfl⟩
  have f6 := ok_I O ta0 rI_12_33 e5
  refine g_aload_n C rfl 0 rfl dX12_rules_0 ?_
  refine g_iconst C dX12_rules_1 ?_
  refine gp_I C fk_LandSurveyModel_1 pk_LandSurveyModel_0 rfl ta0 (iw (il 0) (by decide) (by decide)) (nf_i _) dX12_rules_2 (fun h8 hh7 => ?_)
  have O9 := O.pI ta0 hh7 rI_12_0 (iw (il 0) (by decide) (by decide)) nofun
  refine g_aload_n C rfl 0 rfl dX12_rules_5 ?_
  have e10 : Tg h8 a0 = 12 := ((pIT hh7).trans ta0)
  have e11 : Iv h8 a0 10 = v1 := ((pI_j hh7 (by decide)).trans e2)
  refine gf_I C fk_LandSurveyModel_339 rfl e10 e11 dX12_rules_6 ?_
  refine g_if_le C (iw f3 (by decide) (by decide)) 34 (by decide) dX12_rules_9 (fun q12 => ?_) (fun q13 => ?_)
  · have f14 : (0 : Int) ≤ v1 ∧ v1 ≤ (0 : Int) := r_le f3 (il 0) q12 (by decide) (by decide)
    refine g_iconst C dX12_rules_34 ?_
    refine g_istore_n C [(1, .inl 0), (0, .inr (.inr a0))] rfl (by decide) rfl dX12_rules_35 ?_
    refine g_aload_n C rfl 1 rfl dX12_rules_36 ?_
    refine gf_I C fk_LandSurveyModel_339 rfl e10 e11 dX12_rules_37 ?_
    refine g_bipush C (by decide) dX12_rules_40 ?_
    refine g_icmp_ne C (iw f14 (by decide) (by decide)) (iw (il 8) (by decide) (by decide)) 56 (by decide) dX12_rules_42 (fun q15 => ?_) (fun q16 => ?_)
    · refine g_aload_n C rfl 1 rfl dX12_rules_56 ?_
      refine g_callV (st := []) (gc_V C lk_LandSurveyModel_345 (k_X12_cutAll l D cy w z0 O9 e10) e10 rfl rfl rfl ⟨by decide, by decide⟩ (Nat.le_of_ble_eq_true rfl) dX12_rules_57 ⟨(by decide), (by decide)⟩) (fun h18 K19 => ?_)
      obtain ⟨O21, F22, p23⟩ := K19
      obtain ⟨v24, e25⟩ : ∃ z, NT h18 a0 = z := ⟨_, rfl⟩
      have f26 : (0 : Int) ≤ v24 ∧ v24 ≤ (1500 : Int) := NT_rng p23.1 e25
      refine g_aload_n C rfl 1 rfl dX12_rules_60 ?_
      have e27 : Tg h18 a0 = 12 := (fxT F22 e10)
      have p28 := (MInv_fx O9 F22 e10 rfl (MInv_fx O ((Fx.rf (wr := [2400]) (h := h)).pI ta0 hh7 rfl) ta0 rfl P_MInv))
      refine g_callV (st := []) (gc_V C lk_LandSurveyModel_348 (k_X12_begins l D cy w z0 O21 e27 p28) e27 rfl rfl rfl ⟨by decide, by decide⟩ (Nat.le_of_ble_eq_true rfl) dX12_rules_61 ⟨(by decide), (by decide)⟩) (fun h30 K31 => ?_)
      obtain ⟨O33, F34, p35, p36⟩ := K31
      obtain ⟨v37, e38⟩ : ∃ z, Rv h30 a0 24 = z := ⟨_, rfl⟩
      have e39 : Tg h30 a0 = 12 := (fxT F34 e27)
      have t40 := ok_R O33 e39 rE_12_24 e38
      have l41 := ok_L O33 e39 rE_12_24 e38
      have e42 := p36.2
      rw [e38] at e42
      refine GW.sub [1, 0] rfl ?_
      -- loop at 64
      have L44 : ∀ (μ : Nat) (h43 : Hp), (mqF (Iv h43 a0 8) (Iv h43 a0 7)).toNat = μ → Okh h43 → Fx [2407, 2408, 2428, 22420000, 22620400, 22820000, 23020000, 23220200, 23420200, 23620200, 23820000, 24020200, 24220000, 24420000, 24620000, 24820000, 25020000, 25220000, 25420000, 25820000, 26020000] h30 h43 → (RD h43 a0) → (MInv h43 a0) → (DLf h43 a0) → GW p l e (rmm 24 531 0 0) s m (List.map toV [.inr (.inr a0)]).toArray below meth c D cy z0 2 (MQ below (QI D cy z0 (fun v h1 => Okh h1 ∧ Fx wr_k_X12_rules h h1 ∧ ((-1) ≤ v ∧ v ≤ 24005) ∧ (MInv h1 a0))) (List.map toV [.inr (.inr a0)]).toArray s 0 0 (Aof z0)) 64 [(0, .inr (.inr a0)), (1, .inl 0)] [] h43 0 0 := by
        intro μ
        induction μ using Nat.strongRecOn with
        | ind μ ih45 =>
          intro h43 hm46 O47 F48 p49 p50 p51
          obtain ⟨v52, e53⟩ : ∃ z, Iv h43 a0 7 = z := ⟨_, rfl⟩
          have e54 : Tg h43 a0 = 12 := (fxT F48 e39)
          have f55 := ok_I O47 e54 rI_12_7 e53
          obtain ⟨v56, e57⟩ : ∃ z, Iv h43 a0 8 = z := ⟨_, rfl⟩
          have f58 := ok_I O47 e54 rI_12_8 e57
          obtain ⟨v59, e60⟩ : ∃ z, Iv h43 a0 28 = z := ⟨_, rfl⟩
          have f61 := ok_I O47 e54 rI_12_28 e60
          obtain ⟨p62, p63, p64, p65⟩ := p49
          have p66 := ((NT_fx O33 F48 e39 rfl).trans ((NT_fx O21 F34 e27 rfl).trans e25))
          rw [e53, p66] at p63
          rw [e57, e53, p66] at p64
          rw [e60, e53] at p65
          refine g_aload_n C rfl 0 rfl dX12_rules_64 ?_
          refine gf_I C fk_LandSurveyModel_320 rfl e54 e57 dX12_rules_65 ?_
          refine g_if_ne C (iw f58 (by decide) (by decide)) 90 (by decide) dX12_rules_68 (fun q67 => ?_) (fun q68 => ?_)
          · have f69 : (1 : Int) ≤ v56 ∧ v56 ≤ (24005 : Int) := r_nl f58 q67
            refine g_aload_n C rfl 0 rfl dX12_rules_90 ?_
            refine gf_I C fk_LandSurveyModel_320 rfl e54 e57 dX12_rules_91 ?_
            refine g_if_ne C (iw f69 (by decide) (by decide)) 130 (by decide) dX12_rules_94 (fun q70 => ?_) (fun q71 => ?_)
            · refine g_aload_n C rfl 0 rfl dX12_rules_130 ?_
              refine gf_I C fk_LandSurveyModel_320 rfl e54 e57 dX12_rules_131 ?_
              exact g_iret C hr rfl (iw f69 (by decide) (by decide)) ⟨O47, (((((Fx.rf (wr := wr_k_X12_rules)).pI ta0 hh7 rfl).call F22 rfl).call F34 rfl).call F48 rfl), (iw f69 (by decide) (by decide)), p50⟩ (by decide) (by decide) dX12_rules_134
            · exact (no_eq f69 (il 0) q71 (by decide)).elim
          · have f72 : (0 : Int) ≤ v56 ∧ v56 ≤ (0 : Int) := ii f58 (r_eq (il 0) q68) (by decide) (by decide)
            refine g_aload_n C rfl 0 rfl dX12_rules_71 ?_
            obtain ⟨v73, e74⟩ : ∃ z, Rv h43 a0 4 = z := ⟨_, rfl⟩
            have t75 := ok_R O47 e54 rE_12_4 e74
            have l76 := ok_L O47 e54 rE_12_4 e74
            refine gf_R C fk_LandSurveyModel_24 rfl e54 e74 dX12_rules_72 ?_
            refine g_aload_n C rfl 0 rfl dX12_rules_75 ?_
            refine gf_I C fk_LandSurveyModel_317 rfl e54 e53 dX12_rules_76 ?_
            obtain ⟨v77, e78⟩ : ∃ z, Iv h43 v73 v52.toNat = z := ⟨_, rfl⟩
            have f79 := ok_Ia O47 t75 ar_104100 rI_104100_0 e78
            refine g_iald C t75 rfl l76 (ix f55 (by decide) (by decide)) e78 dX12_rules_79 ?_
            refine g_if_eq C (iw f79 (by decide) (by decide)) 90 (by decide) dX12_rules_80 (fun q80 => ?_) (fun q81 => ?_)
            · have f82 : (0 : Int) ≤ v77 ∧ v77 ≤ (0 : Int) := ii f79 (r_eq (il 0) q80) (by decide) (by decide)
              refine g_aload_n C rfl 0 rfl dX12_rules_90 ?_
              refine gf_I C fk_LandSurveyModel_320 rfl e54 e57 dX12_rules_91 ?_
              refine g_if_ne C (iw f72 (by decide) (by decide)) 130 (by decide) dX12_rules_94 (fun q83 => ?_) (fun q84 => ?_)
              · exact (no_ne f72 (il 0) q83 (by decide)).elim
              · refine g_aload_n C rfl 0 rfl dX12_rules_97 ?_
                refine g_dup C rfl dX12_rules_98 ?_
                have e85 : Iv h43 a0 10 = v1 := ((fxI F48 e39 rfl).trans ((fxI F34 e27 rfl).trans ((fxI F22 e10 rfl).trans e11)))
                refine gf_I C fk_LandSurveyModel_339 rfl e54 e85 dX12_rules_99 ?_
                refine g_iload_n C rfl 1 rfl dX12_rules_102 ?_
                refine g_if_eq C (iw (il 0) (by decide) (by decide)) 110 (by decide) dX12_rules_103 (fun q86 => ?_) (fun q87 => ?_)
                · refine g_iconst C dX12_rules_110 ?_
                  have f88 : (1 : Int) ≤ (v1 + 1) ∧ (v1 + 1) ≤ (1 : Int) := ia_add f14 (il 1) (by decide) (by decide)
                  refine g_iadd C dX12_rules_111 ?_
                  refine gp_I C fk_LandSurveyModel_339 pk_LandSurveyModel_10 rfl e54 (iw f88 (by decide) (by decide)) (nf_i _) dX12_rules_112 (fun h90 hh89 => ?_)
                  have O91 := O47.pI e54 hh89 rI_12_10 (iw f88 (by decide) (by decide)) nofun
                  have p92 : BKn h90 a0 ((v1 + 1) - 1) := fun d hd => BKb_fx O47 ((Fx.rf (wr := [2410]) (h := h43)).pI e54 hh89 rfl) e54 rfl (p50.1 d (by rw [e85]; omega))
                  have p93 := LA_fx O47 ((Fx.rf (wr := [2410]) (h := h43)).pI e54 hh89 rfl) e54 rfl p50.2
                  have e95 : Iv h90 a0 8 = v56 := ((pI_j hh89 (by decide)).trans e57)
                  have p94 := (DLf_fx O47 ((Fx.rf (wr := [2410]) (h := h43)).pI e54 hh89 rfl) e54 rfl p51) (by rw [e95]; omega)
                  refine g_aload_n C rfl 0 rfl dX12_rules_115 ?_
                  refine g_aload_n C rfl 0 rfl dX12_rules_116 ?_
                  have e96 : Tg h90 a0 = 12 := ((pIT hh89).trans e54)
                  refine gf_I C fk_LandSurveyModel_339 rfl e96 (pI_e hh89) dX12_rules_117 ?_
                  refine g_iconst C dX12_rules_120 ?_
                  have f97 : (0 : Int) ≤ ((v1 + 1) - 1) ∧ ((v1 + 1) - 1) ≤ (0 : Int) := ia_sub f88 (il 1) (by decide) (by decide)
                  refine g_isub C dX12_rules_121 ?_
                  refine g_callV (st := []) (gc_V C lk_LandSurveyModel_354 (k_X12_keeps l D cy w z0 O91 e96 (iw f97 (by decide) (by decide)) ⟨p92, p93, p94⟩) e96 rfl rfl rfl ⟨by decide, by decide⟩ (Nat.le_of_ble_eq_true rfl) dX12_rules_122 ⟨(by decide), (by decide)⟩) (fun h99 K100 => ?_)
                  obtain ⟨O102, F103, p104⟩ := K100
                  have e105 : Iv h99 a0 10 = (v1 + 1) := ((fxI F103 e96 rfl).trans (pI_e hh89))
                  have p106 : MInv h99 a0 := ⟨by rw [e105]; have z := p104.1; rw [show ((v1 + 1) - 1 + 1 : Int) = (v1 + 1) by omega] at z; exact z, p104.2⟩
                  refine g_aload_n C rfl 0 rfl dX12_rules_125 ?_
                  refine g_iconst C dX12_rules_126 ?_
                  have e107 : Tg h99 a0 = 12 := (fxT F103 e96)
                  refine gp_I C fk_LandSurveyModel_290 pk_LandSurveyModel_35 rfl e107 (iw (il 1) (by decide) (by decide)) (nar_z2 (iw (il 1) (by decide) (by decide))) dX12_rules_127 (fun h109 hh108 => ?_)
                  have O110 := O102.pI e107 hh108 rI_12_35 (iw (il 1) (by decide) (by decide)) nofun
                  refine g_aload_n C rfl 0 rfl dX12_rules_130 ?_
                  have e111 : Tg h109 a0 = 12 := ((pIT hh108).trans e107)
                  have e112 : Iv h109 a0 8 = v56 := ((pI_j hh108 (by decide)).trans ((fxI F103 e96 rfl).trans e95))
                  refine gf_I C fk_LandSurveyModel_320 rfl e111 e112 dX12_rules_131 ?_
                  have p113 := (MInv_fx O102 ((Fx.rf (wr := [2435]) (h := h99)).pI e107 hh108 rfl) e107 rfl p106)
                  exact g_iret C hr rfl (iw f72 (by decide) (by decide)) ⟨O110, ((((((((Fx.rf (wr := wr_k_X12_rules)).pI ta0 hh7 rfl).call F22 rfl).call F34 rfl).call F48 rfl).pI e54 hh89 rfl).call F103 rfl).pI e107 hh108 rfl), (iw f72 (by decide) (by decide)), p113⟩ (by decide) (by decide) dX12_rules_134
                · exact (no_ne (il 0) (il 0) q87 (by decide)).elim
            · have f114 : (1 : Int) ≤ v77 ∧ v77 ≤ (4 : Int) := r_nl f79 q81
              refine g_aload_n C rfl 0 rfl dX12_rules_83 ?_
              refine g_callV (st := []) (gc_V C lk_LandSurveyModel_351 (k_X12_readNext l D cy w z0 O47 e54 ⟨p62, by rw [e53, p66]; omega, by rw [e57, e53, p66]; omega, by rw [e60, e53]; omega⟩ p50 p51) e54 rfl rfl rfl ⟨by decide, by decide⟩ (Nat.le_of_ble_eq_true rfl) dX12_rules_84 ⟨(by decide), (by decide)⟩) (fun h116 K117 => ?_)
              obtain ⟨O119, F120, p121, p122, p123, p124, p125⟩ := K117
              obtain ⟨v126, e127⟩ : ∃ z, Iv h116 a0 7 = z := ⟨_, rfl⟩
              have e128 : Tg h116 a0 = 12 := (fxT F120 e54)
              have f129 := ok_I O119 e128 rI_12_7 e127
              obtain ⟨v130, e131⟩ : ∃ z, Iv h116 a0 8 = z := ⟨_, rfl⟩
              have f132 := ok_I O119 e128 rI_12_8 e131
              obtain ⟨v133, e134⟩ : ∃ z, Iv h116 a0 28 = z := ⟨_, rfl⟩
              have f135 := ok_I O119 e128 rI_12_28 e134
              obtain ⟨p136, p137, p138, p139⟩ := p121
              have p140 := ((NT_fx O47 F120 e54 rfl).trans p66)
              rw [e127, p140] at p137
              rw [e131, e127, p140] at p138
              rw [e134, e127] at p139
              have p141 := p122
              unfold ST at p141
              rw [e53, e127, e60, e134, e57, e131] at p141
              rw [e131, e53, e127] at p125
              refine g_goto C 64 (by decide) dX12_rules_87 ?_
              refine GW.sub [0, 1] rfl ?_
              exact ih45 _ (by rw [← hm46, e57, e53, e131, e127]; exact mqF_lt (by omega) (by omega) (by omega)) h116 rfl O119 (F48.call F120 rfl) ⟨p136, by rw [e127, p140]; omega, by rw [e131, e127, p140]; omega, by rw [e134, e127]; omega⟩ p123 p124
      have e142 : Iv h30 a0 7 = 0 := ((fxI F34 e27 rfl).trans p23.2.1)
      have e143 : Iv h30 a0 8 = 0 := ((fxI F34 e27 rfl).trans p23.2.2)
      have p144 := (TK_fx O21 F34 e27 rfl p23.1)
      have p145 := ((NT_fx O21 F34 e27 rfl).trans e25)
      have e146 : Iv h30 (Rv h30 a0 24) 8 = 0 := by rw [e38]; exact e42
      exact L44 _ h30 rfl O33 Fx.rf ⟨p144, by rw [e142, p145]; omega, by rw [e143, e142, p145]; omega, by rw [p36.1, e142]; omega⟩ p35 (fun _ k hk => absurd hk (by rw [e146]; omega))
    · exact (no_eq f14 (il 8) q16 (by decide)).elim
  · have f147 : (1 : Int) ≤ v1 ∧ v1 ≤ (8 : Int) := r_gt f3 (il 0) q13 (by decide) (by decide)
    refine g_aload_n C rfl 0 rfl dX12_rules_12 ?_
    obtain ⟨v148, e149⟩ : ∃ z, Rv h8 a0 11 = z := ⟨_, rfl⟩
    have t150 := ok_R O9 e10 rE_12_11 e149
    have l151 := ok_L O9 e10 rE_12_11 e149
    refine gf_R C fk_LandSurveyModel_97 rfl e10 e149 dX12_rules_13 ?_
    refine g_aload_n C rfl 0 rfl dX12_rules_16 ?_
    refine gf_I C fk_LandSurveyModel_339 rfl e10 e11 dX12_rules_17 ?_
    refine g_iconst C dX12_rules_20 ?_
    have f152 : (0 : Int) ≤ (v1 - 1) ∧ (v1 - 1) ≤ (7 : Int) := ia_sub f147 (il 1) (by decide) (by decide)
    refine g_isub C dX12_rules_21 ?_
    obtain ⟨v153, e154⟩ : ∃ z, Iv h8 v148 ((v1 - 1).toNat) = z := ⟨_, rfl⟩
    have f155 := ok_Ia O9 t150 ar_111100 rI_111100_0 e154
    refine g_iald C t150 rfl l151 (ix f152 (by decide) (by decide)) e154 dX12_rules_22 ?_
    refine g_aload_n C rfl 0 rfl dX12_rules_23 ?_
    have e156 : Iv h8 a0 33 = v4 := ((pI_j hh7 (by decide)).trans e5)
    refine gf_I C fk_LandSurveyModel_342 rfl e10 e156 dX12_rules_24 ?_
    refine g_icmp_ne C (iw f155 (by decide) (by decide)) (iw f6 (by decide) (by decide)) 34 (by decide) dX12_rules_27 (fun q157 => ?_) (fun q158 => ?_)
    · refine g_iconst C dX12_rules_34 ?_
      refine g_istore_n C [(1, .inl 0), (0, .inr (.inr a0))] rfl (by decide) rfl dX12_rules_35 ?_
      refine g_aload_n C rfl 1 rfl dX12_rules_36 ?_
      refine gf_I C fk_LandSurveyModel_339 rfl e10 e11 dX12_rules_37 ?_
      refine g_bipush C (by decide) dX12_rules_40 ?_
      refine g_icmp_ne C (iw f147 (by decide) (by decide)) (iw (il 8) (by decide) (by decide)) 56 (by decide) dX12_rules_42 (fun q159 => ?_) (fun q160 => ?_)
      · have f161 : (1 : Int) ≤ v1 ∧ v1 ≤ (7 : Int) := r_nh f147 q159
        refine g_aload_n C rfl 1 rfl dX12_rules_56 ?_
        refine g_callV (st := []) (gc_V C lk_LandSurveyModel_345 (k_X12_cutAll l D cy w z0 O9 e10) e10 rfl rfl rfl ⟨by decide, by decide⟩ (Nat.le_of_ble_eq_true rfl) dX12_rules_57 ⟨(by decide), (by decide)⟩) (fun h163 K164 => ?_)
        obtain ⟨O166, F167, p168⟩ := K164
        obtain ⟨v169, e170⟩ : ∃ z, NT h163 a0 = z := ⟨_, rfl⟩
        have f171 : (0 : Int) ≤ v169 ∧ v169 ≤ (1500 : Int) := NT_rng p168.1 e170
        refine g_aload_n C rfl 1 rfl dX12_rules_60 ?_
        have e172 : Tg h163 a0 = 12 := (fxT F167 e10)
        have p173 := (MInv_fx O9 F167 e10 rfl (MInv_fx O ((Fx.rf (wr := [2400]) (h := h)).pI ta0 hh7 rfl) ta0 rfl P_MInv))
        refine g_callV (st := []) (gc_V C lk_LandSurveyModel_348 (k_X12_begins l D cy w z0 O166 e172 p173) e172 rfl rfl rfl ⟨by decide, by decide⟩ (Nat.le_of_ble_eq_true rfl) dX12_rules_61 ⟨(by decide), (by decide)⟩) (fun h175 K176 => ?_)
        obtain ⟨O178, F179, p180, p181⟩ := K176
        obtain ⟨v182, e183⟩ : ∃ z, Rv h175 a0 24 = z := ⟨_, rfl⟩
        have e184 : Tg h175 a0 = 12 := (fxT F179 e172)
        have t185 := ok_R O178 e184 rE_12_24 e183
        have l186 := ok_L O178 e184 rE_12_24 e183
        have e187 := p181.2
        rw [e183] at e187
        refine GW.sub [1, 0] rfl ?_
        -- loop at 64
        have L189 : ∀ (μ : Nat) (h188 : Hp), (mqF (Iv h188 a0 8) (Iv h188 a0 7)).toNat = μ → Okh h188 → Fx [2407, 2408, 2428, 22420000, 22620400, 22820000, 23020000, 23220200, 23420200, 23620200, 23820000, 24020200, 24220000, 24420000, 24620000, 24820000, 25020000, 25220000, 25420000, 25820000, 26020000] h175 h188 → (RD h188 a0) → (MInv h188 a0) → (DLf h188 a0) → GW p l e (rmm 24 531 0 0) s m (List.map toV [.inr (.inr a0)]).toArray below meth c D cy z0 2 (MQ below (QI D cy z0 (fun v h1 => Okh h1 ∧ Fx wr_k_X12_rules h h1 ∧ ((-1) ≤ v ∧ v ≤ 24005) ∧ (MInv h1 a0))) (List.map toV [.inr (.inr a0)]).toArray s 0 0 (Aof z0)) 64 [(0, .inr (.inr a0)), (1, .inl 0)] [] h188 0 0 := by
          intro μ
          induction μ using Nat.strongRecOn with
          | ind μ ih190 =>
            intro h188 hm191 O192 F193 p194 p195 p196
            obtain ⟨v197, e198⟩ : ∃ z, Iv h188 a0 7 = z := ⟨_, rfl⟩
            have e199 : Tg h188 a0 = 12 := (fxT F193 e184)
            have f200 := ok_I O192 e199 rI_12_7 e198
            obtain ⟨v201, e202⟩ : ∃ z, Iv h188 a0 8 = z := ⟨_, rfl⟩
            have f203 := ok_I O192 e199 rI_12_8 e202
            obtain ⟨v204, e205⟩ : ∃ z, Iv h188 a0 28 = z := ⟨_, rfl⟩
            have f206 := ok_I O192 e199 rI_12_28 e205
            obtain ⟨p207, p208, p209, p210⟩ := p194
            have p211 := ((NT_fx O178 F193 e184 rfl).trans ((NT_fx O166 F179 e172 rfl).trans e170))
            rw [e198, p211] at p208
            rw [e202, e198, p211] at p209
            rw [e205, e198] at p210
            refine g_aload_n C rfl 0 rfl dX12_rules_64 ?_
            refine gf_I C fk_LandSurveyModel_320 rfl e199 e202 dX12_rules_65 ?_
            refine g_if_ne C (iw f203 (by decide) (by decide)) 90 (by decide) dX12_rules_68 (fun q212 => ?_) (fun q213 => ?_)
            · have f214 : (1 : Int) ≤ v201 ∧ v201 ≤ (24005 : Int) := r_nl f203 q212
              refine g_aload_n C rfl 0 rfl dX12_rules_90 ?_
              refine gf_I C fk_LandSurveyModel_320 rfl e199 e202 dX12_rules_91 ?_
              refine g_if_ne C (iw f214 (by decide) (by decide)) 130 (by decide) dX12_rules_94 (fun q215 => ?_) (fun q216 => ?_)
              · refine g_aload_n C rfl 0 rfl dX12_rules_130 ?_
                refine gf_I C fk_LandSurveyModel_320 rfl e199 e202 dX12_rules_131 ?_
                exact g_iret C hr rfl (iw f214 (by decide) (by decide)) ⟨O192, (((((Fx.rf (wr := wr_k_X12_rules)).pI ta0 hh7 rfl).call F167 rfl).call F179 rfl).call F193 rfl), (iw f214 (by decide) (by decide)), p195⟩ (by decide) (by decide) dX12_rules_134
              · exact (no_eq f214 (il 0) q216 (by decide)).elim
            · have f217 : (0 : Int) ≤ v201 ∧ v201 ≤ (0 : Int) := ii f203 (r_eq (il 0) q213) (by decide) (by decide)
              refine g_aload_n C rfl 0 rfl dX12_rules_71 ?_
              obtain ⟨v218, e219⟩ : ∃ z, Rv h188 a0 4 = z := ⟨_, rfl⟩
              have t220 := ok_R O192 e199 rE_12_4 e219
              have l221 := ok_L O192 e199 rE_12_4 e219
              refine gf_R C fk_LandSurveyModel_24 rfl e199 e219 dX12_rules_72 ?_
              refine g_aload_n C rfl 0 rfl dX12_rules_75 ?_
              refine gf_I C fk_LandSurveyModel_317 rfl e199 e198 dX12_rules_76 ?_
              obtain ⟨v222, e223⟩ : ∃ z, Iv h188 v218 v197.toNat = z := ⟨_, rfl⟩
              have f224 := ok_Ia O192 t220 ar_104100 rI_104100_0 e223
              refine g_iald C t220 rfl l221 (ix f200 (by decide) (by decide)) e223 dX12_rules_79 ?_
              refine g_if_eq C (iw f224 (by decide) (by decide)) 90 (by decide) dX12_rules_80 (fun q225 => ?_) (fun q226 => ?_)
              · have f227 : (0 : Int) ≤ v222 ∧ v222 ≤ (0 : Int) := ii f224 (r_eq (il 0) q225) (by decide) (by decide)
                refine g_aload_n C rfl 0 rfl dX12_rules_90 ?_
                refine gf_I C fk_LandSurveyModel_320 rfl e199 e202 dX12_rules_91 ?_
                refine g_if_ne C (iw f217 (by decide) (by decide)) 130 (by decide) dX12_rules_94 (fun q228 => ?_) (fun q229 => ?_)
                · exact (no_ne f217 (il 0) q228 (by decide)).elim
                · refine g_aload_n C rfl 0 rfl dX12_rules_97 ?_
                  refine g_dup C rfl dX12_rules_98 ?_
                  have e230 : Iv h188 a0 10 = v1 := ((fxI F193 e184 rfl).trans ((fxI F179 e172 rfl).trans ((fxI F167 e10 rfl).trans e11)))
                  refine gf_I C fk_LandSurveyModel_339 rfl e199 e230 dX12_rules_99 ?_
                  refine g_iload_n C rfl 1 rfl dX12_rules_102 ?_
                  refine g_if_eq C (iw (il 0) (by decide) (by decide)) 110 (by decide) dX12_rules_103 (fun q231 => ?_) (fun q232 => ?_)
                  · refine g_iconst C dX12_rules_110 ?_
                    have f233 : (2 : Int) ≤ (v1 + 1) ∧ (v1 + 1) ≤ (8 : Int) := ia_add f161 (il 1) (by decide) (by decide)
                    refine g_iadd C dX12_rules_111 ?_
                    refine gp_I C fk_LandSurveyModel_339 pk_LandSurveyModel_10 rfl e199 (iw f233 (by decide) (by decide)) (nf_i _) dX12_rules_112 (fun h235 hh234 => ?_)
                    have O236 := O192.pI e199 hh234 rI_12_10 (iw f233 (by decide) (by decide)) nofun
                    have p237 : BKn h235 a0 ((v1 + 1) - 1) := fun d hd => BKb_fx O192 ((Fx.rf (wr := [2410]) (h := h188)).pI e199 hh234 rfl) e199 rfl (p195.1 d (by rw [e230]; omega))
                    have p238 := LA_fx O192 ((Fx.rf (wr := [2410]) (h := h188)).pI e199 hh234 rfl) e199 rfl p195.2
                    have e240 : Iv h235 a0 8 = v201 := ((pI_j hh234 (by decide)).trans e202)
                    have p239 := (DLf_fx O192 ((Fx.rf (wr := [2410]) (h := h188)).pI e199 hh234 rfl) e199 rfl p196) (by rw [e240]; omega)
                    refine g_aload_n C rfl 0 rfl dX12_rules_115 ?_
                    refine g_aload_n C rfl 0 rfl dX12_rules_116 ?_
                    have e241 : Tg h235 a0 = 12 := ((pIT hh234).trans e199)
                    refine gf_I C fk_LandSurveyModel_339 rfl e241 (pI_e hh234) dX12_rules_117 ?_
                    refine g_iconst C dX12_rules_120 ?_
                    have f242 : (1 : Int) ≤ ((v1 + 1) - 1) ∧ ((v1 + 1) - 1) ≤ (7 : Int) := ia_sub f233 (il 1) (by decide) (by decide)
                    refine g_isub C dX12_rules_121 ?_
                    refine g_callV (st := []) (gc_V C lk_LandSurveyModel_354 (k_X12_keeps l D cy w z0 O236 e241 (iw f242 (by decide) (by decide)) ⟨p237, p238, p239⟩) e241 rfl rfl rfl ⟨by decide, by decide⟩ (Nat.le_of_ble_eq_true rfl) dX12_rules_122 ⟨(by decide), (by decide)⟩) (fun h244 K245 => ?_)
                    obtain ⟨O247, F248, p249⟩ := K245
                    have e250 : Iv h244 a0 10 = (v1 + 1) := ((fxI F248 e241 rfl).trans (pI_e hh234))
                    have p251 : MInv h244 a0 := ⟨by rw [e250]; have z := p249.1; rw [show ((v1 + 1) - 1 + 1 : Int) = (v1 + 1) by omega] at z; exact z, p249.2⟩
                    refine g_aload_n C rfl 0 rfl dX12_rules_125 ?_
                    refine g_iconst C dX12_rules_126 ?_
                    have e252 : Tg h244 a0 = 12 := (fxT F248 e241)
                    refine gp_I C fk_LandSurveyModel_290 pk_LandSurveyModel_35 rfl e252 (iw (il 1) (by decide) (by decide)) (nar_z2 (iw (il 1) (by decide) (by decide))) dX12_rules_127 (fun h254 hh253 => ?_)
                    have O255 := O247.pI e252 hh253 rI_12_35 (iw (il 1) (by decide) (by decide)) nofun
                    refine g_aload_n C rfl 0 rfl dX12_rules_130 ?_
                    have e256 : Tg h254 a0 = 12 := ((pIT hh253).trans e252)
                    have e257 : Iv h254 a0 8 = v201 := ((pI_j hh253 (by decide)).trans ((fxI F248 e241 rfl).trans e240))
                    refine gf_I C fk_LandSurveyModel_320 rfl e256 e257 dX12_rules_131 ?_
                    have p258 := (MInv_fx O247 ((Fx.rf (wr := [2435]) (h := h244)).pI e252 hh253 rfl) e252 rfl p251)
                    exact g_iret C hr rfl (iw f217 (by decide) (by decide)) ⟨O255, ((((((((Fx.rf (wr := wr_k_X12_rules)).pI ta0 hh7 rfl).call F167 rfl).call F179 rfl).call F193 rfl).pI e199 hh234 rfl).call F248 rfl).pI e252 hh253 rfl), (iw f217 (by decide) (by decide)), p258⟩ (by decide) (by decide) dX12_rules_134
                  · exact (no_ne (il 0) (il 0) q232 (by decide)).elim
              · have f259 : (1 : Int) ≤ v222 ∧ v222 ≤ (4 : Int) := r_nl f224 q226
                refine g_aload_n C rfl 0 rfl dX12_rules_83 ?_
                refine g_callV (st := []) (gc_V C lk_LandSurveyModel_351 (k_X12_readNext l D cy w z0 O192 e199 ⟨p207, by rw [e198, p211]; omega, by rw [e202, e198, p211]; omega, by rw [e205, e198]; omega⟩ p195 p196) e199 rfl rfl rfl ⟨by decide, by decide⟩ (Nat.le_of_ble_eq_true rfl) dX12_rules_84 ⟨(by decide), (by decide)⟩) (fun h261 K262 => ?_)
                obtain ⟨O264, F265, p266, p267, p268, p269, p270⟩ := K262
                obtain ⟨v271, e272⟩ : ∃ z, Iv h261 a0 7 = z := ⟨_, rfl⟩
                have e273 : Tg h261 a0 = 12 := (fxT F265 e199)
                have f274 := ok_I O264 e273 rI_12_7 e272
                obtain ⟨v275, e276⟩ : ∃ z, Iv h261 a0 8 = z := ⟨_, rfl⟩
                have f277 := ok_I O264 e273 rI_12_8 e276
                obtain ⟨v278, e279⟩ : ∃ z, Iv h261 a0 28 = z := ⟨_, rfl⟩
                have f280 := ok_I O264 e273 rI_12_28 e279
                obtain ⟨p281, p282, p283, p284⟩ := p266
                have p285 := ((NT_fx O192 F265 e199 rfl).trans p211)
                rw [e272, p285] at p282
                rw [e276, e272, p285] at p283
                rw [e279, e272] at p284
                have p286 := p267
                unfold ST at p286
                rw [e198, e272, e205, e279, e202, e276] at p286
                rw [e276, e198, e272] at p270
                refine g_goto C 64 (by decide) dX12_rules_87 ?_
                refine GW.sub [0, 1] rfl ?_
                exact ih190 _ (by rw [← hm191, e202, e198, e276, e272]; exact mqF_lt (by omega) (by omega) (by omega)) h261 rfl O264 (F193.call F265 rfl) ⟨p281, by rw [e272, p285]; omega, by rw [e276, e272, p285]; omega, by rw [e279, e272]; omega⟩ p268 p269
        have e287 : Iv h175 a0 7 = 0 := ((fxI F179 e172 rfl).trans p168.2.1)
        have e288 : Iv h175 a0 8 = 0 := ((fxI F179 e172 rfl).trans p168.2.2)
        have p289 := (TK_fx O166 F179 e172 rfl p168.1)
        have p290 := ((NT_fx O166 F179 e172 rfl).trans e170)
        have e291 : Iv h175 (Rv h175 a0 24) 8 = 0 := by rw [e183]; exact e187
        exact L189 _ h175 rfl O178 Fx.rf ⟨p289, by rw [e287, p290]; omega, by rw [e288, e287, p290]; omega, by rw [p181.1, e287]; omega⟩ p180 (fun _ k hk => absurd hk (by rw [e291]; omega))
      · have f292 : (8 : Int) ≤ v1 ∧ v1 ≤ (8 : Int) := ii f147 (r_eq (il 8) q160) (by decide) (by decide)
        refine g_iload_n C rfl 0 rfl dX12_rules_45 ?_
        refine g_if_ne C (iw (il 0) (by decide) (by decide)) 56 (by decide) dX12_rules_46 (fun q293 => ?_) (fun q294 => ?_)
        · exact (no_ne (il 0) (il 0) q293 (by decide)).elim
        · refine g_aload_n C rfl 1 rfl dX12_rules_49 ?_
          refine g_iconst C dX12_rules_50 ?_
          refine gp_I C fk_LandSurveyModel_11 pk_LandSurveyModel_2 rfl e10 (iw (il 0) (by decide) (by decide)) (nf_i _) dX12_rules_51 (fun h296 hh295 => ?_)
          have O297 := O9.pI e10 hh295 rI_12_2 (iw (il 0) (by decide) (by decide)) nofun
          refine g_iconst C dX12_rules_54 ?_
          have p298 := (MInv_fx O9 ((Fx.rf (wr := [2402]) (h := h8)).pI e10 hh295 rfl) e10 rfl (MInv_fx O ((Fx.rf (wr := [2400]) (h := h)).pI ta0 hh7 rfl) ta0 rfl P_MInv))
          exact g_iret C hr rfl (iw (il (-1)) (by decide) (by decide)) ⟨O297, (((Fx.rf (wr := wr_k_X12_rules)).pI ta0 hh7 rfl).pI e10 hh295 rfl), (iw (il (-1)) (by decide) (by decide)), p298⟩ (by decide) (by decide) dX12_rules_55
    · refine g_iconst C dX12_rules_30 ?_
      refine g_goto C 35 (by decide) dX12_rules_31 ?_
      refine g_istore_n C [(1, .inl 1), (0, .inr (.inr a0))] rfl (by decide) rfl dX12_rules_35 ?_
      refine g_aload_n C rfl 1 rfl dX12_rules_36 ?_
      refine gf_I C fk_LandSurveyModel_339 rfl e10 e11 dX12_rules_37 ?_
      refine g_bipush C (by decide) dX12_rules_40 ?_
      refine g_icmp_ne C (iw f147 (by decide) (by decide)) (iw (il 8) (by decide) (by decide)) 56 (by decide) dX12_rules_42 (fun q299 => ?_) (fun q300 => ?_)
      · have f301 : (1 : Int) ≤ v1 ∧ v1 ≤ (7 : Int) := r_nh f147 q299
        refine g_aload_n C rfl 1 rfl dX12_rules_56 ?_
        refine g_callV (st := []) (gc_V C lk_LandSurveyModel_345 (k_X12_cutAll l D cy w z0 O9 e10) e10 rfl rfl rfl ⟨by decide, by decide⟩ (Nat.le_of_ble_eq_true rfl) dX12_rules_57 ⟨(by decide), (by decide)⟩) (fun h303 K304 => ?_)
        obtain ⟨O306, F307, p308⟩ := K304
        obtain ⟨v309, e310⟩ : ∃ z, NT h303 a0 = z := ⟨_, rfl⟩
        have f311 : (0 : Int) ≤ v309 ∧ v309 ≤ (1500 : Int) := NT_rng p308.1 e310
        refine g_aload_n C rfl 1 rfl dX12_rules_60 ?_
        have e312 : Tg h303 a0 = 12 := (fxT F307 e10)
        have p313 := (MInv_fx O9 F307 e10 rfl (MInv_fx O ((Fx.rf (wr := [2400]) (h := h)).pI ta0 hh7 rfl) ta0 rfl P_MInv))
        refine g_callV (st := []) (gc_V C lk_LandSurveyModel_348 (k_X12_begins l D cy w z0 O306 e312 p313) e312 rfl rfl rfl ⟨by decide, by decide⟩ (Nat.le_of_ble_eq_true rfl) dX12_rules_61 ⟨(by decide), (by decide)⟩) (fun h315 K316 => ?_)
        obtain ⟨O318, F319, p320, p321⟩ := K316
        obtain ⟨v322, e323⟩ : ∃ z, Rv h315 a0 24 = z := ⟨_, rfl⟩
        have e324 : Tg h315 a0 = 12 := (fxT F319 e312)
        have t325 := ok_R O318 e324 rE_12_24 e323
        have l326 := ok_L O318 e324 rE_12_24 e323
        have e327 := p321.2
        rw [e323] at e327
        refine GW.sub [1, 0] rfl ?_
        -- loop at 64
        have L329 : ∀ (μ : Nat) (h328 : Hp), (mqF (Iv h328 a0 8) (Iv h328 a0 7)).toNat = μ → Okh h328 → Fx [2407, 2408, 2428, 22420000, 22620400, 22820000, 23020000, 23220200, 23420200, 23620200, 23820000, 24020200, 24220000, 24420000, 24620000, 24820000, 25020000, 25220000, 25420000, 25820000, 26020000] h315 h328 → (RD h328 a0) → (MInv h328 a0) → (DLf h328 a0) → GW p l e (rmm 24 531 0 0) s m (List.map toV [.inr (.inr a0)]).toArray below meth c D cy z0 2 (MQ below (QI D cy z0 (fun v h1 => Okh h1 ∧ Fx wr_k_X12_rules h h1 ∧ ((-1) ≤ v ∧ v ≤ 24005) ∧ (MInv h1 a0))) (List.map toV [.inr (.inr a0)]).toArray s 0 0 (Aof z0)) 64 [(0, .inr (.inr a0)), (1, .inl 1)] [] h328 0 0 := by
          intro μ
          induction μ using Nat.strongRecOn with
          | ind μ ih330 =>
            intro h328 hm331 O332 F333 p334 p335 p336
            obtain ⟨v337, e338⟩ : ∃ z, Iv h328 a0 7 = z := ⟨_, rfl⟩
            have e339 : Tg h328 a0 = 12 := (fxT F333 e324)
            have f340 := ok_I O332 e339 rI_12_7 e338
            obtain ⟨v341, e342⟩ : ∃ z, Iv h328 a0 8 = z := ⟨_, rfl⟩
            have f343 := ok_I O332 e339 rI_12_8 e342
            obtain ⟨v344, e345⟩ : ∃ z, Iv h328 a0 28 = z := ⟨_, rfl⟩
            have f346 := ok_I O332 e339 rI_12_28 e345
            obtain ⟨p347, p348, p349, p350⟩ := p334
            have p351 := ((NT_fx O318 F333 e324 rfl).trans ((NT_fx O306 F319 e312 rfl).trans e310))
            rw [e338, p351] at p348
            rw [e342, e338, p351] at p349
            rw [e345, e338] at p350
            refine g_aload_n C rfl 0 rfl dX12_rules_64 ?_
            refine gf_I C fk_LandSurveyModel_320 rfl e339 e342 dX12_rules_65 ?_
            refine g_if_ne C (iw f343 (by decide) (by decide)) 90 (by decide) dX12_rules_68 (fun q352 => ?_) (fun q353 => ?_)
            · have f354 : (1 : Int) ≤ v341 ∧ v341 ≤ (24005 : Int) := r_nl f343 q352
              refine g_aload_n C rfl 0 rfl dX12_rules_90 ?_
              refine gf_I C fk_LandSurveyModel_320 rfl e339 e342 dX12_rules_91 ?_
              refine g_if_ne C (iw f354 (by decide) (by decide)) 130 (by decide) dX12_rules_94 (fun q355 => ?_) (fun q356 => ?_)
              · refine g_aload_n C rfl 0 rfl dX12_rules_130 ?_
                refine gf_I C fk_LandSurveyModel_320 rfl e339 e342 dX12_rules_131 ?_
                exact g_iret C hr rfl (iw f354 (by decide) (by decide)) ⟨O332, (((((Fx.rf (wr := wr_k_X12_rules)).pI ta0 hh7 rfl).call F307 rfl).call F319 rfl).call F333 rfl), (iw f354 (by decide) (by decide)), p335⟩ (by decide) (by decide) dX12_rules_134
              · exact (no_eq f354 (il 0) q356 (by decide)).elim
            · have f357 : (0 : Int) ≤ v341 ∧ v341 ≤ (0 : Int) := ii f343 (r_eq (il 0) q353) (by decide) (by decide)
              refine g_aload_n C rfl 0 rfl dX12_rules_71 ?_
              obtain ⟨v358, e359⟩ : ∃ z, Rv h328 a0 4 = z := ⟨_, rfl⟩
              have t360 := ok_R O332 e339 rE_12_4 e359
              have l361 := ok_L O332 e339 rE_12_4 e359
              refine gf_R C fk_LandSurveyModel_24 rfl e339 e359 dX12_rules_72 ?_
              refine g_aload_n C rfl 0 rfl dX12_rules_75 ?_
              refine gf_I C fk_LandSurveyModel_317 rfl e339 e338 dX12_rules_76 ?_
              obtain ⟨v362, e363⟩ : ∃ z, Iv h328 v358 v337.toNat = z := ⟨_, rfl⟩
              have f364 := ok_Ia O332 t360 ar_104100 rI_104100_0 e363
              refine g_iald C t360 rfl l361 (ix f340 (by decide) (by decide)) e363 dX12_rules_79 ?_
              refine g_if_eq C (iw f364 (by decide) (by decide)) 90 (by decide) dX12_rules_80 (fun q365 => ?_) (fun q366 => ?_)
              · have f367 : (0 : Int) ≤ v362 ∧ v362 ≤ (0 : Int) := ii f364 (r_eq (il 0) q365) (by decide) (by decide)
                refine g_aload_n C rfl 0 rfl dX12_rules_90 ?_
                refine gf_I C fk_LandSurveyModel_320 rfl e339 e342 dX12_rules_91 ?_
                refine g_if_ne C (iw f357 (by decide) (by decide)) 130 (by decide) dX12_rules_94 (fun q368 => ?_) (fun q369 => ?_)
                · exact (no_ne f357 (il 0) q368 (by decide)).elim
                · refine g_aload_n C rfl 0 rfl dX12_rules_97 ?_
                  refine g_dup C rfl dX12_rules_98 ?_
                  have e370 : Iv h328 a0 10 = v1 := ((fxI F333 e324 rfl).trans ((fxI F319 e312 rfl).trans ((fxI F307 e10 rfl).trans e11)))
                  refine gf_I C fk_LandSurveyModel_339 rfl e339 e370 dX12_rules_99 ?_
                  refine g_iload_n C rfl 1 rfl dX12_rules_102 ?_
                  refine g_if_eq C (iw (il 1) (by decide) (by decide)) 110 (by decide) dX12_rules_103 (fun q371 => ?_) (fun q372 => ?_)
                  · exact (no_eq (il 1) (il 0) q371 (by decide)).elim
                  · refine g_iconst C dX12_rules_106 ?_
                    refine g_goto C 111 (by decide) dX12_rules_107 ?_
                    have f373 : (1 : Int) ≤ (v1 + 0) ∧ (v1 + 0) ≤ (7 : Int) := ia_add f301 (il 0) (by decide) (by decide)
                    refine g_iadd C dX12_rules_111 ?_
                    refine gp_I C fk_LandSurveyModel_339 pk_LandSurveyModel_10 rfl e339 (iw f373 (by decide) (by decide)) (nf_i _) dX12_rules_112 (fun h375 hh374 => ?_)
                    have O376 := O332.pI e339 hh374 rI_12_10 (iw f373 (by decide) (by decide)) nofun
                    have p377 : BKn h375 a0 ((v1 + 0) - 1) := fun d hd => BKb_fx O332 ((Fx.rf (wr := [2410]) (h := h328)).pI e339 hh374 rfl) e339 rfl (p335.1 d (by rw [e370]; omega))
                    have p378 := LA_fx O332 ((Fx.rf (wr := [2410]) (h := h328)).pI e339 hh374 rfl) e339 rfl p335.2
                    have e380 : Iv h375 a0 8 = v341 := ((pI_j hh374 (by decide)).trans e342)
                    have p379 := (DLf_fx O332 ((Fx.rf (wr := [2410]) (h := h328)).pI e339 hh374 rfl) e339 rfl p336) (by rw [e380]; omega)
                    refine g_aload_n C rfl 0 rfl dX12_rules_115 ?_
                    refine g_aload_n C rfl 0 rfl dX12_rules_116 ?_
                    have e381 : Tg h375 a0 = 12 := ((pIT hh374).trans e339)
                    refine gf_I C fk_LandSurveyModel_339 rfl e381 (pI_e hh374) dX12_rules_117 ?_
                    refine g_iconst C dX12_rules_120 ?_
                    have f382 : (0 : Int) ≤ ((v1 + 0) - 1) ∧ ((v1 + 0) - 1) ≤ (6 : Int) := ia_sub f373 (il 1) (by decide) (by decide)
                    refine g_isub C dX12_rules_121 ?_
                    refine g_callV (st := []) (gc_V C lk_LandSurveyModel_354 (k_X12_keeps l D cy w z0 O376 e381 (iw f382 (by decide) (by decide)) ⟨p377, p378, p379⟩) e381 rfl rfl rfl ⟨by decide, by decide⟩ (Nat.le_of_ble_eq_true rfl) dX12_rules_122 ⟨(by decide), (by decide)⟩) (fun h384 K385 => ?_)
                    obtain ⟨O387, F388, p389⟩ := K385
                    have e390 : Iv h384 a0 10 = (v1 + 0) := ((fxI F388 e381 rfl).trans (pI_e hh374))
                    have p391 : MInv h384 a0 := ⟨by rw [e390]; have z := p389.1; rw [show ((v1 + 0) - 1 + 1 : Int) = (v1 + 0) by omega] at z; exact z, p389.2⟩
                    refine g_aload_n C rfl 0 rfl dX12_rules_125 ?_
                    refine g_iconst C dX12_rules_126 ?_
                    have e392 : Tg h384 a0 = 12 := (fxT F388 e381)
                    refine gp_I C fk_LandSurveyModel_290 pk_LandSurveyModel_35 rfl e392 (iw (il 1) (by decide) (by decide)) (nar_z2 (iw (il 1) (by decide) (by decide))) dX12_rules_127 (fun h394 hh393 => ?_)
                    have O395 := O387.pI e392 hh393 rI_12_35 (iw (il 1) (by decide) (by decide)) nofun
                    refine g_aload_n C rfl 0 rfl dX12_rules_130 ?_
                    have e396 : Tg h394 a0 = 12 := ((pIT hh393).trans e392)
                    have e397 : Iv h394 a0 8 = v341 := ((pI_j hh393 (by decide)).trans ((fxI F388 e381 rfl).trans e380))
                    refine gf_I C fk_LandSurveyModel_320 rfl e396 e397 dX12_rules_131 ?_
                    have p398 := (MInv_fx O387 ((Fx.rf (wr := [2435]) (h := h384)).pI e392 hh393 rfl) e392 rfl p391)
                    exact g_iret C hr rfl (iw f357 (by decide) (by decide)) ⟨O395, ((((((((Fx.rf (wr := wr_k_X12_rules)).pI ta0 hh7 rfl).call F307 rfl).call F319 rfl).call F333 rfl).pI e339 hh374 rfl).call F388 rfl).pI e392 hh393 rfl), (iw f357 (by decide) (by decide)), p398⟩ (by decide) (by decide) dX12_rules_134
              · have f399 : (1 : Int) ≤ v362 ∧ v362 ≤ (4 : Int) := r_nl f364 q366
                refine g_aload_n C rfl 0 rfl dX12_rules_83 ?_
                refine g_callV (st := []) (gc_V C lk_LandSurveyModel_351 (k_X12_readNext l D cy w z0 O332 e339 ⟨p347, by rw [e338, p351]; omega, by rw [e342, e338, p351]; omega, by rw [e345, e338]; omega⟩ p335 p336) e339 rfl rfl rfl ⟨by decide, by decide⟩ (Nat.le_of_ble_eq_true rfl) dX12_rules_84 ⟨(by decide), (by decide)⟩) (fun h401 K402 => ?_)
                obtain ⟨O404, F405, p406, p407, p408, p409, p410⟩ := K402
                obtain ⟨v411, e412⟩ : ∃ z, Iv h401 a0 7 = z := ⟨_, rfl⟩
                have e413 : Tg h401 a0 = 12 := (fxT F405 e339)
                have f414 := ok_I O404 e413 rI_12_7 e412
                obtain ⟨v415, e416⟩ : ∃ z, Iv h401 a0 8 = z := ⟨_, rfl⟩
                have f417 := ok_I O404 e413 rI_12_8 e416
                obtain ⟨v418, e419⟩ : ∃ z, Iv h401 a0 28 = z := ⟨_, rfl⟩
                have f420 := ok_I O404 e413 rI_12_28 e419
                obtain ⟨p421, p422, p423, p424⟩ := p406
                have p425 := ((NT_fx O332 F405 e339 rfl).trans p351)
                rw [e412, p425] at p422
                rw [e416, e412, p425] at p423
                rw [e419, e412] at p424
                have p426 := p407
                unfold ST at p426
                rw [e338, e412, e345, e419, e342, e416] at p426
                rw [e416, e338, e412] at p410
                refine g_goto C 64 (by decide) dX12_rules_87 ?_
                refine GW.sub [0, 1] rfl ?_
                exact ih330 _ (by rw [← hm331, e342, e338, e416, e412]; exact mqF_lt (by omega) (by omega) (by omega)) h401 rfl O404 (F333.call F405 rfl) ⟨p421, by rw [e412, p425]; omega, by rw [e416, e412, p425]; omega, by rw [e419, e412]; omega⟩ p408 p409
        have e427 : Iv h315 a0 7 = 0 := ((fxI F319 e312 rfl).trans p308.2.1)
        have e428 : Iv h315 a0 8 = 0 := ((fxI F319 e312 rfl).trans p308.2.2)
        have p429 := (TK_fx O306 F319 e312 rfl p308.1)
        have p430 := ((NT_fx O306 F319 e312 rfl).trans e310)
        have e431 : Iv h315 (Rv h315 a0 24) 8 = 0 := by rw [e323]; exact e327
        exact L329 _ h315 rfl O318 Fx.rf ⟨p429, by rw [e427, p430]; omega, by rw [e428, e427, p430]; omega, by rw [p321.1, e427]; omega⟩ p320 (fun _ k hk => absurd hk (by rw [e431]; omega))
      · have f432 : (8 : Int) ≤ v1 ∧ v1 ≤ (8 : Int) := ii f147 (r_eq (il 8) q300) (by decide) (by decide)
        refine g_iload_n C rfl 0 rfl dX12_rules_45 ?_
        refine g_if_ne C (iw (il 1) (by decide) (by decide)) 56 (by decide) dX12_rules_46 (fun q433 => ?_) (fun q434 => ?_)
        · refine g_aload_n C rfl 1 rfl dX12_rules_56 ?_
          refine g_callV (st := []) (gc_V C lk_LandSurveyModel_345 (k_X12_cutAll l D cy w z0 O9 e10) e10 rfl rfl rfl ⟨by decide, by decide⟩ (Nat.le_of_ble_eq_true rfl) dX12_rules_57 ⟨(by decide), (by decide)⟩) (fun h436 K437 => ?_)
          obtain ⟨O439, F440, p441⟩ := K437
          obtain ⟨v442, e443⟩ : ∃ z, NT h436 a0 = z := ⟨_, rfl⟩
          have f444 : (0 : Int) ≤ v442 ∧ v442 ≤ (1500 : Int) := NT_rng p441.1 e443
          refine g_aload_n C rfl 1 rfl dX12_rules_60 ?_
          have e445 : Tg h436 a0 = 12 := (fxT F440 e10)
          have p446 := (MInv_fx O9 F440 e10 rfl (MInv_fx O ((Fx.rf (wr := [2400]) (h := h)).pI ta0 hh7 rfl) ta0 rfl P_MInv))
          refine g_callV (st := []) (gc_V C lk_LandSurveyModel_348 (k_X12_begins l D cy w z0 O439 e445 p446) e445 rfl rfl rfl ⟨by decide, by decide⟩ (Nat.le_of_ble_eq_true rfl) dX12_rules_61 ⟨(by decide), (by decide)⟩) (fun h448 K449 => ?_)
          obtain ⟨O451, F452, p453, p454⟩ := K449
          obtain ⟨v455, e456⟩ : ∃ z, Rv h448 a0 24 = z := ⟨_, rfl⟩
          have e457 : Tg h448 a0 = 12 := (fxT F452 e445)
          have t458 := ok_R O451 e457 rE_12_24 e456
          have l459 := ok_L O451 e457 rE_12_24 e456
          have e460 := p454.2
          rw [e456] at e460
          refine GW.sub [1, 0] rfl ?_
          -- loop at 64
          have L462 : ∀ (μ : Nat) (h461 : Hp), (mqF (Iv h461 a0 8) (Iv h461 a0 7)).toNat = μ → Okh h461 → Fx [2407, 2408, 2428, 22420000, 22620400, 22820000, 23020000, 23220200, 23420200, 23620200, 23820000, 24020200, 24220000, 24420000, 24620000, 24820000, 25020000, 25220000, 25420000, 25820000, 26020000] h448 h461 → (RD h461 a0) → (MInv h461 a0) → (DLf h461 a0) → GW p l e (rmm 24 531 0 0) s m (List.map toV [.inr (.inr a0)]).toArray below meth c D cy z0 2 (MQ below (QI D cy z0 (fun v h1 => Okh h1 ∧ Fx wr_k_X12_rules h h1 ∧ ((-1) ≤ v ∧ v ≤ 24005) ∧ (MInv h1 a0))) (List.map toV [.inr (.inr a0)]).toArray s 0 0 (Aof z0)) 64 [(0, .inr (.inr a0)), (1, .inl 1)] [] h461 0 0 := by
            intro μ
            induction μ using Nat.strongRecOn with
            | ind μ ih463 =>
              intro h461 hm464 O465 F466 p467 p468 p469
              obtain ⟨v470, e471⟩ : ∃ z, Iv h461 a0 7 = z := ⟨_, rfl⟩
              have e472 : Tg h461 a0 = 12 := (fxT F466 e457)
              have f473 := ok_I O465 e472 rI_12_7 e471
              obtain ⟨v474, e475⟩ : ∃ z, Iv h461 a0 8 = z := ⟨_, rfl⟩
              have f476 := ok_I O465 e472 rI_12_8 e475
              obtain ⟨v477, e478⟩ : ∃ z, Iv h461 a0 28 = z := ⟨_, rfl⟩
              have f479 := ok_I O465 e472 rI_12_28 e478
              obtain ⟨p480, p481, p482, p483⟩ := p467
              have p484 := ((NT_fx O451 F466 e457 rfl).trans ((NT_fx O439 F452 e445 rfl).trans e443))
              rw [e471, p484] at p481
              rw [e475, e471, p484] at p482
              rw [e478, e471] at p483
              refine g_aload_n C rfl 0 rfl dX12_rules_64 ?_
              refine gf_I C fk_LandSurveyModel_320 rfl e472 e475 dX12_rules_65 ?_
              refine g_if_ne C (iw f476 (by decide) (by decide)) 90 (by decide) dX12_rules_68 (fun q485 => ?_) (fun q486 => ?_)
              · have f487 : (1 : Int) ≤ v474 ∧ v474 ≤ (24005 : Int) := r_nl f476 q485
                refine g_aload_n C rfl 0 rfl dX12_rules_90 ?_
                refine gf_I C fk_LandSurveyModel_320 rfl e472 e475 dX12_rules_91 ?_
                refine g_if_ne C (iw f487 (by decide) (by decide)) 130 (by decide) dX12_rules_94 (fun q488 => ?_) (fun q489 => ?_)
                · refine g_aload_n C rfl 0 rfl dX12_rules_130 ?_
                  refine gf_I C fk_LandSurveyModel_320 rfl e472 e475 dX12_rules_131 ?_
                  exact g_iret C hr rfl (iw f487 (by decide) (by decide)) ⟨O465, (((((Fx.rf (wr := wr_k_X12_rules)).pI ta0 hh7 rfl).call F440 rfl).call F452 rfl).call F466 rfl), (iw f487 (by decide) (by decide)), p468⟩ (by decide) (by decide) dX12_rules_134
                · exact (no_eq f487 (il 0) q489 (by decide)).elim
              · have f490 : (0 : Int) ≤ v474 ∧ v474 ≤ (0 : Int) := ii f476 (r_eq (il 0) q486) (by decide) (by decide)
                refine g_aload_n C rfl 0 rfl dX12_rules_71 ?_
                obtain ⟨v491, e492⟩ : ∃ z, Rv h461 a0 4 = z := ⟨_, rfl⟩
                have t493 := ok_R O465 e472 rE_12_4 e492
                have l494 := ok_L O465 e472 rE_12_4 e492
                refine gf_R C fk_LandSurveyModel_24 rfl e472 e492 dX12_rules_72 ?_
                refine g_aload_n C rfl 0 rfl dX12_rules_75 ?_
                refine gf_I C fk_LandSurveyModel_317 rfl e472 e471 dX12_rules_76 ?_
                obtain ⟨v495, e496⟩ : ∃ z, Iv h461 v491 v470.toNat = z := ⟨_, rfl⟩
                have f497 := ok_Ia O465 t493 ar_104100 rI_104100_0 e496
                refine g_iald C t493 rfl l494 (ix f473 (by decide) (by decide)) e496 dX12_rules_79 ?_
                refine g_if_eq C (iw f497 (by decide) (by decide)) 90 (by decide) dX12_rules_80 (fun q498 => ?_) (fun q499 => ?_)
                · have f500 : (0 : Int) ≤ v495 ∧ v495 ≤ (0 : Int) := ii f497 (r_eq (il 0) q498) (by decide) (by decide)
                  refine g_aload_n C rfl 0 rfl dX12_rules_90 ?_
                  refine gf_I C fk_LandSurveyModel_320 rfl e472 e475 dX12_rules_91 ?_
                  refine g_if_ne C (iw f490 (by decide) (by decide)) 130 (by decide) dX12_rules_94 (fun q501 => ?_) (fun q502 => ?_)
                  · exact (no_ne f490 (il 0) q501 (by decide)).elim
                  · refine g_aload_n C rfl 0 rfl dX12_rules_97 ?_
                    refine g_dup C rfl dX12_rules_98 ?_
                    have e503 : Iv h461 a0 10 = v1 := ((fxI F466 e457 rfl).trans ((fxI F452 e445 rfl).trans ((fxI F440 e10 rfl).trans e11)))
                    refine gf_I C fk_LandSurveyModel_339 rfl e472 e503 dX12_rules_99 ?_
                    refine g_iload_n C rfl 1 rfl dX12_rules_102 ?_
                    refine g_if_eq C (iw (il 1) (by decide) (by decide)) 110 (by decide) dX12_rules_103 (fun q504 => ?_) (fun q505 => ?_)
                    · exact (no_eq (il 1) (il 0) q504 (by decide)).elim
                    · refine g_iconst C dX12_rules_106 ?_
                      refine g_goto C 111 (by decide) dX12_rules_107 ?_
                      have f506 : (8 : Int) ≤ (v1 + 0) ∧ (v1 + 0) ≤ (8 : Int) := ia_add f432 (il 0) (by decide) (by decide)
                      refine g_iadd C dX12_rules_111 ?_
                      refine gp_I C fk_LandSurveyModel_339 pk_LandSurveyModel_10 rfl e472 (iw f506 (by decide) (by decide)) (nf_i _) dX12_rules_112 (fun h508 hh507 => ?_)
                      have O509 := O465.pI e472 hh507 rI_12_10 (iw f506 (by decide) (by decide)) nofun
                      have p510 : BKn h508 a0 ((v1 + 0) - 1) := fun d hd => BKb_fx O465 ((Fx.rf (wr := [2410]) (h := h461)).pI e472 hh507 rfl) e472 rfl (p468.1 d (by rw [e503]; omega))
                      have p511 := LA_fx O465 ((Fx.rf (wr := [2410]) (h := h461)).pI e472 hh507 rfl) e472 rfl p468.2
                      have e513 : Iv h508 a0 8 = v474 := ((pI_j hh507 (by decide)).trans e475)
                      have p512 := (DLf_fx O465 ((Fx.rf (wr := [2410]) (h := h461)).pI e472 hh507 rfl) e472 rfl p469) (by rw [e513]; omega)
                      refine g_aload_n C rfl 0 rfl dX12_rules_115 ?_
                      refine g_aload_n C rfl 0 rfl dX12_rules_116 ?_
                      have e514 : Tg h508 a0 = 12 := ((pIT hh507).trans e472)
                      refine gf_I C fk_LandSurveyModel_339 rfl e514 (pI_e hh507) dX12_rules_117 ?_
                      refine g_iconst C dX12_rules_120 ?_
                      have f515 : (7 : Int) ≤ ((v1 + 0) - 1) ∧ ((v1 + 0) - 1) ≤ (7 : Int) := ia_sub f506 (il 1) (by decide) (by decide)
                      refine g_isub C dX12_rules_121 ?_
                      refine g_callV (st := []) (gc_V C lk_LandSurveyModel_354 (k_X12_keeps l D cy w z0 O509 e514 (iw f515 (by decide) (by decide)) ⟨p510, p511, p512⟩) e514 rfl rfl rfl ⟨by decide, by decide⟩ (Nat.le_of_ble_eq_true rfl) dX12_rules_122 ⟨(by decide), (by decide)⟩) (fun h517 K518 => ?_)
                      obtain ⟨O520, F521, p522⟩ := K518
                      have e523 : Iv h517 a0 10 = (v1 + 0) := ((fxI F521 e514 rfl).trans (pI_e hh507))
                      have p524 : MInv h517 a0 := ⟨by rw [e523]; have z := p522.1; rw [show ((v1 + 0) - 1 + 1 : Int) = (v1 + 0) by omega] at z; exact z, p522.2⟩
                      refine g_aload_n C rfl 0 rfl dX12_rules_125 ?_
                      refine g_iconst C dX12_rules_126 ?_
                      have e525 : Tg h517 a0 = 12 := (fxT F521 e514)
                      refine gp_I C fk_LandSurveyModel_290 pk_LandSurveyModel_35 rfl e525 (iw (il 1) (by decide) (by decide)) (nar_z2 (iw (il 1) (by decide) (by decide))) dX12_rules_127 (fun h527 hh526 => ?_)
                      have O528 := O520.pI e525 hh526 rI_12_35 (iw (il 1) (by decide) (by decide)) nofun
                      refine g_aload_n C rfl 0 rfl dX12_rules_130 ?_
                      have e529 : Tg h527 a0 = 12 := ((pIT hh526).trans e525)
                      have e530 : Iv h527 a0 8 = v474 := ((pI_j hh526 (by decide)).trans ((fxI F521 e514 rfl).trans e513))
                      refine gf_I C fk_LandSurveyModel_320 rfl e529 e530 dX12_rules_131 ?_
                      have p531 := (MInv_fx O520 ((Fx.rf (wr := [2435]) (h := h517)).pI e525 hh526 rfl) e525 rfl p524)
                      exact g_iret C hr rfl (iw f490 (by decide) (by decide)) ⟨O528, ((((((((Fx.rf (wr := wr_k_X12_rules)).pI ta0 hh7 rfl).call F440 rfl).call F452 rfl).call F466 rfl).pI e472 hh507 rfl).call F521 rfl).pI e525 hh526 rfl), (iw f490 (by decide) (by decide)), p531⟩ (by decide) (by decide) dX12_rules_134
                · have f532 : (1 : Int) ≤ v495 ∧ v495 ≤ (4 : Int) := r_nl f497 q499
                  refine g_aload_n C rfl 0 rfl dX12_rules_83 ?_
                  refine g_callV (st := []) (gc_V C lk_LandSurveyModel_351 (k_X12_readNext l D cy w z0 O465 e472 ⟨p480, by rw [e471, p484]; omega, by rw [e475, e471, p484]; omega, by rw [e478, e471]; omega⟩ p468 p469) e472 rfl rfl rfl ⟨by decide, by decide⟩ (Nat.le_of_ble_eq_true rfl) dX12_rules_84 ⟨(by decide), (by decide)⟩) (fun h534 K535 => ?_)
                  obtain ⟨O537, F538, p539, p540, p541, p542, p543⟩ := K535
                  obtain ⟨v544, e545⟩ : ∃ z, Iv h534 a0 7 = z := ⟨_, rfl⟩
                  have e546 : Tg h534 a0 = 12 := (fxT F538 e472)
                  have f547 := ok_I O537 e546 rI_12_7 e545
                  obtain ⟨v548, e549⟩ : ∃ z, Iv h534 a0 8 = z := ⟨_, rfl⟩
                  have f550 := ok_I O537 e546 rI_12_8 e549
                  obtain ⟨v551, e552⟩ : ∃ z, Iv h534 a0 28 = z := ⟨_, rfl⟩
                  have f553 := ok_I O537 e546 rI_12_28 e552
                  obtain ⟨p554, p555, p556, p557⟩ := p539
                  have p558 := ((NT_fx O465 F538 e472 rfl).trans p484)
                  rw [e545, p558] at p555
                  rw [e549, e545, p558] at p556
                  rw [e552, e545] at p557
                  have p559 := p540
                  unfold ST at p559
                  rw [e471, e545, e478, e552, e475, e549] at p559
                  rw [e549, e471, e545] at p543
                  refine g_goto C 64 (by decide) dX12_rules_87 ?_
                  refine GW.sub [0, 1] rfl ?_
                  exact ih463 _ (by rw [← hm464, e475, e471, e549, e545]; exact mqF_lt (by omega) (by omega) (by omega)) h534 rfl O537 (F466.call F538 rfl) ⟨p554, by rw [e545, p558]; omega, by rw [e549, e545, p558]; omega, by rw [e552, e545]; omega⟩ p541 p542
          have e560 : Iv h448 a0 7 = 0 := ((fxI F452 e445 rfl).trans p441.2.1)
          have e561 : Iv h448 a0 8 = 0 := ((fxI F452 e445 rfl).trans p441.2.2)
          have p562 := (TK_fx O439 F452 e445 rfl p441.1)
          have p563 := ((NT_fx O439 F452 e445 rfl).trans e443)
          have e564 : Iv h448 (Rv h448 a0 24) 8 = 0 := by rw [e456]; exact e460
          exact L462 _ h448 rfl O451 Fx.rf ⟨p562, by rw [e560, p563]; omega, by rw [e561, e560, p563]; omega, by rw [p454.1, e560]; omega⟩ p453 (fun _ k hk => absurd hk (by rw [e564]; omega))
        · exact (no_eq (il 1) (il 0) q434 (by decide)).elim
