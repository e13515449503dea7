abbrev cX12_readRock : ByteArray := prog_14_method_26_code
def yX12_readRock : MethodName := ⟨RX12, "readRock", "()V"⟩
theorem okX12_readRock : yok yX12_readRock 0 := by decide +kernel
theorem dX12_readRock_0 : decode cX12_readRock 0 = .ok (.aload_n 0, 1) := by decide +kernel
theorem dX12_readRock_1 : decode cX12_readRock 1 = .ok (.getfield 100, 3) := by decide +kernel
theorem dX12_readRock_4 : decode cX12_readRock 4 = .ok (.bipush 8, 2) := by decide +kernel
theorem dX12_readRock_6 : decode cX12_readRock 6 = .ok (.iaload, 1) := by decide +kernel
theorem dX12_readRock_7 : decode cX12_readRock 7 = .ok (.bipush 10, 2) := by decide +kernel
theorem dX12_readRock_9 : decode cX12_readRock 9 = .ok (.if_icmp .ne 9, 3) := by decide +kernel
theorem dX12_readRock_18 : decode cX12_readRock 18 = .ok (.aload_n 0, 1) := by decide +kernel
theorem dX12_readRock_19 : decode cX12_readRock 19 = .ok (.dup, 1) := by decide +kernel
theorem dX12_readRock_20 : decode cX12_readRock 20 = .ok (.getfield 317, 3) := by decide +kernel
theorem dX12_readRock_23 : decode cX12_readRock 23 = .ok (.iconst 1, 1) := by decide +kernel
theorem dX12_readRock_24 : decode cX12_readRock 24 = .ok (.iadd, 1) := by decide +kernel
theorem dX12_readRock_25 : decode cX12_readRock 25 = .ok (.putfield 317, 3) := by decide +kernel
theorem dX12_readRock_28 : decode cX12_readRock 28 = .ok (.aload_n 0, 1) := by decide +kernel
theorem dX12_readRock_29 : decode cX12_readRock 29 = .ok (.invokevirtual 357, 3) := by decide +kernel
theorem dX12_readRock_32 : decode cX12_readRock 32 = .ok (.ifCond .ne 11, 3) := by decide +kernel
theorem dX12_readRock_43 : decode cX12_readRock 43 = .ok (.aload_n 0, 1) := by decide +kernel
theorem dX12_readRock_44 : decode cX12_readRock 44 = .ok (.invokevirtual 361, 3) := by decide +kernel
theorem dX12_readRock_47 : decode cX12_readRock 47 = .ok (.ifCond .lt 8, 3) := by decide +kernel
theorem dX12_readRock_55 : decode cX12_readRock 55 = .ok (.aload_n 0, 1) := by decide +kernel
theorem dX12_readRock_56 : decode cX12_readRock 56 = .ok (.getfield 320, 3) := by decide +kernel
theorem dX12_readRock_59 : decode cX12_readRock 59 = .ok (.ifCond .le 4, 3) := by decide +kernel
theorem dX12_readRock_63 : decode cX12_readRock 63 = .ok (.bipush 80, 2) := by decide +kernel
theorem dX12_readRock_65 : decode cX12_readRock 65 = .ok (.aload_n 0, 1) := by decide +kernel
theorem dX12_readRock_66 : decode cX12_readRock 66 = .ok (.getfield 100, 3) := by decide +kernel
theorem dX12_readRock_69 : decode cX12_readRock 69 = .ok (.bipush 8, 2) := by decide +kernel
theorem dX12_readRock_71 : decode cX12_readRock 71 = .ok (.iaload, 1) := by decide +kernel
theorem dX12_readRock_72 : decode cX12_readRock 72 = .ok (.iadd, 1) := by decide +kernel
theorem dX12_readRock_73 : decode cX12_readRock 73 = .ok (.istore_n 1, 1) := by decide +kernel
theorem dX12_readRock_74 : decode cX12_readRock 74 = .ok (.aload_n 0, 1) := by decide +kernel
theorem dX12_readRock_75 : decode cX12_readRock 75 = .ok (.getfield 103, 3) := by decide +kernel
theorem dX12_readRock_78 : decode cX12_readRock 78 = .ok (.iload_n 1, 1) := by decide +kernel
theorem dX12_readRock_79 : decode cX12_readRock 79 = .ok (.aload_n 0, 1) := by decide +kernel
theorem dX12_readRock_80 : decode cX12_readRock 80 = .ok (.getfield 30, 3) := by decide +kernel
theorem dX12_readRock_83 : decode cX12_readRock 83 = .ok (.aload_n 0, 1) := by decide +kernel
theorem dX12_readRock_84 : decode cX12_readRock 84 = .ok (.getfield 317, 3) := by decide +kernel
theorem dX12_readRock_87 : decode cX12_readRock 87 = .ok (.laload, 1) := by decide +kernel
theorem dX12_readRock_88 : decode cX12_readRock 88 = .ok (.lastore, 1) := by decide +kernel
theorem dX12_readRock_89 : decode cX12_readRock 89 = .ok (.aload_n 0, 1) := by decide +kernel
theorem dX12_readRock_90 : decode cX12_readRock 90 = .ok (.dup, 1) := by decide +kernel
theorem dX12_readRock_91 : decode cX12_readRock 91 = .ok (.getfield 317, 3) := by decide +kernel
theorem dX12_readRock_94 : decode cX12_readRock 94 = .ok (.iconst 1, 1) := by decide +kernel
theorem dX12_readRock_95 : decode cX12_readRock 95 = .ok (.iadd, 1) := by decide +kernel
theorem dX12_readRock_96 : decode cX12_readRock 96 = .ok (.putfield 317, 3) := by decide +kernel
theorem dX12_readRock_99 : decode cX12_readRock 99 = .ok (.aload_n 0, 1) := by decide +kernel
theorem dX12_readRock_100 : decode cX12_readRock 100 = .ok (.getfield 106, 3) := by decide +kernel
theorem dX12_readRock_103 : decode cX12_readRock 103 = .ok (.iload_n 1, 1) := by decide +kernel
theorem dX12_readRock_104 : decode cX12_readRock 104 = .ok (.aload_n 0, 1) := by decide +kernel
theorem dX12_readRock_105 : decode cX12_readRock 105 = .ok (.iconst 0, 1) := by decide +kernel
theorem dX12_readRock_106 : decode cX12_readRock 106 = .ok (.sipush 200, 3) := by decide +kernel
theorem dX12_readRock_109 : decode cX12_readRock 109 = .ok (.invokevirtual 383, 3) := by decide +kernel
theorem kw_1822 : Cond.code yX12_takeNumber prog_14_method_21_code 3 (some .int) ∈ uu := uu_in (i := 1822) (by decide +kernel) (by decide +kernel)
theorem kw_1819 : Cond.methodLink "LandSurveyModel" 383 yX12_takeNumber ∈ uu := uu_in (i := 1819) (by decide +kernel) (by decide +kernel)
theorem kw_1821 : Cond.instanceMethod yX12_takeNumber ∈ uu := uu_in (i := 1821) (by decide +kernel) (by decide +kernel)
theorem kw_72 : Cond.selects "LandSurveyModel" yX12_takeNumber yX12_takeNumber ∈ uu := uu_in (i := 72) (by decide +kernel) (by decide +kernel)
theorem lk_LandSurveyModel_383 : lkV "LandSurveyModel" 383 yX12_takeNumber cX12_takeNumber 3 (some .int) 2 := ⟨kw_1819, kw_1821, kw_72, kw_152, kw_1822, okX12_takeNumber⟩
theorem dX12_readRock_112 : decode cX12_readRock 112 = .ok (.iastore, 1) := by decide +kernel
theorem dX12_readRock_113 : decode cX12_readRock 113 = .ok (.aload_n 0, 1) := by decide +kernel
theorem dX12_readRock_114 : decode cX12_readRock 114 = .ok (.bipush 9, 2) := by decide +kernel
theorem dX12_readRock_116 : decode cX12_readRock 116 = .ok (.invokevirtual 387, 3) := by decide +kernel
theorem kw_1826 : Cond.code yX12_takeWord prog_14_method_16_code 2 none ∈ uu := uu_in (i := 1826) (by decide +kernel) (by decide +kernel)
theorem kw_1823 : Cond.methodLink "LandSurveyModel" 387 yX12_takeWord ∈ uu := uu_in (i := 1823) (by decide +kernel) (by decide +kernel)
theorem kw_1825 : Cond.instanceMethod yX12_takeWord ∈ uu := uu_in (i := 1825) (by decide +kernel) (by decide +kernel)
theorem kw_73 : Cond.selects "LandSurveyModel" yX12_takeWord yX12_takeWord ∈ uu := uu_in (i := 73) (by decide +kernel) (by decide +kernel)
theorem lk_LandSurveyModel_387 : lkV "LandSurveyModel" 387 yX12_takeWord cX12_takeWord 2 none 1 := ⟨kw_1823, kw_1825, kw_73, kw_152, kw_1826, okX12_takeWord⟩
theorem dX12_readRock_119 : decode cX12_readRock 119 = .ok (.aload_n 0, 1) := by decide +kernel
theorem dX12_readRock_120 : decode cX12_readRock 120 = .ok (.getfield 109, 3) := by decide +kernel
theorem dX12_readRock_123 : decode cX12_readRock 123 = .ok (.iload_n 1, 1) := by decide +kernel
theorem dX12_readRock_124 : decode cX12_readRock 124 = .ok (.aload_n 0, 1) := by decide +kernel
theorem dX12_readRock_125 : decode cX12_readRock 125 = .ok (.aload_n 0, 1) := by decide +kernel
theorem dX12_readRock_126 : decode cX12_readRock 126 = .ok (.getfield 106, 3) := by decide +kernel
theorem dX12_readRock_129 : decode cX12_readRock 129 = .ok (.iload_n 1, 1) := by decide +kernel
theorem dX12_readRock_130 : decode cX12_readRock 130 = .ok (.iaload, 1) := by decide +kernel
theorem dX12_readRock_131 : decode cX12_readRock 131 = .ok (.sipush 200, 3) := by decide +kernel
theorem dX12_readRock_134 : decode cX12_readRock 134 = .ok (.invokevirtual 383, 3) := by decide +kernel
theorem dX12_readRock_137 : decode cX12_readRock 137 = .ok (.iastore, 1) := by decide +kernel
theorem dX12_readRock_138 : decode cX12_readRock 138 = .ok (.aload_n 0, 1) := by decide +kernel
theorem dX12_readRock_139 : decode cX12_readRock 139 = .ok (.getfield 100, 3) := by decide +kernel
theorem dX12_readRock_142 : decode cX12_readRock 142 = .ok (.bipush 8, 2) := by decide +kernel
theorem dX12_readRock_144 : decode cX12_readRock 144 = .ok (.dup2, 1) := by decide +kernel
theorem dX12_readRock_145 : decode cX12_readRock 145 = .ok (.iaload, 1) := by decide +kernel
theorem dX12_readRock_146 : decode cX12_readRock 146 = .ok (.aload_n 0, 1) := by decide +kernel
theorem dX12_readRock_147 : decode cX12_readRock 147 = .ok (.getfield 320, 3) := by decide +kernel
theorem dX12_readRock_150 : decode cX12_readRock 150 = .ok (.ifCond .ne 7, 3) := by decide +kernel
theorem dX12_readRock_157 : decode cX12_readRock 157 = .ok (.iconst 0, 1) := by decide +kernel
theorem dX12_readRock_158 : decode cX12_readRock 158 = .ok (.iadd, 1) := by decide +kernel
theorem dX12_readRock_159 : decode cX12_readRock 159 = .ok (.iastore, 1) := by decide +kernel
theorem dX12_readRock_160 : decode cX12_readRock 160 = .ok (.return_, 1) := by decide +kernel
theorem dX12_readRock_153 : decode cX12_readRock 153 = .ok (.iconst 1, 1) := by decide +kernel
theorem dX12_readRock_154 : decode cX12_readRock 154 = .ok (.goto 4, 3) := by decide +kernel
theorem dX12_readRock_50 : decode cX12_readRock 50 = .ok (.aload_n 0, 1) := by decide +kernel
theorem dX12_readRock_51 : decode cX12_readRock 51 = .ok (.iconst 3, 1) := by decide +kernel
theorem dX12_readRock_52 : decode cX12_readRock 52 = .ok (.invokevirtual 326, 3) := by decide +kernel
theorem dX12_readRock_62 : decode cX12_readRock 62 = .ok (.return_, 1) := by decide +kernel
theorem dX12_readRock_35 : decode cX12_readRock 35 = .ok (.aload_n 0, 1) := by decide +kernel
theorem dX12_readRock_36 : decode cX12_readRock 36 = .ok (.iconst 1, 1) := by decide +kernel
theorem dX12_readRock_37 : decode cX12_readRock 37 = .ok (.invokevirtual 326, 3) := by decide +kernel
theorem dX12_readRock_40 : decode cX12_readRock 40 = .ok (.goto 15, 3) := by decide +kernel
theorem dX12_readRock_12 : decode cX12_readRock 12 = .ok (.aload_n 0, 1) := by decide +kernel
theorem dX12_readRock_13 : decode cX12_readRock 13 = .ok (.iconst 5, 1) := by decide +kernel
theorem dX12_readRock_14 : decode cX12_readRock 14 = .ok (.invokevirtual 326, 3) := by decide +kernel
theorem dX12_readRock_17 : decode cX12_readRock 17 = .ok (.return_, 1) := by decide +kernel
abbrev cX12_readBound : ByteArray := prog_14_method_27_code
def yX12_readBound : MethodName := ⟨RX12, "readBound", "()V"⟩
theorem okX12_readBound : yok yX12_readBound 0 := by decide +kernel
theorem dX12_readBound_0 : decode cX12_readBound 0 = .ok (.aload_n 0, 1) := by decide +kernel
theorem dX12_readBound_1 : decode cX12_readBound 1 = .ok (.iconst 4, 1) := by decide +kernel
theorem dX12_readBound_2 : decode cX12_readBound 2 = .ok (.invokevirtual 330, 3) := by decide +kernel
theorem dX12_readBound_5 : decode cX12_readBound 5 = .ok (.istore_n 1, 1) := by decide +kernel
theorem dX12_readBound_6 : decode cX12_readBound 6 = .ok (.iload_n 1, 1) := by decide +kernel
theorem dX12_readBound_7 : decode cX12_readBound 7 = .ok (.ifCond .eq 16, 3) := by decide +kernel
theorem dX12_readBound_23 : decode cX12_readBound 23 = .ok (.aload_n 0, 1) := by decide +kernel
theorem dX12_readBound_24 : decode cX12_readBound 24 = .ok (.getfield 125, 3) := by decide +kernel
theorem kw_1526 : Cond.fieldLink "LandSurveyModel" 125 "LandSurveyModel" "isDriftTold" "[Z" ∈ uu := uu_in (i := 1526) (by decide +kernel) (by decide +kernel)
theorem fk_LandSurveyModel_125 : fkR "LandSurveyModel" 125 11 20 RX12 TX12 87 := ⟨rfl, rfl, inX12, by decide, kw_1526, by decide⟩
theorem dX12_readBound_27 : decode cX12_readBound 27 = .ok (.bipush 8, 2) := by decide +kernel
theorem dX12_readBound_29 : decode cX12_readBound 29 = .ok (.baload, 1) := by decide +kernel
theorem dX12_readBound_30 : decode cX12_readBound 30 = .ok (.ifCond .eq 9, 3) := by decide +kernel
theorem dX12_readBound_39 : decode cX12_readBound 39 = .ok (.aload_n 0, 1) := by decide +kernel
theorem dX12_readBound_40 : decode cX12_readBound 40 = .ok (.dup, 1) := by decide +kernel
theorem dX12_readBound_41 : decode cX12_readBound 41 = .ok (.getfield 317, 3) := by decide +kernel
theorem dX12_readBound_44 : decode cX12_readBound 44 = .ok (.iconst 1, 1) := by decide +kernel
theorem dX12_readBound_45 : decode cX12_readBound 45 = .ok (.iadd, 1) := by decide +kernel
theorem dX12_readBound_46 : decode cX12_readBound 46 = .ok (.putfield 317, 3) := by decide +kernel
theorem dX12_readBound_49 : decode cX12_readBound 49 = .ok (.aload_n 0, 1) := by decide +kernel
theorem dX12_readBound_50 : decode cX12_readBound 50 = .ok (.iconst 0, 1) := by decide +kernel
theorem dX12_readBound_51 : decode cX12_readBound 51 = .ok (.bipush 99, 2) := by decide +kernel
theorem dX12_readBound_53 : decode cX12_readBound 53 = .ok (.invokevirtual 383, 3) := by decide +kernel
theorem dX12_readBound_56 : decode cX12_readBound 56 = .ok (.istore_n 2, 1) := by decide +kernel
theorem dX12_readBound_57 : decode cX12_readBound 57 = .ok (.iload_n 1, 1) := by decide +kernel
theorem dX12_readBound_58 : decode cX12_readBound 58 = .ok (.ifCond .eq 22, 3) := by decide +kernel
theorem dX12_readBound_80 : decode cX12_readBound 80 = .ok (.aload_n 0, 1) := by decide +kernel
theorem dX12_readBound_81 : decode cX12_readBound 81 = .ok (.getfield 128, 3) := by decide +kernel
theorem dX12_readBound_84 : decode cX12_readBound 84 = .ok (.bipush 8, 2) := by decide +kernel
theorem dX12_readBound_86 : decode cX12_readBound 86 = .ok (.iload_n 2, 1) := by decide +kernel
theorem dX12_readBound_87 : decode cX12_readBound 87 = .ok (.iastore, 1) := by decide +kernel
theorem dX12_readBound_88 : decode cX12_readBound 88 = .ok (.aload_n 0, 1) := by decide +kernel
theorem dX12_readBound_89 : decode cX12_readBound 89 = .ok (.getfield 125, 3) := by decide +kernel
theorem dX12_readBound_92 : decode cX12_readBound 92 = .ok (.bipush 8, 2) := by decide +kernel
theorem dX12_readBound_94 : decode cX12_readBound 94 = .ok (.iconst 1, 1) := by decide +kernel
theorem dX12_readBound_95 : decode cX12_readBound 95 = .ok (.bastore, 1) := by decide +kernel
theorem dX12_readBound_96 : decode cX12_readBound 96 = .ok (.return_, 1) := by decide +kernel
theorem dX12_readBound_33 : decode cX12_readBound 33 = .ok (.aload_n 0, 1) := by decide +kernel
theorem dX12_readBound_34 : decode cX12_readBound 34 = .ok (.iconst 3, 1) := by decide +kernel
theorem dX12_readBound_35 : decode cX12_readBound 35 = .ok (.invokevirtual 326, 3) := by decide +kernel
theorem dX12_readBound_38 : decode cX12_readBound 38 = .ok (.return_, 1) := by decide +kernel
theorem dX12_readBound_10 : decode cX12_readBound 10 = .ok (.aload_n 0, 1) := by decide +kernel
theorem dX12_readBound_11 : decode cX12_readBound 11 = .ok (.getfield 119, 3) := by decide +kernel
theorem kw_1524 : Cond.fieldLink "LandSurveyModel" 119 "LandSurveyModel" "isSteepTold" "[Z" ∈ uu := uu_in (i := 1524) (by decide +kernel) (by decide +kernel)
theorem fk_LandSurveyModel_119 : fkR "LandSurveyModel" 119 11 18 RX12 TX12 87 := ⟨rfl, rfl, inX12, by decide, kw_1524, by decide⟩
theorem dX12_readBound_14 : decode cX12_readBound 14 = .ok (.bipush 8, 2) := by decide +kernel
theorem dX12_readBound_16 : decode cX12_readBound 16 = .ok (.baload, 1) := by decide +kernel
theorem dX12_readBound_17 : decode cX12_readBound 17 = .ok (.ifCond .eq 22, 3) := by decide +kernel
theorem dX12_readBound_61 : decode cX12_readBound 61 = .ok (.aload_n 0, 1) := by decide +kernel
theorem dX12_readBound_62 : decode cX12_readBound 62 = .ok (.getfield 122, 3) := by decide +kernel
theorem kw_1525 : Cond.fieldLink "LandSurveyModel" 122 "LandSurveyModel" "steep" "[I" ∈ uu := uu_in (i := 1525) (by decide +kernel) (by decide +kernel)
theorem fk_LandSurveyModel_122 : fkR "LandSurveyModel" 122 11 19 RX12 TX12 87 := ⟨rfl, rfl, inX12, by decide, kw_1525, by decide⟩
theorem dX12_readBound_65 : decode cX12_readBound 65 = .ok (.bipush 8, 2) := by decide +kernel
theorem dX12_readBound_67 : decode cX12_readBound 67 = .ok (.iload_n 2, 1) := by decide +kernel
theorem dX12_readBound_68 : decode cX12_readBound 68 = .ok (.iastore, 1) := by decide +kernel
theorem dX12_readBound_69 : decode cX12_readBound 69 = .ok (.aload_n 0, 1) := by decide +kernel
theorem dX12_readBound_70 : decode cX12_readBound 70 = .ok (.getfield 119, 3) := by decide +kernel
theorem dX12_readBound_73 : decode cX12_readBound 73 = .ok (.bipush 8, 2) := by decide +kernel
theorem dX12_readBound_75 : decode cX12_readBound 75 = .ok (.iconst 1, 1) := by decide +kernel
theorem dX12_readBound_76 : decode cX12_readBound 76 = .ok (.bastore, 1) := by decide +kernel
theorem dX12_readBound_77 : decode cX12_readBound 77 = .ok (.goto 19, 3) := by decide +kernel
theorem dX12_readBound_20 : decode cX12_readBound 20 = .ok (.goto 13, 3) := by decide +kernel
abbrev cX12_readRemain : ByteArray := prog_14_method_28_code
def yX12_readRemain : MethodName := ⟨RX12, "readRemain", "()V"⟩
theorem okX12_readRemain : yok yX12_readRemain 0 := by decide +kernel
theorem dX12_readRemain_0 : decode cX12_readRemain 0 = .ok (.aload_n 0, 1) := by decide +kernel
theorem dX12_readRemain_1 : decode cX12_readRemain 1 = .ok (.dup, 1) := by decide +kernel
theorem dX12_readRemain_2 : decode cX12_readRemain 2 = .ok (.getfield 317, 3) := by decide +kernel
theorem dX12_readRemain_5 : decode cX12_readRemain 5 = .ok (.iconst 1, 1) := by decide +kernel
theorem dX12_readRemain_6 : decode cX12_readRemain 6 = .ok (.iadd, 1) := by decide +kernel
theorem dX12_readRemain_7 : decode cX12_readRemain 7 = .ok (.putfield 317, 3) := by decide +kernel
theorem dX12_readRemain_10 : decode cX12_readRemain 10 = .ok (.aload_n 0, 1) := by decide +kernel
theorem dX12_readRemain_11 : decode cX12_readRemain 11 = .ok (.getfield 24, 3) := by decide +kernel
theorem dX12_readRemain_14 : decode cX12_readRemain 14 = .ok (.aload_n 0, 1) := by decide +kernel
theorem dX12_readRemain_15 : decode cX12_readRemain 15 = .ok (.getfield 317, 3) := by decide +kernel
theorem dX12_readRemain_18 : decode cX12_readRemain 18 = .ok (.iaload, 1) := by decide +kernel
theorem dX12_readRemain_19 : decode cX12_readRemain 19 = .ok (.iconst 2, 1) := by decide +kernel
theorem dX12_readRemain_20 : decode cX12_readRemain 20 = .ok (.if_icmp .ne 45, 3) := by decide +kernel
theorem dX12_readRemain_65 : decode cX12_readRemain 65 = .ok (.bipush 80, 2) := by decide +kernel
theorem dX12_readRemain_67 : decode cX12_readRemain 67 = .ok (.aload_n 0, 1) := by decide +kernel
theorem dX12_readRemain_68 : decode cX12_readRemain 68 = .ok (.iconst 0, 1) := by decide +kernel
theorem dX12_readRemain_69 : decode cX12_readRemain 69 = .ok (.bipush 9, 2) := by decide +kernel
theorem dX12_readRemain_71 : decode cX12_readRemain 71 = .ok (.invokevirtual 383, 3) := by decide +kernel
theorem dX12_readRemain_74 : decode cX12_readRemain 74 = .ok (.iadd, 1) := by decide +kernel
theorem dX12_readRemain_75 : decode cX12_readRemain 75 = .ok (.istore_n 1, 1) := by decide +kernel
theorem dX12_readRemain_76 : decode cX12_readRemain 76 = .ok (.aload_n 0, 1) := by decide +kernel
theorem dX12_readRemain_77 : decode cX12_readRemain 77 = .ok (.bipush 10, 2) := by decide +kernel
theorem dX12_readRemain_79 : decode cX12_readRemain 79 = .ok (.invokevirtual 387, 3) := by decide +kernel
theorem dX12_readRemain_82 : decode cX12_readRemain 82 = .ok (.aload_n 0, 1) := by decide +kernel
theorem dX12_readRemain_83 : decode cX12_readRemain 83 = .ok (.invokevirtual 374, 3) := by decide +kernel
theorem kw_1838 : Cond.code yX12_takeRock prog_14_method_24_code 2 (some .int) ∈ uu := uu_in (i := 1838) (by decide +kernel) (by decide +kernel)
theorem kw_1835 : Cond.methodLink "LandSurveyModel" 374 yX12_takeRock ∈ uu := uu_in (i := 1835) (by decide +kernel) (by decide +kernel)
theorem kw_1837 : Cond.instanceMethod yX12_takeRock ∈ uu := uu_in (i := 1837) (by decide +kernel) (by decide +kernel)
theorem kw_76 : Cond.selects "LandSurveyModel" yX12_takeRock yX12_takeRock ∈ uu := uu_in (i := 76) (by decide +kernel) (by decide +kernel)
theorem lk_LandSurveyModel_374 : lkV "LandSurveyModel" 374 yX12_takeRock cX12_takeRock 2 (some .int) 0 := ⟨kw_1835, kw_1837, kw_76, kw_152, kw_1838, okX12_takeRock⟩
theorem dX12_readRemain_86 : decode cX12_readRemain 86 = .ok (.istore_n 2, 1) := by decide +kernel
theorem dX12_readRemain_87 : decode cX12_readRemain 87 = .ok (.aload_n 0, 1) := by decide +kernel
theorem dX12_readRemain_88 : decode cX12_readRemain 88 = .ok (.bipush 9, 2) := by decide +kernel
theorem dX12_readRemain_90 : decode cX12_readRemain 90 = .ok (.invokevirtual 387, 3) := by decide +kernel
theorem dX12_readRemain_93 : decode cX12_readRemain 93 = .ok (.aload_n 0, 1) := by decide +kernel
theorem dX12_readRemain_94 : decode cX12_readRemain 94 = .ok (.getfield 317, 3) := by decide +kernel
theorem dX12_readRemain_97 : decode cX12_readRemain 97 = .ok (.istore_n 3, 1) := by decide +kernel
theorem dX12_readRemain_98 : decode cX12_readRemain 98 = .ok (.aload_n 0, 1) := by decide +kernel
theorem dX12_readRemain_99 : decode cX12_readRemain 99 = .ok (.invokevirtual 374, 3) := by decide +kernel
theorem dX12_readRemain_102 : decode cX12_readRemain 102 = .ok (.istore 4, 2) := by decide +kernel
theorem dX12_readRemain_104 : decode cX12_readRemain 104 = .ok (.aload_n 0, 1) := by decide +kernel
theorem dX12_readRemain_105 : decode cX12_readRemain 105 = .ok (.getfield 320, 3) := by decide +kernel
theorem dX12_readRemain_108 : decode cX12_readRemain 108 = .ok (.ifCond .ne 24, 3) := by decide +kernel
theorem dX12_readRemain_132 : decode cX12_readRemain 132 = .ok (.aload_n 0, 1) := by decide +kernel
theorem dX12_readRemain_133 : decode cX12_readRemain 133 = .ok (.getfield 320, 3) := by decide +kernel
theorem dX12_readRemain_136 : decode cX12_readRemain 136 = .ok (.ifCond .ne 18, 3) := by decide +kernel
theorem dX12_readRemain_154 : decode cX12_readRemain 154 = .ok (.return_, 1) := by decide +kernel
theorem dX12_readRemain_111 : decode cX12_readRemain 111 = .ok (.iload 4, 2) := by decide +kernel
theorem dX12_readRemain_113 : decode cX12_readRemain 113 = .ok (.iload_n 2, 1) := by decide +kernel
theorem dX12_readRemain_114 : decode cX12_readRemain 114 = .ok (.if_icmp .ge 18, 3) := by decide +kernel
theorem dX12_readRemain_139 : decode cX12_readRemain 139 = .ok (.aload_n 0, 1) := by decide +kernel
theorem dX12_readRemain_140 : decode cX12_readRemain 140 = .ok (.getfield 131, 3) := by decide +kernel
theorem dX12_readRemain_143 : decode cX12_readRemain 143 = .ok (.iload_n 1, 1) := by decide +kernel
theorem dX12_readRemain_144 : decode cX12_readRemain 144 = .ok (.iload_n 2, 1) := by decide +kernel
theorem dX12_readRemain_145 : decode cX12_readRemain 145 = .ok (.iastore, 1) := by decide +kernel
theorem dX12_readRemain_146 : decode cX12_readRemain 146 = .ok (.aload_n 0, 1) := by decide +kernel
theorem dX12_readRemain_147 : decode cX12_readRemain 147 = .ok (.getfield 134, 3) := by decide +kernel
theorem dX12_readRemain_150 : decode cX12_readRemain 150 = .ok (.iload_n 1, 1) := by decide +kernel
theorem dX12_readRemain_151 : decode cX12_readRemain 151 = .ok (.iload 4, 2) := by decide +kernel
theorem dX12_readRemain_153 : decode cX12_readRemain 153 = .ok (.iastore, 1) := by decide +kernel
theorem dX12_readRemain_117 : decode cX12_readRemain 117 = .ok (.aload_n 0, 1) := by decide +kernel
theorem dX12_readRemain_118 : decode cX12_readRemain 118 = .ok (.iconst 4, 1) := by decide +kernel
theorem dX12_readRemain_119 : decode cX12_readRemain 119 = .ok (.bipush 16, 2) := by decide +kernel
theorem dX12_readRemain_121 : decode cX12_readRemain 121 = .ok (.aload_n 0, 1) := by decide +kernel
theorem dX12_readRemain_122 : decode cX12_readRemain 122 = .ok (.getfield 27, 3) := by decide +kernel
theorem dX12_readRemain_125 : decode cX12_readRemain 125 = .ok (.iload_n 3, 1) := by decide +kernel
theorem dX12_readRemain_126 : decode cX12_readRemain 126 = .ok (.iaload, 1) := by decide +kernel
theorem dX12_readRemain_127 : decode cX12_readRemain 127 = .ok (.imul, 1) := by decide +kernel
theorem dX12_readRemain_128 : decode cX12_readRemain 128 = .ok (.iadd, 1) := by decide +kernel
theorem dX12_readRemain_129 : decode cX12_readRemain 129 = .ok (.putfield 320, 3) := by decide +kernel
theorem dX12_readRemain_23 : decode cX12_readRemain 23 = .ok (.aload_n 0, 1) := by decide +kernel
theorem dX12_readRemain_24 : decode cX12_readRemain 24 = .ok (.getfield 30, 3) := by decide +kernel
theorem dX12_readRemain_27 : decode cX12_readRemain 27 = .ok (.aload_n 0, 1) := by decide +kernel
theorem dX12_readRemain_28 : decode cX12_readRemain 28 = .ok (.getfield 317, 3) := by decide +kernel
theorem dX12_readRemain_31 : decode cX12_readRemain 31 = .ok (.laload, 1) := by decide +kernel
theorem dX12_readRemain_32 : decode cX12_readRemain 32 = .ok (.ldc2_w 390, 3) := by decide +kernel
theorem kw_1879 : Cond.constantLong "LandSurveyModel" 390 (9) ∈ uu := uu_in (i := 1879) (by decide +kernel) (by decide +kernel)
theorem dX12_readRemain_35 : decode cX12_readRemain 35 = .ok (.lcmp, 1) := by decide +kernel
theorem dX12_readRemain_36 : decode cX12_readRemain 36 = .ok (.ifCond .gt 29, 3) := by decide +kernel
theorem dX12_readRemain_39 : decode cX12_readRemain 39 = .ok (.aload_n 0, 1) := by decide +kernel
theorem dX12_readRemain_40 : decode cX12_readRemain 40 = .ok (.getfield 131, 3) := by decide +kernel
theorem dX12_readRemain_43 : decode cX12_readRemain 43 = .ok (.bipush 80, 2) := by decide +kernel
theorem dX12_readRemain_45 : decode cX12_readRemain 45 = .ok (.aload_n 0, 1) := by decide +kernel
theorem dX12_readRemain_46 : decode cX12_readRemain 46 = .ok (.getfield 30, 3) := by decide +kernel
theorem dX12_readRemain_49 : decode cX12_readRemain 49 = .ok (.aload_n 0, 1) := by decide +kernel
theorem dX12_readRemain_50 : decode cX12_readRemain 50 = .ok (.getfield 317, 3) := by decide +kernel
theorem dX12_readRemain_53 : decode cX12_readRemain 53 = .ok (.laload, 1) := by decide +kernel
theorem dX12_readRemain_54 : decode cX12_readRemain 54 = .ok (.l2i, 1) := by decide +kernel
theorem dX12_readRemain_55 : decode cX12_readRemain 55 = .ok (.iadd, 1) := by decide +kernel
theorem dX12_readRemain_56 : decode cX12_readRemain 56 = .ok (.iaload, 1) := by decide +kernel
theorem dX12_readRemain_57 : decode cX12_readRemain 57 = .ok (.ifCond .lt 8, 3) := by decide +kernel
theorem dX12_readRemain_60 : decode cX12_readRemain 60 = .ok (.aload_n 0, 1) := by decide +kernel
theorem dX12_readRemain_61 : decode cX12_readRemain 61 = .ok (.iconst 3, 1) := by decide +kernel
theorem dX12_readRemain_62 : decode cX12_readRemain 62 = .ok (.invokevirtual 326, 3) := by decide +kernel
abbrev cX12_readLine : ByteArray := prog_14_method_29_code
def yX12_readLine : MethodName := ⟨RX12, "readLine", "()V"⟩
theorem okX12_readLine : yok yX12_readLine 0 := by decide +kernel
theorem dX12_readLine_0 : decode cX12_readLine 0 = .ok (.aload_n 0, 1) := by decide +kernel
theorem dX12_readLine_1 : decode cX12_readLine 1 = .ok (.getfield 137, 3) := by decide +kernel
theorem dX12_readLine_4 : decode cX12_readLine 4 = .ok (.bipush 8, 2) := by decide +kernel
theorem dX12_readLine_6 : decode cX12_readLine 6 = .ok (.iaload, 1) := by decide +kernel
theorem dX12_readLine_7 : decode cX12_readLine 7 = .ok (.bipush 24, 2) := by decide +kernel
theorem dX12_readLine_9 : decode cX12_readLine 9 = .ok (.if_icmp .ne 9, 3) := by decide +kernel
theorem dX12_readLine_18 : decode cX12_readLine 18 = .ok (.sipush 192, 3) := by decide +kernel
theorem dX12_readLine_21 : decode cX12_readLine 21 = .ok (.aload_n 0, 1) := by decide +kernel
theorem dX12_readLine_22 : decode cX12_readLine 22 = .ok (.getfield 137, 3) := by decide +kernel
theorem dX12_readLine_25 : decode cX12_readLine 25 = .ok (.bipush 8, 2) := by decide +kernel
theorem dX12_readLine_27 : decode cX12_readLine 27 = .ok (.iaload, 1) := by decide +kernel
theorem dX12_readLine_28 : decode cX12_readLine 28 = .ok (.iadd, 1) := by decide +kernel
theorem dX12_readLine_29 : decode cX12_readLine 29 = .ok (.istore_n 1, 1) := by decide +kernel
theorem dX12_readLine_30 : decode cX12_readLine 30 = .ok (.aload_n 0, 1) := by decide +kernel
theorem dX12_readLine_31 : decode cX12_readLine 31 = .ok (.getfield 140, 3) := by decide +kernel
theorem dX12_readLine_34 : decode cX12_readLine 34 = .ok (.iload_n 1, 1) := by decide +kernel
theorem dX12_readLine_35 : decode cX12_readLine 35 = .ok (.aload_n 0, 1) := by decide +kernel
theorem dX12_readLine_36 : decode cX12_readLine 36 = .ok (.iconst 1, 1) := by decide +kernel
theorem dX12_readLine_37 : decode cX12_readLine 37 = .ok (.invokevirtual 330, 3) := by decide +kernel
theorem dX12_readLine_40 : decode cX12_readLine 40 = .ok (.ifCond .eq 7, 3) := by decide +kernel
theorem dX12_readLine_47 : decode cX12_readLine 47 = .ok (.aload_n 0, 1) := by decide +kernel
theorem dX12_readLine_48 : decode cX12_readLine 48 = .ok (.iconst 2, 1) := by decide +kernel
theorem dX12_readLine_49 : decode cX12_readLine 49 = .ok (.invokevirtual 330, 3) := by decide +kernel
theorem dX12_readLine_52 : decode cX12_readLine 52 = .ok (.ifCond .eq 7, 3) := by decide +kernel
theorem dX12_readLine_59 : decode cX12_readLine 59 = .ok (.iconst 3, 1) := by decide +kernel
theorem dX12_readLine_60 : decode cX12_readLine 60 = .ok (.iastore, 1) := by decide +kernel
theorem dX12_readLine_61 : decode cX12_readLine 61 = .ok (.aload_n 0, 1) := by decide +kernel
theorem dX12_readLine_62 : decode cX12_readLine 62 = .ok (.dup, 1) := by decide +kernel
theorem dX12_readLine_63 : decode cX12_readLine 63 = .ok (.getfield 317, 3) := by decide +kernel
theorem dX12_readLine_66 : decode cX12_readLine 66 = .ok (.iconst 1, 1) := by decide +kernel
theorem dX12_readLine_67 : decode cX12_readLine 67 = .ok (.iadd, 1) := by decide +kernel
theorem dX12_readLine_68 : decode cX12_readLine 68 = .ok (.putfield 317, 3) := by decide +kernel
theorem dX12_readLine_71 : decode cX12_readLine 71 = .ok (.aload_n 0, 1) := by decide +kernel
theorem dX12_readLine_72 : decode cX12_readLine 72 = .ok (.getfield 140, 3) := by decide +kernel
theorem dX12_readLine_75 : decode cX12_readLine 75 = .ok (.iload_n 1, 1) := by decide +kernel
theorem dX12_readLine_76 : decode cX12_readLine 76 = .ok (.iaload, 1) := by decide +kernel
theorem dX12_readLine_77 : decode cX12_readLine 77 = .ok (.iconst 1, 1) := by decide +kernel
theorem dX12_readLine_78 : decode cX12_readLine 78 = .ok (.if_icmp .ne 16, 3) := by decide +kernel
theorem dX12_readLine_94 : decode cX12_readLine 94 = .ok (.aload_n 0, 1) := by decide +kernel
theorem dX12_readLine_95 : decode cX12_readLine 95 = .ok (.getfield 140, 3) := by decide +kernel
theorem dX12_readLine_98 : decode cX12_readLine 98 = .ok (.iload_n 1, 1) := by decide +kernel
theorem dX12_readLine_99 : decode cX12_readLine 99 = .ok (.iaload, 1) := by decide +kernel
theorem dX12_readLine_100 : decode cX12_readLine 100 = .ok (.iconst 2, 1) := by decide +kernel
theorem dX12_readLine_101 : decode cX12_readLine 101 = .ok (.if_icmp .ne 19, 3) := by decide +kernel
theorem dX12_readLine_120 : decode cX12_readLine 120 = .ok (.aload_n 0, 1) := by decide +kernel
theorem dX12_readLine_121 : decode cX12_readLine 121 = .ok (.getfield 143, 3) := by decide +kernel
theorem dX12_readLine_124 : decode cX12_readLine 124 = .ok (.iload_n 1, 1) := by decide +kernel
theorem dX12_readLine_125 : decode cX12_readLine 125 = .ok (.aload_n 0, 1) := by decide +kernel
theorem dX12_readLine_126 : decode cX12_readLine 126 = .ok (.bipush 12, 2) := by decide +kernel
theorem dX12_readLine_128 : decode cX12_readLine 128 = .ok (.invokevirtual 330, 3) := by decide +kernel
theorem dX12_readLine_131 : decode cX12_readLine 131 = .ok (.ifCond .eq 7, 3) := by decide +kernel
theorem dX12_readLine_138 : decode cX12_readLine 138 = .ok (.aload_n 0, 1) := by decide +kernel
theorem dX12_readLine_139 : decode cX12_readLine 139 = .ok (.bipush 13, 2) := by decide +kernel
theorem dX12_readLine_141 : decode cX12_readLine 141 = .ok (.invokevirtual 330, 3) := by decide +kernel
theorem dX12_readLine_144 : decode cX12_readLine 144 = .ok (.ifCond .eq 7, 3) := by decide +kernel
theorem dX12_readLine_151 : decode cX12_readLine 151 = .ok (.iconst 1, 1) := by decide +kernel
theorem dX12_readLine_152 : decode cX12_readLine 152 = .ok (.iastore, 1) := by decide +kernel
theorem dX12_readLine_153 : decode cX12_readLine 153 = .ok (.aload_n 0, 1) := by decide +kernel
theorem dX12_readLine_154 : decode cX12_readLine 154 = .ok (.getfield 143, 3) := by decide +kernel
theorem dX12_readLine_157 : decode cX12_readLine 157 = .ok (.iload_n 1, 1) := by decide +kernel
theorem dX12_readLine_158 : decode cX12_readLine 158 = .ok (.iaload, 1) := by decide +kernel
theorem dX12_readLine_159 : decode cX12_readLine 159 = .ok (.iconst 1, 1) := by decide +kernel
theorem dX12_readLine_160 : decode cX12_readLine 160 = .ok (.if_icmp .ne 17, 3) := by decide +kernel
theorem dX12_readLine_163 : decode cX12_readLine 163 = .ok (.aload_n 0, 1) := by decide +kernel
theorem dX12_readLine_164 : decode cX12_readLine 164 = .ok (.bipush 14, 2) := by decide +kernel
theorem dX12_readLine_166 : decode cX12_readLine 166 = .ok (.invokevirtual 330, 3) := by decide +kernel
theorem dX12_readLine_169 : decode cX12_readLine 169 = .ok (.ifCond .ne 8, 3) := by decide +kernel
theorem dX12_readLine_177 : decode cX12_readLine 177 = .ok (.aload_n 0, 1) := by decide +kernel
theorem dX12_readLine_178 : decode cX12_readLine 178 = .ok (.dup, 1) := by decide +kernel
theorem dX12_readLine_179 : decode cX12_readLine 179 = .ok (.getfield 317, 3) := by decide +kernel
theorem dX12_readLine_182 : decode cX12_readLine 182 = .ok (.iconst 1, 1) := by decide +kernel
theorem dX12_readLine_183 : decode cX12_readLine 183 = .ok (.iadd, 1) := by decide +kernel
theorem dX12_readLine_184 : decode cX12_readLine 184 = .ok (.putfield 317, 3) := by decide +kernel
theorem dX12_readLine_187 : decode cX12_readLine 187 = .ok (.aload_n 0, 1) := by decide +kernel
theorem dX12_readLine_188 : decode cX12_readLine 188 = .ok (.bipush 11, 2) := by decide +kernel
theorem dX12_readLine_190 : decode cX12_readLine 190 = .ok (.invokevirtual 387, 3) := by decide +kernel
theorem dX12_readLine_193 : decode cX12_readLine 193 = .ok (.aload_n 0, 1) := by decide +kernel
theorem dX12_readLine_194 : decode cX12_readLine 194 = .ok (.getfield 146, 3) := by decide +kernel
theorem dX12_readLine_197 : decode cX12_readLine 197 = .ok (.iload_n 1, 1) := by decide +kernel
theorem dX12_readLine_198 : decode cX12_readLine 198 = .ok (.sipush 12800, 3) := by decide +kernel
theorem dX12_readLine_201 : decode cX12_readLine 201 = .ok (.aload_n 0, 1) := by decide +kernel
theorem dX12_readLine_202 : decode cX12_readLine 202 = .ok (.getfield 336, 3) := by decide +kernel
theorem dX12_readLine_205 : decode cX12_readLine 205 = .ok (.iadd, 1) := by decide +kernel
theorem dX12_readLine_206 : decode cX12_readLine 206 = .ok (.iastore, 1) := by decide +kernel
theorem dX12_readLine_207 : decode cX12_readLine 207 = .ok (.aload_n 0, 1) := by decide +kernel
theorem dX12_readLine_208 : decode cX12_readLine 208 = .ok (.iconst 0, 1) := by decide +kernel
theorem dX12_readLine_209 : decode cX12_readLine 209 = .ok (.invokevirtual 392, 3) := by decide +kernel
theorem dX12_readLine_212 : decode cX12_readLine 212 = .ok (.aload_n 0, 1) := by decide +kernel
theorem dX12_readLine_213 : decode cX12_readLine 213 = .ok (.iconst 0, 1) := by decide +kernel
theorem dX12_readLine_214 : decode cX12_readLine 214 = .ok (.iconst 0, 1) := by decide +kernel
theorem dX12_readLine_215 : decode cX12_readLine 215 = .ok (.invokevirtual 395, 3) := by decide +kernel
theorem dX12_readLine_218 : decode cX12_readLine 218 = .ok (.aload_n 0, 1) := by decide +kernel
theorem dX12_readLine_219 : decode cX12_readLine 219 = .ok (.getfield 137, 3) := by decide +kernel
theorem dX12_readLine_222 : decode cX12_readLine 222 = .ok (.bipush 8, 2) := by decide +kernel
theorem dX12_readLine_224 : decode cX12_readLine 224 = .ok (.dup2, 1) := by decide +kernel
theorem dX12_readLine_225 : decode cX12_readLine 225 = .ok (.iaload, 1) := by decide +kernel
theorem dX12_readLine_226 : decode cX12_readLine 226 = .ok (.iconst 1, 1) := by decide +kernel
theorem dX12_readLine_227 : decode cX12_readLine 227 = .ok (.iadd, 1) := by decide +kernel
theorem dX12_readLine_228 : decode cX12_readLine 228 = .ok (.iastore, 1) := by decide +kernel
theorem dX12_readLine_229 : decode cX12_readLine 229 = .ok (.return_, 1) := by decide +kernel
theorem dX12_readLine_172 : decode cX12_readLine 172 = .ok (.aload_n 0, 1) := by decide +kernel
theorem dX12_readLine_173 : decode cX12_readLine 173 = .ok (.iconst 1, 1) := by decide +kernel
theorem dX12_readLine_174 : decode cX12_readLine 174 = .ok (.invokevirtual 326, 3) := by decide +kernel
theorem dX12_readLine_147 : decode cX12_readLine 147 = .ok (.iconst 2, 1) := by decide +kernel
theorem dX12_readLine_148 : decode cX12_readLine 148 = .ok (.goto 4, 3) := by decide +kernel
theorem dX12_readLine_134 : decode cX12_readLine 134 = .ok (.iconst 3, 1) := by decide +kernel
theorem dX12_readLine_135 : decode cX12_readLine 135 = .ok (.goto 17, 3) := by decide +kernel
theorem dX12_readLine_55 : decode cX12_readLine 55 = .ok (.iconst 2, 1) := by decide +kernel
theorem dX12_readLine_56 : decode cX12_readLine 56 = .ok (.goto 4, 3) := by decide +kernel
theorem dX12_readLine_104 : decode cX12_readLine 104 = .ok (.aload_n 0, 1) := by decide +kernel
theorem dX12_readLine_105 : decode cX12_readLine 105 = .ok (.getfield 143, 3) := by decide +kernel
theorem dX12_readLine_108 : decode cX12_readLine 108 = .ok (.iload_n 1, 1) := by decide +kernel
theorem dX12_readLine_109 : decode cX12_readLine 109 = .ok (.aload_n 0, 1) := by decide +kernel
theorem dX12_readLine_110 : decode cX12_readLine 110 = .ok (.iconst 1, 1) := by decide +kernel
theorem dX12_readLine_111 : decode cX12_readLine 111 = .ok (.bipush 99, 2) := by decide +kernel
theorem dX12_readLine_113 : decode cX12_readLine 113 = .ok (.invokevirtual 383, 3) := by decide +kernel
theorem dX12_readLine_116 : decode cX12_readLine 116 = .ok (.iastore, 1) := by decide +kernel
theorem dX12_readLine_117 : decode cX12_readLine 117 = .ok (.goto 70, 3) := by decide +kernel
theorem dX12_readLine_43 : decode cX12_readLine 43 = .ok (.iconst 1, 1) := by decide +kernel
theorem dX12_readLine_44 : decode cX12_readLine 44 = .ok (.goto 16, 3) := by decide +kernel
theorem dX12_readLine_81 : decode cX12_readLine 81 = .ok (.aload_n 0, 1) := by decide +kernel
theorem dX12_readLine_82 : decode cX12_readLine 82 = .ok (.getfield 143, 3) := by decide +kernel
theorem dX12_readLine_85 : decode cX12_readLine 85 = .ok (.iload_n 1, 1) := by decide +kernel
theorem dX12_readLine_86 : decode cX12_readLine 86 = .ok (.aload_n 0, 1) := by decide +kernel
theorem dX12_readLine_87 : decode cX12_readLine 87 = .ok (.invokevirtual 374, 3) := by decide +kernel
theorem dX12_readLine_90 : decode cX12_readLine 90 = .ok (.iastore, 1) := by decide +kernel
theorem dX12_readLine_91 : decode cX12_readLine 91 = .ok (.goto 96, 3) := by decide +kernel
theorem dX12_readLine_12 : decode cX12_readLine 12 = .ok (.aload_n 0, 1) := by decide +kernel
theorem dX12_readLine_13 : decode cX12_readLine 13 = .ok (.iconst 5, 1) := by decide +kernel
theorem dX12_readLine_14 : decode cX12_readLine 14 = .ok (.invokevirtual 326, 3) := by decide +kernel
theorem dX12_readLine_17 : decode cX12_readLine 17 = .ok (.return_, 1) := by decide +kernel
def wr_k_X12_readRock : List Nat := [2407, 2408, 22420000, 22620400, 22820000, 23020000]
set_option maxRecDepth 100000 in
set_option maxHeartbeats 4000000 in
theorem k_X12_readRock (l : Launch) (D : va_G) (cy : Nat → ClassId) (w : Nat → Nat) (z0 : Nat)  {h : Hp} {a0 : Nat}  (O : Okh h) (ta0 : Tg h a0 = 12) (P_RD : RD h a0) (P_kw : Iv h a0 8 = 0 ∧ Iv h a0 7 < NT h a0) : MV l D cy w z0 yX12_readRock cX12_readRock 2 none 3 64 0 0 [.inr (.inr a0)] h (fun h1 => Okh h1 ∧ Fx wr_k_X12_readRock h h1 ∧ (RD h1 a0) ∧ (ST h h1 a0)) := by
  obtain ⟨v1, e2⟩ : ∃ z, Iv h a0 7 = z := ⟨_, rfl⟩
  have f3 := ok_I O ta0 rI_12_7 e2
  obtain ⟨v4, e5⟩ : ∃ z, Iv h a0 8 = z := ⟨_, rfl⟩
  have f6 := ok_I O ta0 rI_12_8 e5
  obtain ⟨v7, e8⟩ : ∃ z, Iv h a0 28 = z := ⟨_, rfl⟩
  have f9 := ok_I O ta0 rI_12_28 e8
  obtain ⟨p10, p11, p12, p13⟩ := P_RD
  obtain ⟨v14, e15⟩ : ∃ z, NT h a0 = z := ⟨_, rfl⟩
  have f16 : (0 : Int) ≤ v14 ∧ v14 ≤ (1500 : Int) := NT_rng p10 e15
  rw [e2, e15] at p11
  rw [e5, e2, e15] at p12
  rw [e8, e2] at p13
  rw [e5, e2, e15] at P_kw
  have f17 : (0 : Int) ≤ v4 ∧ v4 ≤ (0 : Int) := by omega
  refine hm_go (by decide +kernel) (Nat.le_of_ble_eq_true rfl) (fun p e s m below meth c C hr hn => ?_)
  refine g_aload_n C rfl 0 rfl dX12_readRock_0 ?_
  obtain ⟨v18, e19⟩ : ∃ z, Rv h a0 12 = z := ⟨_, rfl⟩
  have t20 := ok_R O ta0 rE_12_12 e19
  have l21 := ok_L O ta0 rE_12_12 e19
  refine gf_R C fk_LandSurveyModel_100 rfl ta0 e19 dX12_readRock_1 ?_
  refine g_bipush C (by decide) dX12_readRock_4 ?_
  obtain ⟨v22, e23⟩ : ∃ z, Iv h v18 ((8 : Int).toNat) = z := ⟨_, rfl⟩
  have f24 := ok_Ia O t20 ar_112100 rI_112100_0 e23
  refine g_iald C t20 rfl l21 (ix (il 8) (by decide) (by decide)) e23 dX12_readRock_6 ?_
  refine g_bipush C (by decide) dX12_readRock_7 ?_
  refine g_icmp_ne C (iw f24 (by decide) (by decide)) (iw (il 10) (by decide) (by decide)) 18 (by decide) dX12_readRock_9 (fun q25 => ?_) (fun q26 => ?_)
  · have f27 : (0 : Int) ≤ v22 ∧ v22 ≤ (9 : Int) := r_nh f24 q25
    refine g_aload_n C rfl 0 rfl dX12_readRock_18 ?_
    refine g_dup C rfl dX12_readRock_19 ?_
    refine gf_I C fk_LandSurveyModel_317 rfl ta0 e2 dX12_readRock_20 ?_
    refine g_iconst C dX12_readRock_23 ?_
    have f28 : (1 : Int) ≤ (v1 + 1) ∧ (v1 + 1) ≤ (1502 : Int) := ia_add f3 (il 1) (by decide) (by decide)
    refine g_iadd C dX12_readRock_24 ?_
    refine gp_I C fk_LandSurveyModel_317 pk_LandSurveyModel_7 rfl ta0 (iw f28 (by decide) (by decide)) (nf_i _) dX12_readRock_25 (fun h30 hh29 => ?_)
    have O31 := O.pI ta0 hh29 rI_12_7 (by omega) nofun
    refine g_aload_n C rfl 0 rfl dX12_readRock_28 ?_
    have e32 : Tg h30 a0 = 12 := ((pIT hh29).trans ta0)
    have e33 : Iv h30 a0 8 = v4 := ((pI_j hh29 (by decide)).trans e5)
    have e34 : Iv h30 a0 28 = v7 := ((pI_j hh29 (by decide)).trans e8)
    have p35 := (TK_fx O ((Fx.rf (wr := [2407]) (h := h)).pI ta0 hh29 rfl) ta0 rfl p10)
    have p36 := ((NT_fx O ((Fx.rf (wr := [2407]) (h := h)).pI ta0 hh29 rfl) ta0 rfl).trans e15)
    refine g_callI (st := []) (gc_V C lk_LandSurveyModel_357 (k_X12_isName l D cy w z0 O31 e32 ⟨p35, by rw [(pI_e hh29), p36]; omega, by rw [e33, (pI_e hh29), p36]; omega, by rw [e34, (pI_e hh29)]; omega⟩) e32 rfl rfl rfl ⟨by decide, by decide⟩ (Nat.le_of_ble_eq_true rfl) dX12_readRock_29 ⟨(by decide), (by decide)⟩) (fun r37 h38 f40 K39 => ?_)
    obtain ⟨O41, F42, f43, p44⟩ := K39
    rw [e33, (pI_e hh29), p36] at p44
    refine g_if_ne C (iw f43 (by decide) (by decide)) 43 (by decide) dX12_readRock_32 (fun q45 => ?_) (fun q46 => ?_)
    · have f47 : (1 : Int) ≤ r37 ∧ r37 ≤ (1 : Int) := r_nl f43 q45
      refine g_aload_n C rfl 0 rfl dX12_readRock_43 ?_
      have e48 : Tg h38 a0 = 12 := (fxT F42 e32)
      refine g_callI (st := []) (gc_V C lk_LandSurveyModel_361 (k_X12_findRock l D cy w z0 O41 e48) e48 rfl rfl rfl ⟨by decide, by decide⟩ (Nat.le_of_ble_eq_true rfl) dX12_readRock_44 ⟨(by decide), (by decide)⟩) (fun r49 h50 f52 K51 => ?_)
      obtain ⟨O53, F54, f55⟩ := K51
      refine g_if_lt C (iw f55 (by decide) (by decide)) 55 (by decide) dX12_readRock_47 (fun q56 => ?_) (fun q57 => ?_)
      · have f58 : (-1 : Int) ≤ r49 ∧ r49 ≤ (-1 : Int) := r_lt f55 (il 0) q56 (by decide) (by decide)
        refine g_aload_n C rfl 0 rfl dX12_readRock_55 ?_
        have e59 : Tg h50 a0 = 12 := (fxT F54 e48)
        have e60 : Iv h50 a0 8 = v4 := ((fxI F54 e48 rfl).trans ((fxI F42 e32 rfl).trans e33))
        refine gf_I C fk_LandSurveyModel_320 rfl e59 e60 dX12_readRock_56 ?_
        refine g_if_le C (iw f17 (by decide) (by decide)) 63 (by decide) dX12_readRock_59 (fun q61 => ?_) (fun q62 => ?_)
        · refine g_bipush C (by decide) dX12_readRock_63 ?_
          refine g_aload_n C rfl 0 rfl dX12_readRock_65 ?_
          have e63 : Rv h50 a0 12 = v18 := ((fxR F54 e48 rfl).trans ((fxR F42 e32 rfl).trans ((pIR hh29).trans e19)))
          refine gf_R C fk_LandSurveyModel_100 rfl e59 e63 dX12_readRock_66 ?_
          refine g_bipush C (by decide) dX12_readRock_69 ?_
          have e64 : Tg h50 v18 = 112100 := (fxT F54 (fxT F42 ((pIT hh29).trans t20)))
          have e65 : Tg h30 v18 = 112100 := ((pIT hh29).trans t20)
          have e66 : Tg h38 v18 = 112100 := (fxT F42 e65)
          have e67 : Ln h50 v18 = 9 := ((fxL F54 e66).trans ((fxL F42 e65).trans ((pIL hh29).trans l21)))
          have e68 : Iv h50 v18 ((8 : Int).toNat) = v22 := ((fxIa F54 e66 ar_112100 rfl).trans ((fxIa F42 e65 ar_112100 rfl).trans ((pI_n hh29 (ne_tag t20 ta0 (by decide))).trans e23)))
          refine g_iald C e64 rfl e67 (ix (il 8) (by decide) (by decide)) e68 dX12_readRock_71 ?_
          have f69 : (80 : Int) ≤ (80 + v22) ∧ (80 + v22) ≤ (89 : Int) := ia_add (il 80) f27 (by decide) (by decide)
          refine g_iadd C dX12_readRock_72 ?_
          refine g_istore_n C [(1, .inl (80 + v22)), (0, .inr (.inr a0))] rfl (by decide) rfl dX12_readRock_73 ?_
          refine g_aload_n C rfl 1 rfl dX12_readRock_74 ?_
          obtain ⟨v70, e71⟩ : ∃ z, Rv h50 a0 13 = z := ⟨_, rfl⟩
          have t72 := ok_R O53 e59 rE_12_13 e71
          have l73 := ok_L O53 e59 rE_12_13 e71
          refine gf_R C fk_LandSurveyModel_103 rfl e59 e71 dX12_readRock_75 ?_
          refine g_iload_n C rfl 0 rfl dX12_readRock_78 ?_
          refine g_aload_n C rfl 1 rfl dX12_readRock_79 ?_
          obtain ⟨v74, e75⟩ : ∃ z, Rv h50 a0 6 = z := ⟨_, rfl⟩
          have t76 := ok_R O53 e59 rE_12_6 e75
          have l77 := ok_L O53 e59 rE_12_6 e75
          refine gf_R C fk_LandSurveyModel_30 rfl e59 e75 dX12_readRock_80 ?_
          refine g_aload_n C rfl 1 rfl dX12_readRock_83 ?_
          have e78 : Iv h50 a0 7 = (v1 + 1) := ((fxI F54 e48 rfl).trans ((fxI F42 e32 rfl).trans (pI_e hh29)))
          refine gf_I C fk_LandSurveyModel_317 rfl e59 e78 dX12_readRock_84 ?_
          obtain ⟨v79, e80⟩ : ∃ z, Jv h50 v74 ((v1 + 1).toNat) = z := ⟨_, rfl⟩
          have f81 := inL_J O53 e80
          refine g_lald C t76 rfl l77 (by omega) e80 dX12_readRock_87 ?_
          refine g_last C t72 rfl l73 (ix f69 (by decide) (by decide)) f81 dX12_readRock_88 (fun h83 hh82 => ?_)
          have O84 := O53.pJ hh82 f81
          refine g_aload_n C rfl 1 rfl dX12_readRock_89 ?_
          refine g_dup C rfl dX12_readRock_90 ?_
          have e85 : Tg h83 a0 = 12 := ((pJT hh82).trans e59)
          have e86 : Iv h83 a0 7 = (v1 + 1) := ((pJI hh82).trans e78)
          refine gf_I C fk_LandSurveyModel_317 rfl e85 e86 dX12_readRock_91 ?_
          refine g_iconst C dX12_readRock_94 ?_
          have f87 : (2 : Int) ≤ ((v1 + 1) + 1) ∧ ((v1 + 1) + 1) ≤ (1503 : Int) := ia_add f28 (il 1) (by decide) (by decide)
          refine g_iadd C dX12_readRock_95 ?_
          refine gp_I C fk_LandSurveyModel_317 pk_LandSurveyModel_7 rfl e85 (iw f87 (by decide) (by decide)) (nf_i _) dX12_readRock_96 (fun h89 hh88 => ?_)
          have O90 := O84.pI e85 hh88 rI_12_7 (by omega) nofun
          refine g_aload_n C rfl 1 rfl dX12_readRock_99 ?_
          have e91 : Tg h89 a0 = 12 := ((pIT hh88).trans e85)
          obtain ⟨v92, e93⟩ : ∃ z, Rv h89 a0 14 = z := ⟨_, rfl⟩
          have t94 := ok_R O90 e91 rE_12_14 e93
          have l95 := ok_L O90 e91 rE_12_14 e93
          refine gf_R C fk_LandSurveyModel_106 rfl e91 e93 dX12_readRock_100 ?_
          refine g_iload_n C rfl 0 rfl dX12_readRock_103 ?_
          refine g_aload_n C rfl 1 rfl dX12_readRock_104 ?_
          refine g_iconst C dX12_readRock_105 ?_
          refine g_sipush C (by decide) dX12_readRock_106 ?_
          have e96 : Iv h89 a0 8 = v4 := ((pI_j hh88 (by decide)).trans ((pJI hh82).trans e60))
          have e97 : Iv h89 a0 28 = v7 := ((pI_j hh88 (by decide)).trans ((pJI hh82).trans ((fxI F54 e48 rfl).trans ((fxI F42 e32 rfl).trans e34))))
          have p98 := (TK_fx O84 ((Fx.rf (wr := [2407]) (h := h83)).pI e85 hh88 rfl) e85 rfl (TK_fx O53 ((Fx.rf (wr := [22620400]) (h := h50)).pJa t72 ar_113102 hh82 rfl) e59 rfl (TK_fx O41 F54 e48 rfl (TK_fx O31 F42 e32 rfl p35))))
          have p99 := ((NT_fx O84 ((Fx.rf (wr := [2407]) (h := h83)).pI e85 hh88 rfl) e85 rfl).trans ((NT_fx O53 ((Fx.rf (wr := [22620400]) (h := h50)).pJa t72 ar_113102 hh82 rfl) e59 rfl).trans ((NT_fx O41 F54 e48 rfl).trans ((NT_fx O31 F42 e32 rfl).trans p36))))
          refine g_callI (st := [.inl (80 + v22), .inr (.inr v92)]) (gc_V C lk_LandSurveyModel_383 (k_X12_takeNumber l D cy w z0 O90 e91 (iw (il 0) (by decide) (by decide)) (iw (il 200) (by decide) (by decide)) ⟨p98, by rw [(pI_e hh88), p99]; omega, by rw [e96, (pI_e hh88), p99]; omega, by rw [e97, (pI_e hh88)]; omega⟩) e91 rfl rfl rfl ⟨by decide, by decide⟩ (Nat.le_of_ble_eq_true rfl) dX12_readRock_109 ⟨(by decide), (by decide)⟩) (fun r100 h101 f103 K102 => ?_)
          obtain ⟨O104, F105, f106, p107, p108, p109, p110⟩ := K102
          obtain ⟨v111, e112⟩ : ∃ z, Iv h101 a0 7 = z := ⟨_, rfl⟩
          have e113 : Tg h101 a0 = 12 := (fxT F105 e91)
          have f114 := ok_I O104 e113 rI_12_7 e112
          obtain ⟨v115, e116⟩ : ∃ z, Iv h101 a0 8 = z := ⟨_, rfl⟩
          have f117 := ok_I O104 e113 rI_12_8 e116
          have e118 : Iv h101 a0 28 = v7 := ((fxI F105 e91 rfl).trans e97)
          obtain ⟨p119, p120, p121, p122⟩ := p107
          have p123 := ((NT_fx O90 F105 e91 rfl).trans p99)
          rw [e112, p123] at p120
          rw [e116, e112, p123] at p121
          rw [e118, e112] at p122
          have p124 := p108
          unfold ST at p124
          rw [(pI_e hh88), e112, e97, e118, e96, e116] at p124
          rw [e116, e112, (pI_e hh88)] at p110
          have e125 : Tg h101 v92 = 114100 := (fxT F105 t94)
          have e126 : Ln h101 v92 = 90 := ((fxL F105 t94).trans l95)
          refine g_iast C e125 rfl e126 (ix f69 (by decide) (by decide)) (iw f106 (by decide) (by decide)) dX12_readRock_112 (fun h128 hh127 => ?_)
          have O129 := O104.pIa e125 ar_114100 hh127 rI_114100_0 f106 nofun
          refine g_aload_n C rfl 1 rfl dX12_readRock_113 ?_
          refine g_bipush C (by decide) dX12_readRock_114 ?_
          have e130 : Tg h128 a0 = 12 := ((pIT hh127).trans e113)
          have e131 : Iv h128 a0 7 = v111 := ((pI_n hh127 (ne_tag e113 e125 (by decide))).trans e112)
          have e132 : Iv h128 a0 8 = v115 := ((pI_n hh127 (ne_tag e113 e125 (by decide))).trans e116)
          have e133 : Iv h128 a0 28 = v7 := ((pI_n hh127 (ne_tag e113 e125 (by decide))).trans e118)
          have p134 := (TK_fx O104 ((Fx.rf (wr := [22820000]) (h := h101)).pIa e125 ar_114100 hh127 rfl) e113 rfl p119)
          have p135 := ((NT_fx O104 ((Fx.rf (wr := [22820000]) (h := h101)).pIa e125 ar_114100 hh127 rfl) e113 rfl).trans p123)
          refine g_callV (st := []) (gc_V C lk_LandSurveyModel_387 (k_X12_takeWord l D cy w z0 O129 e130 (iw (il 9) (by decide) (by decide)) ⟨p134, by rw [e131, p135]; omega, by rw [e132, e131, p135]; omega, by rw [e133, e131]; omega⟩) e130 rfl rfl rfl ⟨by decide, by decide⟩ (Nat.le_of_ble_eq_true rfl) dX12_readRock_116 ⟨(by decide), (by decide)⟩) (fun h137 K138 => ?_)
          obtain ⟨O140, F141, p142, p143, p144⟩ := K138
          obtain ⟨v145, e146⟩ : ∃ z, Iv h137 a0 7 = z := ⟨_, rfl⟩
          have e147 : Tg h137 a0 = 12 := (fxT F141 e130)
          have f148 := ok_I O140 e147 rI_12_7 e146
          obtain ⟨v149, e150⟩ : ∃ z, Iv h137 a0 8 = z := ⟨_, rfl⟩
          have f151 := ok_I O140 e147 rI_12_8 e150
          have e152 : Iv h137 a0 28 = v7 := ((fxI F141 e130 rfl).trans e133)
          obtain ⟨p153, p154, p155, p156⟩ := p142
          have p157 := ((NT_fx O129 F141 e130 rfl).trans p135)
          rw [e146, p157] at p154
          rw [e150, e146, p157] at p155
          rw [e152, e146] at p156
          have p158 := p143
          unfold ST at p158
          rw [e131, e146, e133, e152, e132, e150] at p158
          rw [e150, e146, e131] at p144
          refine g_aload_n C rfl 1 rfl dX12_readRock_119 ?_
          obtain ⟨v159, e160⟩ : ∃ z, Rv h137 a0 15 = z := ⟨_, rfl⟩
          have t161 := ok_R O140 e147 rE_12_15 e160
          have l162 := ok_L O140 e147 rE_12_15 e160
          refine gf_R C fk_LandSurveyModel_109 rfl e147 e160 dX12_readRock_120 ?_
          refine g_iload_n C rfl 0 rfl dX12_readRock_123 ?_
          refine g_aload_n C rfl 1 rfl dX12_readRock_124 ?_
          refine g_aload_n C rfl 1 rfl dX12_readRock_125 ?_
          have e163 : Rv h137 a0 14 = v92 := ((fxR F141 e130 rfl).trans ((pIR hh127).trans ((fxR F105 e91 rfl).trans e93)))
          refine gf_R C fk_LandSurveyModel_106 rfl e147 e163 dX12_readRock_126 ?_
          refine g_iload_n C rfl 0 rfl dX12_readRock_129 ?_
          have e164 : Tg h137 v92 = 114100 := (fxT F141 ((pIT hh127).trans e125))
          have e165 : Tg h128 v92 = 114100 := ((pIT hh127).trans e125)
          have e166 : Ln h137 v92 = 90 := ((fxL F141 e165).trans ((pIL hh127).trans e126))
          have e167 : Iv h137 v92 ((80 + v22).toNat) = r100 := ((fxIa F141 e165 ar_114100 rfl).trans (pI_e hh127))
          refine g_iald C e164 rfl e166 (ix f69 (by decide) (by decide)) e167 dX12_readRock_130 ?_
          refine g_sipush C (by decide) dX12_readRock_131 ?_
          refine g_callI (st := [.inl (80 + v22), .inr (.inr v159)]) (gc_V C lk_LandSurveyModel_383 (k_X12_takeNumber l D cy w z0 O140 e147 f106 (iw (il 200) (by decide) (by decide)) ⟨p153, by rw [e146, p157]; omega, by rw [e150, e146, p157]; omega, by rw [e152, e146]; omega⟩) e147 rfl rfl rfl ⟨by decide, by decide⟩ (Nat.le_of_ble_eq_true rfl) dX12_readRock_134 ⟨(by decide), (by decide)⟩) (fun r168 h169 f171 K170 => ?_)
          obtain ⟨O172, F173, f174, p175, p176, p177, p178⟩ := K170
          obtain ⟨v179, e180⟩ : ∃ z, Iv h169 a0 7 = z := ⟨_, rfl⟩
          have e181 : Tg h169 a0 = 12 := (fxT F173 e147)
          have f182 := ok_I O172 e181 rI_12_7 e180
          obtain ⟨v183, e184⟩ : ∃ z, Iv h169 a0 8 = z := ⟨_, rfl⟩
          have f185 := ok_I O172 e181 rI_12_8 e184
          have e186 : Iv h169 a0 28 = v7 := ((fxI F173 e147 rfl).trans e152)
          obtain ⟨p187, p188, p189, p190⟩ := p175
          have p191 := ((NT_fx O140 F173 e147 rfl).trans p157)
          rw [e180, p191] at p188
          rw [e184, e180, p191] at p189
          rw [e186, e180] at p190
          have p192 := p176
          unfold ST at p192
          rw [e146, e180, e152, e186, e150, e184] at p192
          rw [e184, e180, e146] at p178
          have e193 : Tg h169 v159 = 115100 := (fxT F173 t161)
          have e194 : Ln h169 v159 = 90 := ((fxL F173 t161).trans l162)
          refine g_iast C e193 rfl e194 (ix f69 (by decide) (by decide)) (iw f174 (by decide) (by decide)) dX12_readRock_137 (fun h196 hh195 => ?_)
          have O197 := O172.pIa e193 ar_115100 hh195 rI_115100_0 f174 nofun
          refine g_aload_n C rfl 1 rfl dX12_readRock_138 ?_
          have e198 : Tg h196 a0 = 12 := ((pIT hh195).trans e181)
          have e199 : Rv h196 a0 12 = v18 := ((pIR hh195).trans ((fxR F173 e147 rfl).trans ((fxR F141 e130 rfl).trans ((pIR hh127).trans ((fxR F105 e91 rfl).trans ((pIR hh88).trans ((pJR hh82).trans e63)))))))
          refine gf_R C fk_LandSurveyModel_100 rfl e198 e199 dX12_readRock_139 ?_
          refine g_bipush C (by decide) dX12_readRock_142 ?_
          refine g_dup2 C rfl rfl dX12_readRock_144 ?_
          have e200 : Tg h196 v18 = 112100 := ((pIT hh195).trans (fxT F173 (fxT F141 ((pIT hh127).trans (fxT F105 ((pIT hh88).trans ((pJT hh82).trans e64)))))))
          have e201 : Tg h89 v18 = 112100 := ((pIT hh88).trans ((pJT hh82).trans e64))
          have e202 : Tg h128 v18 = 112100 := ((pIT hh127).trans (fxT F105 e201))
          have e203 : Tg h137 v18 = 112100 := (fxT F141 e202)
          have e204 : Ln h196 v18 = 9 := ((pIL hh195).trans ((fxL F173 e203).trans ((fxL F141 e202).trans ((pIL hh127).trans ((fxL F105 e201).trans ((pIL hh88).trans ((pJL hh82).trans e67)))))))
          have e205 : Tg h83 v18 = 112100 := ((pJT hh82).trans e64)
          have e206 : Tg h101 v18 = 112100 := (fxT F105 e201)
          have e207 : Tg h169 v18 = 112100 := (fxT F173 e203)
          have e208 : Iv h196 v18 ((8 : Int).toNat) = v22 := ((pI_n hh195 (ne_tag e207 e193 (by decide))).trans ((fxIa F173 e203 ar_112100 rfl).trans ((fxIa F141 e202 ar_112100 rfl).trans ((pI_n hh127 (ne_tag e206 e125 (by decide))).trans ((fxIa F105 e201 ar_112100 rfl).trans ((pI_n hh88 (ne_tag e205 e85 (by decide))).trans ((pJI hh82).trans e68)))))))
          refine g_iald C e200 rfl e204 (ix (il 8) (by decide) (by decide)) e208 dX12_readRock_145 ?_
          refine g_aload_n C rfl 1 rfl dX12_readRock_146 ?_
          have e209 : Iv h196 a0 8 = v183 := ((pI_n hh195 (ne_tag e181 e193 (by decide))).trans e184)
          refine gf_I C fk_LandSurveyModel_320 rfl e198 e209 dX12_readRock_147 ?_
          refine g_if_ne C (iw f185 (by decide) (by decide)) 157 (by decide) dX12_readRock_150 (fun q210 => ?_) (fun q211 => ?_)
          · have f212 : (1 : Int) ≤ v183 ∧ v183 ≤ (24005 : Int) := r_nl f185 q210
            refine g_iconst C dX12_readRock_157 ?_
            have f213 : (0 : Int) ≤ (v22 + 0) ∧ (v22 + 0) ≤ (9 : Int) := ia_add f27 (il 0) (by decide) (by decide)
            refine g_iadd C dX12_readRock_158 ?_
            refine g_iast C e200 rfl e204 (ix (il 8) (by decide) (by decide)) (iw f213 (by decide) (by decide)) dX12_readRock_159 (fun h215 hh214 => ?_)
            have O216 := O197.pIa e200 ar_112100 hh214 rI_112100_0 (iw f213 (by decide) (by decide)) nofun
            have e217 : Iv h215 a0 7 = v179 := ((pI_n hh214 (ne_tag e198 e200 (by decide))).trans ((pI_n hh195 (ne_tag e181 e193 (by decide))).trans e180))
            have e218 : Iv h215 a0 8 = v183 := ((pI_n hh214 (ne_tag e198 e200 (by decide))).trans e209)
            have e219 : Iv h215 a0 28 = v7 := ((pI_n hh214 (ne_tag e198 e200 (by decide))).trans ((pI_n hh195 (ne_tag e181 e193 (by decide))).trans e186))
            have p220 := (TK_fx O197 ((Fx.rf (wr := [22420000]) (h := h196)).pIa e200 ar_112100 hh214 rfl) e198 rfl (TK_fx O172 ((Fx.rf (wr := [23020000]) (h := h169)).pIa e193 ar_115100 hh195 rfl) e181 rfl p187))
            have p221 := ((NT_fx O197 ((Fx.rf (wr := [22420000]) (h := h196)).pIa e200 ar_112100 hh214 rfl) e198 rfl).trans ((NT_fx O172 ((Fx.rf (wr := [23020000]) (h := h169)).pIa e193 ar_115100 hh195 rfl) e181 rfl).trans p191))
            exact g_vret C hr ⟨O216, ((((((((((((Fx.rf (wr := wr_k_X12_readRock)).pI ta0 hh29 rfl).call F42 rfl).call F54 rfl).pJa t72 ar_113102 hh82 rfl).pI e85 hh88 rfl).call F105 rfl).pIa e125 ar_114100 hh127 rfl).call F141 rfl).call F173 rfl).pIa e193 ar_115100 hh195 rfl).pIa e200 ar_112100 hh214 rfl), ⟨p220, by rw [e217, p221]; omega, by rw [e218, e217, p221]; omega, by rw [e219, e217]; omega⟩, (by unfold ST; rw [e2, e217, e8, e219, e5, e218]; omega)⟩ (by decide) (by decide) dX12_readRock_160
          · have f222 : (0 : Int) ≤ v183 ∧ v183 ≤ (0 : Int) := ii f185 (r_eq (il 0) q211) (by decide) (by decide)
            refine g_iconst C dX12_readRock_153 ?_
            refine g_goto C 158 (by decide) dX12_readRock_154 ?_
            have f223 : (1 : Int) ≤ (v22 + 1) ∧ (v22 + 1) ≤ (10 : Int) := ia_add f27 (il 1) (by decide) (by decide)
            refine g_iadd C dX12_readRock_158 ?_
            refine g_iast C e200 rfl e204 (ix (il 8) (by decide) (by decide)) (iw f223 (by decide) (by decide)) dX12_readRock_159 (fun h225 hh224 => ?_)
            have O226 := O197.pIa e200 ar_112100 hh224 rI_112100_0 (iw f223 (by decide) (by decide)) nofun
            have e227 : Iv h225 a0 7 = v179 := ((pI_n hh224 (ne_tag e198 e200 (by decide))).trans ((pI_n hh195 (ne_tag e181 e193 (by decide))).trans e180))
            have e228 : Iv h225 a0 8 = v183 := ((pI_n hh224 (ne_tag e198 e200 (by decide))).trans e209)
            have e229 : Iv h225 a0 28 = v7 := ((pI_n hh224 (ne_tag e198 e200 (by decide))).trans ((pI_n hh195 (ne_tag e181 e193 (by decide))).trans e186))
            have p230 := (TK_fx O197 ((Fx.rf (wr := [22420000]) (h := h196)).pIa e200 ar_112100 hh224 rfl) e198 rfl (TK_fx O172 ((Fx.rf (wr := [23020000]) (h := h169)).pIa e193 ar_115100 hh195 rfl) e181 rfl p187))
            have p231 := ((NT_fx O197 ((Fx.rf (wr := [22420000]) (h := h196)).pIa e200 ar_112100 hh224 rfl) e198 rfl).trans ((NT_fx O172 ((Fx.rf (wr := [23020000]) (h := h169)).pIa e193 ar_115100 hh195 rfl) e181 rfl).trans p191))
            exact g_vret C hr ⟨O226, ((((((((((((Fx.rf (wr := wr_k_X12_readRock)).pI ta0 hh29 rfl).call F42 rfl).call F54 rfl).pJa t72 ar_113102 hh82 rfl).pI e85 hh88 rfl).call F105 rfl).pIa e125 ar_114100 hh127 rfl).call F141 rfl).call F173 rfl).pIa e193 ar_115100 hh195 rfl).pIa e200 ar_112100 hh224 rfl), ⟨p230, by rw [e227, p231]; omega, by rw [e228, e227, p231]; omega, by rw [e229, e227]; omega⟩, (by unfold ST; rw [e2, e227, e8, e229, e5, e228]; omega)⟩ (by decide) (by decide) dX12_readRock_160
        · exact (no_lt (il 0) f17 q62 (by decide)).elim
      · have f232 : (0 : Int) ≤ r49 ∧ r49 ≤ (9 : Int) := r_ge f55 (il 0) q57 (by decide) (by decide)
        refine g_aload_n C rfl 0 rfl dX12_readRock_50 ?_
        refine g_iconst C dX12_readRock_51 ?_
        have e233 : Tg h50 a0 = 12 := (fxT F54 e48)
        refine g_callV (st := []) (gc_V C lk_LandSurveyModel_326 (k_X12_wrong l D cy w z0 O53 e233 (iw (il 3) (by decide) (by decide))) e233 rfl rfl rfl ⟨by decide, by decide⟩ (Nat.le_of_ble_eq_true rfl) dX12_readRock_52 ⟨(by decide), (by decide)⟩) (fun h235 K236 => ?_)
        obtain ⟨O238, F239, p240⟩ := K236
        obtain ⟨v241, e242⟩ : ∃ z, Iv h235 a0 8 = z := ⟨_, rfl⟩
        have e243 : Tg h235 a0 = 12 := (fxT F239 e233)
        have f244 := ok_I O238 e243 rI_12_8 e242
        rw [e242] at p240
        have f245 : (1 : Int) ≤ v241 ∧ v241 ≤ (24005 : Int) := by omega
        refine g_aload_n C rfl 0 rfl dX12_readRock_55 ?_
        refine gf_I C fk_LandSurveyModel_320 rfl e243 e242 dX12_readRock_56 ?_
        refine g_if_le C (iw f245 (by decide) (by decide)) 63 (by decide) dX12_readRock_59 (fun q246 => ?_) (fun q247 => ?_)
        · exact (no_le f245 (il 0) q246 (by decide)).elim
        · have e248 : Iv h235 a0 7 = (v1 + 1) := ((fxI F239 e233 rfl).trans ((fxI F54 e48 rfl).trans ((fxI F42 e32 rfl).trans (pI_e hh29))))
          have e249 : Iv h235 a0 28 = v7 := ((fxI F239 e233 rfl).trans ((fxI F54 e48 rfl).trans ((fxI F42 e32 rfl).trans e34)))
          have p250 := (TK_fx O53 F239 e233 rfl (TK_fx O41 F54 e48 rfl (TK_fx O31 F42 e32 rfl p35)))
          have p251 := ((NT_fx O53 F239 e233 rfl).trans ((NT_fx O41 F54 e48 rfl).trans ((NT_fx O31 F42 e32 rfl).trans p36)))
          exact g_vret C hr ⟨O238, (((((Fx.rf (wr := wr_k_X12_readRock)).pI ta0 hh29 rfl).call F42 rfl).call F54 rfl).call F239 rfl), ⟨p250, by rw [e248, p251]; omega, by rw [e242, e248, p251]; omega, by rw [e249, e248]; omega⟩, (by unfold ST; rw [e2, e248, e8, e249, e5, e242]; omega)⟩ (by decide) (by decide) dX12_readRock_62
    · have f252 : (0 : Int) ≤ r37 ∧ r37 ≤ (0 : Int) := ii f43 (r_eq (il 0) q46) (by decide) (by decide)
      refine g_aload_n C rfl 0 rfl dX12_readRock_35 ?_
      refine g_iconst C dX12_readRock_36 ?_
      have e253 : Tg h38 a0 = 12 := (fxT F42 e32)
      refine g_callV (st := []) (gc_V C lk_LandSurveyModel_326 (k_X12_wrong l D cy w z0 O41 e253 (iw (il 1) (by decide) (by decide))) e253 rfl rfl rfl ⟨by decide, by decide⟩ (Nat.le_of_ble_eq_true rfl) dX12_readRock_37 ⟨(by decide), (by decide)⟩) (fun h255 K256 => ?_)
      obtain ⟨O258, F259, p260⟩ := K256
      obtain ⟨v261, e262⟩ : ∃ z, Iv h255 a0 8 = z := ⟨_, rfl⟩
      have e263 : Tg h255 a0 = 12 := (fxT F259 e253)
      have f264 := ok_I O258 e263 rI_12_8 e262
      rw [e262] at p260
      have f265 : (1 : Int) ≤ v261 ∧ v261 ≤ (24005 : Int) := by omega
      refine g_goto C 55 (by decide) dX12_readRock_40 ?_
      refine g_aload_n C rfl 0 rfl dX12_readRock_55 ?_
      refine gf_I C fk_LandSurveyModel_320 rfl e263 e262 dX12_readRock_56 ?_
      refine g_if_le C (iw f265 (by decide) (by decide)) 63 (by decide) dX12_readRock_59 (fun q266 => ?_) (fun q267 => ?_)
      · exact (no_le f265 (il 0) q266 (by decide)).elim
      · have e268 : Iv h255 a0 7 = (v1 + 1) := ((fxI F259 e253 rfl).trans ((fxI F42 e32 rfl).trans (pI_e hh29)))
        have e269 : Iv h255 a0 28 = v7 := ((fxI F259 e253 rfl).trans ((fxI F42 e32 rfl).trans e34))
        have p270 := (TK_fx O41 F259 e253 rfl (TK_fx O31 F42 e32 rfl p35))
        have p271 := ((NT_fx O41 F259 e253 rfl).trans ((NT_fx O31 F42 e32 rfl).trans p36))
        exact g_vret C hr ⟨O258, ((((Fx.rf (wr := wr_k_X12_readRock)).pI ta0 hh29 rfl).call F42 rfl).call F259 rfl), ⟨p270, by rw [e268, p271]; omega, by rw [e262, e268, p271]; omega, by rw [e269, e268]; omega⟩, (by unfold ST; rw [e2, e268, e8, e269, e5, e262]; omega)⟩ (by decide) (by decide) dX12_readRock_62
  · have f272 : (10 : Int) ≤ v22 ∧ v22 ≤ (10 : Int) := ii f24 (r_eq (il 10) q26) (by decide) (by decide)
    refine g_aload_n C rfl 0 rfl dX12_readRock_12 ?_
    refine g_iconst C dX12_readRock_13 ?_
    refine g_callV (st := []) (gc_V C lk_LandSurveyModel_326 (k_X12_wrong l D cy w z0 O ta0 (iw (il 5) (by decide) (by decide))) ta0 rfl rfl rfl ⟨by decide, by decide⟩ (Nat.le_of_ble_eq_true rfl) dX12_readRock_14 ⟨(by decide), (by decide)⟩) (fun h274 K275 => ?_)
    obtain ⟨O277, F278, p279⟩ := K275
    obtain ⟨v280, e281⟩ : ∃ z, Iv h274 a0 8 = z := ⟨_, rfl⟩
    have e282 : Tg h274 a0 = 12 := (fxT F278 ta0)
    have f283 := ok_I O277 e282 rI_12_8 e281
    rw [e281] at p279
    have f284 : (1 : Int) ≤ v280 ∧ v280 ≤ (24005 : Int) := by omega
    have e285 : Iv h274 a0 7 = v1 := ((fxI F278 ta0 rfl).trans e2)
    have e286 : Iv h274 a0 28 = v7 := ((fxI F278 ta0 rfl).trans e8)
    have p287 := (TK_fx O F278 ta0 rfl p10)
    have p288 := ((NT_fx O F278 ta0 rfl).trans e15)
    exact g_vret C hr ⟨O277, ((Fx.rf (wr := wr_k_X12_readRock)).call F278 rfl), ⟨p287, by rw [e285, p288]; omega, by rw [e281, e285, p288]; omega, by rw [e286, e285]; omega⟩, (by unfold ST; rw [e2, e285, e8, e286, e5, e281]; omega)⟩ (by decide) (by decide) dX12_readRock_17
def wr_k_X12_readBound : List Nat := [2407, 2408, 23620200, 23820000, 24020200, 24220000]
set_option maxRecDepth 100000 in
set_option maxHeartbeats 4000000 in
theorem k_X12_readBound (l : Launch) (D : va_G) (cy : Nat → ClassId) (w : Nat → Nat) (z0 : Nat)  {h : Hp} {a0 : Nat}  (O : Okh h) (ta0 : Tg h a0 = 12) (P_RD : RD h a0) (P_kw : Iv h a0 8 = 0 ∧ Iv h a0 7 < NT h a0) : MV l D cy w z0 yX12_readBound cX12_readBound 3 none 2 43 0 0 [.inr (.inr a0)] h (fun h1 => Okh h1 ∧ Fx wr_k_X12_readBound h h1 ∧ (RD h1 a0) ∧ (ST h h1 a0)) := by
  obtain ⟨v1, e2⟩ : ∃ z, Iv h a0 7 = z := ⟨_, rfl⟩
  have f3 := ok_I O ta0 rI_12_7 e2
  obtain ⟨v4, e5⟩ : ∃ z, Iv h a0 8 = z := ⟨_, rfl⟩
  have f6 := ok_I O ta0 rI_12_8 e5
  obtain ⟨v7, e8⟩ : ∃ z, Iv h a0 28 = z := ⟨_, rfl⟩
  have f9 := ok_I O ta0 rI_12_28 e8
  obtain ⟨p10, p11, p12, p13⟩ := P_RD
  obtain ⟨v14, e15⟩ : ∃ z, NT h a0 = z := ⟨_, rfl⟩
  have f16 : (0 : Int) ≤ v14 ∧ v14 ≤ (1500 : Int) := NT_rng p10 e15
  rw [e2, e15] at p11
  rw [e5, e2, e15] at p12
  rw [e8, e2] at p13
  rw [e5, e2, e15] at P_kw
  have f17 : (0 : Int) ≤ v4 ∧ v4 ≤ (0 : Int) := by omega
  refine hm_go (by decide +kernel) (Nat.le_of_ble_eq_true rfl) (fun p e s m below meth c C hr hn => ?_)
  refine g_aload_n C rfl 0 rfl dX12_readBound_0 ?_
  refine g_iconst C dX12_readBound_1 ?_
  refine g_callI (st := []) (gc_V C lk_LandSurveyModel_330 (k_X12_isWord l D cy w z0 O ta0 (iw (il 4) (by decide) (by decide)) ⟨p10, by rw [e2, e15]; omega, by rw [e5, e2, e15]; omega, by rw [e8, e2]; omega⟩) ta0 rfl rfl rfl ⟨by decide, by decide⟩ (Nat.le_of_ble_eq_true rfl) dX12_readBound_2 ⟨(by decide), (by decide)⟩) (fun r18 h19 f21 K20 => ?_)
  obtain ⟨O22, F23, f24, p25, p26⟩ := K20
  rw [e5, e2, e15] at p25
  obtain ⟨v27, e28⟩ : ∃ z, Rv h a0 4 = z := ⟨_, rfl⟩
  have t29 := ok_R O ta0 rE_12_4 e28
  have l30 := ok_L O ta0 rE_12_4 e28
  obtain ⟨v31, e32⟩ : ∃ z, Iv h v27 v1.toNat = z := ⟨_, rfl⟩
  have f33 := ok_Ia O t29 ar_104100 rI_104100_0 e32
  obtain ⟨v34, e35⟩ : ∃ z, Rv h a0 6 = z := ⟨_, rfl⟩
  have t36 := ok_R O ta0 rE_12_6 e35
  have l37 := ok_L O ta0 rE_12_6 e35
  obtain ⟨v38, e39⟩ : ∃ z, Jv h v34 v1.toNat = z := ⟨_, rfl⟩
  have f40 := inL_J O e39
  obtain ⟨v41, e42⟩ : ∃ z, Rv h a0 9 = z := ⟨_, rfl⟩
  have t43 := ok_R O ta0 rE_12_9 e42
  have l44 := ok_L O ta0 rE_12_9 e42
  obtain ⟨v45, e46⟩ : ∃ z, Jv h v41 ((4 : Int).toNat) = z := ⟨_, rfl⟩
  have f47 := inL_J O e46
  rw [e5, e28, e2, e32, e35, e39, e42, e46] at p26
  refine g_istore_n C [(1, .inl r18), (0, .inr (.inr a0))] rfl (by decide) rfl dX12_readBound_5 ?_
  refine g_iload_n C rfl 0 rfl dX12_readBound_6 ?_
  refine g_if_eq C (iw f24 (by decide) (by decide)) 23 (by decide) dX12_readBound_7 (fun q48 => ?_) (fun q49 => ?_)
  · have f50 : (0 : Int) ≤ r18 ∧ r18 ≤ (0 : Int) := ii f24 (r_eq (il 0) q48) (by decide) (by decide)
    refine g_aload_n C rfl 1 rfl dX12_readBound_23 ?_
    have e51 : Tg h19 a0 = 12 := (fxT F23 ta0)
    obtain ⟨v52, e53⟩ : ∃ z, Rv h19 a0 20 = z := ⟨_, rfl⟩
    have t54 := ok_R O22 e51 rE_12_20 e53
    have l55 := ok_L O22 e51 rE_12_20 e53
    refine gf_R C fk_LandSurveyModel_125 rfl e51 e53 dX12_readBound_24 ?_
    refine g_bipush C (by decide) dX12_readBound_27 ?_
    obtain ⟨v56, e57⟩ : ∃ z, Iv h19 v52 ((8 : Int).toNat) = z := ⟨_, rfl⟩
    have f58 := ok_Ia O22 t54 ar_120101 rI_120101_0 e57
    refine g_zald C t54 rfl l55 (ix (il 8) (by decide) (by decide)) e57 dX12_readBound_29 ?_
    refine g_if_eq C (iw f58 (by decide) (by decide)) 39 (by decide) dX12_readBound_30 (fun q59 => ?_) (fun q60 => ?_)
    · have f61 : (0 : Int) ≤ v56 ∧ v56 ≤ (0 : Int) := ii f58 (r_eq (il 0) q59) (by decide) (by decide)
      refine g_aload_n C rfl 1 rfl dX12_readBound_39 ?_
      refine g_dup C rfl dX12_readBound_40 ?_
      have e62 : Iv h19 a0 7 = v1 := ((fxI F23 ta0 rfl).trans e2)
      refine gf_I C fk_LandSurveyModel_317 rfl e51 e62 dX12_readBound_41 ?_
      refine g_iconst C dX12_readBound_44 ?_
      have f63 : (1 : Int) ≤ (v1 + 1) ∧ (v1 + 1) ≤ (1502 : Int) := ia_add f3 (il 1) (by decide) (by decide)
      refine g_iadd C dX12_readBound_45 ?_
      refine gp_I C fk_LandSurveyModel_317 pk_LandSurveyModel_7 rfl e51 (iw f63 (by decide) (by decide)) (nf_i _) dX12_readBound_46 (fun h65 hh64 => ?_)
      have O66 := O22.pI e51 hh64 rI_12_7 (by omega) nofun
      refine g_aload_n C rfl 1 rfl dX12_readBound_49 ?_
      refine g_iconst C dX12_readBound_50 ?_
      refine g_bipush C (by decide) dX12_readBound_51 ?_
      have e67 : Tg h65 a0 = 12 := ((pIT hh64).trans e51)
      have e68 : Iv h65 a0 8 = v4 := ((pI_j hh64 (by decide)).trans ((fxI F23 ta0 rfl).trans e5))
      have e69 : Iv h65 a0 28 = v7 := ((pI_j hh64 (by decide)).trans ((fxI F23 ta0 rfl).trans e8))
      have p70 := (TK_fx O22 ((Fx.rf (wr := [2407]) (h := h19)).pI e51 hh64 rfl) e51 rfl (TK_fx O F23 ta0 rfl p10))
      have p71 := ((NT_fx O22 ((Fx.rf (wr := [2407]) (h := h19)).pI e51 hh64 rfl) e51 rfl).trans ((NT_fx O F23 ta0 rfl).trans e15))
      refine g_callI (st := []) (gc_V C lk_LandSurveyModel_383 (k_X12_takeNumber l D cy w z0 O66 e67 (iw (il 0) (by decide) (by decide)) (iw (il 99) (by decide) (by decide)) ⟨p70, by rw [(pI_e hh64), p71]; omega, by rw [e68, (pI_e hh64), p71]; omega, by rw [e69, (pI_e hh64)]; omega⟩) e67 rfl rfl rfl ⟨by decide, by decide⟩ (Nat.le_of_ble_eq_true rfl) dX12_readBound_53 ⟨(by decide), (by decide)⟩) (fun r72 h73 f75 K74 => ?_)
      obtain ⟨O76, F77, f78, p79, p80, p81, p82⟩ := K74
      obtain ⟨v83, e84⟩ : ∃ z, Iv h73 a0 7 = z := ⟨_, rfl⟩
      have e85 : Tg h73 a0 = 12 := (fxT F77 e67)
      have f86 := ok_I O76 e85 rI_12_7 e84
      obtain ⟨v87, e88⟩ : ∃ z, Iv h73 a0 8 = z := ⟨_, rfl⟩
      have f89 := ok_I O76 e85 rI_12_8 e88
      have e90 : Iv h73 a0 28 = v7 := ((fxI F77 e67 rfl).trans e69)
      obtain ⟨p91, p92, p93, p94⟩ := p79
      have p95 := ((NT_fx O66 F77 e67 rfl).trans p71)
      rw [e84, p95] at p92
      rw [e88, e84, p95] at p93
      rw [e90, e84] at p94
      have p96 := p80
      unfold ST at p96
      rw [(pI_e hh64), e84, e69, e90, e68, e88] at p96
      rw [e88, e84, (pI_e hh64)] at p82
      refine g_istore_n C [(2, .inl r72), (1, .inl r18), (0, .inr (.inr a0))] rfl (by decide) rfl dX12_readBound_56 ?_
      refine g_iload_n C rfl 1 rfl dX12_readBound_57 ?_
      refine g_if_eq C (iw f50 (by decide) (by decide)) 80 (by decide) dX12_readBound_58 (fun q97 => ?_) (fun q98 => ?_)
      · refine g_aload_n C rfl 2 rfl dX12_readBound_80 ?_
        obtain ⟨v99, e100⟩ : ∃ z, Rv h73 a0 21 = z := ⟨_, rfl⟩
        have t101 := ok_R O76 e85 rE_12_21 e100
        have l102 := ok_L O76 e85 rE_12_21 e100
        refine gf_R C fk_LandSurveyModel_128 rfl e85 e100 dX12_readBound_81 ?_
        refine g_bipush C (by decide) dX12_readBound_84 ?_
        refine g_iload_n C rfl 0 rfl dX12_readBound_86 ?_
        refine g_iast C t101 rfl l102 (ix (il 8) (by decide) (by decide)) (iw f78 (by decide) (by decide)) dX12_readBound_87 (fun h104 hh103 => ?_)
        have O105 := O76.pIa t101 ar_121100 hh103 rI_121100_0 (by omega) nofun
        refine g_aload_n C rfl 2 rfl dX12_readBound_88 ?_
        have e106 : Tg h104 a0 = 12 := ((pIT hh103).trans e85)
        have e107 : Rv h104 a0 20 = v52 := ((pIR hh103).trans ((fxR F77 e67 rfl).trans ((pIR hh64).trans e53)))
        refine gf_R C fk_LandSurveyModel_125 rfl e106 e107 dX12_readBound_89 ?_
        refine g_bipush C (by decide) dX12_readBound_92 ?_
        refine g_iconst C dX12_readBound_94 ?_
        have e108 : Tg h104 v52 = 120101 := ((pIT hh103).trans (fxT F77 ((pIT hh64).trans t54)))
        have e109 : Tg h65 v52 = 120101 := ((pIT hh64).trans t54)
        have e110 : Ln h104 v52 = 9 := ((pIL hh103).trans ((fxL F77 e109).trans ((pIL hh64).trans l55)))
        refine g_zast C e108 rfl e110 (ix (il 8) (by decide) (by decide)) (iw (il 1) (by decide) (by decide)) dX12_readBound_95 (fun h112 hh111 => ?_)
        have O113 := O105.pIa e108 ar_120101 hh111 rI_120101_0 (iw (il 1) (by decide) (by decide)) nofun
        have e114 : Iv h112 a0 7 = v83 := ((pI_n hh111 (ne_tag e106 e108 (by decide))).trans ((pI_n hh103 (ne_tag e85 t101 (by decide))).trans e84))
        have e115 : Iv h112 a0 8 = v87 := ((pI_n hh111 (ne_tag e106 e108 (by decide))).trans ((pI_n hh103 (ne_tag e85 t101 (by decide))).trans e88))
        have e116 : Iv h112 a0 28 = v7 := ((pI_n hh111 (ne_tag e106 e108 (by decide))).trans ((pI_n hh103 (ne_tag e85 t101 (by decide))).trans e90))
        have p117 := (TK_fx O105 ((Fx.rf (wr := [24020200]) (h := h104)).pIa e108 ar_120101 hh111 rfl) e106 rfl (TK_fx O76 ((Fx.rf (wr := [24220000]) (h := h73)).pIa t101 ar_121100 hh103 rfl) e85 rfl p91))
        have p118 := ((NT_fx O105 ((Fx.rf (wr := [24020200]) (h := h104)).pIa e108 ar_120101 hh111 rfl) e106 rfl).trans ((NT_fx O76 ((Fx.rf (wr := [24220000]) (h := h73)).pIa t101 ar_121100 hh103 rfl) e85 rfl).trans p95))
        exact g_vret C hr ⟨O113, ((((((Fx.rf (wr := wr_k_X12_readBound)).call F23 rfl).pI e51 hh64 rfl).call F77 rfl).pIa t101 ar_121100 hh103 rfl).pIa e108 ar_120101 hh111 rfl), ⟨p117, by rw [e114, p118]; omega, by rw [e115, e114, p118]; omega, by rw [e116, e114]; omega⟩, (by unfold ST; rw [e2, e114, e8, e116, e5, e115]; omega)⟩ (by decide) (by decide) dX12_readBound_96
      · exact (no_ne f50 (il 0) q98 (by decide)).elim
    · have f119 : (1 : Int) ≤ v56 ∧ v56 ≤ (1 : Int) := r_nl f58 q60
      refine g_aload_n C rfl 1 rfl dX12_readBound_33 ?_
      refine g_iconst C dX12_readBound_34 ?_
      refine g_callV (st := []) (gc_V C lk_LandSurveyModel_326 (k_X12_wrong l D cy w z0 O22 e51 (iw (il 3) (by decide) (by decide))) e51 rfl rfl rfl ⟨by decide, by decide⟩ (Nat.le_of_ble_eq_true rfl) dX12_readBound_35 ⟨(by decide), (by decide)⟩) (fun h121 K122 => ?_)
      obtain ⟨O124, F125, p126⟩ := K122
      obtain ⟨v127, e128⟩ : ∃ z, Iv h121 a0 8 = z := ⟨_, rfl⟩
      have e129 : Tg h121 a0 = 12 := (fxT F125 e51)
      have f130 := ok_I O124 e129 rI_12_8 e128
      rw [e128] at p126
      have f131 : (1 : Int) ≤ v127 ∧ v127 ≤ (24005 : Int) := by omega
      have e132 : Iv h121 a0 7 = v1 := ((fxI F125 e51 rfl).trans ((fxI F23 ta0 rfl).trans e2))
      have e133 : Iv h121 a0 28 = v7 := ((fxI F125 e51 rfl).trans ((fxI F23 ta0 rfl).trans e8))
      have p134 := (TK_fx O22 F125 e51 rfl (TK_fx O F23 ta0 rfl p10))
      have p135 := ((NT_fx O22 F125 e51 rfl).trans ((NT_fx O F23 ta0 rfl).trans e15))
      exact g_vret C hr ⟨O124, (((Fx.rf (wr := wr_k_X12_readBound)).call F23 rfl).call F125 rfl), ⟨p134, by rw [e132, p135]; omega, by rw [e128, e132, p135]; omega, by rw [e133, e132]; omega⟩, (by unfold ST; rw [e2, e132, e8, e133, e5, e128]; omega)⟩ (by decide) (by decide) dX12_readBound_38
  · have f136 : (1 : Int) ≤ r18 ∧ r18 ≤ (1 : Int) := r_nl f24 q49
    refine g_aload_n C rfl 1 rfl dX12_readBound_10 ?_
    have e137 : Tg h19 a0 = 12 := (fxT F23 ta0)
    obtain ⟨v138, e139⟩ : ∃ z, Rv h19 a0 18 = z := ⟨_, rfl⟩
    have t140 := ok_R O22 e137 rE_12_18 e139
    have l141 := ok_L O22 e137 rE_12_18 e139
    refine gf_R C fk_LandSurveyModel_119 rfl e137 e139 dX12_readBound_11 ?_
    refine g_bipush C (by decide) dX12_readBound_14 ?_
    obtain ⟨v142, e143⟩ : ∃ z, Iv h19 v138 ((8 : Int).toNat) = z := ⟨_, rfl⟩
    have f144 := ok_Ia O22 t140 ar_118101 rI_118101_0 e143
    refine g_zald C t140 rfl l141 (ix (il 8) (by decide) (by decide)) e143 dX12_readBound_16 ?_
    refine g_if_eq C (iw f144 (by decide) (by decide)) 39 (by decide) dX12_readBound_17 (fun q145 => ?_) (fun q146 => ?_)
    · have f147 : (0 : Int) ≤ v142 ∧ v142 ≤ (0 : Int) := ii f144 (r_eq (il 0) q145) (by decide) (by decide)
      refine g_aload_n C rfl 1 rfl dX12_readBound_39 ?_
      refine g_dup C rfl dX12_readBound_40 ?_
      have e148 : Iv h19 a0 7 = v1 := ((fxI F23 ta0 rfl).trans e2)
      refine gf_I C fk_LandSurveyModel_317 rfl e137 e148 dX12_readBound_41 ?_
      refine g_iconst C dX12_readBound_44 ?_
      have f149 : (1 : Int) ≤ (v1 + 1) ∧ (v1 + 1) ≤ (1502 : Int) := ia_add f3 (il 1) (by decide) (by decide)
      refine g_iadd C dX12_readBound_45 ?_
      refine gp_I C fk_LandSurveyModel_317 pk_LandSurveyModel_7 rfl e137 (iw f149 (by decide) (by decide)) (nf_i _) dX12_readBound_46 (fun h151 hh150 => ?_)
      have O152 := O22.pI e137 hh150 rI_12_7 (by omega) nofun
      refine g_aload_n C rfl 1 rfl dX12_readBound_49 ?_
      refine g_iconst C dX12_readBound_50 ?_
      refine g_bipush C (by decide) dX12_readBound_51 ?_
      have e153 : Tg h151 a0 = 12 := ((pIT hh150).trans e137)
      have e154 : Iv h151 a0 8 = v4 := ((pI_j hh150 (by decide)).trans ((fxI F23 ta0 rfl).trans e5))
      have e155 : Iv h151 a0 28 = v7 := ((pI_j hh150 (by decide)).trans ((fxI F23 ta0 rfl).trans e8))
      have p156 := (TK_fx O22 ((Fx.rf (wr := [2407]) (h := h19)).pI e137 hh150 rfl) e137 rfl (TK_fx O F23 ta0 rfl p10))
      have p157 := ((NT_fx O22 ((Fx.rf (wr := [2407]) (h := h19)).pI e137 hh150 rfl) e137 rfl).trans ((NT_fx O F23 ta0 rfl).trans e15))
      refine g_callI (st := []) (gc_V C lk_LandSurveyModel_383 (k_X12_takeNumber l D cy w z0 O152 e153 (iw (il 0) (by decide) (by decide)) (iw (il 99) (by decide) (by decide)) ⟨p156, by rw [(pI_e hh150), p157]; omega, by rw [e154, (pI_e hh150), p157]; omega, by rw [e155, (pI_e hh150)]; omega⟩) e153 rfl rfl rfl ⟨by decide, by decide⟩ (Nat.le_of_ble_eq_true rfl) dX12_readBound_53 ⟨(by decide), (by decide)⟩) (fun r158 h159 f161 K160 => ?_)
      obtain ⟨O162, F163, f164, p165, p166, p167, p168⟩ := K160
      obtain ⟨v169, e170⟩ : ∃ z, Iv h159 a0 7 = z := ⟨_, rfl⟩
      have e171 : Tg h159 a0 = 12 := (fxT F163 e153)
      have f172 := ok_I O162 e171 rI_12_7 e170
      obtain ⟨v173, e174⟩ : ∃ z, Iv h159 a0 8 = z := ⟨_, rfl⟩
      have f175 := ok_I O162 e171 rI_12_8 e174
      have e176 : Iv h159 a0 28 = v7 := ((fxI F163 e153 rfl).trans e155)
      obtain ⟨p177, p178, p179, p180⟩ := p165
      have p181 := ((NT_fx O152 F163 e153 rfl).trans p157)
      rw [e170, p181] at p178
      rw [e174, e170, p181] at p179
      rw [e176, e170] at p180
      have p182 := p166
      unfold ST at p182
      rw [(pI_e hh150), e170, e155, e176, e154, e174] at p182
      rw [e174, e170, (pI_e hh150)] at p168
      refine g_istore_n C [(2, .inl r158), (1, .inl r18), (0, .inr (.inr a0))] rfl (by decide) rfl dX12_readBound_56 ?_
      refine g_iload_n C rfl 1 rfl dX12_readBound_57 ?_
      refine g_if_eq C (iw f136 (by decide) (by decide)) 80 (by decide) dX12_readBound_58 (fun q183 => ?_) (fun q184 => ?_)
      · exact (no_eq f136 (il 0) q183 (by decide)).elim
      · refine g_aload_n C rfl 2 rfl dX12_readBound_61 ?_
        obtain ⟨v185, e186⟩ : ∃ z, Rv h159 a0 19 = z := ⟨_, rfl⟩
        have t187 := ok_R O162 e171 rE_12_19 e186
        have l188 := ok_L O162 e171 rE_12_19 e186
        refine gf_R C fk_LandSurveyModel_122 rfl e171 e186 dX12_readBound_62 ?_
        refine g_bipush C (by decide) dX12_readBound_65 ?_
        refine g_iload_n C rfl 0 rfl dX12_readBound_67 ?_
        refine g_iast C t187 rfl l188 (ix (il 8) (by decide) (by decide)) (iw f164 (by decide) (by decide)) dX12_readBound_68 (fun h190 hh189 => ?_)
        have O191 := O162.pIa t187 ar_119100 hh189 rI_119100_0 (by omega) nofun
        refine g_aload_n C rfl 2 rfl dX12_readBound_69 ?_
        have e192 : Tg h190 a0 = 12 := ((pIT hh189).trans e171)
        have e193 : Rv h190 a0 18 = v138 := ((pIR hh189).trans ((fxR F163 e153 rfl).trans ((pIR hh150).trans e139)))
        refine gf_R C fk_LandSurveyModel_119 rfl e192 e193 dX12_readBound_70 ?_
        refine g_bipush C (by decide) dX12_readBound_73 ?_
        refine g_iconst C dX12_readBound_75 ?_
        have e194 : Tg h190 v138 = 118101 := ((pIT hh189).trans (fxT F163 ((pIT hh150).trans t140)))
        have e195 : Tg h151 v138 = 118101 := ((pIT hh150).trans t140)
        have e196 : Ln h190 v138 = 9 := ((pIL hh189).trans ((fxL F163 e195).trans ((pIL hh150).trans l141)))
        refine g_zast C e194 rfl e196 (ix (il 8) (by decide) (by decide)) (iw (il 1) (by decide) (by decide)) dX12_readBound_76 (fun h198 hh197 => ?_)
        have O199 := O191.pIa e194 ar_118101 hh197 rI_118101_0 (iw (il 1) (by decide) (by decide)) nofun
        refine g_goto C 96 (by decide) dX12_readBound_77 ?_
        have e200 : Iv h198 a0 7 = v169 := ((pI_n hh197 (ne_tag e192 e194 (by decide))).trans ((pI_n hh189 (ne_tag e171 t187 (by decide))).trans e170))
        have e201 : Iv h198 a0 8 = v173 := ((pI_n hh197 (ne_tag e192 e194 (by decide))).trans ((pI_n hh189 (ne_tag e171 t187 (by decide))).trans e174))
        have e202 : Iv h198 a0 28 = v7 := ((pI_n hh197 (ne_tag e192 e194 (by decide))).trans ((pI_n hh189 (ne_tag e171 t187 (by decide))).trans e176))
        have p203 := (TK_fx O191 ((Fx.rf (wr := [23620200]) (h := h190)).pIa e194 ar_118101 hh197 rfl) e192 rfl (TK_fx O162 ((Fx.rf (wr := [23820000]) (h := h159)).pIa t187 ar_119100 hh189 rfl) e171 rfl p177))
        have p204 := ((NT_fx O191 ((Fx.rf (wr := [23620200]) (h := h190)).pIa e194 ar_118101 hh197 rfl) e192 rfl).trans ((NT_fx O162 ((Fx.rf (wr := [23820000]) (h := h159)).pIa t187 ar_119100 hh189 rfl) e171 rfl).trans p181))
        exact g_vret C hr ⟨O199, ((((((Fx.rf (wr := wr_k_X12_readBound)).call F23 rfl).pI e137 hh150 rfl).call F163 rfl).pIa t187 ar_119100 hh189 rfl).pIa e194 ar_118101 hh197 rfl), ⟨p203, by rw [e200, p204]; omega, by rw [e201, e200, p204]; omega, by rw [e202, e200]; omega⟩, (by unfold ST; rw [e2, e200, e8, e202, e5, e201]; omega)⟩ (by decide) (by decide) dX12_readBound_96
    · have f205 : (1 : Int) ≤ v142 ∧ v142 ≤ (1 : Int) := r_nl f144 q146
      refine g_goto C 33 (by decide) dX12_readBound_20 ?_
      refine g_aload_n C rfl 1 rfl dX12_readBound_33 ?_
      refine g_iconst C dX12_readBound_34 ?_
      refine g_callV (st := []) (gc_V C lk_LandSurveyModel_326 (k_X12_wrong l D cy w z0 O22 e137 (iw (il 3) (by decide) (by decide))) e137 rfl rfl rfl ⟨by decide, by decide⟩ (Nat.le_of_ble_eq_true rfl) dX12_readBound_35 ⟨(by decide), (by decide)⟩) (fun h207 K208 => ?_)
      obtain ⟨O210, F211, p212⟩ := K208
      obtain ⟨v213, e214⟩ : ∃ z, Iv h207 a0 8 = z := ⟨_, rfl⟩
      have e215 : Tg h207 a0 = 12 := (fxT F211 e137)
      have f216 := ok_I O210 e215 rI_12_8 e214
      rw [e214] at p212
      have f217 : (1 : Int) ≤ v213 ∧ v213 ≤ (24005 : Int) := by omega
      have e218 : Iv h207 a0 7 = v1 := ((fxI F211 e137 rfl).trans ((fxI F23 ta0 rfl).trans e2))
      have e219 : Iv h207 a0 28 = v7 := ((fxI F211 e137 rfl).trans ((fxI F23 ta0 rfl).trans e8))
      have p220 := (TK_fx O22 F211 e137 rfl (TK_fx O F23 ta0 rfl p10))
      have p221 := ((NT_fx O22 F211 e137 rfl).trans ((NT_fx O F23 ta0 rfl).trans e15))
      exact g_vret C hr ⟨O210, (((Fx.rf (wr := wr_k_X12_readBound)).call F23 rfl).call F211 rfl), ⟨p220, by rw [e218, p221]; omega, by rw [e214, e218, p221]; omega, by rw [e219, e218]; omega⟩, (by unfold ST; rw [e2, e218, e8, e219, e5, e214]; omega)⟩ (by decide) (by decide) dX12_readBound_38
def wr_k_X12_readRemain : List Nat := [2407, 2408, 24420000, 24620000]
set_option maxRecDepth 100000 in
set_option maxHeartbeats 4000000 in
theorem k_X12_readRemain (l : Launch) (D : va_G) (cy : Nat → ClassId) (w : Nat → Nat) (z0 : Nat)  {h : Hp} {a0 : Nat}  (O : Okh h) (ta0 : Tg h a0 = 12) (P_RD : RD h a0) (P_kw : Iv h a0 8 = 0 ∧ Iv h a0 7 < NT h a0) : MV l D cy w z0 yX12_readRemain cX12_readRemain 5 none 3 64 0 0 [.inr (.inr a0)] h (fun h1 => Okh h1 ∧ Fx wr_k_X12_readRemain h h1 ∧ (RD h1 a0) ∧ (ST h h1 a0)) := by
  obtain ⟨v1, e2⟩ : ∃ z, Iv h a0 7 = z := ⟨_, rfl⟩
  have f3 := ok_I O ta0 rI_12_7 e2
  obtain ⟨v4, e5⟩ : ∃ z, Iv h a0 8 = z := ⟨_, rfl⟩
  have f6 := ok_I O ta0 rI_12_8 e5
  obtain ⟨v7, e8⟩ : ∃ z, Iv h a0 28 = z := ⟨_, rfl⟩
  have f9 := ok_I O ta0 rI_12_28 e8
  obtain ⟨p10, p11, p12, p13⟩ := P_RD
  obtain ⟨v14, e15⟩ : ∃ z, NT h a0 = z := ⟨_, rfl⟩
  have f16 : (0 : Int) ≤ v14 ∧ v14 ≤ (1500 : Int) := NT_rng p10 e15
  rw [e2, e15] at p11
  rw [e5, e2, e15] at p12
  rw [e8, e2] at p13
  rw [e5, e2, e15] at P_kw
  have f17 : (0 : Int) ≤ v4 ∧ v4 ≤ (0 : Int) := by omega
  refine hm_go (by decide +kernel) (Nat.le_of_ble_eq_true rfl) (fun p e s m below meth c C hr hn => ?_)
  refine g_aload_n C rfl 0 rfl dX12_readRemain_0 ?_
  refine g_dup C rfl dX12_readRemain_1 ?_
  refine gf_I C fk_LandSurveyModel_317 rfl ta0 e2 dX12_readRemain_2 ?_
  refine g_iconst C dX12_readRemain_5 ?_
  have f18 : (1 : Int) ≤ (v1 + 1) ∧ (v1 + 1) ≤ (1502 : Int) := ia_add f3 (il 1) (by decide) (by decide)
  refine g_iadd C dX12_readRemain_6 ?_
  refine gp_I C fk_LandSurveyModel_317 pk_LandSurveyModel_7 rfl ta0 (iw f18 (by decide) (by decide)) (nf_i _) dX12_readRemain_7 (fun h20 hh19 => ?_)
  have O21 := O.pI ta0 hh19 rI_12_7 (by omega) nofun
  refine g_aload_n C rfl 0 rfl dX12_readRemain_10 ?_
  have e22 : Tg h20 a0 = 12 := ((pIT hh19).trans ta0)
  obtain ⟨v23, e24⟩ : ∃ z, Rv h20 a0 4 = z := ⟨_, rfl⟩
  have t25 := ok_R O21 e22 rE_12_4 e24
  have l26 := ok_L O21 e22 rE_12_4 e24
  refine gf_R C fk_LandSurveyModel_24 rfl e22 e24 dX12_readRemain_11 ?_
  refine g_aload_n C rfl 0 rfl dX12_readRemain_14 ?_
  refine gf_I C fk_LandSurveyModel_317 rfl e22 (pI_e hh19) dX12_readRemain_15 ?_
  obtain ⟨v27, e28⟩ : ∃ z, Iv h20 v23 ((v1 + 1).toNat) = z := ⟨_, rfl⟩
  have f29 := ok_Ia O21 t25 ar_104100 rI_104100_0 e28
  refine g_iald C t25 rfl l26 (by omega) e28 dX12_readRemain_18 ?_
  refine g_iconst C dX12_readRemain_19 ?_
  refine g_icmp_ne C (iw f29 (by decide) (by decide)) (iw (il 2) (by decide) (by decide)) 65 (by decide) dX12_readRemain_20 (fun q30 => ?_) (fun q31 => ?_)
  · refine g_bipush C (by decide) dX12_readRemain_65 ?_
    refine g_aload_n C rfl 0 rfl dX12_readRemain_67 ?_
    refine g_iconst C dX12_readRemain_68 ?_
    refine g_bipush C (by decide) dX12_readRemain_69 ?_
    have e32 : Iv h20 a0 8 = v4 := ((pI_j hh19 (by decide)).trans e5)
    have e33 : Iv h20 a0 28 = v7 := ((pI_j hh19 (by decide)).trans e8)
    have p34 := (TK_fx O ((Fx.rf (wr := [2407]) (h := h)).pI ta0 hh19 rfl) ta0 rfl p10)
    have p35 := ((NT_fx O ((Fx.rf (wr := [2407]) (h := h)).pI ta0 hh19 rfl) ta0 rfl).trans e15)
    refine g_callI (st := [.inl 80]) (gc_V C lk_LandSurveyModel_383 (k_X12_takeNumber l D cy w z0 O21 e22 (iw (il 0) (by decide) (by decide)) (iw (il 9) (by decide) (by decide)) ⟨p34, by rw [(pI_e hh19), p35]; omega, by rw [e32, (pI_e hh19), p35]; omega, by rw [e33, (pI_e hh19)]; omega⟩) e22 rfl rfl rfl ⟨by decide, by decide⟩ (Nat.le_of_ble_eq_true rfl) dX12_readRemain_71 ⟨(by decide), (by decide)⟩) (fun r36 h37 f39 K38 => ?_)
    obtain ⟨O40, F41, f42, p43, p44, p45, p46⟩ := K38
    obtain ⟨v47, e48⟩ : ∃ z, Iv h37 a0 7 = z := ⟨_, rfl⟩
    have e49 : Tg h37 a0 = 12 := (fxT F41 e22)
    have f50 := ok_I O40 e49 rI_12_7 e48
    obtain ⟨v51, e52⟩ : ∃ z, Iv h37 a0 8 = z := ⟨_, rfl⟩
    have f53 := ok_I O40 e49 rI_12_8 e52
    have e54 : Iv h37 a0 28 = v7 := ((fxI F41 e22 rfl).trans e33)
    obtain ⟨p55, p56, p57, p58⟩ := p43
    have p59 := ((NT_fx O21 F41 e22 rfl).trans p35)
    rw [e48, p59] at p56
    rw [e52, e48, p59] at p57
    rw [e54, e48] at p58
    have p60 := p44
    unfold ST at p60
    rw [(pI_e hh19), e48, e33, e54, e32, e52] at p60
    rw [e52, e48, (pI_e hh19)] at p46
    have f61 : (80 : Int) ≤ (80 + r36) ∧ (80 + r36) ≤ (280 : Int) := ia_add (il 80) f42 (by decide) (by decide)
    refine g_iadd C dX12_readRemain_74 ?_
    refine g_istore_n C [(1, .inl (80 + r36)), (0, .inr (.inr a0))] rfl (by decide) rfl dX12_readRemain_75 ?_
    refine g_aload_n C rfl 1 rfl dX12_readRemain_76 ?_
    refine g_bipush C (by decide) dX12_readRemain_77 ?_
    refine g_callV (st := []) (gc_V C lk_LandSurveyModel_387 (k_X12_takeWord l D cy w z0 O40 e49 (iw (il 10) (by decide) (by decide)) ⟨p55, by rw [e48, p59]; omega, by rw [e52, e48, p59]; omega, by rw [e54, e48]; omega⟩) e49 rfl rfl rfl ⟨by decide, by decide⟩ (Nat.le_of_ble_eq_true rfl) dX12_readRemain_79 ⟨(by decide), (by decide)⟩) (fun h63 K64 => ?_)
    obtain ⟨O66, F67, p68, p69, p70⟩ := K64
    obtain ⟨v71, e72⟩ : ∃ z, Iv h63 a0 7 = z := ⟨_, rfl⟩
    have e73 : Tg h63 a0 = 12 := (fxT F67 e49)
    have f74 := ok_I O66 e73 rI_12_7 e72
    obtain ⟨v75, e76⟩ : ∃ z, Iv h63 a0 8 = z := ⟨_, rfl⟩
    have f77 := ok_I O66 e73 rI_12_8 e76
    have e78 : Iv h63 a0 28 = v7 := ((fxI F67 e49 rfl).trans e54)
    obtain ⟨p79, p80, p81, p82⟩ := p68
    have p83 := ((NT_fx O40 F67 e49 rfl).trans p59)
    rw [e72, p83] at p80
    rw [e76, e72, p83] at p81
    rw [e78, e72] at p82
    have p84 := p69
    unfold ST at p84
    rw [e48, e72, e54, e78, e52, e76] at p84
    rw [e76, e72, e48] at p70
    refine g_aload_n C rfl 1 rfl dX12_readRemain_82 ?_
    refine g_callI (st := []) (gc_V C lk_LandSurveyModel_374 (k_X12_takeRock l D cy w z0 O66 e73 ⟨p79, by rw [e72, p83]; omega, by rw [e76, e72, p83]; omega, by rw [e78, e72]; omega⟩) e73 rfl rfl rfl ⟨by decide, by decide⟩ (Nat.le_of_ble_eq_true rfl) dX12_readRemain_83 ⟨(by decide), (by decide)⟩) (fun r85 h86 f88 K87 => ?_)
    obtain ⟨O89, F90, f91, p92, p93⟩ := K87
    obtain ⟨v94, e95⟩ : ∃ z, Iv h86 a0 7 = z := ⟨_, rfl⟩
    have e96 : Tg h86 a0 = 12 := (fxT F90 e73)
    have f97 := ok_I O89 e96 rI_12_7 e95
    obtain ⟨v98, e99⟩ : ∃ z, Iv h86 a0 8 = z := ⟨_, rfl⟩
    have f100 := ok_I O89 e96 rI_12_8 e99
    have e101 : Iv h86 a0 28 = v7 := ((fxI F90 e73 rfl).trans e78)
    obtain ⟨p102, p103, p104, p105⟩ := p92
    have p106 := ((NT_fx O66 F90 e73 rfl).trans p83)
    rw [e95, p106] at p103
    rw [e99, e95, p106] at p104
    rw [e101, e95] at p105
    have p107 := p93
    unfold ST at p107
    rw [e72, e95, e78, e101, e76, e99] at p107
    refine g_istore_n C [(2, .inl r85), (1, .inl (80 + r36)), (0, .inr (.inr a0))] rfl (by decide) rfl dX12_readRemain_86 ?_
    refine g_aload_n C rfl 2 rfl dX12_readRemain_87 ?_
    refine g_bipush C (by decide) dX12_readRemain_88 ?_
    refine g_callV (st := []) (gc_V C lk_LandSurveyModel_387 (k_X12_takeWord l D cy w z0 O89 e96 (iw (il 9) (by decide) (by decide)) ⟨p102, by rw [e95, p106]; omega, by rw [e99, e95, p106]; omega, by rw [e101, e95]; omega⟩) e96 rfl rfl rfl ⟨by decide, by decide⟩ (Nat.le_of_ble_eq_true rfl) dX12_readRemain_90 ⟨(by decide), (by decide)⟩) (fun h109 K110 => ?_)
    obtain ⟨O112, F113, p114, p115, p116⟩ := K110
    obtain ⟨v117, e118⟩ : ∃ z, Iv h109 a0 7 = z := ⟨_, rfl⟩
    have e119 : Tg h109 a0 = 12 := (fxT F113 e96)
    have f120 := ok_I O112 e119 rI_12_7 e118
    obtain ⟨v121, e122⟩ : ∃ z, Iv h109 a0 8 = z := ⟨_, rfl⟩
    have f123 := ok_I O112 e119 rI_12_8 e122
    have e124 : Iv h109 a0 28 = v7 := ((fxI F113 e96 rfl).trans e101)
    obtain ⟨p125, p126, p127, p128⟩ := p114
    have p129 := ((NT_fx O89 F113 e96 rfl).trans p106)
    rw [e118, p129] at p126
    rw [e122, e118, p129] at p127
    rw [e124, e118] at p128
    have p130 := p115
    unfold ST at p130
    rw [e95, e118, e101, e124, e99, e122] at p130
    rw [e122, e118, e95] at p116
    refine g_aload_n C rfl 2 rfl dX12_readRemain_93 ?_
    refine gf_I C fk_LandSurveyModel_317 rfl e119 e118 dX12_readRemain_94 ?_
    refine g_istore_n C [(3, .inl v117), (2, .inl r85), (1, .inl (80 + r36)), (0, .inr (.inr a0))] rfl (by decide) rfl dX12_readRemain_97 ?_
    refine g_aload_n C rfl 3 rfl dX12_readRemain_98 ?_
    refine g_callI (st := []) (gc_V C lk_LandSurveyModel_374 (k_X12_takeRock l D cy w z0 O112 e119 ⟨p125, by rw [e118, p129]; omega, by rw [e122, e118, p129]; omega, by rw [e124, e118]; omega⟩) e119 rfl rfl rfl ⟨by decide, by decide⟩ (Nat.le_of_ble_eq_true rfl) dX12_readRemain_99 ⟨(by decide), (by decide)⟩) (fun r131 h132 f134 K133 => ?_)
    obtain ⟨O135, F136, f137, p138, p139⟩ := K133
    obtain ⟨v140, e141⟩ : ∃ z, Iv h132 a0 7 = z := ⟨_, rfl⟩
    have e142 : Tg h132 a0 = 12 := (fxT F136 e119)
    have f143 := ok_I O135 e142 rI_12_7 e141
    obtain ⟨v144, e145⟩ : ∃ z, Iv h132 a0 8 = z := ⟨_, rfl⟩
    have f146 := ok_I O135 e142 rI_12_8 e145
    have e147 : Iv h132 a0 28 = v7 := ((fxI F136 e119 rfl).trans e124)
    obtain ⟨p148, p149, p150, p151⟩ := p138
    have p152 := ((NT_fx O112 F136 e119 rfl).trans p129)
    rw [e141, p152] at p149
    rw [e145, e141, p152] at p150
    rw [e147, e141] at p151
    have p153 := p139
    unfold ST at p153
    rw [e118, e141, e124, e147, e122, e145] at p153
    refine g_istore C [(4, .inl r131), (3, .inl v117), (2, .inl r85), (1, .inl (80 + r36)), (0, .inr (.inr a0))] (by decide) rfl dX12_readRemain_102 ?_
    refine g_aload_n C rfl 4 rfl dX12_readRemain_104 ?_
    refine gf_I C fk_LandSurveyModel_320 rfl e142 e145 dX12_readRemain_105 ?_
    refine g_if_ne C (iw f146 (by decide) (by decide)) 132 (by decide) dX12_readRemain_108 (fun q154 => ?_) (fun q155 => ?_)
    · have f156 : (1 : Int) ≤ v144 ∧ v144 ≤ (24005 : Int) := r_nl f146 q154
      refine g_aload_n C rfl 4 rfl dX12_readRemain_132 ?_
      refine gf_I C fk_LandSurveyModel_320 rfl e142 e145 dX12_readRemain_133 ?_
      refine g_if_ne C (iw f156 (by decide) (by decide)) 154 (by decide) dX12_readRemain_136 (fun q157 => ?_) (fun q158 => ?_)
      · exact g_vret C hr ⟨O135, (((((((Fx.rf (wr := wr_k_X12_readRemain)).pI ta0 hh19 rfl).call F41 rfl).call F67 rfl).call F90 rfl).call F113 rfl).call F136 rfl), ⟨p148, by rw [e141, p152]; omega, by rw [e145, e141, p152]; omega, by rw [e147, e141]; omega⟩, (by unfold ST; rw [e2, e141, e8, e147, e5, e145]; omega)⟩ (by decide) (by decide) dX12_readRemain_154
      · exact (no_eq f156 (il 0) q158 (by decide)).elim
    · have f159 : (0 : Int) ≤ v144 ∧ v144 ≤ (0 : Int) := ii f146 (r_eq (il 0) q155) (by decide) (by decide)
      refine g_iload C 0 rfl dX12_readRemain_111 ?_
      refine g_iload_n C rfl 2 rfl dX12_readRemain_113 ?_
      refine g_icmp_ge C (iw f137 (by decide) (by decide)) (iw f91 (by decide) (by decide)) 132 (by decide) dX12_readRemain_114 (fun q160 => ?_) (fun q161 => ?_)
      · refine g_aload_n C rfl 4 rfl dX12_readRemain_132 ?_
        refine gf_I C fk_LandSurveyModel_320 rfl e142 e145 dX12_readRemain_133 ?_
        refine g_if_ne C (iw f159 (by decide) (by decide)) 154 (by decide) dX12_readRemain_136 (fun q162 => ?_) (fun q163 => ?_)
        · exact (no_ne f159 (il 0) q162 (by decide)).elim
        · refine g_aload_n C rfl 4 rfl dX12_readRemain_139 ?_
          obtain ⟨v164, e165⟩ : ∃ z, Rv h132 a0 22 = z := ⟨_, rfl⟩
          have t166 := ok_R O135 e142 rE_12_22 e165
          have l167 := ok_L O135 e142 rE_12_22 e165
          refine gf_R C fk_LandSurveyModel_131 rfl e142 e165 dX12_readRemain_140 ?_
          refine g_iload_n C rfl 3 rfl dX12_readRemain_143 ?_
          refine g_iload_n C rfl 2 rfl dX12_readRemain_144 ?_
          refine g_iast C t166 rfl l167 (by omega) (iw f91 (by decide) (by decide)) dX12_readRemain_145 (fun h169 hh168 => ?_)
          have O170 := O135.pIa t166 ar_122100 hh168 rI_122100_0 (iw f91 (by decide) (by decide)) nofun
          refine g_aload_n C rfl 4 rfl dX12_readRemain_146 ?_
          have e171 : Tg h169 a0 = 12 := ((pIT hh168).trans e142)
          obtain ⟨v172, e173⟩ : ∃ z, Rv h169 a0 23 = z := ⟨_, rfl⟩
          have t174 := ok_R O170 e171 rE_12_23 e173
          have l175 := ok_L O170 e171 rE_12_23 e173
          refine gf_R C fk_LandSurveyModel_134 rfl e171 e173 dX12_readRemain_147 ?_
          refine g_iload_n C rfl 3 rfl dX12_readRemain_150 ?_
          refine g_iload C 0 rfl dX12_readRemain_151 ?_
          refine g_iast C t174 rfl l175 (by omega) (iw f137 (by decide) (by decide)) dX12_readRemain_153 (fun h177 hh176 => ?_)
          have O178 := O170.pIa t174 ar_123100 hh176 rI_123100_0 f137 nofun
          have e179 : Iv h177 a0 7 = v140 := ((pI_n hh176 (ne_tag e171 t174 (by decide))).trans ((pI_n hh168 (ne_tag e142 t166 (by decide))).trans e141))
          have e180 : Iv h177 a0 8 = v144 := ((pI_n hh176 (ne_tag e171 t174 (by decide))).trans ((pI_n hh168 (ne_tag e142 t166 (by decide))).trans e145))
          have e181 : Iv h177 a0 28 = v7 := ((pI_n hh176 (ne_tag e171 t174 (by decide))).trans ((pI_n hh168 (ne_tag e142 t166 (by decide))).trans e147))
          have p182 := (TK_fx O170 ((Fx.rf (wr := [24620000]) (h := h169)).pIa t174 ar_123100 hh176 rfl) e171 rfl (TK_fx O135 ((Fx.rf (wr := [24420000]) (h := h132)).pIa t166 ar_122100 hh168 rfl) e142 rfl p148))
          have p183 := ((NT_fx O170 ((Fx.rf (wr := [24620000]) (h := h169)).pIa t174 ar_123100 hh176 rfl) e171 rfl).trans ((NT_fx O135 ((Fx.rf (wr := [24420000]) (h := h132)).pIa t166 ar_122100 hh168 rfl) e142 rfl).trans p152))
          exact g_vret C hr ⟨O178, (((((((((Fx.rf (wr := wr_k_X12_readRemain)).pI ta0 hh19 rfl).call F41 rfl).call F67 rfl).call F90 rfl).call F113 rfl).call F136 rfl).pIa t166 ar_122100 hh168 rfl).pIa t174 ar_123100 hh176 rfl), ⟨p182, by rw [e179, p183]; omega, by rw [e180, e179, p183]; omega, by rw [e181, e179]; omega⟩, (by unfold ST; rw [e2, e179, e8, e181, e5, e180]; omega)⟩ (by decide) (by decide) dX12_readRemain_154
      · have f184 : (0 : Int) ≤ r131 ∧ r131 ≤ (8 : Int) := r_lt f137 f91 q161 (by decide) (by decide)
        have f185 : (1 : Int) ≤ r85 ∧ r85 ≤ (9 : Int) := r_gt f91 f137 q161 (by decide) (by decide)
        refine g_aload_n C rfl 4 rfl dX12_readRemain_117 ?_
        refine g_iconst C dX12_readRemain_118 ?_
        refine g_bipush C (by decide) dX12_readRemain_119 ?_
        refine g_aload_n C rfl 4 rfl dX12_readRemain_121 ?_
        obtain ⟨v186, e187⟩ : ∃ z, Rv h132 a0 5 = z := ⟨_, rfl⟩
        have t188 := ok_R O135 e142 rE_12_5 e187
        have l189 := ok_L O135 e142 rE_12_5 e187
        refine gf_R C fk_LandSurveyModel_27 rfl e142 e187 dX12_readRemain_122 ?_
        refine g_iload_n C rfl 1 rfl dX12_readRemain_125 ?_
        obtain ⟨v190, e191⟩ : ∃ z, Iv h132 v186 v117.toNat = z := ⟨_, rfl⟩
        have f192 := ok_Ia O135 t188 ar_105100 rI_105100_0 e191
        refine g_iald C t188 rfl l189 (ix f120 (by decide) (by decide)) e191 dX12_readRemain_126 ?_
        have f193 : (0 : Int) ≤ (16 * v190) ∧ (16 * v190) ≤ (24000 : Int) := ia_mul (by decide) f192 (by decide) (by decide)
        refine g_imul C dX12_readRemain_127 ?_
        have f194 : (4 : Int) ≤ (4 + (16 * v190)) ∧ (4 + (16 * v190)) ≤ (24004 : Int) := ia_add (il 4) f193 (by decide) (by decide)
        refine g_iadd C dX12_readRemain_128 ?_
        refine gp_I C fk_LandSurveyModel_320 pk_LandSurveyModel_8 rfl e142 (iw f194 (by decide) (by decide)) (nf_i _) dX12_readRemain_129 (fun h196 hh195 => ?_)
        have O197 := O135.pI e142 hh195 rI_12_8 (iw f194 (by decide) (by decide)) nofun
        refine g_aload_n C rfl 4 rfl dX12_readRemain_132 ?_
        have e198 : Tg h196 a0 = 12 := ((pIT hh195).trans e142)
        refine gf_I C fk_LandSurveyModel_320 rfl e198 (pI_e hh195) dX12_readRemain_133 ?_
        refine g_if_ne C (iw f194 (by decide) (by decide)) 154 (by decide) dX12_readRemain_136 (fun q199 => ?_) (fun q200 => ?_)
        · have e201 : Iv h196 a0 7 = v140 := ((pI_j hh195 (by decide)).trans e141)
          have e202 : Iv h196 a0 28 = v7 := ((pI_j hh195 (by decide)).trans e147)
          have p203 := (TK_fx O135 ((Fx.rf (wr := [2408]) (h := h132)).pI e142 hh195 rfl) e142 rfl p148)
          have p204 := ((NT_fx O135 ((Fx.rf (wr := [2408]) (h := h132)).pI e142 hh195 rfl) e142 rfl).trans p152)
          exact g_vret C hr ⟨O197, ((((((((Fx.rf (wr := wr_k_X12_readRemain)).pI ta0 hh19 rfl).call F41 rfl).call F67 rfl).call F90 rfl).call F113 rfl).call F136 rfl).pI e142 hh195 rfl), ⟨p203, by rw [e201, p204]; omega, by rw [(pI_e hh195), e201, p204]; omega, by rw [e202, e201]; omega⟩, (by unfold ST; rw [e2, e201, e8, e202, e5, (pI_e hh195)]; omega)⟩ (by decide) (by decide) dX12_readRemain_154
        · exact (no_eq f194 (il 0) q200 (by decide)).elim
  · have f205 : (2 : Int) ≤ v27 ∧ v27 ≤ (2 : Int) := ii f29 (r_eq (il 2) q31) (by decide) (by decide)
    refine g_aload_n C rfl 0 rfl dX12_readRemain_23 ?_
    obtain ⟨v206, e207⟩ : ∃ z, Rv h20 a0 6 = z := ⟨_, rfl⟩
    have t208 := ok_R O21 e22 rE_12_6 e207
    have l209 := ok_L O21 e22 rE_12_6 e207
    refine gf_R C fk_LandSurveyModel_30 rfl e22 e207 dX12_readRemain_24 ?_
    refine g_aload_n C rfl 0 rfl dX12_readRemain_27 ?_
    refine gf_I C fk_LandSurveyModel_317 rfl e22 (pI_e hh19) dX12_readRemain_28 ?_
    obtain ⟨v210, e211⟩ : ∃ z, Jv h20 v206 ((v1 + 1).toNat) = z := ⟨_, rfl⟩
    have f212 := inL_J O21 e211
    refine g_lald C t208 rfl l209 (by omega) e211 dX12_readRemain_31 ?_
    refine g_ldc2 (z := 9) C kw_1879 (by decide) dX12_readRemain_32 ?_
    refine g_lcmp C f212 (iw (il 9) (by decide) (by decide)) dX12_readRemain_35 ?_
    have f213 : (-1 : Int) ≤ (lC v210 9) ∧ (lC v210 9) ≤ (1 : Int) := lC_rng _ _
    refine g_if_gt C (iw f213 (by decide) (by decide)) 65 (by decide) dX12_readRemain_36 (fun q214 => ?_) (fun q215 => ?_)
    · have q216 : (9 : Int) < v210 := lC_gt.mp q214
      have f217 : (10 : Int) ≤ v210 ∧ v210 ≤ (9223372036854775807 : Int) := r_gt f212 (il 9) q216 (by decide) (by decide)
      refine g_bipush C (by decide) dX12_readRemain_65 ?_
      refine g_aload_n C rfl 0 rfl dX12_readRemain_67 ?_
      refine g_iconst C dX12_readRemain_68 ?_
      refine g_bipush C (by decide) dX12_readRemain_69 ?_
      have e218 : Iv h20 a0 8 = v4 := ((pI_j hh19 (by decide)).trans e5)
      have e219 : Iv h20 a0 28 = v7 := ((pI_j hh19 (by decide)).trans e8)
      have p220 := (TK_fx O ((Fx.rf (wr := [2407]) (h := h)).pI ta0 hh19 rfl) ta0 rfl p10)
      have p221 := ((NT_fx O ((Fx.rf (wr := [2407]) (h := h)).pI ta0 hh19 rfl) ta0 rfl).trans e15)
      refine g_callI (st := [.inl 80]) (gc_V C lk_LandSurveyModel_383 (k_X12_takeNumber l D cy w z0 O21 e22 (iw (il 0) (by decide) (by decide)) (iw (il 9) (by decide) (by decide)) ⟨p220, by rw [(pI_e hh19), p221]; omega, by rw [e218, (pI_e hh19), p221]; omega, by rw [e219, (pI_e hh19)]; omega⟩) e22 rfl rfl rfl ⟨by decide, by decide⟩ (Nat.le_of_ble_eq_true rfl) dX12_readRemain_71 ⟨(by decide), (by decide)⟩) (fun r222 h223 f225 K224 => ?_)
      obtain ⟨O226, F227, f228, p229, p230, p231, p232⟩ := K224
      obtain ⟨v233, e234⟩ : ∃ z, Iv h223 a0 7 = z := ⟨_, rfl⟩
      have e235 : Tg h223 a0 = 12 := (fxT F227 e22)
      have f236 := ok_I O226 e235 rI_12_7 e234
      obtain ⟨v237, e238⟩ : ∃ z, Iv h223 a0 8 = z := ⟨_, rfl⟩
      have f239 := ok_I O226 e235 rI_12_8 e238
      have e240 : Iv h223 a0 28 = v7 := ((fxI F227 e22 rfl).trans e219)
      obtain ⟨p241, p242, p243, p244⟩ := p229
      have p245 := ((NT_fx O21 F227 e22 rfl).trans p221)
      rw [e234, p245] at p242
      rw [e238, e234, p245] at p243
      rw [e240, e234] at p244
      have p246 := p230
      unfold ST at p246
      rw [(pI_e hh19), e234, e219, e240, e218, e238] at p246
      rw [e238, e234, (pI_e hh19)] at p232
      have f247 : (80 : Int) ≤ (80 + r222) ∧ (80 + r222) ≤ (280 : Int) := ia_add (il 80) f228 (by decide) (by decide)
      refine g_iadd C dX12_readRemain_74 ?_
      refine g_istore_n C [(1, .inl (80 + r222)), (0, .inr (.inr a0))] rfl (by decide) rfl dX12_readRemain_75 ?_
      refine g_aload_n C rfl 1 rfl dX12_readRemain_76 ?_
      refine g_bipush C (by decide) dX12_readRemain_77 ?_
      refine g_callV (st := []) (gc_V C lk_LandSurveyModel_387 (k_X12_takeWord l D cy w z0 O226 e235 (iw (il 10) (by decide) (by decide)) ⟨p241, by rw [e234, p245]; omega, by rw [e238, e234, p245]; omega, by rw [e240, e234]; omega⟩) e235 rfl rfl rfl ⟨by decide, by decide⟩ (Nat.le_of_ble_eq_true rfl) dX12_readRemain_79 ⟨(by decide), (by decide)⟩) (fun h249 K250 => ?_)
      obtain ⟨O252, F253, p254, p255, p256⟩ := K250
      obtain ⟨v257, e258⟩ : ∃ z, Iv h249 a0 7 = z := ⟨_, rfl⟩
      have e259 : Tg h249 a0 = 12 := (fxT F253 e235)
      have f260 := ok_I O252 e259 rI_12_7 e258
      obtain ⟨v261, e262⟩ : ∃ z, Iv h249 a0 8 = z := ⟨_, rfl⟩
      have f263 := ok_I O252 e259 rI_12_8 e262
      have e264 : Iv h249 a0 28 = v7 := ((fxI F253 e235 rfl).trans e240)
      obtain ⟨p265, p266, p267, p268⟩ := p254
      have p269 := ((NT_fx O226 F253 e235 rfl).trans p245)
      rw [e258, p269] at p266
      rw [e262, e258, p269] at p267
      rw [e264, e258] at p268
      have p270 := p255
      unfold ST at p270
      rw [e234, e258, e240, e264, e238, e262] at p270
      rw [e262, e258, e234] at p256
      refine g_aload_n C rfl 1 rfl dX12_readRemain_82 ?_
      refine g_callI (st := []) (gc_V C lk_LandSurveyModel_374 (k_X12_takeRock l D cy w z0 O252 e259 ⟨p265, by rw [e258, p269]; omega, by rw [e262, e258, p269]; omega, by rw [e264, e258]; omega⟩) e259 rfl rfl rfl ⟨by decide, by decide⟩ (Nat.le_of_ble_eq_true rfl) dX12_readRemain_83 ⟨(by decide), (by decide)⟩) (fun r271 h272 f274 K273 => ?_)
      obtain ⟨O275, F276, f277, p278, p279⟩ := K273
      obtain ⟨v280, e281⟩ : ∃ z, Iv h272 a0 7 = z := ⟨_, rfl⟩
      have e282 : Tg h272 a0 = 12 := (fxT F276 e259)
      have f283 := ok_I O275 e282 rI_12_7 e281
      obtain ⟨v284, e285⟩ : ∃ z, Iv h272 a0 8 = z := ⟨_, rfl⟩
      have f286 := ok_I O275 e282 rI_12_8 e285
      have e287 : Iv h272 a0 28 = v7 := ((fxI F276 e259 rfl).trans e264)
      obtain ⟨p288, p289, p290, p291⟩ := p278
      have p292 := ((NT_fx O252 F276 e259 rfl).trans p269)
      rw [e281, p292] at p289
      rw [e285, e281, p292] at p290
      rw [e287, e281] at p291
      have p293 := p279
      unfold ST at p293
      rw [e258, e281, e264, e287, e262, e285] at p293
      refine g_istore_n C [(2, .inl r271), (1, .inl (80 + r222)), (0, .inr (.inr a0))] rfl (by decide) rfl dX12_readRemain_86 ?_
      refine g_aload_n C rfl 2 rfl dX12_readRemain_87 ?_
      refine g_bipush C (by decide) dX12_readRemain_88 ?_
      refine g_callV (st := []) (gc_V C lk_LandSurveyModel_387 (k_X12_takeWord l D cy w z0 O275 e282 (iw (il 9) (by decide) (by decide)) ⟨p288, by rw [e281, p292]; omega, by rw [e285, e281, p292]; omega, by rw [e287, e281]; omega⟩) e282 rfl rfl rfl ⟨by decide, by decide⟩ (Nat.le_of_ble_eq_true rfl) dX12_readRemain_90 ⟨(by decide), (by decide)⟩) (fun h295 K296 => ?_)
      obtain ⟨O298, F299, p300, p301, p302⟩ := K296
      obtain ⟨v303, e304⟩ : ∃ z, Iv h295 a0 7 = z := ⟨_, rfl⟩
      have e305 : Tg h295 a0 = 12 := (fxT F299 e282)
      have f306 := ok_I O298 e305 rI_12_7 e304
      obtain ⟨v307, e308⟩ : ∃ z, Iv h295 a0 8 = z := ⟨_, rfl⟩
      have f309 := ok_I O298 e305 rI_12_8 e308
      have e310 : Iv h295 a0 28 = v7 := ((fxI F299 e282 rfl).trans e287)
      obtain ⟨p311, p312, p313, p314⟩ := p300
      have p315 := ((NT_fx O275 F299 e282 rfl).trans p292)
      rw [e304, p315] at p312
      rw [e308, e304, p315] at p313
      rw [e310, e304] at p314
      have p316 := p301
      unfold ST at p316
      rw [e281, e304, e287, e310, e285, e308] at p316
      rw [e308, e304, e281] at p302
      refine g_aload_n C rfl 2 rfl dX12_readRemain_93 ?_
      refine gf_I C fk_LandSurveyModel_317 rfl e305 e304 dX12_readRemain_94 ?_
      refine g_istore_n C [(3, .inl v303), (2, .inl r271), (1, .inl (80 + r222)), (0, .inr (.inr a0))] rfl (by decide) rfl dX12_readRemain_97 ?_
      refine g_aload_n C rfl 3 rfl dX12_readRemain_98 ?_
      refine g_callI (st := []) (gc_V C lk_LandSurveyModel_374 (k_X12_takeRock l D cy w z0 O298 e305 ⟨p311, by rw [e304, p315]; omega, by rw [e308, e304, p315]; omega, by rw [e310, e304]; omega⟩) e305 rfl rfl rfl ⟨by decide, by decide⟩ (Nat.le_of_ble_eq_true rfl) dX12_readRemain_99 ⟨(by decide), (by decide)⟩) (fun r317 h318 f320 K319 => ?_)
      obtain ⟨O321, F322, f323, p324, p325⟩ := K319
      obtain ⟨v326, e327⟩ : ∃ z, Iv h318 a0 7 = z := ⟨_, rfl⟩
      have e328 : Tg h318 a0 = 12 := (fxT F322 e305)
      have f329 := ok_I O321 e328 rI_12_7 e327
      obtain ⟨v330, e331⟩ : ∃ z, Iv h318 a0 8 = z := ⟨_, rfl⟩
      have f332 := ok_I O321 e328 rI_12_8 e331
      have e333 : Iv h318 a0 28 = v7 := ((fxI F322 e305 rfl).trans e310)
      obtain ⟨p334, p335, p336, p337⟩ := p324
      have p338 := ((NT_fx O298 F322 e305 rfl).trans p315)
      rw [e327, p338] at p335
      rw [e331, e327, p338] at p336
      rw [e333, e327] at p337
      have p339 := p325
      unfold ST at p339
      rw [e304, e327, e310, e333, e308, e331] at p339
      refine g_istore C [(4, .inl r317), (3, .inl v303), (2, .inl r271), (1, .inl (80 + r222)), (0, .inr (.inr a0))] (by decide) rfl dX12_readRemain_102 ?_
      refine g_aload_n C rfl 4 rfl dX12_readRemain_104 ?_
      refine gf_I C fk_LandSurveyModel_320 rfl e328 e331 dX12_readRemain_105 ?_
      refine g_if_ne C (iw f332 (by decide) (by decide)) 132 (by decide) dX12_readRemain_108 (fun q340 => ?_) (fun q341 => ?_)
      · have f342 : (1 : Int) ≤ v330 ∧ v330 ≤ (24005 : Int) := r_nl f332 q340
        refine g_aload_n C rfl 4 rfl dX12_readRemain_132 ?_
        refine gf_I C fk_LandSurveyModel_320 rfl e328 e331 dX12_readRemain_133 ?_
        refine g_if_ne C (iw f342 (by decide) (by decide)) 154 (by decide) dX12_readRemain_136 (fun q343 => ?_) (fun q344 => ?_)
        · exact g_vret C hr ⟨O321, (((((((Fx.rf (wr := wr_k_X12_readRemain)).pI ta0 hh19 rfl).call F227 rfl).call F253 rfl).call F276 rfl).call F299 rfl).call F322 rfl), ⟨p334, by rw [e327, p338]; omega, by rw [e331, e327, p338]; omega, by rw [e333, e327]; omega⟩, (by unfold ST; rw [e2, e327, e8, e333, e5, e331]; omega)⟩ (by decide) (by decide) dX12_readRemain_154
        · exact (no_eq f342 (il 0) q344 (by decide)).elim
      · have f345 : (0 : Int) ≤ v330 ∧ v330 ≤ (0 : Int) := ii f332 (r_eq (il 0) q341) (by decide) (by decide)
        refine g_iload C 0 rfl dX12_readRemain_111 ?_
        refine g_iload_n C rfl 2 rfl dX12_readRemain_113 ?_
        refine g_icmp_ge C (iw f323 (by decide) (by decide)) (iw f277 (by decide) (by decide)) 132 (by decide) dX12_readRemain_114 (fun q346 => ?_) (fun q347 => ?_)
        · refine g_aload_n C rfl 4 rfl dX12_readRemain_132 ?_
          refine gf_I C fk_LandSurveyModel_320 rfl e328 e331 dX12_readRemain_133 ?_
          refine g_if_ne C (iw f345 (by decide) (by decide)) 154 (by decide) dX12_readRemain_136 (fun q348 => ?_) (fun q349 => ?_)
          · exact (no_ne f345 (il 0) q348 (by decide)).elim
          · refine g_aload_n C rfl 4 rfl dX12_readRemain_139 ?_
            obtain ⟨v350, e351⟩ : ∃ z, Rv h318 a0 22 = z := ⟨_, rfl⟩
            have t352 := ok_R O321 e328 rE_12_22 e351
            have l353 := ok_L O321 e328 rE_12_22 e351
            refine gf_R C fk_LandSurveyModel_131 rfl e328 e351 dX12_readRemain_140 ?_
            refine g_iload_n C rfl 3 rfl dX12_readRemain_143 ?_
            refine g_iload_n C rfl 2 rfl dX12_readRemain_144 ?_
            refine g_iast C t352 rfl l353 (by omega) (iw f277 (by decide) (by decide)) dX12_readRemain_145 (fun h355 hh354 => ?_)
            have O356 := O321.pIa t352 ar_122100 hh354 rI_122100_0 (iw f277 (by decide) (by decide)) nofun
            refine g_aload_n C rfl 4 rfl dX12_readRemain_146 ?_
            have e357 : Tg h355 a0 = 12 := ((pIT hh354).trans e328)
            obtain ⟨v358, e359⟩ : ∃ z, Rv h355 a0 23 = z := ⟨_, rfl⟩
            have t360 := ok_R O356 e357 rE_12_23 e359
            have l361 := ok_L O356 e357 rE_12_23 e359
            refine gf_R C fk_LandSurveyModel_134 rfl e357 e359 dX12_readRemain_147 ?_
            refine g_iload_n C rfl 3 rfl dX12_readRemain_150 ?_
            refine g_iload C 0 rfl dX12_readRemain_151 ?_
            refine g_iast C t360 rfl l361 (by omega) (iw f323 (by decide) (by decide)) dX12_readRemain_153 (fun h363 hh362 => ?_)
            have O364 := O356.pIa t360 ar_123100 hh362 rI_123100_0 f323 nofun
            have e365 : Iv h363 a0 7 = v326 := ((pI_n hh362 (ne_tag e357 t360 (by decide))).trans ((pI_n hh354 (ne_tag e328 t352 (by decide))).trans e327))
            have e366 : Iv h363 a0 8 = v330 := ((pI_n hh362 (ne_tag e357 t360 (by decide))).trans ((pI_n hh354 (ne_tag e328 t352 (by decide))).trans e331))
            have e367 : Iv h363 a0 28 = v7 := ((pI_n hh362 (ne_tag e357 t360 (by decide))).trans ((pI_n hh354 (ne_tag e328 t352 (by decide))).trans e333))
            have p368 := (TK_fx O356 ((Fx.rf (wr := [24620000]) (h := h355)).pIa t360 ar_123100 hh362 rfl) e357 rfl (TK_fx O321 ((Fx.rf (wr := [24420000]) (h := h318)).pIa t352 ar_122100 hh354 rfl) e328 rfl p334))
            have p369 := ((NT_fx O356 ((Fx.rf (wr := [24620000]) (h := h355)).pIa t360 ar_123100 hh362 rfl) e357 rfl).trans ((NT_fx O321 ((Fx.rf (wr := [24420000]) (h := h318)).pIa t352 ar_122100 hh354 rfl) e328 rfl).trans p338))
            exact g_vret C hr ⟨O364, (((((((((Fx.rf (wr := wr_k_X12_readRemain)).pI ta0 hh19 rfl).call F227 rfl).call F253 rfl).call F276 rfl).call F299 rfl).call F322 rfl).pIa t352 ar_122100 hh354 rfl).pIa t360 ar_123100 hh362 rfl), ⟨p368, by rw [e365, p369]; omega, by rw [e366, e365, p369]; omega, by rw [e367, e365]; omega⟩, (by unfold ST; rw [e2, e365, e8, e367, e5, e366]; omega)⟩ (by decide) (by decide) dX12_readRemain_154
        · have f370 : (0 : Int) ≤ r317 ∧ r317 ≤ (8 : Int) := r_lt f323 f277 q347 (by decide) (by decide)
          have f371 : (1 : Int) ≤ r271 ∧ r271 ≤ (9 : Int) := r_gt f277 f323 q347 (by decide) (by decide)
          refine g_aload_n C rfl 4 rfl dX12_readRemain_117 ?_
          refine g_iconst C dX12_readRemain_118 ?_
          refine g_bipush C (by decide) dX12_readRemain_119 ?_
          refine g_aload_n C rfl 4 rfl dX12_readRemain_121 ?_
          obtain ⟨v372, e373⟩ : ∃ z, Rv h318 a0 5 = z := ⟨_, rfl⟩
          have t374 := ok_R O321 e328 rE_12_5 e373
          have l375 := ok_L O321 e328 rE_12_5 e373
          refine gf_R C fk_LandSurveyModel_27 rfl e328 e373 dX12_readRemain_122 ?_
          refine g_iload_n C rfl 1 rfl dX12_readRemain_125 ?_
          obtain ⟨v376, e377⟩ : ∃ z, Iv h318 v372 v303.toNat = z := ⟨_, rfl⟩
          have f378 := ok_Ia O321 t374 ar_105100 rI_105100_0 e377
          refine g_iald C t374 rfl l375 (ix f306 (by decide) (by decide)) e377 dX12_readRemain_126 ?_
          have f379 : (0 : Int) ≤ (16 * v376) ∧ (16 * v376) ≤ (24000 : Int) := ia_mul (by decide) f378 (by decide) (by decide)
          refine g_imul C dX12_readRemain_127 ?_
          have f380 : (4 : Int) ≤ (4 + (16 * v376)) ∧ (4 + (16 * v376)) ≤ (24004 : Int) := ia_add (il 4) f379 (by decide) (by decide)
          refine g_iadd C dX12_readRemain_128 ?_
          refine gp_I C fk_LandSurveyModel_320 pk_LandSurveyModel_8 rfl e328 (iw f380 (by decide) (by decide)) (nf_i _) dX12_readRemain_129 (fun h382 hh381 => ?_)
          have O383 := O321.pI e328 hh381 rI_12_8 (iw f380 (by decide) (by decide)) nofun
          refine g_aload_n C rfl 4 rfl dX12_readRemain_132 ?_
          have e384 : Tg h382 a0 = 12 := ((pIT hh381).trans e328)
          refine gf_I C fk_LandSurveyModel_320 rfl e384 (pI_e hh381) dX12_readRemain_133 ?_
          refine g_if_ne C (iw f380 (by decide) (by decide)) 154 (by decide) dX12_readRemain_136 (fun q385 => ?_) (fun q386 => ?_)
          · have e387 : Iv h382 a0 7 = v326 := ((pI_j hh381 (by decide)).trans e327)
            have e388 : Iv h382 a0 28 = v7 := ((pI_j hh381 (by decide)).trans e333)
            have p389 := (TK_fx O321 ((Fx.rf (wr := [2408]) (h := h318)).pI e328 hh381 rfl) e328 rfl p334)
            have p390 := ((NT_fx O321 ((Fx.rf (wr := [2408]) (h := h318)).pI e328 hh381 rfl) e328 rfl).trans p338)
            exact g_vret C hr ⟨O383, ((((((((Fx.rf (wr := wr_k_X12_readRemain)).pI ta0 hh19 rfl).call F227 rfl).call F253 rfl).call F276 rfl).call F299 rfl).call F322 rfl).pI e328 hh381 rfl), ⟨p389, by rw [e387, p390]; omega, by rw [(pI_e hh381), e387, p390]; omega, by rw [e388, e387]; omega⟩, (by unfold ST; rw [e2, e387, e8, e388, e5, (pI_e hh381)]; omega)⟩ (by decide) (by decide) dX12_readRemain_154
          · exact (no_eq f380 (il 0) q386 (by decide)).elim
    · have q391 : v210 ≤ (9 : Int) := lC_le.mp q215
      have f392 : (-9223372036854775808 : Int) ≤ v210 ∧ v210 ≤ (9 : Int) := r_le f212 (il 9) q391 (by decide) (by decide)
      refine g_aload_n C rfl 0 rfl dX12_readRemain_39 ?_
      obtain ⟨v393, e394⟩ : ∃ z, Rv h20 a0 22 = z := ⟨_, rfl⟩
      have t395 := ok_R O21 e22 rE_12_22 e394
      have l396 := ok_L O21 e22 rE_12_22 e394
      refine gf_R C fk_LandSurveyModel_131 rfl e22 e394 dX12_readRemain_40 ?_
      refine g_bipush C (by decide) dX12_readRemain_43 ?_
      refine g_aload_n C rfl 0 rfl dX12_readRemain_45 ?_
      refine gf_R C fk_LandSurveyModel_30 rfl e22 e207 dX12_readRemain_46 ?_
      refine g_aload_n C rfl 0 rfl dX12_readRemain_49 ?_
      refine gf_I C fk_LandSurveyModel_317 rfl e22 (pI_e hh19) dX12_readRemain_50 ?_
      refine g_lald C t208 rfl l209 (by omega) e211 dX12_readRemain_53 ?_
      have p397 := (TK_fx O ((Fx.rf (wr := [2407]) (h := h)).pI ta0 hh19 rfl) ta0 rfl p10)
      have p398 := ((NT_fx O ((Fx.rf (wr := [2407]) (h := h)).pI ta0 hh19 rfl) ta0 rfl).trans e15)
      have z399 := TK_num (s := v27) (v := v210) p397 p398 (a := (v1 + 1)) (by omega) (by omega) (by rw [e24]; exact e28) (by rw [e207]; exact e211)
      have f400 : (0 : Int) ≤ v210 ∧ v210 ≤ (9 : Int) := by omega
      refine g_l2i C dX12_readRemain_54 ?_
      have f401 : (0 : Int) ≤ (l2w v210) ∧ (l2w v210) ≤ (9 : Int) := l2w_in f400 (by decide) (by decide)
      have f402 : (80 : Int) ≤ (80 + (l2w v210)) ∧ (80 + (l2w v210)) ≤ (89 : Int) := ia_add (il 80) f401 (by decide) (by decide)
      refine g_iadd C dX12_readRemain_55 ?_
      obtain ⟨v403, e404⟩ : ∃ z, Iv h20 v393 ((80 + (l2w v210)).toNat) = z := ⟨_, rfl⟩
      have f405 := ok_Ia O21 t395 ar_122100 rI_122100_0 e404
      refine g_iald C t395 rfl l396 (ix f402 (by decide) (by decide)) e404 dX12_readRemain_56 ?_
      refine g_if_lt C (iw f405 (by decide) (by decide)) 65 (by decide) dX12_readRemain_57 (fun q406 => ?_) (fun q407 => ?_)
      · have f408 : (-1 : Int) ≤ v403 ∧ v403 ≤ (-1 : Int) := r_lt f405 (il 0) q406 (by decide) (by decide)
        refine g_bipush C (by decide) dX12_readRemain_65 ?_
        refine g_aload_n C rfl 0 rfl dX12_readRemain_67 ?_
        refine g_iconst C dX12_readRemain_68 ?_
        refine g_bipush C (by decide) dX12_readRemain_69 ?_
        have e409 : Iv h20 a0 8 = v4 := ((pI_j hh19 (by decide)).trans e5)
        have e410 : Iv h20 a0 28 = v7 := ((pI_j hh19 (by decide)).trans e8)
        refine g_callI (st := [.inl 80]) (gc_V C lk_LandSurveyModel_383 (k_X12_takeNumber l D cy w z0 O21 e22 (iw (il 0) (by decide) (by decide)) (iw (il 9) (by decide) (by decide)) ⟨p397, by rw [(pI_e hh19), p398]; omega, by rw [e409, (pI_e hh19), p398]; omega, by rw [e410, (pI_e hh19)]; omega⟩) e22 rfl rfl rfl ⟨by decide, by decide⟩ (Nat.le_of_ble_eq_true rfl) dX12_readRemain_71 ⟨(by decide), (by decide)⟩) (fun r411 h412 f414 K413 => ?_)
        obtain ⟨O415, F416, f417, p418, p419, p420, p421⟩ := K413
        obtain ⟨v422, e423⟩ : ∃ z, Iv h412 a0 7 = z := ⟨_, rfl⟩
        have e424 : Tg h412 a0 = 12 := (fxT F416 e22)
        have f425 := ok_I O415 e424 rI_12_7 e423
        obtain ⟨v426, e427⟩ : ∃ z, Iv h412 a0 8 = z := ⟨_, rfl⟩
        have f428 := ok_I O415 e424 rI_12_8 e427
        have e429 : Iv h412 a0 28 = v7 := ((fxI F416 e22 rfl).trans e410)
        obtain ⟨p430, p431, p432, p433⟩ := p418
        have p434 := ((NT_fx O21 F416 e22 rfl).trans p398)
        rw [e423, p434] at p431
        rw [e427, e423, p434] at p432
        rw [e429, e423] at p433
        have p435 := p419
        unfold ST at p435
        rw [(pI_e hh19), e423, e410, e429, e409, e427] at p435
        rw [e427, e423, (pI_e hh19)] at p421
        have f436 : (80 : Int) ≤ (80 + r411) ∧ (80 + r411) ≤ (280 : Int) := ia_add (il 80) f417 (by decide) (by decide)
        refine g_iadd C dX12_readRemain_74 ?_
        refine g_istore_n C [(1, .inl (80 + r411)), (0, .inr (.inr a0))] rfl (by decide) rfl dX12_readRemain_75 ?_
        refine g_aload_n C rfl 1 rfl dX12_readRemain_76 ?_
        refine g_bipush C (by decide) dX12_readRemain_77 ?_
        refine g_callV (st := []) (gc_V C lk_LandSurveyModel_387 (k_X12_takeWord l D cy w z0 O415 e424 (iw (il 10) (by decide) (by decide)) ⟨p430, by rw [e423, p434]; omega, by rw [e427, e423, p434]; omega, by rw [e429, e423]; omega⟩) e424 rfl rfl rfl ⟨by decide, by decide⟩ (Nat.le_of_ble_eq_true rfl) dX12_readRemain_79 ⟨(by decide), (by decide)⟩) (fun h438 K439 => ?_)
        obtain ⟨O441, F442, p443, p444, p445⟩ := K439
        obtain ⟨v446, e447⟩ : ∃ z, Iv h438 a0 7 = z := ⟨_, rfl⟩
        have e448 : Tg h438 a0 = 12 := (fxT F442 e424)
        have f449 := ok_I O441 e448 rI_12_7 e447
        obtain ⟨v450, e451⟩ : ∃ z, Iv h438 a0 8 = z := ⟨_, rfl⟩
        have f452 := ok_I O441 e448 rI_12_8 e451
        have e453 : Iv h438 a0 28 = v7 := ((fxI F442 e424 rfl).trans e429)
        obtain ⟨p454, p455, p456, p457⟩ := p443
        have p458 := ((NT_fx O415 F442 e424 rfl).trans p434)
        rw [e447, p458] at p455
        rw [e451, e447, p458] at p456
        rw [e453, e447] at p457
        have p459 := p444
        unfold ST at p459
        rw [e423, e447, e429, e453, e427, e451] at p459
        rw [e451, e447, e423] at p445
        refine g_aload_n C rfl 1 rfl dX12_readRemain_82 ?_
        refine g_callI (st := []) (gc_V C lk_LandSurveyModel_374 (k_X12_takeRock l D cy w z0 O441 e448 ⟨p454, by rw [e447, p458]; omega, by rw [e451, e447, p458]; omega, by rw [e453, e447]; omega⟩) e448 rfl rfl rfl ⟨by decide, by decide⟩ (Nat.le_of_ble_eq_true rfl) dX12_readRemain_83 ⟨(by decide), (by decide)⟩) (fun r460 h461 f463 K462 => ?_)
        obtain ⟨O464, F465, f466, p467, p468⟩ := K462
        obtain ⟨v469, e470⟩ : ∃ z, Iv h461 a0 7 = z := ⟨_, rfl⟩
        have e471 : Tg h461 a0 = 12 := (fxT F465 e448)
        have f472 := ok_I O464 e471 rI_12_7 e470
        obtain ⟨v473, e474⟩ : ∃ z, Iv h461 a0 8 = z := ⟨_, rfl⟩
        have f475 := ok_I O464 e471 rI_12_8 e474
        have e476 : Iv h461 a0 28 = v7 := ((fxI F465 e448 rfl).trans e453)
        obtain ⟨p477, p478, p479, p480⟩ := p467
        have p481 := ((NT_fx O441 F465 e448 rfl).trans p458)
        rw [e470, p481] at p478
        rw [e474, e470, p481] at p479
        rw [e476, e470] at p480
        have p482 := p468
        unfold ST at p482
        rw [e447, e470, e453, e476, e451, e474] at p482
        refine g_istore_n C [(2, .inl r460), (1, .inl (80 + r411)), (0, .inr (.inr a0))] rfl (by decide) rfl dX12_readRemain_86 ?_
        refine g_aload_n C rfl 2 rfl dX12_readRemain_87 ?_
        refine g_bipush C (by decide) dX12_readRemain_88 ?_
        refine g_callV (st := []) (gc_V C lk_LandSurveyModel_387 (k_X12_takeWord l D cy w z0 O464 e471 (iw (il 9) (by decide) (by decide)) ⟨p477, by rw [e470, p481]; omega, by rw [e474, e470, p481]; omega, by rw [e476, e470]; omega⟩) e471 rfl rfl rfl ⟨by decide, by decide⟩ (Nat.le_of_ble_eq_true rfl) dX12_readRemain_90 ⟨(by decide), (by decide)⟩) (fun h484 K485 => ?_)
        obtain ⟨O487, F488, p489, p490, p491⟩ := K485
        obtain ⟨v492, e493⟩ : ∃ z, Iv h484 a0 7 = z := ⟨_, rfl⟩
        have e494 : Tg h484 a0 = 12 := (fxT F488 e471)
        have f495 := ok_I O487 e494 rI_12_7 e493
        obtain ⟨v496, e497⟩ : ∃ z, Iv h484 a0 8 = z := ⟨_, rfl⟩
        have f498 := ok_I O487 e494 rI_12_8 e497
        have e499 : Iv h484 a0 28 = v7 := ((fxI F488 e471 rfl).trans e476)
        obtain ⟨p500, p501, p502, p503⟩ := p489
        have p504 := ((NT_fx O464 F488 e471 rfl).trans p481)
        rw [e493, p504] at p501
        rw [e497, e493, p504] at p502
        rw [e499, e493] at p503
        have p505 := p490
        unfold ST at p505
        rw [e470, e493, e476, e499, e474, e497] at p505
        rw [e497, e493, e470] at p491
        refine g_aload_n C rfl 2 rfl dX12_readRemain_93 ?_
        refine gf_I C fk_LandSurveyModel_317 rfl e494 e493 dX12_readRemain_94 ?_
        refine g_istore_n C [(3, .inl v492), (2, .inl r460), (1, .inl (80 + r411)), (0, .inr (.inr a0))] rfl (by decide) rfl dX12_readRemain_97 ?_
        refine g_aload_n C rfl 3 rfl dX12_readRemain_98 ?_
        refine g_callI (st := []) (gc_V C lk_LandSurveyModel_374 (k_X12_takeRock l D cy w z0 O487 e494 ⟨p500, by rw [e493, p504]; omega, by rw [e497, e493, p504]; omega, by rw [e499, e493]; omega⟩) e494 rfl rfl rfl ⟨by decide, by decide⟩ (Nat.le_of_ble_eq_true rfl) dX12_readRemain_99 ⟨(by decide), (by decide)⟩) (fun r506 h507 f509 K508 => ?_)
        obtain ⟨O510, F511, f512, p513, p514⟩ := K508
        obtain ⟨v515, e516⟩ : ∃ z, Iv h507 a0 7 = z := ⟨_, rfl⟩
        have e517 : Tg h507 a0 = 12 := (fxT F511 e494)
        have f518 := ok_I O510 e517 rI_12_7 e516
        obtain ⟨v519, e520⟩ : ∃ z, Iv h507 a0 8 = z := ⟨_, rfl⟩
        have f521 := ok_I O510 e517 rI_12_8 e520
        have e522 : Iv h507 a0 28 = v7 := ((fxI F511 e494 rfl).trans e499)
        obtain ⟨p523, p524, p525, p526⟩ := p513
        have p527 := ((NT_fx O487 F511 e494 rfl).trans p504)
        rw [e516, p527] at p524
        rw [e520, e516, p527] at p525
        rw [e522, e516] at p526
        have p528 := p514
        unfold ST at p528
        rw [e493, e516, e499, e522, e497, e520] at p528
        refine g_istore C [(4, .inl r506), (3, .inl v492), (2, .inl r460), (1, .inl (80 + r411)), (0, .inr (.inr a0))] (by decide) rfl dX12_readRemain_102 ?_
        refine g_aload_n C rfl 4 rfl dX12_readRemain_104 ?_
        refine gf_I C fk_LandSurveyModel_320 rfl e517 e520 dX12_readRemain_105 ?_
        refine g_if_ne C (iw f521 (by decide) (by decide)) 132 (by decide) dX12_readRemain_108 (fun q529 => ?_) (fun q530 => ?_)
        · have f531 : (1 : Int) ≤ v519 ∧ v519 ≤ (24005 : Int) := r_nl f521 q529
          refine g_aload_n C rfl 4 rfl dX12_readRemain_132 ?_
          refine gf_I C fk_LandSurveyModel_320 rfl e517 e520 dX12_readRemain_133 ?_
          refine g_if_ne C (iw f531 (by decide) (by decide)) 154 (by decide) dX12_readRemain_136 (fun q532 => ?_) (fun q533 => ?_)
          · exact g_vret C hr ⟨O510, (((((((Fx.rf (wr := wr_k_X12_readRemain)).pI ta0 hh19 rfl).call F416 rfl).call F442 rfl).call F465 rfl).call F488 rfl).call F511 rfl), ⟨p523, by rw [e516, p527]; omega, by rw [e520, e516, p527]; omega, by rw [e522, e516]; omega⟩, (by unfold ST; rw [e2, e516, e8, e522, e5, e520]; omega)⟩ (by decide) (by decide) dX12_readRemain_154
          · exact (no_eq f531 (il 0) q533 (by decide)).elim
        · have f534 : (0 : Int) ≤ v519 ∧ v519 ≤ (0 : Int) := ii f521 (r_eq (il 0) q530) (by decide) (by decide)
          refine g_iload C 0 rfl dX12_readRemain_111 ?_
          refine g_iload_n C rfl 2 rfl dX12_readRemain_113 ?_
          refine g_icmp_ge C (iw f512 (by decide) (by decide)) (iw f466 (by decide) (by decide)) 132 (by decide) dX12_readRemain_114 (fun q535 => ?_) (fun q536 => ?_)
          · refine g_aload_n C rfl 4 rfl dX12_readRemain_132 ?_
            refine gf_I C fk_LandSurveyModel_320 rfl e517 e520 dX12_readRemain_133 ?_
            refine g_if_ne C (iw f534 (by decide) (by decide)) 154 (by decide) dX12_readRemain_136 (fun q537 => ?_) (fun q538 => ?_)
            · exact (no_ne f534 (il 0) q537 (by decide)).elim
            · refine g_aload_n C rfl 4 rfl dX12_readRemain_139 ?_
              have e539 : Rv h507 a0 22 = v393 := ((fxR F511 e494 rfl).trans ((fxR F488 e471 rfl).trans ((fxR F465 e448 rfl).trans ((fxR F442 e424 rfl).trans ((fxR F416 e22 rfl).trans e394)))))
              refine gf_R C fk_LandSurveyModel_131 rfl e517 e539 dX12_readRemain_140 ?_
              refine g_iload_n C rfl 3 rfl dX12_readRemain_143 ?_
              refine g_iload_n C rfl 2 rfl dX12_readRemain_144 ?_
              have e540 : Tg h507 v393 = 122100 := (fxT F511 (fxT F488 (fxT F465 (fxT F442 (fxT F416 t395)))))
              have e541 : Tg h412 v393 = 122100 := (fxT F416 t395)
              have e542 : Tg h438 v393 = 122100 := (fxT F442 e541)
              have e543 : Tg h461 v393 = 122100 := (fxT F465 e542)
              have e544 : Tg h484 v393 = 122100 := (fxT F488 e543)
              have e545 : Ln h507 v393 = 90 := ((fxL F511 e544).trans ((fxL F488 e543).trans ((fxL F465 e542).trans ((fxL F442 e541).trans ((fxL F416 t395).trans l396)))))
              refine g_iast C e540 rfl e545 (by omega) (iw f466 (by decide) (by decide)) dX12_readRemain_145 (fun h547 hh546 => ?_)
              have O548 := O510.pIa e540 ar_122100 hh546 rI_122100_0 (iw f466 (by decide) (by decide)) nofun
              refine g_aload_n C rfl 4 rfl dX12_readRemain_146 ?_
              have e549 : Tg h547 a0 = 12 := ((pIT hh546).trans e517)
              obtain ⟨v550, e551⟩ : ∃ z, Rv h547 a0 23 = z := ⟨_, rfl⟩
              have t552 := ok_R O548 e549 rE_12_23 e551
              have l553 := ok_L O548 e549 rE_12_23 e551
              refine gf_R C fk_LandSurveyModel_134 rfl e549 e551 dX12_readRemain_147 ?_
              refine g_iload_n C rfl 3 rfl dX12_readRemain_150 ?_
              refine g_iload C 0 rfl dX12_readRemain_151 ?_
              refine g_iast C t552 rfl l553 (by omega) (iw f512 (by decide) (by decide)) dX12_readRemain_153 (fun h555 hh554 => ?_)
              have O556 := O548.pIa t552 ar_123100 hh554 rI_123100_0 f512 nofun
              have e557 : Iv h555 a0 7 = v515 := ((pI_n hh554 (ne_tag e549 t552 (by decide))).trans ((pI_n hh546 (ne_tag e517 e540 (by decide))).trans e516))
              have e558 : Iv h555 a0 8 = v519 := ((pI_n hh554 (ne_tag e549 t552 (by decide))).trans ((pI_n hh546 (ne_tag e517 e540 (by decide))).trans e520))
              have e559 : Iv h555 a0 28 = v7 := ((pI_n hh554 (ne_tag e549 t552 (by decide))).trans ((pI_n hh546 (ne_tag e517 e540 (by decide))).trans e522))
              have p560 := (TK_fx O548 ((Fx.rf (wr := [24620000]) (h := h547)).pIa t552 ar_123100 hh554 rfl) e549 rfl (TK_fx O510 ((Fx.rf (wr := [24420000]) (h := h507)).pIa e540 ar_122100 hh546 rfl) e517 rfl p523))
              have p561 := ((NT_fx O548 ((Fx.rf (wr := [24620000]) (h := h547)).pIa t552 ar_123100 hh554 rfl) e549 rfl).trans ((NT_fx O510 ((Fx.rf (wr := [24420000]) (h := h507)).pIa e540 ar_122100 hh546 rfl) e517 rfl).trans p527))
              exact g_vret C hr ⟨O556, (((((((((Fx.rf (wr := wr_k_X12_readRemain)).pI ta0 hh19 rfl).call F416 rfl).call F442 rfl).call F465 rfl).call F488 rfl).call F511 rfl).pIa e540 ar_122100 hh546 rfl).pIa t552 ar_123100 hh554 rfl), ⟨p560, by rw [e557, p561]; omega, by rw [e558, e557, p561]; omega, by rw [e559, e557]; omega⟩, (by unfold ST; rw [e2, e557, e8, e559, e5, e558]; omega)⟩ (by decide) (by decide) dX12_readRemain_154
          · have f562 : (0 : Int) ≤ r506 ∧ r506 ≤ (8 : Int) := r_lt f512 f466 q536 (by decide) (by decide)
            have f563 : (1 : Int) ≤ r460 ∧ r460 ≤ (9 : Int) := r_gt f466 f512 q536 (by decide) (by decide)
            refine g_aload_n C rfl 4 rfl dX12_readRemain_117 ?_
            refine g_iconst C dX12_readRemain_118 ?_
            refine g_bipush C (by decide) dX12_readRemain_119 ?_
            refine g_aload_n C rfl 4 rfl dX12_readRemain_121 ?_
            obtain ⟨v564, e565⟩ : ∃ z, Rv h507 a0 5 = z := ⟨_, rfl⟩
            have t566 := ok_R O510 e517 rE_12_5 e565
            have l567 := ok_L O510 e517 rE_12_5 e565
            refine gf_R C fk_LandSurveyModel_27 rfl e517 e565 dX12_readRemain_122 ?_
            refine g_iload_n C rfl 1 rfl dX12_readRemain_125 ?_
            obtain ⟨v568, e569⟩ : ∃ z, Iv h507 v564 v492.toNat = z := ⟨_, rfl⟩
            have f570 := ok_Ia O510 t566 ar_105100 rI_105100_0 e569
            refine g_iald C t566 rfl l567 (ix f495 (by decide) (by decide)) e569 dX12_readRemain_126 ?_
            have f571 : (0 : Int) ≤ (16 * v568) ∧ (16 * v568) ≤ (24000 : Int) := ia_mul (by decide) f570 (by decide) (by decide)
            refine g_imul C dX12_readRemain_127 ?_
            have f572 : (4 : Int) ≤ (4 + (16 * v568)) ∧ (4 + (16 * v568)) ≤ (24004 : Int) := ia_add (il 4) f571 (by decide) (by decide)
            refine g_iadd C dX12_readRemain_128 ?_
            refine gp_I C fk_LandSurveyModel_320 pk_LandSurveyModel_8 rfl e517 (iw f572 (by decide) (by decide)) (nf_i _) dX12_readRemain_129 (fun h574 hh573 => ?_)
            have O575 := O510.pI e517 hh573 rI_12_8 (iw f572 (by decide) (by decide)) nofun
            refine g_aload_n C rfl 4 rfl dX12_readRemain_132 ?_
            have e576 : Tg h574 a0 = 12 := ((pIT hh573).trans e517)
            refine gf_I C fk_LandSurveyModel_320 rfl e576 (pI_e hh573) dX12_readRemain_133 ?_
            refine g_if_ne C (iw f572 (by decide) (by decide)) 154 (by decide) dX12_readRemain_136 (fun q577 => ?_) (fun q578 => ?_)
            · have e579 : Iv h574 a0 7 = v515 := ((pI_j hh573 (by decide)).trans e516)
              have e580 : Iv h574 a0 28 = v7 := ((pI_j hh573 (by decide)).trans e522)
              have p581 := (TK_fx O510 ((Fx.rf (wr := [2408]) (h := h507)).pI e517 hh573 rfl) e517 rfl p523)
              have p582 := ((NT_fx O510 ((Fx.rf (wr := [2408]) (h := h507)).pI e517 hh573 rfl) e517 rfl).trans p527)
              exact g_vret C hr ⟨O575, ((((((((Fx.rf (wr := wr_k_X12_readRemain)).pI ta0 hh19 rfl).call F416 rfl).call F442 rfl).call F465 rfl).call F488 rfl).call F511 rfl).pI e517 hh573 rfl), ⟨p581, by rw [e579, p582]; omega, by rw [(pI_e hh573), e579, p582]; omega, by rw [e580, e579]; omega⟩, (by unfold ST; rw [e2, e579, e8, e580, e5, (pI_e hh573)]; omega)⟩ (by decide) (by decide) dX12_readRemain_154
            · exact (no_eq f572 (il 0) q578 (by decide)).elim
      · have f583 : (0 : Int) ≤ v403 ∧ v403 ≤ (9 : Int) := r_ge f405 (il 0) q407 (by decide) (by decide)
        refine g_aload_n C rfl 0 rfl dX12_readRemain_60 ?_
        refine g_iconst C dX12_readRemain_61 ?_
        refine g_callV (st := []) (gc_V C lk_LandSurveyModel_326 (k_X12_wrong l D cy w z0 O21 e22 (iw (il 3) (by decide) (by decide))) e22 rfl rfl rfl ⟨by decide, by decide⟩ (Nat.le_of_ble_eq_true rfl) dX12_readRemain_62 ⟨(by decide), (by decide)⟩) (fun h585 K586 => ?_)
        obtain ⟨O588, F589, p590⟩ := K586
        obtain ⟨v591, e592⟩ : ∃ z, Iv h585 a0 8 = z := ⟨_, rfl⟩
        have e593 : Tg h585 a0 = 12 := (fxT F589 e22)
        have f594 := ok_I O588 e593 rI_12_8 e592
        rw [e592] at p590
        have f595 : (1 : Int) ≤ v591 ∧ v591 ≤ (24005 : Int) := by omega
        refine g_bipush C (by decide) dX12_readRemain_65 ?_
        refine g_aload_n C rfl 0 rfl dX12_readRemain_67 ?_
        refine g_iconst C dX12_readRemain_68 ?_
        refine g_bipush C (by decide) dX12_readRemain_69 ?_
        have e596 : Iv h585 a0 7 = (v1 + 1) := ((fxI F589 e22 rfl).trans (pI_e hh19))
        have e597 : Iv h585 a0 28 = v7 := ((fxI F589 e22 rfl).trans ((pI_j hh19 (by decide)).trans e8))
        have p598 := (TK_fx O21 F589 e22 rfl p397)
        have p599 := ((NT_fx O21 F589 e22 rfl).trans p398)
        refine g_callI (st := [.inl 80]) (gc_V C lk_LandSurveyModel_383 (k_X12_takeNumber l D cy w z0 O588 e593 (iw (il 0) (by decide) (by decide)) (iw (il 9) (by decide) (by decide)) ⟨p598, by rw [e596, p599]; omega, by rw [e592, e596, p599]; omega, by rw [e597, e596]; omega⟩) e593 rfl rfl rfl ⟨by decide, by decide⟩ (Nat.le_of_ble_eq_true rfl) dX12_readRemain_71 ⟨(by decide), (by decide)⟩) (fun r600 h601 f603 K602 => ?_)
        obtain ⟨O604, F605, f606, p607, p608, p609, p610⟩ := K602
        obtain ⟨v611, e612⟩ : ∃ z, Iv h601 a0 7 = z := ⟨_, rfl⟩
        have e613 : Tg h601 a0 = 12 := (fxT F605 e593)
        have f614 := ok_I O604 e613 rI_12_7 e612
        obtain ⟨v615, e616⟩ : ∃ z, Iv h601 a0 8 = z := ⟨_, rfl⟩
        have f617 := ok_I O604 e613 rI_12_8 e616
        have e618 : Iv h601 a0 28 = v7 := ((fxI F605 e593 rfl).trans e597)
        obtain ⟨p619, p620, p621, p622⟩ := p607
        have p623 := ((NT_fx O588 F605 e593 rfl).trans p599)
        rw [e612, p623] at p620
        rw [e616, e612, p623] at p621
        rw [e618, e612] at p622
        have p624 := p608
        unfold ST at p624
        rw [e596, e612, e597, e618, e592, e616] at p624
        rw [e616, e612, e596] at p610
        have f625 : (80 : Int) ≤ (80 + r600) ∧ (80 + r600) ≤ (280 : Int) := ia_add (il 80) f606 (by decide) (by decide)
        refine g_iadd C dX12_readRemain_74 ?_
        refine g_istore_n C [(1, .inl (80 + r600)), (0, .inr (.inr a0))] rfl (by decide) rfl dX12_readRemain_75 ?_
        refine g_aload_n C rfl 1 rfl dX12_readRemain_76 ?_
        refine g_bipush C (by decide) dX12_readRemain_77 ?_
        refine g_callV (st := []) (gc_V C lk_LandSurveyModel_387 (k_X12_takeWord l D cy w z0 O604 e613 (iw (il 10) (by decide) (by decide)) ⟨p619, by rw [e612, p623]; omega, by rw [e616, e612, p623]; omega, by rw [e618, e612]; omega⟩) e613 rfl rfl rfl ⟨by decide, by decide⟩ (Nat.le_of_ble_eq_true rfl) dX12_readRemain_79 ⟨(by decide), (by decide)⟩) (fun h627 K628 => ?_)
        obtain ⟨O630, F631, p632, p633, p634⟩ := K628
        obtain ⟨v635, e636⟩ : ∃ z, Iv h627 a0 7 = z := ⟨_, rfl⟩
        have e637 : Tg h627 a0 = 12 := (fxT F631 e613)
        have f638 := ok_I O630 e637 rI_12_7 e636
        obtain ⟨v639, e640⟩ : ∃ z, Iv h627 a0 8 = z := ⟨_, rfl⟩
        have f641 := ok_I O630 e637 rI_12_8 e640
        have e642 : Iv h627 a0 28 = v7 := ((fxI F631 e613 rfl).trans e618)
        obtain ⟨p643, p644, p645, p646⟩ := p632
        have p647 := ((NT_fx O604 F631 e613 rfl).trans p623)
        rw [e636, p647] at p644
        rw [e640, e636, p647] at p645
        rw [e642, e636] at p646
        have p648 := p633
        unfold ST at p648
        rw [e612, e636, e618, e642, e616, e640] at p648
        rw [e640, e636, e612] at p634
        refine g_aload_n C rfl 1 rfl dX12_readRemain_82 ?_
        refine g_callI (st := []) (gc_V C lk_LandSurveyModel_374 (k_X12_takeRock l D cy w z0 O630 e637 ⟨p643, by rw [e636, p647]; omega, by rw [e640, e636, p647]; omega, by rw [e642, e636]; omega⟩) e637 rfl rfl rfl ⟨by decide, by decide⟩ (Nat.le_of_ble_eq_true rfl) dX12_readRemain_83 ⟨(by decide), (by decide)⟩) (fun r649 h650 f652 K651 => ?_)
        obtain ⟨O653, F654, f655, p656, p657⟩ := K651
        obtain ⟨v658, e659⟩ : ∃ z, Iv h650 a0 7 = z := ⟨_, rfl⟩
        have e660 : Tg h650 a0 = 12 := (fxT F654 e637)
        have f661 := ok_I O653 e660 rI_12_7 e659
        obtain ⟨v662, e663⟩ : ∃ z, Iv h650 a0 8 = z := ⟨_, rfl⟩
        have f664 := ok_I O653 e660 rI_12_8 e663
        have e665 : Iv h650 a0 28 = v7 := ((fxI F654 e637 rfl).trans e642)
        obtain ⟨p666, p667, p668, p669⟩ := p656
        have p670 := ((NT_fx O630 F654 e637 rfl).trans p647)
        rw [e659, p670] at p667
        rw [e663, e659, p670] at p668
        rw [e665, e659] at p669
        have p671 := p657
        unfold ST at p671
        rw [e636, e659, e642, e665, e640, e663] at p671
        refine g_istore_n C [(2, .inl r649), (1, .inl (80 + r600)), (0, .inr (.inr a0))] rfl (by decide) rfl dX12_readRemain_86 ?_
        refine g_aload_n C rfl 2 rfl dX12_readRemain_87 ?_
        refine g_bipush C (by decide) dX12_readRemain_88 ?_
        refine g_callV (st := []) (gc_V C lk_LandSurveyModel_387 (k_X12_takeWord l D cy w z0 O653 e660 (iw (il 9) (by decide) (by decide)) ⟨p666, by rw [e659, p670]; omega, by rw [e663, e659, p670]; omega, by rw [e665, e659]; omega⟩) e660 rfl rfl rfl ⟨by decide, by decide⟩ (Nat.le_of_ble_eq_true rfl) dX12_readRemain_90 ⟨(by decide), (by decide)⟩) (fun h673 K674 => ?_)
        obtain ⟨O676, F677, p678, p679, p680⟩ := K674
        obtain ⟨v681, e682⟩ : ∃ z, Iv h673 a0 7 = z := ⟨_, rfl⟩
        have e683 : Tg h673 a0 = 12 := (fxT F677 e660)
        have f684 := ok_I O676 e683 rI_12_7 e682
        obtain ⟨v685, e686⟩ : ∃ z, Iv h673 a0 8 = z := ⟨_, rfl⟩
        have f687 := ok_I O676 e683 rI_12_8 e686
        have e688 : Iv h673 a0 28 = v7 := ((fxI F677 e660 rfl).trans e665)
        obtain ⟨p689, p690, p691, p692⟩ := p678
        have p693 := ((NT_fx O653 F677 e660 rfl).trans p670)
        rw [e682, p693] at p690
        rw [e686, e682, p693] at p691
        rw [e688, e682] at p692
        have p694 := p679
        unfold ST at p694
        rw [e659, e682, e665, e688, e663, e686] at p694
        rw [e686, e682, e659] at p680
        refine g_aload_n C rfl 2 rfl dX12_readRemain_93 ?_
        refine gf_I C fk_LandSurveyModel_317 rfl e683 e682 dX12_readRemain_94 ?_
        refine g_istore_n C [(3, .inl v681), (2, .inl r649), (1, .inl (80 + r600)), (0, .inr (.inr a0))] rfl (by decide) rfl dX12_readRemain_97 ?_
        refine g_aload_n C rfl 3 rfl dX12_readRemain_98 ?_
        refine g_callI (st := []) (gc_V C lk_LandSurveyModel_374 (k_X12_takeRock l D cy w z0 O676 e683 ⟨p689, by rw [e682, p693]; omega, by rw [e686, e682, p693]; omega, by rw [e688, e682]; omega⟩) e683 rfl rfl rfl ⟨by decide, by decide⟩ (Nat.le_of_ble_eq_true rfl) dX12_readRemain_99 ⟨(by decide), (by decide)⟩) (fun r695 h696 f698 K697 => ?_)
        obtain ⟨O699, F700, f701, p702, p703⟩ := K697
        obtain ⟨v704, e705⟩ : ∃ z, Iv h696 a0 7 = z := ⟨_, rfl⟩
        have e706 : Tg h696 a0 = 12 := (fxT F700 e683)
        have f707 := ok_I O699 e706 rI_12_7 e705
        obtain ⟨v708, e709⟩ : ∃ z, Iv h696 a0 8 = z := ⟨_, rfl⟩
        have f710 := ok_I O699 e706 rI_12_8 e709
        have e711 : Iv h696 a0 28 = v7 := ((fxI F700 e683 rfl).trans e688)
        obtain ⟨p712, p713, p714, p715⟩ := p702
        have p716 := ((NT_fx O676 F700 e683 rfl).trans p693)
        rw [e705, p716] at p713
        rw [e709, e705, p716] at p714
        rw [e711, e705] at p715
        have p717 := p703
        unfold ST at p717
        rw [e682, e705, e688, e711, e686, e709] at p717
        refine g_istore C [(4, .inl r695), (3, .inl v681), (2, .inl r649), (1, .inl (80 + r600)), (0, .inr (.inr a0))] (by decide) rfl dX12_readRemain_102 ?_
        refine g_aload_n C rfl 4 rfl dX12_readRemain_104 ?_
        refine gf_I C fk_LandSurveyModel_320 rfl e706 e709 dX12_readRemain_105 ?_
        refine g_if_ne C (iw f710 (by decide) (by decide)) 132 (by decide) dX12_readRemain_108 (fun q718 => ?_) (fun q719 => ?_)
        · have f720 : (1 : Int) ≤ v708 ∧ v708 ≤ (24005 : Int) := r_nl f710 q718
          refine g_aload_n C rfl 4 rfl dX12_readRemain_132 ?_
          refine gf_I C fk_LandSurveyModel_320 rfl e706 e709 dX12_readRemain_133 ?_
          refine g_if_ne C (iw f720 (by decide) (by decide)) 154 (by decide) dX12_readRemain_136 (fun q721 => ?_) (fun q722 => ?_)
          · exact g_vret C hr ⟨O699, ((((((((Fx.rf (wr := wr_k_X12_readRemain)).pI ta0 hh19 rfl).call F589 rfl).call F605 rfl).call F631 rfl).call F654 rfl).call F677 rfl).call F700 rfl), ⟨p712, by rw [e705, p716]; omega, by rw [e709, e705, p716]; omega, by rw [e711, e705]; omega⟩, (by unfold ST; rw [e2, e705, e8, e711, e5, e709]; omega)⟩ (by decide) (by decide) dX12_readRemain_154
          · exact (no_eq f720 (il 0) q722 (by decide)).elim
        · have f723 : (0 : Int) ≤ v708 ∧ v708 ≤ (0 : Int) := ii f710 (r_eq (il 0) q719) (by decide) (by decide)
          refine g_iload C 0 rfl dX12_readRemain_111 ?_
          refine g_iload_n C rfl 2 rfl dX12_readRemain_113 ?_
          refine g_icmp_ge C (iw f701 (by decide) (by decide)) (iw f655 (by decide) (by decide)) 132 (by decide) dX12_readRemain_114 (fun q724 => ?_) (fun q725 => ?_)
          · refine g_aload_n C rfl 4 rfl dX12_readRemain_132 ?_
            refine gf_I C fk_LandSurveyModel_320 rfl e706 e709 dX12_readRemain_133 ?_
            refine g_if_ne C (iw f723 (by decide) (by decide)) 154 (by decide) dX12_readRemain_136 (fun q726 => ?_) (fun q727 => ?_)
            · exact (no_ne f723 (il 0) q726 (by decide)).elim
            · refine g_aload_n C rfl 4 rfl dX12_readRemain_139 ?_
              have e728 : Rv h696 a0 22 = v393 := ((fxR F700 e683 rfl).trans ((fxR F677 e660 rfl).trans ((fxR F654 e637 rfl).trans ((fxR F631 e613 rfl).trans ((fxR F605 e593 rfl).trans ((fxR F589 e22 rfl).trans e394))))))
              refine gf_R C fk_LandSurveyModel_131 rfl e706 e728 dX12_readRemain_140 ?_
              refine g_iload_n C rfl 3 rfl dX12_readRemain_143 ?_
              refine g_iload_n C rfl 2 rfl dX12_readRemain_144 ?_
              have e729 : Tg h696 v393 = 122100 := (fxT F700 (fxT F677 (fxT F654 (fxT F631 (fxT F605 (fxT F589 t395))))))
              have e730 : Tg h585 v393 = 122100 := (fxT F589 t395)
              have e731 : Tg h601 v393 = 122100 := (fxT F605 e730)
              have e732 : Tg h627 v393 = 122100 := (fxT F631 e731)
              have e733 : Tg h650 v393 = 122100 := (fxT F654 e732)
              have e734 : Tg h673 v393 = 122100 := (fxT F677 e733)
              have e735 : Ln h696 v393 = 90 := ((fxL F700 e734).trans ((fxL F677 e733).trans ((fxL F654 e732).trans ((fxL F631 e731).trans ((fxL F605 e730).trans ((fxL F589 t395).trans l396))))))
              refine g_iast C e729 rfl e735 (by omega) (iw f655 (by decide) (by decide)) dX12_readRemain_145 (fun h737 hh736 => ?_)
              have O738 := O699.pIa e729 ar_122100 hh736 rI_122100_0 (iw f655 (by decide) (by decide)) nofun
              refine g_aload_n C rfl 4 rfl dX12_readRemain_146 ?_
              have e739 : Tg h737 a0 = 12 := ((pIT hh736).trans e706)
              obtain ⟨v740, e741⟩ : ∃ z, Rv h737 a0 23 = z := ⟨_, rfl⟩
              have t742 := ok_R O738 e739 rE_12_23 e741
              have l743 := ok_L O738 e739 rE_12_23 e741
              refine gf_R C fk_LandSurveyModel_134 rfl e739 e741 dX12_readRemain_147 ?_
              refine g_iload_n C rfl 3 rfl dX12_readRemain_150 ?_
              refine g_iload C 0 rfl dX12_readRemain_151 ?_
              refine g_iast C t742 rfl l743 (by omega) (iw f701 (by decide) (by decide)) dX12_readRemain_153 (fun h745 hh744 => ?_)
              have O746 := O738.pIa t742 ar_123100 hh744 rI_123100_0 f701 nofun
              have e747 : Iv h745 a0 7 = v704 := ((pI_n hh744 (ne_tag e739 t742 (by decide))).trans ((pI_n hh736 (ne_tag e706 e729 (by decide))).trans e705))
              have e748 : Iv h745 a0 8 = v708 := ((pI_n hh744 (ne_tag e739 t742 (by decide))).trans ((pI_n hh736 (ne_tag e706 e729 (by decide))).trans e709))
              have e749 : Iv h745 a0 28 = v7 := ((pI_n hh744 (ne_tag e739 t742 (by decide))).trans ((pI_n hh736 (ne_tag e706 e729 (by decide))).trans e711))
              have p750 := (TK_fx O738 ((Fx.rf (wr := [24620000]) (h := h737)).pIa t742 ar_123100 hh744 rfl) e739 rfl (TK_fx O699 ((Fx.rf (wr := [24420000]) (h := h696)).pIa e729 ar_122100 hh736 rfl) e706 rfl p712))
              have p751 := ((NT_fx O738 ((Fx.rf (wr := [24620000]) (h := h737)).pIa t742 ar_123100 hh744 rfl) e739 rfl).trans ((NT_fx O699 ((Fx.rf (wr := [24420000]) (h := h696)).pIa e729 ar_122100 hh736 rfl) e706 rfl).trans p716))
              exact g_vret C hr ⟨O746, ((((((((((Fx.rf (wr := wr_k_X12_readRemain)).pI ta0 hh19 rfl).call F589 rfl).call F605 rfl).call F631 rfl).call F654 rfl).call F677 rfl).call F700 rfl).pIa e729 ar_122100 hh736 rfl).pIa t742 ar_123100 hh744 rfl), ⟨p750, by rw [e747, p751]; omega, by rw [e748, e747, p751]; omega, by rw [e749, e747]; omega⟩, (by unfold ST; rw [e2, e747, e8, e749, e5, e748]; omega)⟩ (by decide) (by decide) dX12_readRemain_154
          · have f752 : (0 : Int) ≤ r695 ∧ r695 ≤ (8 : Int) := r_lt f701 f655 q725 (by decide) (by decide)
            have f753 : (1 : Int) ≤ r649 ∧ r649 ≤ (9 : Int) := r_gt f655 f701 q725 (by decide) (by decide)
            refine g_aload_n C rfl 4 rfl dX12_readRemain_117 ?_
            refine g_iconst C dX12_readRemain_118 ?_
            refine g_bipush C (by decide) dX12_readRemain_119 ?_
            refine g_aload_n C rfl 4 rfl dX12_readRemain_121 ?_
            obtain ⟨v754, e755⟩ : ∃ z, Rv h696 a0 5 = z := ⟨_, rfl⟩
            have t756 := ok_R O699 e706 rE_12_5 e755
            have l757 := ok_L O699 e706 rE_12_5 e755
            refine gf_R C fk_LandSurveyModel_27 rfl e706 e755 dX12_readRemain_122 ?_
            refine g_iload_n C rfl 1 rfl dX12_readRemain_125 ?_
            obtain ⟨v758, e759⟩ : ∃ z, Iv h696 v754 v681.toNat = z := ⟨_, rfl⟩
            have f760 := ok_Ia O699 t756 ar_105100 rI_105100_0 e759
            refine g_iald C t756 rfl l757 (ix f684 (by decide) (by decide)) e759 dX12_readRemain_126 ?_
            have f761 : (0 : Int) ≤ (16 * v758) ∧ (16 * v758) ≤ (24000 : Int) := ia_mul (by decide) f760 (by decide) (by decide)
            refine g_imul C dX12_readRemain_127 ?_
            have f762 : (4 : Int) ≤ (4 + (16 * v758)) ∧ (4 + (16 * v758)) ≤ (24004 : Int) := ia_add (il 4) f761 (by decide) (by decide)
            refine g_iadd C dX12_readRemain_128 ?_
            refine gp_I C fk_LandSurveyModel_320 pk_LandSurveyModel_8 rfl e706 (iw f762 (by decide) (by decide)) (nf_i _) dX12_readRemain_129 (fun h764 hh763 => ?_)
            have O765 := O699.pI e706 hh763 rI_12_8 (iw f762 (by decide) (by decide)) nofun
            refine g_aload_n C rfl 4 rfl dX12_readRemain_132 ?_
            have e766 : Tg h764 a0 = 12 := ((pIT hh763).trans e706)
            refine gf_I C fk_LandSurveyModel_320 rfl e766 (pI_e hh763) dX12_readRemain_133 ?_
            refine g_if_ne C (iw f762 (by decide) (by decide)) 154 (by decide) dX12_readRemain_136 (fun q767 => ?_) (fun q768 => ?_)
            · have e769 : Iv h764 a0 7 = v704 := ((pI_j hh763 (by decide)).trans e705)
              have e770 : Iv h764 a0 28 = v7 := ((pI_j hh763 (by decide)).trans e711)
              have p771 := (TK_fx O699 ((Fx.rf (wr := [2408]) (h := h696)).pI e706 hh763 rfl) e706 rfl p712)
              have p772 := ((NT_fx O699 ((Fx.rf (wr := [2408]) (h := h696)).pI e706 hh763 rfl) e706 rfl).trans p716)
              exact g_vret C hr ⟨O765, (((((((((Fx.rf (wr := wr_k_X12_readRemain)).pI ta0 hh19 rfl).call F589 rfl).call F605 rfl).call F631 rfl).call F654 rfl).call F677 rfl).call F700 rfl).pI e706 hh763 rfl), ⟨p771, by rw [e769, p772]; omega, by rw [(pI_e hh763), e769, p772]; omega, by rw [e770, e769]; omega⟩, (by unfold ST; rw [e2, e769, e8, e770, e5, (pI_e hh763)]; omega)⟩ (by decide) (by decide) dX12_readRemain_154
            · exact (no_eq f762 (il 0) q768 (by decide)).elim
def wr_k_X12_readLine : List Nat := [2407, 2408, 2428, 24820000, 25020000, 25220000, 25420000, 25820000, 26020000]
set_option maxRecDepth 100000 in
set_option maxHeartbeats 4000000 in
theorem k_X12_readLine (l : Launch) (D : va_G) (cy : Nat → ClassId) (w : Nat → Nat) (z0 : Nat)  {h : Hp} {a0 : Nat}  (O : Okh h) (ta0 : Tg h a0 = 12) (P_RD : RD h a0) (P_kw : Iv h a0 8 = 0 ∧ Iv h a0 7 < NT h a0) (P_MInv : MInv h a0) (P_DLf : DLf h a0) : MV l D cy w z0 yX12_readLine cX12_readLine 2 none 22 488 0 0 [.inr (.inr a0)] h (fun h1 => Okh h1 ∧ Fx wr_k_X12_readLine h h1 ∧ (RD h1 a0) ∧ (ST h h1 a0) ∧ (MInv h1 a0) ∧ (DLf h1 a0)) := by
  obtain ⟨v1, e2⟩ : ∃ z, Iv h a0 7 = z := ⟨_, rfl⟩
  have f3 := ok_I O ta0 rI_12_7 e2
  obtain ⟨v4, e5⟩ : ∃ z, Iv h a0 8 = z := ⟨_, rfl⟩
  have f6 := ok_I O ta0 rI_12_8 e5
  obtain ⟨v7, e8⟩ : ∃ z, Iv h a0 28 = z := ⟨_, rfl⟩
  have f9 := ok_I O ta0 rI_12_28 e8
  obtain ⟨p10, p11, p12, p13⟩ := P_RD
  obtain ⟨v14, e15⟩ : ∃ z, NT h a0 = z := ⟨_, rfl⟩
  have f16 : (0 : Int) ≤ v14 ∧ v14 ≤ (1500 : Int) := NT_rng p10 e15
  rw [e2, e15] at p11
  rw [e5, e2, e15] at p12
  rw [e8, e2] at p13
  rw [e5, e2, e15] at P_kw
  have f17 : (0 : Int) ≤ v4 ∧ v4 ≤ (0 : Int) := by omega
  refine hm_go (by decide +kernel) (Nat.le_of_ble_eq_true rfl) (fun p e s m below meth c C hr hn => ?_)
  refine g_aload_n C rfl 0 rfl dX12_readLine_0 ?_
  obtain ⟨v18, e19⟩ : ∃ z, Rv h a0 24 = z := ⟨_, rfl⟩
  have t20 := ok_R O ta0 rE_12_24 e19
  have l21 := ok_L O ta0 rE_12_24 e19
  refine gf_R C fk_LandSurveyModel_137 rfl ta0 e19 dX12_readLine_1 ?_
  refine g_bipush C (by decide) dX12_readLine_4 ?_
  obtain ⟨v22, e23⟩ : ∃ z, Iv h v18 ((8 : Int).toNat) = z := ⟨_, rfl⟩
  have f24 := ok_Ia O t20 ar_124100 rI_124100_0 e23
  refine g_iald C t20 rfl l21 (ix (il 8) (by decide) (by decide)) e23 dX12_readLine_6 ?_
  refine g_bipush C (by decide) dX12_readLine_7 ?_
  refine g_icmp_ne C (iw f24 (by decide) (by decide)) (iw (il 24) (by decide) (by decide)) 18 (by decide) dX12_readLine_9 (fun q25 => ?_) (fun q26 => ?_)
  · have f27 : (0 : Int) ≤ v22 ∧ v22 ≤ (23 : Int) := r_nh f24 q25
    have e28 : Iv h (Rv h a0 24) 8 = v22 := by rw [e19]; exact e23
    have p29 := P_DLf (by rw [e5]; omega)
    rw [e28] at p29
    refine g_sipush C (by decide) dX12_readLine_18 ?_
    refine g_aload_n C rfl 0 rfl dX12_readLine_21 ?_
    refine gf_R C fk_LandSurveyModel_137 rfl ta0 e19 dX12_readLine_22 ?_
    refine g_bipush C (by decide) dX12_readLine_25 ?_
    refine g_iald C t20 rfl l21 (ix (il 8) (by decide) (by decide)) e23 dX12_readLine_27 ?_
    have f30 : (192 : Int) ≤ (192 + v22) ∧ (192 + v22) ≤ (215 : Int) := ia_add (il 192) f27 (by decide) (by decide)
    refine g_iadd C dX12_readLine_28 ?_
    refine g_istore_n C [(1, .inl (192 + v22)), (0, .inr (.inr a0))] rfl (by decide) rfl dX12_readLine_29 ?_
    refine g_aload_n C rfl 1 rfl dX12_readLine_30 ?_
    obtain ⟨v31, e32⟩ : ∃ z, Rv h a0 25 = z := ⟨_, rfl⟩
    have t33 := ok_R O ta0 rE_12_25 e32
    have l34 := ok_L O ta0 rE_12_25 e32
    refine gf_R C fk_LandSurveyModel_140 rfl ta0 e32 dX12_readLine_31 ?_
    refine g_iload_n C rfl 0 rfl dX12_readLine_34 ?_
    refine g_aload_n C rfl 1 rfl dX12_readLine_35 ?_
    refine g_iconst C dX12_readLine_36 ?_
    refine g_callI (st := [.inl (192 + v22), .inr (.inr v31)]) (gc_V C lk_LandSurveyModel_330 (k_X12_isWord l D cy w z0 O ta0 (iw (il 1) (by decide) (by decide)) ⟨p10, by rw [e2, e15]; omega, by rw [e5, e2, e15]; omega, by rw [e8, e2]; omega⟩) ta0 rfl rfl rfl ⟨by decide, by decide⟩ (Nat.le_of_ble_eq_true rfl) dX12_readLine_37 ⟨(by decide), (by decide)⟩) (fun r35 h36 f38 K37 => ?_)
    obtain ⟨O39, F40, f41, p42, p43⟩ := K37
    rw [e5, e2, e15] at p42
    obtain ⟨v44, e45⟩ : ∃ z, Rv h a0 4 = z := ⟨_, rfl⟩
    have t46 := ok_R O ta0 rE_12_4 e45
    have l47 := ok_L O ta0 rE_12_4 e45
    obtain ⟨v48, e49⟩ : ∃ z, Iv h v44 v1.toNat = z := ⟨_, rfl⟩
    have f50 := ok_Ia O t46 ar_104100 rI_104100_0 e49
    obtain ⟨v51, e52⟩ : ∃ z, Rv h a0 6 = z := ⟨_, rfl⟩
    have t53 := ok_R O ta0 rE_12_6 e52
    have l54 := ok_L O ta0 rE_12_6 e52
    obtain ⟨v55, e56⟩ : ∃ z, Jv h v51 v1.toNat = z := ⟨_, rfl⟩
    have f57 := inL_J O e56
    obtain ⟨v58, e59⟩ : ∃ z, Rv h a0 9 = z := ⟨_, rfl⟩
    have t60 := ok_R O ta0 rE_12_9 e59
    have l61 := ok_L O ta0 rE_12_9 e59
    obtain ⟨v62, e63⟩ : ∃ z, Jv h v58 ((1 : Int).toNat) = z := ⟨_, rfl⟩
    have f64 := inL_J O e63
    rw [e5, e45, e2, e49, e52, e56, e59, e63] at p43
    refine g_if_eq C (iw f41 (by decide) (by decide)) 47 (by decide) dX12_readLine_40 (fun q65 => ?_) (fun q66 => ?_)
    · have f67 : (0 : Int) ≤ r35 ∧ r35 ≤ (0 : Int) := ii f41 (r_eq (il 0) q65) (by decide) (by decide)
      refine g_aload_n C rfl 1 rfl dX12_readLine_47 ?_
      refine g_iconst C dX12_readLine_48 ?_
      have e68 : Tg h36 a0 = 12 := (fxT F40 ta0)
      have e69 : Iv h36 a0 7 = v1 := ((fxI F40 ta0 rfl).trans e2)
      have e70 : Iv h36 a0 8 = v4 := ((fxI F40 ta0 rfl).trans e5)
      have e71 : Iv h36 a0 28 = v7 := ((fxI F40 ta0 rfl).trans e8)
      have p72 := (TK_fx O F40 ta0 rfl p10)
      have p73 := ((NT_fx O F40 ta0 rfl).trans e15)
      refine g_callI (st := [.inl (192 + v22), .inr (.inr v31)]) (gc_V C lk_LandSurveyModel_330 (k_X12_isWord l D cy w z0 O39 e68 (iw (il 2) (by decide) (by decide)) ⟨p72, by rw [e69, p73]; omega, by rw [e70, e69, p73]; omega, by rw [e71, e69]; omega⟩) e68 rfl rfl rfl ⟨by decide, by decide⟩ (Nat.le_of_ble_eq_true rfl) dX12_readLine_49 ⟨(by decide), (by decide)⟩) (fun r74 h75 f77 K76 => ?_)
      obtain ⟨O78, F79, f80, p81, p82⟩ := K76
      rw [e70, e69, p73] at p81
      have e83 : Rv h36 a0 4 = v44 := ((fxR F40 ta0 rfl).trans e45)
      have e84 : Iv h36 v44 v1.toNat = v48 := ((fxIa F40 t46 ar_104100 rfl).trans e49)
      have e85 : Rv h36 a0 6 = v51 := ((fxR F40 ta0 rfl).trans e52)
      have e86 : Jv h36 v51 v1.toNat = v55 := ((fxJa F40 t53 ar_106102 rfl).trans e56)
      have e87 : Rv h36 a0 9 = v58 := ((fxR F40 ta0 rfl).trans e59)
      obtain ⟨v88, e89⟩ : ∃ z, Jv h36 v58 ((2 : Int).toNat) = z := ⟨_, rfl⟩
      have e90 : Tg h36 v58 = 109102 := (fxT F40 t60)
      have f91 := inL_J O39 e89
      rw [e70, e83, e69, e84, e85, e86, e87, e89] at p82
      refine g_if_eq C (iw f80 (by decide) (by decide)) 59 (by decide) dX12_readLine_52 (fun q92 => ?_) (fun q93 => ?_)
      · have f94 : (0 : Int) ≤ r74 ∧ r74 ≤ (0 : Int) := ii f80 (r_eq (il 0) q92) (by decide) (by decide)
        refine g_iconst C dX12_readLine_59 ?_
        have e95 : Tg h75 v31 = 125100 := (fxT F79 (fxT F40 t33))
        have e96 : Tg h36 v31 = 125100 := (fxT F40 t33)
        have e97 : Ln h75 v31 = 216 := ((fxL F79 e96).trans ((fxL F40 t33).trans l34))
        refine g_iast C e95 rfl e97 (ix f30 (by decide) (by decide)) (iw (il 3) (by decide) (by decide)) dX12_readLine_60 (fun h99 hh98 => ?_)
        have O100 := O78.pIa e95 ar_125100 hh98 rI_125100_0 (iw (il 3) (by decide) (by decide)) nofun
        refine g_aload_n C rfl 1 rfl dX12_readLine_61 ?_
        refine g_dup C rfl dX12_readLine_62 ?_
        have e101 : Tg h99 a0 = 12 := ((pIT hh98).trans (fxT F79 e68))
        have e102 : Tg h75 a0 = 12 := (fxT F79 e68)
        have e103 : Iv h99 a0 7 = v1 := ((pI_n hh98 (ne_tag e102 e95 (by decide))).trans ((fxI F79 e68 rfl).trans e69))
        refine gf_I C fk_LandSurveyModel_317 rfl e101 e103 dX12_readLine_63 ?_
        refine g_iconst C dX12_readLine_66 ?_
        have f104 : (1 : Int) ≤ (v1 + 1) ∧ (v1 + 1) ≤ (1502 : Int) := ia_add f3 (il 1) (by decide) (by decide)
        refine g_iadd C dX12_readLine_67 ?_
        refine gp_I C fk_LandSurveyModel_317 pk_LandSurveyModel_7 rfl e101 (iw f104 (by decide) (by decide)) (nf_i _) dX12_readLine_68 (fun h106 hh105 => ?_)
        have O107 := O100.pI e101 hh105 rI_12_7 (by omega) nofun
        refine g_aload_n C rfl 1 rfl dX12_readLine_71 ?_
        have e108 : Tg h106 a0 = 12 := ((pIT hh105).trans e101)
        have e109 : Rv h106 a0 25 = v31 := ((pIR hh105).trans ((pIR hh98).trans ((fxR F79 e68 rfl).trans ((fxR F40 ta0 rfl).trans e32))))
        refine gf_R C fk_LandSurveyModel_140 rfl e108 e109 dX12_readLine_72 ?_
        refine g_iload_n C rfl 0 rfl dX12_readLine_75 ?_
        have e110 : Tg h106 v31 = 125100 := ((pIT hh105).trans ((pIT hh98).trans e95))
        have e111 : Ln h106 v31 = 216 := ((pIL hh105).trans ((pIL hh98).trans e97))
        have e112 : Tg h99 v31 = 125100 := ((pIT hh98).trans e95)
        have e113 : Iv h106 v31 ((192 + v22).toNat) = 3 := ((pI_n hh105 (ne_tag e112 e101 (by decide))).trans (pI_e hh98))
        refine g_iald C e110 rfl e111 (ix f30 (by decide) (by decide)) e113 dX12_readLine_76 ?_
        refine g_iconst C dX12_readLine_77 ?_
        refine g_icmp_ne C (iw (il 3) (by decide) (by decide)) (iw (il 1) (by decide) (by decide)) 94 (by decide) dX12_readLine_78 (fun q114 => ?_) (fun q115 => ?_)
        · refine g_aload_n C rfl 1 rfl dX12_readLine_94 ?_
          refine gf_R C fk_LandSurveyModel_140 rfl e108 e109 dX12_readLine_95 ?_
          refine g_iload_n C rfl 0 rfl dX12_readLine_98 ?_
          refine g_iald C e110 rfl e111 (ix f30 (by decide) (by decide)) e113 dX12_readLine_99 ?_
          refine g_iconst C dX12_readLine_100 ?_
          refine g_icmp_ne C (iw (il 3) (by decide) (by decide)) (iw (il 2) (by decide) (by decide)) 120 (by decide) dX12_readLine_101 (fun q116 => ?_) (fun q117 => ?_)
          · refine g_aload_n C rfl 1 rfl dX12_readLine_120 ?_
            obtain ⟨v118, e119⟩ : ∃ z, Rv h106 a0 26 = z := ⟨_, rfl⟩
            have t120 := ok_R O107 e108 rE_12_26 e119
            have l121 := ok_L O107 e108 rE_12_26 e119
            refine gf_R C fk_LandSurveyModel_143 rfl e108 e119 dX12_readLine_121 ?_
            refine g_iload_n C rfl 0 rfl dX12_readLine_124 ?_
            refine g_aload_n C rfl 1 rfl dX12_readLine_125 ?_
            refine g_bipush C (by decide) dX12_readLine_126 ?_
            have e122 : Iv h106 a0 8 = v4 := ((pI_j hh105 (by decide)).trans ((pI_n hh98 (ne_tag e102 e95 (by decide))).trans ((fxI F79 e68 rfl).trans e70)))
            have e123 : Iv h106 a0 28 = v7 := ((pI_j hh105 (by decide)).trans ((pI_n hh98 (ne_tag e102 e95 (by decide))).trans ((fxI F79 e68 rfl).trans e71)))
            have p124 := (TK_fx O100 ((Fx.rf (wr := [2407]) (h := h99)).pI e101 hh105 rfl) e101 rfl (TK_fx O78 ((Fx.rf (wr := [25020000]) (h := h75)).pIa e95 ar_125100 hh98 rfl) e102 rfl (TK_fx O39 F79 e68 rfl p72)))
            have p125 := ((NT_fx O100 ((Fx.rf (wr := [2407]) (h := h99)).pI e101 hh105 rfl) e101 rfl).trans ((NT_fx O78 ((Fx.rf (wr := [25020000]) (h := h75)).pIa e95 ar_125100 hh98 rfl) e102 rfl).trans ((NT_fx O39 F79 e68 rfl).trans p73)))
            refine g_callI (st := [.inl (192 + v22), .inr (.inr v118)]) (gc_V C lk_LandSurveyModel_330 (k_X12_isWord l D cy w z0 O107 e108 (iw (il 12) (by decide) (by decide)) ⟨p124, by rw [(pI_e hh105), p125]; omega, by rw [e122, (pI_e hh105), p125]; omega, by rw [e123, (pI_e hh105)]; omega⟩) e108 rfl rfl rfl ⟨by decide, by decide⟩ (Nat.le_of_ble_eq_true rfl) dX12_readLine_128 ⟨(by decide), (by decide)⟩) (fun r126 h127 f129 K128 => ?_)
            obtain ⟨O130, F131, f132, p133, p134⟩ := K128
            rw [e122, (pI_e hh105), p125] at p133
            have e135 : Rv h106 a0 4 = v44 := ((pIR hh105).trans ((pIR hh98).trans ((fxR F79 e68 rfl).trans e83)))
            obtain ⟨v136, e137⟩ : ∃ z, Iv h106 v44 ((v1 + 1).toNat) = z := ⟨_, rfl⟩
            have e138 : Tg h106 v44 = 104100 := ((pIT hh105).trans ((pIT hh98).trans (fxT F79 (fxT F40 t46))))
            have f139 := ok_Ia O107 e138 ar_104100 rI_104100_0 e137
            have e140 : Rv h106 a0 6 = v51 := ((pIR hh105).trans ((pIR hh98).trans ((fxR F79 e68 rfl).trans e85)))
            obtain ⟨v141, e142⟩ : ∃ z, Jv h106 v51 ((v1 + 1).toNat) = z := ⟨_, rfl⟩
            have e143 : Tg h106 v51 = 106102 := ((pIT hh105).trans ((pIT hh98).trans (fxT F79 (fxT F40 t53))))
            have f144 := inL_J O107 e142
            have e145 : Rv h106 a0 9 = v58 := ((pIR hh105).trans ((pIR hh98).trans ((fxR F79 e68 rfl).trans e87)))
            obtain ⟨v146, e147⟩ : ∃ z, Jv h106 v58 ((12 : Int).toNat) = z := ⟨_, rfl⟩
            have e148 : Tg h106 v58 = 109102 := ((pIT hh105).trans ((pIT hh98).trans (fxT F79 e90)))
            have f149 := inL_J O107 e147
            rw [e122, e135, (pI_e hh105), e137, e140, e142, e145, e147] at p134
            refine g_if_eq C (iw f132 (by decide) (by decide)) 138 (by decide) dX12_readLine_131 (fun q150 => ?_) (fun q151 => ?_)
            · have f152 : (0 : Int) ≤ r126 ∧ r126 ≤ (0 : Int) := ii f132 (r_eq (il 0) q150) (by decide) (by decide)
              refine g_aload_n C rfl 1 rfl dX12_readLine_138 ?_
              refine g_bipush C (by decide) dX12_readLine_139 ?_
              have e153 : Tg h127 a0 = 12 := (fxT F131 e108)
              have e154 : Iv h127 a0 7 = (v1 + 1) := ((fxI F131 e108 rfl).trans (pI_e hh105))
              have e155 : Iv h127 a0 8 = v4 := ((fxI F131 e108 rfl).trans e122)
              have e156 : Iv h127 a0 28 = v7 := ((fxI F131 e108 rfl).trans e123)
              have p157 := (TK_fx O107 F131 e108 rfl p124)
              have p158 := ((NT_fx O107 F131 e108 rfl).trans p125)
              refine g_callI (st := [.inl (192 + v22), .inr (.inr v118)]) (gc_V C lk_LandSurveyModel_330 (k_X12_isWord l D cy w z0 O130 e153 (iw (il 13) (by decide) (by decide)) ⟨p157, by rw [e154, p158]; omega, by rw [e155, e154, p158]; omega, by rw [e156, e154]; omega⟩) e153 rfl rfl rfl ⟨by decide, by decide⟩ (Nat.le_of_ble_eq_true rfl) dX12_readLine_141 ⟨(by decide), (by decide)⟩) (fun r159 h160 f162 K161 => ?_)
              obtain ⟨O163, F164, f165, p166, p167⟩ := K161
              rw [e155, e154, p158] at p166
              have e168 : Rv h127 a0 4 = v44 := ((fxR F131 e108 rfl).trans e135)
              have e169 : Iv h127 v44 ((v1 + 1).toNat) = v136 := ((fxIa F131 e138 ar_104100 rfl).trans e137)
              have e170 : Rv h127 a0 6 = v51 := ((fxR F131 e108 rfl).trans e140)
              have e171 : Jv h127 v51 ((v1 + 1).toNat) = v141 := ((fxJa F131 e143 ar_106102 rfl).trans e142)
              have e172 : Rv h127 a0 9 = v58 := ((fxR F131 e108 rfl).trans e145)
              obtain ⟨v173, e174⟩ : ∃ z, Jv h127 v58 ((13 : Int).toNat) = z := ⟨_, rfl⟩
              have e175 : Tg h127 v58 = 109102 := (fxT F131 e148)
              have f176 := inL_J O130 e174
              rw [e155, e168, e154, e169, e170, e171, e172, e174] at p167
              refine g_if_eq C (iw f165 (by decide) (by decide)) 151 (by decide) dX12_readLine_144 (fun q177 => ?_) (fun q178 => ?_)
              · have f179 : (0 : Int) ≤ r159 ∧ r159 ≤ (0 : Int) := ii f165 (r_eq (il 0) q177) (by decide) (by decide)
                refine g_iconst C dX12_readLine_151 ?_
                have e180 : Tg h160 v118 = 126100 := (fxT F164 (fxT F131 t120))
                have e181 : Tg h127 v118 = 126100 := (fxT F131 t120)
                have e182 : Ln h160 v118 = 216 := ((fxL F164 e181).trans ((fxL F131 t120).trans l121))
                refine g_iast C e180 rfl e182 (ix f30 (by decide) (by decide)) (iw (il 1) (by decide) (by decide)) dX12_readLine_152 (fun h184 hh183 => ?_)
                have O185 := O163.pIa e180 ar_126100 hh183 rI_126100_0 (iw (il 1) (by decide) (by decide)) nofun
                refine g_aload_n C rfl 1 rfl dX12_readLine_153 ?_
                have e186 : Tg h184 a0 = 12 := ((pIT hh183).trans (fxT F164 e153))
                have e187 : Rv h184 a0 26 = v118 := ((pIR hh183).trans ((fxR F164 e153 rfl).trans ((fxR F131 e108 rfl).trans e119)))
                refine gf_R C fk_LandSurveyModel_143 rfl e186 e187 dX12_readLine_154 ?_
                refine g_iload_n C rfl 0 rfl dX12_readLine_157 ?_
                have e188 : Tg h184 v118 = 126100 := ((pIT hh183).trans e180)
                have e189 : Ln h184 v118 = 216 := ((pIL hh183).trans e182)
                refine g_iald C e188 rfl e189 (ix f30 (by decide) (by decide)) (pI_e hh183) dX12_readLine_158 ?_
                refine g_iconst C dX12_readLine_159 ?_
                refine g_icmp_ne C (iw (il 1) (by decide) (by decide)) (iw (il 1) (by decide) (by decide)) 177 (by decide) dX12_readLine_160 (fun q190 => ?_) (fun q191 => ?_)
                · exact (no_ne (il 1) (il 1) q190 (by decide)).elim
                · refine g_aload_n C rfl 1 rfl dX12_readLine_163 ?_
                  refine g_bipush C (by decide) dX12_readLine_164 ?_
                  have e192 : Tg h160 a0 = 12 := (fxT F164 e153)
                  have e193 : Iv h184 a0 7 = (v1 + 1) := ((pI_n hh183 (ne_tag e192 e180 (by decide))).trans ((fxI F164 e153 rfl).trans e154))
                  have e194 : Iv h184 a0 8 = v4 := ((pI_n hh183 (ne_tag e192 e180 (by decide))).trans ((fxI F164 e153 rfl).trans e155))
                  have e195 : Iv h184 a0 28 = v7 := ((pI_n hh183 (ne_tag e192 e180 (by decide))).trans ((fxI F164 e153 rfl).trans e156))
                  have p196 := (TK_fx O163 ((Fx.rf (wr := [25220000]) (h := h160)).pIa e180 ar_126100 hh183 rfl) e192 rfl (TK_fx O130 F164 e153 rfl p157))
                  have p197 := ((NT_fx O163 ((Fx.rf (wr := [25220000]) (h := h160)).pIa e180 ar_126100 hh183 rfl) e192 rfl).trans ((NT_fx O130 F164 e153 rfl).trans p158))
                  refine g_callI (st := []) (gc_V C lk_LandSurveyModel_330 (k_X12_isWord l D cy w z0 O185 e186 (iw (il 14) (by decide) (by decide)) ⟨p196, by rw [e193, p197]; omega, by rw [e194, e193, p197]; omega, by rw [e195, e193]; omega⟩) e186 rfl rfl rfl ⟨by decide, by decide⟩ (Nat.le_of_ble_eq_true rfl) dX12_readLine_166 ⟨(by decide), (by decide)⟩) (fun r198 h199 f201 K200 => ?_)
                  obtain ⟨O202, F203, f204, p205, p206⟩ := K200
                  rw [e194, e193, p197] at p205
                  have e207 : Rv h184 a0 4 = v44 := ((pIR hh183).trans ((fxR F164 e153 rfl).trans e168))
                  have e208 : Tg h127 v44 = 104100 := (fxT F131 e138)
                  have e209 : Tg h160 v44 = 104100 := (fxT F164 e208)
                  have e210 : Iv h184 v44 ((v1 + 1).toNat) = v136 := ((pI_n hh183 (ne_tag e209 e180 (by decide))).trans ((fxIa F164 e208 ar_104100 rfl).trans e169))
                  have e211 : Rv h184 a0 6 = v51 := ((pIR hh183).trans ((fxR F164 e153 rfl).trans e170))
                  have e212 : Tg h127 v51 = 106102 := (fxT F131 e143)
                  have e213 : Jv h184 v51 ((v1 + 1).toNat) = v141 := ((pIJ hh183).trans ((fxJa F164 e212 ar_106102 rfl).trans e171))
                  have e214 : Rv h184 a0 9 = v58 := ((pIR hh183).trans ((fxR F164 e153 rfl).trans e172))
                  obtain ⟨v215, e216⟩ : ∃ z, Jv h184 v58 ((14 : Int).toNat) = z := ⟨_, rfl⟩
                  have e217 : Tg h184 v58 = 109102 := ((pIT hh183).trans (fxT F164 e175))
                  have f218 := inL_J O185 e216
                  rw [e194, e207, e193, e210, e211, e213, e214, e216] at p206
                  refine g_if_ne C (iw f204 (by decide) (by decide)) 177 (by decide) dX12_readLine_169 (fun q219 => ?_) (fun q220 => ?_)
                  · have f221 : (1 : Int) ≤ r198 ∧ r198 ≤ (1 : Int) := r_nl f204 q219
                    refine g_aload_n C rfl 1 rfl dX12_readLine_177 ?_
                    refine g_dup C rfl dX12_readLine_178 ?_
                    have e222 : Tg h199 a0 = 12 := (fxT F203 e186)
                    have e223 : Iv h199 a0 7 = (v1 + 1) := ((fxI F203 e186 rfl).trans e193)
                    refine gf_I C fk_LandSurveyModel_317 rfl e222 e223 dX12_readLine_179 ?_
                    refine g_iconst C dX12_readLine_182 ?_
                    have f224 : (2 : Int) ≤ ((v1 + 1) + 1) ∧ ((v1 + 1) + 1) ≤ (1503 : Int) := ia_add f104 (il 1) (by decide) (by decide)
                    refine g_iadd C dX12_readLine_183 ?_
                    refine gp_I C fk_LandSurveyModel_317 pk_LandSurveyModel_7 rfl e222 (iw f224 (by decide) (by decide)) (nf_i _) dX12_readLine_184 (fun h226 hh225 => ?_)
                    have O227 := O202.pI e222 hh225 rI_12_7 (by omega) nofun
                    refine g_aload_n C rfl 1 rfl dX12_readLine_187 ?_
                    refine g_bipush C (by decide) dX12_readLine_188 ?_
                    have e228 : Tg h226 a0 = 12 := ((pIT hh225).trans e222)
                    have e229 : Iv h226 a0 8 = v4 := ((pI_j hh225 (by decide)).trans ((fxI F203 e186 rfl).trans e194))
                    have e230 : Iv h226 a0 28 = v7 := ((pI_j hh225 (by decide)).trans ((fxI F203 e186 rfl).trans e195))
                    have p231 := (TK_fx O202 ((Fx.rf (wr := [2407]) (h := h199)).pI e222 hh225 rfl) e222 rfl (TK_fx O185 F203 e186 rfl p196))
                    have p232 := ((NT_fx O202 ((Fx.rf (wr := [2407]) (h := h199)).pI e222 hh225 rfl) e222 rfl).trans ((NT_fx O185 F203 e186 rfl).trans p197))
                    refine g_callV (st := []) (gc_V C lk_LandSurveyModel_387 (k_X12_takeWord l D cy w z0 O227 e228 (iw (il 11) (by decide) (by decide)) ⟨p231, by rw [(pI_e hh225), p232]; omega, by rw [e229, (pI_e hh225), p232]; omega, by rw [e230, (pI_e hh225)]; omega⟩) e228 rfl rfl rfl ⟨by decide, by decide⟩ (Nat.le_of_ble_eq_true rfl) dX12_readLine_190 ⟨(by decide), (by decide)⟩) (fun h234 K235 => ?_)
                    obtain ⟨O237, F238, p239, p240, p241⟩ := K235
                    obtain ⟨v242, e243⟩ : ∃ z, Iv h234 a0 7 = z := ⟨_, rfl⟩
                    have e244 : Tg h234 a0 = 12 := (fxT F238 e228)
                    have f245 := ok_I O237 e244 rI_12_7 e243
                    obtain ⟨v246, e247⟩ : ∃ z, Iv h234 a0 8 = z := ⟨_, rfl⟩
                    have f248 := ok_I O237 e244 rI_12_8 e247
                    have e249 : Iv h234 a0 28 = v7 := ((fxI F238 e228 rfl).trans e230)
                    obtain ⟨p250, p251, p252, p253⟩ := p239
                    have p254 := ((NT_fx O227 F238 e228 rfl).trans p232)
                    rw [e243, p254] at p251
                    rw [e247, e243, p254] at p252
                    rw [e249, e243] at p253
                    have p255 := p240
                    unfold ST at p255
                    rw [(pI_e hh225), e243, e230, e249, e229, e247] at p255
                    rw [e247, e243, (pI_e hh225)] at p241
                    refine g_aload_n C rfl 1 rfl dX12_readLine_193 ?_
                    obtain ⟨v256, e257⟩ : ∃ z, Rv h234 a0 27 = z := ⟨_, rfl⟩
                    have t258 := ok_R O237 e244 rE_12_27 e257
                    have l259 := ok_L O237 e244 rE_12_27 e257
                    refine gf_R C fk_LandSurveyModel_146 rfl e244 e257 dX12_readLine_194 ?_
                    refine g_iload_n C rfl 0 rfl dX12_readLine_197 ?_
                    refine g_sipush C (by decide) dX12_readLine_198 ?_
                    refine g_aload_n C rfl 1 rfl dX12_readLine_201 ?_
                    refine gf_I C fk_LandSurveyModel_336 rfl e244 e249 dX12_readLine_202 ?_
                    have f260 : (12800 : Int) ≤ (12800 + v7) ∧ (12800 + v7) ≤ (14400 : Int) := ia_add (il 12800) f9 (by decide) (by decide)
                    refine g_iadd C dX12_readLine_205 ?_
                    refine g_iast C t258 rfl l259 (ix f30 (by decide) (by decide)) (iw f260 (by decide) (by decide)) dX12_readLine_206 (fun h262 hh261 => ?_)
                    have O263 := O237.pIa t258 ar_127100 hh261 rI_127100_0 (iw f260 (by decide) (by decide)) nofun
                    refine g_aload_n C rfl 1 rfl dX12_readLine_207 ?_
                    refine g_iconst C dX12_readLine_208 ?_
                    have e264 : Tg h262 a0 = 12 := ((pIT hh261).trans e244)
                    have e265 : Iv h262 a0 7 = v242 := ((pI_n hh261 (ne_tag e244 t258 (by decide))).trans e243)
                    have e266 : Iv h262 a0 8 = v246 := ((pI_n hh261 (ne_tag e244 t258 (by decide))).trans e247)
                    have e267 : Iv h262 a0 28 = v7 := ((pI_n hh261 (ne_tag e244 t258 (by decide))).trans e249)
                    have p268 := (TK_fx O237 ((Fx.rf (wr := [25420000]) (h := h234)).pIa t258 ar_127100 hh261 rfl) e244 rfl p250)
                    have p269 := ((NT_fx O237 ((Fx.rf (wr := [25420000]) (h := h234)).pIa t258 ar_127100 hh261 rfl) e244 rfl).trans p254)
                    refine g_callV (st := []) (gc_V C lk_LandSurveyModel_392 (k_all_0 l D cy w z0 O263 e264 (il 0) ⟨p268, by rw [e265, p269]; omega, by rw [e266, e265, p269]; omega, by rw [e267, e265]; omega⟩) e264 rfl rfl rfl ⟨by decide, by decide⟩ (Nat.le_of_ble_eq_true rfl) dX12_readLine_209 ⟨(by decide), (by decide)⟩) (fun h271 K272 => ?_)
                    obtain ⟨O274, F275, p276, p277, p278, p279⟩ := K272
                    obtain ⟨v280, e281⟩ : ∃ z, Iv h271 a0 7 = z := ⟨_, rfl⟩
                    have e282 : Tg h271 a0 = 12 := (fxT F275 e264)
                    have f283 := ok_I O274 e282 rI_12_7 e281
                    obtain ⟨v284, e285⟩ : ∃ z, Iv h271 a0 8 = z := ⟨_, rfl⟩
                    have f286 := ok_I O274 e282 rI_12_8 e285
                    obtain ⟨v287, e288⟩ : ∃ z, Iv h271 a0 28 = z := ⟨_, rfl⟩
                    have f289 := ok_I O274 e282 rI_12_28 e288
                    obtain ⟨p290, p291, p292, p293⟩ := p276
                    have p294 := ((NT_fx O263 F275 e264 rfl).trans p269)
                    rw [e281, p294] at p291
                    rw [e285, e281, p294] at p292
                    rw [e288, e281] at p293
                    have p295 := p277
                    unfold ST at p295
                    rw [e265, e281, e267, e288, e266, e285] at p295
                    refine g_aload_n C rfl 1 rfl dX12_readLine_212 ?_
                    refine g_iconst C dX12_readLine_213 ?_
                    refine g_iconst C dX12_readLine_214 ?_
                    refine g_callV (st := []) (gc_V C lk_LandSurveyModel_395 (k_X12_emit l D cy w z0 O274 e282 (iw (il 0) (by decide) (by decide)) (iw (il 0) (by decide) (by decide)) (by rw [e288]; omega)) e282 rfl rfl rfl ⟨by decide, by decide⟩ (Nat.le_of_ble_eq_true rfl) dX12_readLine_215 ⟨(by decide), (by decide)⟩) (fun h297 K298 => ?_)
                    obtain ⟨O300, F301, p302⟩ := K298
                    have e303 : Iv h297 a0 28 = v287 + 1 := by rw [p302.1, e288]
                    obtain ⟨v304, e305⟩ : ∃ z, Iv h297 a0 28 = z := ⟨_, rfl⟩
                    have e306 : Tg h297 a0 = 12 := (fxT F301 e282)
                    have f307 := ok_I O300 e306 rI_12_28 e305
                    rw [e305] at e303
                    refine g_aload_n C rfl 1 rfl dX12_readLine_218 ?_
                    have e308 : Rv h297 a0 24 = v18 := ((fxR F301 e282 rfl).trans ((fxR F275 e264 rfl).trans ((pIR hh261).trans ((fxR F238 e228 rfl).trans ((pIR hh225).trans ((fxR F203 e186 rfl).trans ((pIR hh183).trans ((fxR F164 e153 rfl).trans ((fxR F131 e108 rfl).trans ((pIR hh105).trans ((pIR hh98).trans ((fxR F79 e68 rfl).trans ((fxR F40 ta0 rfl).trans e19)))))))))))))
                    refine gf_R C fk_LandSurveyModel_137 rfl e306 e308 dX12_readLine_219 ?_
                    refine g_bipush C (by decide) dX12_readLine_222 ?_
                    refine g_dup2 C rfl rfl dX12_readLine_224 ?_
                    have e309 : Tg h297 v18 = 124100 := (fxT F301 (fxT F275 ((pIT hh261).trans (fxT F238 ((pIT hh225).trans (fxT F203 ((pIT hh183).trans (fxT F164 (fxT F131 ((pIT hh105).trans ((pIT hh98).trans (fxT F79 (fxT F40 t20)))))))))))))
                    have e310 : Tg h36 v18 = 124100 := (fxT F40 t20)
                    have e311 : Tg h106 v18 = 124100 := ((pIT hh105).trans ((pIT hh98).trans (fxT F79 e310)))
                    have e312 : Tg h127 v18 = 124100 := (fxT F131 e311)
                    have e313 : Tg h184 v18 = 124100 := ((pIT hh183).trans (fxT F164 e312))
                    have e314 : Tg h226 v18 = 124100 := ((pIT hh225).trans (fxT F203 e313))
                    have e315 : Tg h262 v18 = 124100 := ((pIT hh261).trans (fxT F238 e314))
                    have e316 : Tg h271 v18 = 124100 := (fxT F275 e315)
                    have e317 : Ln h297 v18 = 9 := ((fxL F301 e316).trans ((fxL F275 e315).trans ((pIL hh261).trans ((fxL F238 e314).trans ((pIL hh225).trans ((fxL F203 e313).trans ((pIL hh183).trans ((fxL F164 e312).trans ((fxL F131 e311).trans ((pIL hh105).trans ((pIL hh98).trans ((fxL F79 e310).trans ((fxL F40 t20).trans l21)))))))))))))
                    have e318 : Tg h75 v18 = 124100 := (fxT F79 e310)
                    have e319 : Tg h99 v18 = 124100 := ((pIT hh98).trans e318)
                    have e320 : Tg h160 v18 = 124100 := (fxT F164 e312)
                    have e321 : Tg h199 v18 = 124100 := (fxT F203 e313)
                    have e322 : Tg h234 v18 = 124100 := (fxT F238 e314)
                    have e323 : Iv h297 v18 ((8 : Int).toNat) = v22 := ((fxIa F301 e316 ar_124100 rfl).trans ((fxIa F275 e315 ar_124100 rfl).trans ((pI_n hh261 (ne_tag e322 t258 (by decide))).trans ((fxIa F238 e314 ar_124100 rfl).trans ((pI_n hh225 (ne_tag e321 e222 (by decide))).trans ((fxIa F203 e313 ar_124100 rfl).trans ((pI_n hh183 (ne_tag e320 e180 (by decide))).trans ((fxIa F164 e312 ar_124100 rfl).trans ((fxIa F131 e311 ar_124100 rfl).trans ((pI_n hh105 (ne_tag e319 e101 (by decide))).trans ((pI_n hh98 (ne_tag e318 e95 (by decide))).trans ((fxIa F79 e310 ar_124100 rfl).trans ((fxIa F40 t20 ar_124100 rfl).trans e23)))))))))))))
                    refine g_iald C e309 rfl e317 (ix (il 8) (by decide) (by decide)) e323 dX12_readLine_225 ?_
                    refine g_iconst C dX12_readLine_226 ?_
                    have f324 : (1 : Int) ≤ (v22 + 1) ∧ (v22 + 1) ≤ (24 : Int) := ia_add f27 (il 1) (by decide) (by decide)
                    refine g_iadd C dX12_readLine_227 ?_
                    refine g_iast C e309 rfl e317 (ix (il 8) (by decide) (by decide)) (iw f324 (by decide) (by decide)) dX12_readLine_228 (fun h326 hh325 => ?_)
                    have O327 := O300.pIa e309 ar_124100 hh325 rI_124100_0 (iw f324 (by decide) (by decide)) nofun
                    have e328 : Iv h326 a0 7 = v280 := ((pI_n hh325 (ne_tag e306 e309 (by decide))).trans ((fxI F301 e282 rfl).trans e281))
                    have e329 : Iv h326 a0 8 = v284 := ((pI_n hh325 (ne_tag e306 e309 (by decide))).trans ((fxI F301 e282 rfl).trans e285))
                    have e330 : Iv h326 a0 28 = v304 := ((pI_n hh325 (ne_tag e306 e309 (by decide))).trans e305)
                    have p331 := (TK_fx O300 ((Fx.rf (wr := [24820000]) (h := h297)).pIa e309 ar_124100 hh325 rfl) e306 rfl (TK_fx O274 F301 e282 rfl p290))
                    have p332 := ((NT_fx O300 ((Fx.rf (wr := [24820000]) (h := h297)).pIa e309 ar_124100 hh325 rfl) e306 rfl).trans ((NT_fx O274 F301 e282 rfl).trans p294))
                    have p333 := (MInv_w O300 e306 e309 (by decide) hh325 ⟨fun e => by omega, fun e => by omega, fun e => by omega⟩ (MInv_cf O274 F301 e282 rfl (EM.cf p302) (MInv_cf O263 F275 e264 rfl p278 (MInv_w O237 e244 t258 (by decide) hh261 ⟨fun e => by omega, fun e => by omega, fun e => by omega⟩ (MInv_fx O227 F238 e228 rfl (MInv_fx O202 ((Fx.rf (wr := [2407]) (h := h199)).pI e222 hh225 rfl) e222 rfl (MInv_fx O185 F203 e186 rfl (MInv_w O163 e192 e180 (by decide) hh183 ⟨fun e => by omega, fun e => by omega, fun e => by omega⟩ (MInv_fx O130 F164 e153 rfl (MInv_fx O107 F131 e108 rfl (MInv_fx O100 ((Fx.rf (wr := [2407]) (h := h99)).pI e101 hh105 rfl) e101 rfl (MInv_w O78 e102 e95 (by decide) hh98 ⟨fun e => by omega, fun e => by omega, fun e => by omega⟩ (MInv_fx O39 F79 e68 rfl (MInv_fx O F40 ta0 rfl P_MInv))))))))))))))
                    have p334 := (DLn_cf O274 F301 e282 rfl (EM.cf p302) (DLn_cf O263 F275 e264 rfl p278 (DLn_w O237 e244 t258 (by decide) hh261 (by omega) (DLn_fx O227 F238 e228 rfl (DLn_fx O202 ((Fx.rf (wr := [2407]) (h := h199)).pI e222 hh225 rfl) e222 rfl (DLn_fx O185 F203 e186 rfl (DLn_w O163 e192 e180 (by decide) hh183 (by omega) (DLn_fx O130 F164 e153 rfl (DLn_fx O107 F131 e108 rfl (DLn_fx O100 ((Fx.rf (wr := [2407]) (h := h99)).pI e101 hh105 rfl) e101 rfl (DLn_w O78 e102 e95 (by decide) hh98 (by omega) (DLn_fx O39 F79 e68 rfl (DLn_fx O F40 ta0 rfl p29)))))))))))))
                    have e335 : Rv h297 a0 25 = v31 := ((fxR F301 e282 rfl).trans ((fxR F275 e264 rfl).trans ((pIR hh261).trans ((fxR F238 e228 rfl).trans ((pIR hh225).trans ((fxR F203 e186 rfl).trans ((pIR hh183).trans ((fxR F164 e153 rfl).trans ((fxR F131 e108 rfl).trans e109)))))))))
                    have e336 : Tg h127 v31 = 125100 := (fxT F131 e110)
                    have e337 : Tg h160 v31 = 125100 := (fxT F164 e336)
                    have e338 : Tg h184 v31 = 125100 := ((pIT hh183).trans e337)
                    have e339 : Tg h199 v31 = 125100 := (fxT F203 e338)
                    have e340 : Tg h226 v31 = 125100 := ((pIT hh225).trans e339)
                    have e341 : Tg h234 v31 = 125100 := (fxT F238 e340)
                    have e342 : Tg h262 v31 = 125100 := ((pIT hh261).trans e341)
                    have e343 : Tg h271 v31 = 125100 := (fxT F275 e342)
                    have e344 : Iv h297 v31 ((192 + v22).toNat) = 3 := ((fxIa F301 e343 ar_125100 rfl).trans ((fxIa F275 e342 ar_125100 rfl).trans ((pI_n hh261 (ne_tag e341 t258 (by decide))).trans ((fxIa F238 e340 ar_125100 rfl).trans ((pI_n hh225 (ne_tag e339 e222 (by decide))).trans ((fxIa F203 e338 ar_125100 rfl).trans ((pI_n hh183 (ne_tag e337 e180 (by decide))).trans ((fxIa F164 e336 ar_125100 rfl).trans ((fxIa F131 e110 ar_125100 rfl).trans e113)))))))))
                    have e345 : Rv h297 a0 26 = v118 := ((fxR F301 e282 rfl).trans ((fxR F275 e264 rfl).trans ((pIR hh261).trans ((fxR F238 e228 rfl).trans ((pIR hh225).trans ((fxR F203 e186 rfl).trans e187))))))
                    have e346 : Tg h199 v118 = 126100 := (fxT F203 e188)
                    have e347 : Tg h226 v118 = 126100 := ((pIT hh225).trans e346)
                    have e348 : Tg h234 v118 = 126100 := (fxT F238 e347)
                    have e349 : Tg h262 v118 = 126100 := ((pIT hh261).trans e348)
                    have e350 : Tg h271 v118 = 126100 := (fxT F275 e349)
                    have e351 : Iv h297 v118 ((192 + v22).toNat) = 1 := ((fxIa F301 e350 ar_126100 rfl).trans ((fxIa F275 e349 ar_126100 rfl).trans ((pI_n hh261 (ne_tag e348 t258 (by decide))).trans ((fxIa F238 e347 ar_126100 rfl).trans ((pI_n hh225 (ne_tag e346 e222 (by decide))).trans ((fxIa F203 e188 ar_126100 rfl).trans (pI_e hh183)))))))
                    have e352 : Rv h297 a0 27 = v256 := ((fxR F301 e282 rfl).trans ((fxR F275 e264 rfl).trans ((pIR hh261).trans e257)))
                    have e353 : Tg h262 v256 = 127100 := ((pIT hh261).trans t258)
                    have e354 : Tg h271 v256 = 127100 := (fxT F275 e353)
                    have e355 : Iv h297 v256 ((192 + v22).toNat) = (12800 + v7) := ((fxIa F301 e354 ar_127100 rfl).trans ((fxIa F275 e353 ar_127100 rfl).trans (pI_e hh261)))
                    have e356 : Rv h326 a0 24 = v18 := ((pIR hh325).trans e308)
                    have p357 : Iv h326 a0 8 = 0 → DLn h326 a0 (v22 + 1) := fun z => DLn_fx O300 ((Fx.rf (wr := [24820000]) (h := h297)).pIa e309 ar_124100 hh325 rfl) e306 rfl (DL_new (x := 3) (y := 1) (p279 (by rw [e329] at z; rw [e285]; omega)) p302 (by omega) (by rw [e352, e355, e267]) (by rw [e335]; exact e344) (by rw [e345]; exact e351) (by omega) p334)
                    have e358 : Iv h326 (Rv h326 a0 24) 8 = v22 + 1 := by rw [e356]; exact (pI_e hh325)
                    exact g_vret C hr ⟨O327, (((((((((((((((Fx.rf (wr := wr_k_X12_readLine)).call F40 rfl).call F79 rfl).pIa e95 ar_125100 hh98 rfl).pI e101 hh105 rfl).call F131 rfl).call F164 rfl).pIa e180 ar_126100 hh183 rfl).call F203 rfl).pI e222 hh225 rfl).call F238 rfl).pIa t258 ar_127100 hh261 rfl).call F275 rfl).call F301 rfl).pIa e309 ar_124100 hh325 rfl), ⟨p331, by rw [e328, p332]; omega, by rw [e329, e328, p332]; omega, by rw [e330, e328]; omega⟩, (by unfold ST; rw [e2, e328, e8, e330, e5, e329]; omega), p333, (fun z => by rw [e358]; exact p357 z)⟩ (by decide) (by decide) dX12_readLine_229
                  · have f359 : (0 : Int) ≤ r198 ∧ r198 ≤ (0 : Int) := ii f204 (r_eq (il 0) q220) (by decide) (by decide)
                    refine g_aload_n C rfl 1 rfl dX12_readLine_172 ?_
                    refine g_iconst C dX12_readLine_173 ?_
                    have e360 : Tg h199 a0 = 12 := (fxT F203 e186)
                    refine g_callV (st := []) (gc_V C lk_LandSurveyModel_326 (k_X12_wrong l D cy w z0 O202 e360 (iw (il 1) (by decide) (by decide))) e360 rfl rfl rfl ⟨by decide, by decide⟩ (Nat.le_of_ble_eq_true rfl) dX12_readLine_174 ⟨(by decide), (by decide)⟩) (fun h362 K363 => ?_)
                    obtain ⟨O365, F366, p367⟩ := K363
                    obtain ⟨v368, e369⟩ : ∃ z, Iv h362 a0 8 = z := ⟨_, rfl⟩
                    have e370 : Tg h362 a0 = 12 := (fxT F366 e360)
                    have f371 := ok_I O365 e370 rI_12_8 e369
                    rw [e369] at p367
                    have f372 : (1 : Int) ≤ v368 ∧ v368 ≤ (24005 : Int) := by omega
                    refine g_aload_n C rfl 1 rfl dX12_readLine_177 ?_
                    refine g_dup C rfl dX12_readLine_178 ?_
                    have e373 : Iv h362 a0 7 = (v1 + 1) := ((fxI F366 e360 rfl).trans ((fxI F203 e186 rfl).trans e193))
                    refine gf_I C fk_LandSurveyModel_317 rfl e370 e373 dX12_readLine_179 ?_
                    refine g_iconst C dX12_readLine_182 ?_
                    have f374 : (2 : Int) ≤ ((v1 + 1) + 1) ∧ ((v1 + 1) + 1) ≤ (1503 : Int) := ia_add f104 (il 1) (by decide) (by decide)
                    refine g_iadd C dX12_readLine_183 ?_
                    refine gp_I C fk_LandSurveyModel_317 pk_LandSurveyModel_7 rfl e370 (iw f374 (by decide) (by decide)) (nf_i _) dX12_readLine_184 (fun h376 hh375 => ?_)
                    have O377 := O365.pI e370 hh375 rI_12_7 (by omega) nofun
                    refine g_aload_n C rfl 1 rfl dX12_readLine_187 ?_
                    refine g_bipush C (by decide) dX12_readLine_188 ?_
                    have e378 : Tg h376 a0 = 12 := ((pIT hh375).trans e370)
                    have e379 : Iv h376 a0 8 = v368 := ((pI_j hh375 (by decide)).trans e369)
                    have e380 : Iv h376 a0 28 = v7 := ((pI_j hh375 (by decide)).trans ((fxI F366 e360 rfl).trans ((fxI F203 e186 rfl).trans e195)))
                    have p381 := (TK_fx O365 ((Fx.rf (wr := [2407]) (h := h362)).pI e370 hh375 rfl) e370 rfl (TK_fx O202 F366 e360 rfl (TK_fx O185 F203 e186 rfl p196)))
                    have p382 := ((NT_fx O365 ((Fx.rf (wr := [2407]) (h := h362)).pI e370 hh375 rfl) e370 rfl).trans ((NT_fx O202 F366 e360 rfl).trans ((NT_fx O185 F203 e186 rfl).trans p197)))
                    refine g_callV (st := []) (gc_V C lk_LandSurveyModel_387 (k_X12_takeWord l D cy w z0 O377 e378 (iw (il 11) (by decide) (by decide)) ⟨p381, by rw [(pI_e hh375), p382]; omega, by rw [e379, (pI_e hh375), p382]; omega, by rw [e380, (pI_e hh375)]; omega⟩) e378 rfl rfl rfl ⟨by decide, by decide⟩ (Nat.le_of_ble_eq_true rfl) dX12_readLine_190 ⟨(by decide), (by decide)⟩) (fun h384 K385 => ?_)
                    obtain ⟨O387, F388, p389, p390, p391⟩ := K385
                    obtain ⟨v392, e393⟩ : ∃ z, Iv h384 a0 7 = z := ⟨_, rfl⟩
                    have e394 : Tg h384 a0 = 12 := (fxT F388 e378)
                    have f395 := ok_I O387 e394 rI_12_7 e393
                    obtain ⟨v396, e397⟩ : ∃ z, Iv h384 a0 8 = z := ⟨_, rfl⟩
                    have f398 := ok_I O387 e394 rI_12_8 e397
                    have e399 : Iv h384 a0 28 = v7 := ((fxI F388 e378 rfl).trans e380)
                    obtain ⟨p400, p401, p402, p403⟩ := p389
                    have p404 := ((NT_fx O377 F388 e378 rfl).trans p382)
                    rw [e393, p404] at p401
                    rw [e397, e393, p404] at p402
                    rw [e399, e393] at p403
                    have p405 := p390
                    unfold ST at p405
                    rw [(pI_e hh375), e393, e380, e399, e379, e397] at p405
                    rw [e397, e393, (pI_e hh375)] at p391
                    refine g_aload_n C rfl 1 rfl dX12_readLine_193 ?_
                    obtain ⟨v406, e407⟩ : ∃ z, Rv h384 a0 27 = z := ⟨_, rfl⟩
                    have t408 := ok_R O387 e394 rE_12_27 e407
                    have l409 := ok_L O387 e394 rE_12_27 e407
                    refine gf_R C fk_LandSurveyModel_146 rfl e394 e407 dX12_readLine_194 ?_
                    refine g_iload_n C rfl 0 rfl dX12_readLine_197 ?_
                    refine g_sipush C (by decide) dX12_readLine_198 ?_
                    refine g_aload_n C rfl 1 rfl dX12_readLine_201 ?_
                    refine gf_I C fk_LandSurveyModel_336 rfl e394 e399 dX12_readLine_202 ?_
                    have f410 : (12800 : Int) ≤ (12800 + v7) ∧ (12800 + v7) ≤ (14400 : Int) := ia_add (il 12800) f9 (by decide) (by decide)
                    refine g_iadd C dX12_readLine_205 ?_
                    refine g_iast C t408 rfl l409 (ix f30 (by decide) (by decide)) (iw f410 (by decide) (by decide)) dX12_readLine_206 (fun h412 hh411 => ?_)
                    have O413 := O387.pIa t408 ar_127100 hh411 rI_127100_0 (iw f410 (by decide) (by decide)) nofun
                    refine g_aload_n C rfl 1 rfl dX12_readLine_207 ?_
                    refine g_iconst C dX12_readLine_208 ?_
                    have e414 : Tg h412 a0 = 12 := ((pIT hh411).trans e394)
                    have e415 : Iv h412 a0 7 = v392 := ((pI_n hh411 (ne_tag e394 t408 (by decide))).trans e393)
                    have e416 : Iv h412 a0 8 = v396 := ((pI_n hh411 (ne_tag e394 t408 (by decide))).trans e397)
                    have e417 : Iv h412 a0 28 = v7 := ((pI_n hh411 (ne_tag e394 t408 (by decide))).trans e399)
                    have p418 := (TK_fx O387 ((Fx.rf (wr := [25420000]) (h := h384)).pIa t408 ar_127100 hh411 rfl) e394 rfl p400)
                    have p419 := ((NT_fx O387 ((Fx.rf (wr := [25420000]) (h := h384)).pIa t408 ar_127100 hh411 rfl) e394 rfl).trans p404)
                    refine g_callV (st := []) (gc_V C lk_LandSurveyModel_392 (k_all_0 l D cy w z0 O413 e414 (il 0) ⟨p418, by rw [e415, p419]; omega, by rw [e416, e415, p419]; omega, by rw [e417, e415]; omega⟩) e414 rfl rfl rfl ⟨by decide, by decide⟩ (Nat.le_of_ble_eq_true rfl) dX12_readLine_209 ⟨(by decide), (by decide)⟩) (fun h421 K422 => ?_)
                    obtain ⟨O424, F425, p426, p427, p428, p429⟩ := K422
                    obtain ⟨v430, e431⟩ : ∃ z, Iv h421 a0 7 = z := ⟨_, rfl⟩
                    have e432 : Tg h421 a0 = 12 := (fxT F425 e414)
                    have f433 := ok_I O424 e432 rI_12_7 e431
                    obtain ⟨v434, e435⟩ : ∃ z, Iv h421 a0 8 = z := ⟨_, rfl⟩
                    have f436 := ok_I O424 e432 rI_12_8 e435
                    obtain ⟨v437, e438⟩ : ∃ z, Iv h421 a0 28 = z := ⟨_, rfl⟩
                    have f439 := ok_I O424 e432 rI_12_28 e438
                    obtain ⟨p440, p441, p442, p443⟩ := p426
                    have p444 := ((NT_fx O413 F425 e414 rfl).trans p419)
                    rw [e431, p444] at p441
                    rw [e435, e431, p444] at p442
                    rw [e438, e431] at p443
                    have p445 := p427
                    unfold ST at p445
                    rw [e415, e431, e417, e438, e416, e435] at p445
                    refine g_aload_n C rfl 1 rfl dX12_readLine_212 ?_
                    refine g_iconst C dX12_readLine_213 ?_
                    refine g_iconst C dX12_readLine_214 ?_
                    refine g_callV (st := []) (gc_V C lk_LandSurveyModel_395 (k_X12_emit l D cy w z0 O424 e432 (iw (il 0) (by decide) (by decide)) (iw (il 0) (by decide) (by decide)) (by rw [e438]; omega)) e432 rfl rfl rfl ⟨by decide, by decide⟩ (Nat.le_of_ble_eq_true rfl) dX12_readLine_215 ⟨(by decide), (by decide)⟩) (fun h447 K448 => ?_)
                    obtain ⟨O450, F451, p452⟩ := K448
                    have e453 : Iv h447 a0 28 = v437 + 1 := by rw [p452.1, e438]
                    obtain ⟨v454, e455⟩ : ∃ z, Iv h447 a0 28 = z := ⟨_, rfl⟩
                    have e456 : Tg h447 a0 = 12 := (fxT F451 e432)
                    have f457 := ok_I O450 e456 rI_12_28 e455
                    rw [e455] at e453
                    refine g_aload_n C rfl 1 rfl dX12_readLine_218 ?_
                    have e458 : Rv h447 a0 24 = v18 := ((fxR F451 e432 rfl).trans ((fxR F425 e414 rfl).trans ((pIR hh411).trans ((fxR F388 e378 rfl).trans ((pIR hh375).trans ((fxR F366 e360 rfl).trans ((fxR F203 e186 rfl).trans ((pIR hh183).trans ((fxR F164 e153 rfl).trans ((fxR F131 e108 rfl).trans ((pIR hh105).trans ((pIR hh98).trans ((fxR F79 e68 rfl).trans ((fxR F40 ta0 rfl).trans e19))))))))))))))
                    refine gf_R C fk_LandSurveyModel_137 rfl e456 e458 dX12_readLine_219 ?_
                    refine g_bipush C (by decide) dX12_readLine_222 ?_
                    refine g_dup2 C rfl rfl dX12_readLine_224 ?_
                    have e459 : Tg h447 v18 = 124100 := (fxT F451 (fxT F425 ((pIT hh411).trans (fxT F388 ((pIT hh375).trans (fxT F366 (fxT F203 ((pIT hh183).trans (fxT F164 (fxT F131 ((pIT hh105).trans ((pIT hh98).trans (fxT F79 (fxT F40 t20))))))))))))))
                    have e460 : Tg h36 v18 = 124100 := (fxT F40 t20)
                    have e461 : Tg h106 v18 = 124100 := ((pIT hh105).trans ((pIT hh98).trans (fxT F79 e460)))
                    have e462 : Tg h127 v18 = 124100 := (fxT F131 e461)
                    have e463 : Tg h184 v18 = 124100 := ((pIT hh183).trans (fxT F164 e462))
                    have e464 : Tg h199 v18 = 124100 := (fxT F203 e463)
                    have e465 : Tg h376 v18 = 124100 := ((pIT hh375).trans (fxT F366 e464))
                    have e466 : Tg h412 v18 = 124100 := ((pIT hh411).trans (fxT F388 e465))
                    have e467 : Tg h421 v18 = 124100 := (fxT F425 e466)
                    have e468 : Ln h447 v18 = 9 := ((fxL F451 e467).trans ((fxL F425 e466).trans ((pIL hh411).trans ((fxL F388 e465).trans ((pIL hh375).trans ((fxL F366 e464).trans ((fxL F203 e463).trans ((pIL hh183).trans ((fxL F164 e462).trans ((fxL F131 e461).trans ((pIL hh105).trans ((pIL hh98).trans ((fxL F79 e460).trans ((fxL F40 t20).trans l21))))))))))))))
                    have e469 : Tg h75 v18 = 124100 := (fxT F79 e460)
                    have e470 : Tg h99 v18 = 124100 := ((pIT hh98).trans e469)
                    have e471 : Tg h160 v18 = 124100 := (fxT F164 e462)
                    have e472 : Tg h362 v18 = 124100 := (fxT F366 e464)
                    have e473 : Tg h384 v18 = 124100 := (fxT F388 e465)
                    have e474 : Iv h447 v18 ((8 : Int).toNat) = v22 := ((fxIa F451 e467 ar_124100 rfl).trans ((fxIa F425 e466 ar_124100 rfl).trans ((pI_n hh411 (ne_tag e473 t408 (by decide))).trans ((fxIa F388 e465 ar_124100 rfl).trans ((pI_n hh375 (ne_tag e472 e370 (by decide))).trans ((fxIa F366 e464 ar_124100 rfl).trans ((fxIa F203 e463 ar_124100 rfl).trans ((pI_n hh183 (ne_tag e471 e180 (by decide))).trans ((fxIa F164 e462 ar_124100 rfl).trans ((fxIa F131 e461 ar_124100 rfl).trans ((pI_n hh105 (ne_tag e470 e101 (by decide))).trans ((pI_n hh98 (ne_tag e469 e95 (by decide))).trans ((fxIa F79 e460 ar_124100 rfl).trans ((fxIa F40 t20 ar_124100 rfl).trans e23))))))))))))))
                    refine g_iald C e459 rfl e468 (ix (il 8) (by decide) (by decide)) e474 dX12_readLine_225 ?_
                    refine g_iconst C dX12_readLine_226 ?_
                    have f475 : (1 : Int) ≤ (v22 + 1) ∧ (v22 + 1) ≤ (24 : Int) := ia_add f27 (il 1) (by decide) (by decide)
                    refine g_iadd C dX12_readLine_227 ?_
                    refine g_iast C e459 rfl e468 (ix (il 8) (by decide) (by decide)) (iw f475 (by decide) (by decide)) dX12_readLine_228 (fun h477 hh476 => ?_)
                    have O478 := O450.pIa e459 ar_124100 hh476 rI_124100_0 (iw f475 (by decide) (by decide)) nofun
                    have e479 : Iv h477 a0 7 = v430 := ((pI_n hh476 (ne_tag e456 e459 (by decide))).trans ((fxI F451 e432 rfl).trans e431))
                    have e480 : Iv h477 a0 8 = v434 := ((pI_n hh476 (ne_tag e456 e459 (by decide))).trans ((fxI F451 e432 rfl).trans e435))
                    have e481 : Iv h477 a0 28 = v454 := ((pI_n hh476 (ne_tag e456 e459 (by decide))).trans e455)
                    have p482 := (TK_fx O450 ((Fx.rf (wr := [24820000]) (h := h447)).pIa e459 ar_124100 hh476 rfl) e456 rfl (TK_fx O424 F451 e432 rfl p440))
                    have p483 := ((NT_fx O450 ((Fx.rf (wr := [24820000]) (h := h447)).pIa e459 ar_124100 hh476 rfl) e456 rfl).trans ((NT_fx O424 F451 e432 rfl).trans p444))
                    have p484 := (MInv_w O450 e456 e459 (by decide) hh476 ⟨fun e => by omega, fun e => by omega, fun e => by omega⟩ (MInv_cf O424 F451 e432 rfl (EM.cf p452) (MInv_cf O413 F425 e414 rfl p428 (MInv_w O387 e394 t408 (by decide) hh411 ⟨fun e => by omega, fun e => by omega, fun e => by omega⟩ (MInv_fx O377 F388 e378 rfl (MInv_fx O365 ((Fx.rf (wr := [2407]) (h := h362)).pI e370 hh375 rfl) e370 rfl (MInv_fx O202 F366 e360 rfl (MInv_fx O185 F203 e186 rfl (MInv_w O163 e192 e180 (by decide) hh183 ⟨fun e => by omega, fun e => by omega, fun e => by omega⟩ (MInv_fx O130 F164 e153 rfl (MInv_fx O107 F131 e108 rfl (MInv_fx O100 ((Fx.rf (wr := [2407]) (h := h99)).pI e101 hh105 rfl) e101 rfl (MInv_w O78 e102 e95 (by decide) hh98 ⟨fun e => by omega, fun e => by omega, fun e => by omega⟩ (MInv_fx O39 F79 e68 rfl (MInv_fx O F40 ta0 rfl P_MInv)))))))))))))))
                    have p485 := (DLn_cf O424 F451 e432 rfl (EM.cf p452) (DLn_cf O413 F425 e414 rfl p428 (DLn_w O387 e394 t408 (by decide) hh411 (by omega) (DLn_fx O377 F388 e378 rfl (DLn_fx O365 ((Fx.rf (wr := [2407]) (h := h362)).pI e370 hh375 rfl) e370 rfl (DLn_fx O202 F366 e360 rfl (DLn_fx O185 F203 e186 rfl (DLn_w O163 e192 e180 (by decide) hh183 (by omega) (DLn_fx O130 F164 e153 rfl (DLn_fx O107 F131 e108 rfl (DLn_fx O100 ((Fx.rf (wr := [2407]) (h := h99)).pI e101 hh105 rfl) e101 rfl (DLn_w O78 e102 e95 (by decide) hh98 (by omega) (DLn_fx O39 F79 e68 rfl (DLn_fx O F40 ta0 rfl p29))))))))))))))
                    have e486 : Rv h447 a0 25 = v31 := ((fxR F451 e432 rfl).trans ((fxR F425 e414 rfl).trans ((pIR hh411).trans ((fxR F388 e378 rfl).trans ((pIR hh375).trans ((fxR F366 e360 rfl).trans ((fxR F203 e186 rfl).trans ((pIR hh183).trans ((fxR F164 e153 rfl).trans ((fxR F131 e108 rfl).trans e109))))))))))
                    have e487 : Tg h127 v31 = 125100 := (fxT F131 e110)
                    have e488 : Tg h160 v31 = 125100 := (fxT F164 e487)
                    have e489 : Tg h184 v31 = 125100 := ((pIT hh183).trans e488)
                    have e490 : Tg h199 v31 = 125100 := (fxT F203 e489)
                    have e491 : Tg h362 v31 = 125100 := (fxT F366 e490)
                    have e492 : Tg h376 v31 = 125100 := ((pIT hh375).trans e491)
                    have e493 : Tg h384 v31 = 125100 := (fxT F388 e492)
                    have e494 : Tg h412 v31 = 125100 := ((pIT hh411).trans e493)
                    have e495 : Tg h421 v31 = 125100 := (fxT F425 e494)
                    have e496 : Iv h447 v31 ((192 + v22).toNat) = 3 := ((fxIa F451 e495 ar_125100 rfl).trans ((fxIa F425 e494 ar_125100 rfl).trans ((pI_n hh411 (ne_tag e493 t408 (by decide))).trans ((fxIa F388 e492 ar_125100 rfl).trans ((pI_n hh375 (ne_tag e491 e370 (by decide))).trans ((fxIa F366 e490 ar_125100 rfl).trans ((fxIa F203 e489 ar_125100 rfl).trans ((pI_n hh183 (ne_tag e488 e180 (by decide))).trans ((fxIa F164 e487 ar_125100 rfl).trans ((fxIa F131 e110 ar_125100 rfl).trans e113))))))))))
                    have e497 : Rv h447 a0 26 = v118 := ((fxR F451 e432 rfl).trans ((fxR F425 e414 rfl).trans ((pIR hh411).trans ((fxR F388 e378 rfl).trans ((pIR hh375).trans ((fxR F366 e360 rfl).trans ((fxR F203 e186 rfl).trans e187)))))))
                    have e498 : Tg h199 v118 = 126100 := (fxT F203 e188)
                    have e499 : Tg h362 v118 = 126100 := (fxT F366 e498)
                    have e500 : Tg h376 v118 = 126100 := ((pIT hh375).trans e499)
                    have e501 : Tg h384 v118 = 126100 := (fxT F388 e500)
                    have e502 : Tg h412 v118 = 126100 := ((pIT hh411).trans e501)
                    have e503 : Tg h421 v118 = 126100 := (fxT F425 e502)
                    have e504 : Iv h447 v118 ((192 + v22).toNat) = 1 := ((fxIa F451 e503 ar_126100 rfl).trans ((fxIa F425 e502 ar_126100 rfl).trans ((pI_n hh411 (ne_tag e501 t408 (by decide))).trans ((fxIa F388 e500 ar_126100 rfl).trans ((pI_n hh375 (ne_tag e499 e370 (by decide))).trans ((fxIa F366 e498 ar_126100 rfl).trans ((fxIa F203 e188 ar_126100 rfl).trans (pI_e hh183))))))))
                    have e505 : Rv h447 a0 27 = v406 := ((fxR F451 e432 rfl).trans ((fxR F425 e414 rfl).trans ((pIR hh411).trans e407)))
                    have e506 : Tg h412 v406 = 127100 := ((pIT hh411).trans t408)
                    have e507 : Tg h421 v406 = 127100 := (fxT F425 e506)
                    have e508 : Iv h447 v406 ((192 + v22).toNat) = (12800 + v7) := ((fxIa F451 e507 ar_127100 rfl).trans ((fxIa F425 e506 ar_127100 rfl).trans (pI_e hh411)))
                    have e509 : Rv h477 a0 24 = v18 := ((pIR hh476).trans e458)
                    have p510 : Iv h477 a0 8 = 0 → DLn h477 a0 (v22 + 1) := fun z => DLn_fx O450 ((Fx.rf (wr := [24820000]) (h := h447)).pIa e459 ar_124100 hh476 rfl) e456 rfl (DL_new (x := 3) (y := 1) (p429 (by rw [e480] at z; rw [e435]; omega)) p452 (by omega) (by rw [e505, e508, e417]) (by rw [e486]; exact e496) (by rw [e497]; exact e504) (by omega) p485)
                    have e511 : Iv h477 (Rv h477 a0 24) 8 = v22 + 1 := by rw [e509]; exact (pI_e hh476)
                    exact g_vret C hr ⟨O478, ((((((((((((((((Fx.rf (wr := wr_k_X12_readLine)).call F40 rfl).call F79 rfl).pIa e95 ar_125100 hh98 rfl).pI e101 hh105 rfl).call F131 rfl).call F164 rfl).pIa e180 ar_126100 hh183 rfl).call F203 rfl).call F366 rfl).pI e370 hh375 rfl).call F388 rfl).pIa t408 ar_127100 hh411 rfl).call F425 rfl).call F451 rfl).pIa e459 ar_124100 hh476 rfl), ⟨p482, by rw [e479, p483]; omega, by rw [e480, e479, p483]; omega, by rw [e481, e479]; omega⟩, (by unfold ST; rw [e2, e479, e8, e481, e5, e480]; omega), p484, (fun z => by rw [e511]; exact p510 z)⟩ (by decide) (by decide) dX12_readLine_229
              · have f512 : (1 : Int) ≤ r159 ∧ r159 ≤ (1 : Int) := r_nl f165 q178
                refine g_iconst C dX12_readLine_147 ?_
                refine g_goto C 152 (by decide) dX12_readLine_148 ?_
                have e513 : Tg h160 v118 = 126100 := (fxT F164 (fxT F131 t120))
                have e514 : Tg h127 v118 = 126100 := (fxT F131 t120)
                have e515 : Ln h160 v118 = 216 := ((fxL F164 e514).trans ((fxL F131 t120).trans l121))
                refine g_iast C e513 rfl e515 (ix f30 (by decide) (by decide)) (iw (il 2) (by decide) (by decide)) dX12_readLine_152 (fun h517 hh516 => ?_)
                have O518 := O163.pIa e513 ar_126100 hh516 rI_126100_0 (iw (il 2) (by decide) (by decide)) nofun
                refine g_aload_n C rfl 1 rfl dX12_readLine_153 ?_
                have e519 : Tg h517 a0 = 12 := ((pIT hh516).trans (fxT F164 e153))
                have e520 : Rv h517 a0 26 = v118 := ((pIR hh516).trans ((fxR F164 e153 rfl).trans ((fxR F131 e108 rfl).trans e119)))
                refine gf_R C fk_LandSurveyModel_143 rfl e519 e520 dX12_readLine_154 ?_
                refine g_iload_n C rfl 0 rfl dX12_readLine_157 ?_
                have e521 : Tg h517 v118 = 126100 := ((pIT hh516).trans e513)
                have e522 : Ln h517 v118 = 216 := ((pIL hh516).trans e515)
                refine g_iald C e521 rfl e522 (ix f30 (by decide) (by decide)) (pI_e hh516) dX12_readLine_158 ?_
                refine g_iconst C dX12_readLine_159 ?_
                refine g_icmp_ne C (iw (il 2) (by decide) (by decide)) (iw (il 1) (by decide) (by decide)) 177 (by decide) dX12_readLine_160 (fun q523 => ?_) (fun q524 => ?_)
                · refine g_aload_n C rfl 1 rfl dX12_readLine_177 ?_
                  refine g_dup C rfl dX12_readLine_178 ?_
                  have e525 : Tg h160 a0 = 12 := (fxT F164 e153)
                  have e526 : Iv h517 a0 7 = (v1 + 1) := ((pI_n hh516 (ne_tag e525 e513 (by decide))).trans ((fxI F164 e153 rfl).trans e154))
                  refine gf_I C fk_LandSurveyModel_317 rfl e519 e526 dX12_readLine_179 ?_
                  refine g_iconst C dX12_readLine_182 ?_
                  have f527 : (2 : Int) ≤ ((v1 + 1) + 1) ∧ ((v1 + 1) + 1) ≤ (1503 : Int) := ia_add f104 (il 1) (by decide) (by decide)
                  refine g_iadd C dX12_readLine_183 ?_
                  refine gp_I C fk_LandSurveyModel_317 pk_LandSurveyModel_7 rfl e519 (iw f527 (by decide) (by decide)) (nf_i _) dX12_readLine_184 (fun h529 hh528 => ?_)
                  have O530 := O518.pI e519 hh528 rI_12_7 (by omega) nofun
                  refine g_aload_n C rfl 1 rfl dX12_readLine_187 ?_
                  refine g_bipush C (by decide) dX12_readLine_188 ?_
                  have e531 : Tg h529 a0 = 12 := ((pIT hh528).trans e519)
                  have e532 : Iv h529 a0 8 = v4 := ((pI_j hh528 (by decide)).trans ((pI_n hh516 (ne_tag e525 e513 (by decide))).trans ((fxI F164 e153 rfl).trans e155)))
                  have e533 : Iv h529 a0 28 = v7 := ((pI_j hh528 (by decide)).trans ((pI_n hh516 (ne_tag e525 e513 (by decide))).trans ((fxI F164 e153 rfl).trans e156)))
                  have p534 := (TK_fx O518 ((Fx.rf (wr := [2407]) (h := h517)).pI e519 hh528 rfl) e519 rfl (TK_fx O163 ((Fx.rf (wr := [25220000]) (h := h160)).pIa e513 ar_126100 hh516 rfl) e525 rfl (TK_fx O130 F164 e153 rfl p157)))
                  have p535 := ((NT_fx O518 ((Fx.rf (wr := [2407]) (h := h517)).pI e519 hh528 rfl) e519 rfl).trans ((NT_fx O163 ((Fx.rf (wr := [25220000]) (h := h160)).pIa e513 ar_126100 hh516 rfl) e525 rfl).trans ((NT_fx O130 F164 e153 rfl).trans p158)))
                  refine g_callV (st := []) (gc_V C lk_LandSurveyModel_387 (k_X12_takeWord l D cy w z0 O530 e531 (iw (il 11) (by decide) (by decide)) ⟨p534, by rw [(pI_e hh528), p535]; omega, by rw [e532, (pI_e hh528), p535]; omega, by rw [e533, (pI_e hh528)]; omega⟩) e531 rfl rfl rfl ⟨by decide, by decide⟩ (Nat.le_of_ble_eq_true rfl) dX12_readLine_190 ⟨(by decide), (by decide)⟩) (fun h537 K538 => ?_)
                  obtain ⟨O540, F541, p542, p543, p544⟩ := K538
                  obtain ⟨v545, e546⟩ : ∃ z, Iv h537 a0 7 = z := ⟨_, rfl⟩
                  have e547 : Tg h537 a0 = 12 := (fxT F541 e531)
                  have f548 := ok_I O540 e547 rI_12_7 e546
                  obtain ⟨v549, e550⟩ : ∃ z, Iv h537 a0 8 = z := ⟨_, rfl⟩
                  have f551 := ok_I O540 e547 rI_12_8 e550
                  have e552 : Iv h537 a0 28 = v7 := ((fxI F541 e531 rfl).trans e533)
                  obtain ⟨p553, p554, p555, p556⟩ := p542
                  have p557 := ((NT_fx O530 F541 e531 rfl).trans p535)
                  rw [e546, p557] at p554
                  rw [e550, e546, p557] at p555
                  rw [e552, e546] at p556
                  have p558 := p543
                  unfold ST at p558
                  rw [(pI_e hh528), e546, e533, e552, e532, e550] at p558
                  rw [e550, e546, (pI_e hh528)] at p544
                  refine g_aload_n C rfl 1 rfl dX12_readLine_193 ?_
                  obtain ⟨v559, e560⟩ : ∃ z, Rv h537 a0 27 = z := ⟨_, rfl⟩
                  have t561 := ok_R O540 e547 rE_12_27 e560
                  have l562 := ok_L O540 e547 rE_12_27 e560
                  refine gf_R C fk_LandSurveyModel_146 rfl e547 e560 dX12_readLine_194 ?_
                  refine g_iload_n C rfl 0 rfl dX12_readLine_197 ?_
                  refine g_sipush C (by decide) dX12_readLine_198 ?_
                  refine g_aload_n C rfl 1 rfl dX12_readLine_201 ?_
                  refine gf_I C fk_LandSurveyModel_336 rfl e547 e552 dX12_readLine_202 ?_
                  have f563 : (12800 : Int) ≤ (12800 + v7) ∧ (12800 + v7) ≤ (14400 : Int) := ia_add (il 12800) f9 (by decide) (by decide)
                  refine g_iadd C dX12_readLine_205 ?_
                  refine g_iast C t561 rfl l562 (ix f30 (by decide) (by decide)) (iw f563 (by decide) (by decide)) dX12_readLine_206 (fun h565 hh564 => ?_)
                  have O566 := O540.pIa t561 ar_127100 hh564 rI_127100_0 (iw f563 (by decide) (by decide)) nofun
                  refine g_aload_n C rfl 1 rfl dX12_readLine_207 ?_
                  refine g_iconst C dX12_readLine_208 ?_
                  have e567 : Tg h565 a0 = 12 := ((pIT hh564).trans e547)
                  have e568 : Iv h565 a0 7 = v545 := ((pI_n hh564 (ne_tag e547 t561 (by decide))).trans e546)
                  have e569 : Iv h565 a0 8 = v549 := ((pI_n hh564 (ne_tag e547 t561 (by decide))).trans e550)
                  have e570 : Iv h565 a0 28 = v7 := ((pI_n hh564 (ne_tag e547 t561 (by decide))).trans e552)
                  have p571 := (TK_fx O540 ((Fx.rf (wr := [25420000]) (h := h537)).pIa t561 ar_127100 hh564 rfl) e547 rfl p553)
                  have p572 := ((NT_fx O540 ((Fx.rf (wr := [25420000]) (h := h537)).pIa t561 ar_127100 hh564 rfl) e547 rfl).trans p557)
                  refine g_callV (st := []) (gc_V C lk_LandSurveyModel_392 (k_all_0 l D cy w z0 O566 e567 (il 0) ⟨p571, by rw [e568, p572]; omega, by rw [e569, e568, p572]; omega, by rw [e570, e568]; omega⟩) e567 rfl rfl rfl ⟨by decide, by decide⟩ (Nat.le_of_ble_eq_true rfl) dX12_readLine_209 ⟨(by decide), (by decide)⟩) (fun h574 K575 => ?_)
                  obtain ⟨O577, F578, p579, p580, p581, p582⟩ := K575
                  obtain ⟨v583, e584⟩ : ∃ z, Iv h574 a0 7 = z := ⟨_, rfl⟩
                  have e585 : Tg h574 a0 = 12 := (fxT F578 e567)
                  have f586 := ok_I O577 e585 rI_12_7 e584
                  obtain ⟨v587, e588⟩ : ∃ z, Iv h574 a0 8 = z := ⟨_, rfl⟩
                  have f589 := ok_I O577 e585 rI_12_8 e588
                  obtain ⟨v590, e591⟩ : ∃ z, Iv h574 a0 28 = z := ⟨_, rfl⟩
                  have f592 := ok_I O577 e585 rI_12_28 e591
                  obtain ⟨p593, p594, p595, p596⟩ := p579
                  have p597 := ((NT_fx O566 F578 e567 rfl).trans p572)
                  rw [e584, p597] at p594
                  rw [e588, e584, p597] at p595
                  rw [e591, e584] at p596
                  have p598 := p580
                  unfold ST at p598
                  rw [e568, e584, e570, e591, e569, e588] at p598
                  refine g_aload_n C rfl 1 rfl dX12_readLine_212 ?_
                  refine g_iconst C dX12_readLine_213 ?_
                  refine g_iconst C dX12_readLine_214 ?_
                  refine g_callV (st := []) (gc_V C lk_LandSurveyModel_395 (k_X12_emit l D cy w z0 O577 e585 (iw (il 0) (by decide) (by decide)) (iw (il 0) (by decide) (by decide)) (by rw [e591]; omega)) e585 rfl rfl rfl ⟨by decide, by decide⟩ (Nat.le_of_ble_eq_true rfl) dX12_readLine_215 ⟨(by decide), (by decide)⟩) (fun h600 K601 => ?_)
                  obtain ⟨O603, F604, p605⟩ := K601
                  have e606 : Iv h600 a0 28 = v590 + 1 := by rw [p605.1, e591]
                  obtain ⟨v607, e608⟩ : ∃ z, Iv h600 a0 28 = z := ⟨_, rfl⟩
                  have e609 : Tg h600 a0 = 12 := (fxT F604 e585)
                  have f610 := ok_I O603 e609 rI_12_28 e608
                  rw [e608] at e606
                  refine g_aload_n C rfl 1 rfl dX12_readLine_218 ?_
                  have e611 : Rv h600 a0 24 = v18 := ((fxR F604 e585 rfl).trans ((fxR F578 e567 rfl).trans ((pIR hh564).trans ((fxR F541 e531 rfl).trans ((pIR hh528).trans ((pIR hh516).trans ((fxR F164 e153 rfl).trans ((fxR F131 e108 rfl).trans ((pIR hh105).trans ((pIR hh98).trans ((fxR F79 e68 rfl).trans ((fxR F40 ta0 rfl).trans e19))))))))))))
                  refine gf_R C fk_LandSurveyModel_137 rfl e609 e611 dX12_readLine_219 ?_
                  refine g_bipush C (by decide) dX12_readLine_222 ?_
                  refine g_dup2 C rfl rfl dX12_readLine_224 ?_
                  have e612 : Tg h600 v18 = 124100 := (fxT F604 (fxT F578 ((pIT hh564).trans (fxT F541 ((pIT hh528).trans ((pIT hh516).trans (fxT F164 (fxT F131 ((pIT hh105).trans ((pIT hh98).trans (fxT F79 (fxT F40 t20))))))))))))
                  have e613 : Tg h36 v18 = 124100 := (fxT F40 t20)
                  have e614 : Tg h106 v18 = 124100 := ((pIT hh105).trans ((pIT hh98).trans (fxT F79 e613)))
                  have e615 : Tg h127 v18 = 124100 := (fxT F131 e614)
                  have e616 : Tg h529 v18 = 124100 := ((pIT hh528).trans ((pIT hh516).trans (fxT F164 e615)))
                  have e617 : Tg h565 v18 = 124100 := ((pIT hh564).trans (fxT F541 e616))
                  have e618 : Tg h574 v18 = 124100 := (fxT F578 e617)
                  have e619 : Ln h600 v18 = 9 := ((fxL F604 e618).trans ((fxL F578 e617).trans ((pIL hh564).trans ((fxL F541 e616).trans ((pIL hh528).trans ((pIL hh516).trans ((fxL F164 e615).trans ((fxL F131 e614).trans ((pIL hh105).trans ((pIL hh98).trans ((fxL F79 e613).trans ((fxL F40 t20).trans l21))))))))))))
                  have e620 : Tg h75 v18 = 124100 := (fxT F79 e613)
                  have e621 : Tg h99 v18 = 124100 := ((pIT hh98).trans e620)
                  have e622 : Tg h160 v18 = 124100 := (fxT F164 e615)
                  have e623 : Tg h517 v18 = 124100 := ((pIT hh516).trans e622)
                  have e624 : Tg h537 v18 = 124100 := (fxT F541 e616)
                  have e625 : Iv h600 v18 ((8 : Int).toNat) = v22 := ((fxIa F604 e618 ar_124100 rfl).trans ((fxIa F578 e617 ar_124100 rfl).trans ((pI_n hh564 (ne_tag e624 t561 (by decide))).trans ((fxIa F541 e616 ar_124100 rfl).trans ((pI_n hh528 (ne_tag e623 e519 (by decide))).trans ((pI_n hh516 (ne_tag e622 e513 (by decide))).trans ((fxIa F164 e615 ar_124100 rfl).trans ((fxIa F131 e614 ar_124100 rfl).trans ((pI_n hh105 (ne_tag e621 e101 (by decide))).trans ((pI_n hh98 (ne_tag e620 e95 (by decide))).trans ((fxIa F79 e613 ar_124100 rfl).trans ((fxIa F40 t20 ar_124100 rfl).trans e23))))))))))))
                  refine g_iald C e612 rfl e619 (ix (il 8) (by decide) (by decide)) e625 dX12_readLine_225 ?_
                  refine g_iconst C dX12_readLine_226 ?_
                  have f626 : (1 : Int) ≤ (v22 + 1) ∧ (v22 + 1) ≤ (24 : Int) := ia_add f27 (il 1) (by decide) (by decide)
                  refine g_iadd C dX12_readLine_227 ?_
                  refine g_iast C e612 rfl e619 (ix (il 8) (by decide) (by decide)) (iw f626 (by decide) (by decide)) dX12_readLine_228 (fun h628 hh627 => ?_)
                  have O629 := O603.pIa e612 ar_124100 hh627 rI_124100_0 (iw f626 (by decide) (by decide)) nofun
                  have e630 : Iv h628 a0 7 = v583 := ((pI_n hh627 (ne_tag e609 e612 (by decide))).trans ((fxI F604 e585 rfl).trans e584))
                  have e631 : Iv h628 a0 8 = v587 := ((pI_n hh627 (ne_tag e609 e612 (by decide))).trans ((fxI F604 e585 rfl).trans e588))
                  have e632 : Iv h628 a0 28 = v607 := ((pI_n hh627 (ne_tag e609 e612 (by decide))).trans e608)
                  have p633 := (TK_fx O603 ((Fx.rf (wr := [24820000]) (h := h600)).pIa e612 ar_124100 hh627 rfl) e609 rfl (TK_fx O577 F604 e585 rfl p593))
                  have p634 := ((NT_fx O603 ((Fx.rf (wr := [24820000]) (h := h600)).pIa e612 ar_124100 hh627 rfl) e609 rfl).trans ((NT_fx O577 F604 e585 rfl).trans p597))
                  have p635 := (MInv_w O603 e609 e612 (by decide) hh627 ⟨fun e => by omega, fun e => by omega, fun e => by omega⟩ (MInv_cf O577 F604 e585 rfl (EM.cf p605) (MInv_cf O566 F578 e567 rfl p581 (MInv_w O540 e547 t561 (by decide) hh564 ⟨fun e => by omega, fun e => by omega, fun e => by omega⟩ (MInv_fx O530 F541 e531 rfl (MInv_fx O518 ((Fx.rf (wr := [2407]) (h := h517)).pI e519 hh528 rfl) e519 rfl (MInv_w O163 e525 e513 (by decide) hh516 ⟨fun e => by omega, fun e => by omega, fun e => by omega⟩ (MInv_fx O130 F164 e153 rfl (MInv_fx O107 F131 e108 rfl (MInv_fx O100 ((Fx.rf (wr := [2407]) (h := h99)).pI e101 hh105 rfl) e101 rfl (MInv_w O78 e102 e95 (by decide) hh98 ⟨fun e => by omega, fun e => by omega, fun e => by omega⟩ (MInv_fx O39 F79 e68 rfl (MInv_fx O F40 ta0 rfl P_MInv)))))))))))))
                  have p636 := (DLn_cf O577 F604 e585 rfl (EM.cf p605) (DLn_cf O566 F578 e567 rfl p581 (DLn_w O540 e547 t561 (by decide) hh564 (by omega) (DLn_fx O530 F541 e531 rfl (DLn_fx O518 ((Fx.rf (wr := [2407]) (h := h517)).pI e519 hh528 rfl) e519 rfl (DLn_w O163 e525 e513 (by decide) hh516 (by omega) (DLn_fx O130 F164 e153 rfl (DLn_fx O107 F131 e108 rfl (DLn_fx O100 ((Fx.rf (wr := [2407]) (h := h99)).pI e101 hh105 rfl) e101 rfl (DLn_w O78 e102 e95 (by decide) hh98 (by omega) (DLn_fx O39 F79 e68 rfl (DLn_fx O F40 ta0 rfl p29))))))))))))
                  have e637 : Rv h600 a0 25 = v31 := ((fxR F604 e585 rfl).trans ((fxR F578 e567 rfl).trans ((pIR hh564).trans ((fxR F541 e531 rfl).trans ((pIR hh528).trans ((pIR hh516).trans ((fxR F164 e153 rfl).trans ((fxR F131 e108 rfl).trans e109))))))))
                  have e638 : Tg h127 v31 = 125100 := (fxT F131 e110)
                  have e639 : Tg h160 v31 = 125100 := (fxT F164 e638)
                  have e640 : Tg h517 v31 = 125100 := ((pIT hh516).trans e639)
                  have e641 : Tg h529 v31 = 125100 := ((pIT hh528).trans e640)
                  have e642 : Tg h537 v31 = 125100 := (fxT F541 e641)
                  have e643 : Tg h565 v31 = 125100 := ((pIT hh564).trans e642)
                  have e644 : Tg h574 v31 = 125100 := (fxT F578 e643)
                  have e645 : Iv h600 v31 ((192 + v22).toNat) = 3 := ((fxIa F604 e644 ar_125100 rfl).trans ((fxIa F578 e643 ar_125100 rfl).trans ((pI_n hh564 (ne_tag e642 t561 (by decide))).trans ((fxIa F541 e641 ar_125100 rfl).trans ((pI_n hh528 (ne_tag e640 e519 (by decide))).trans ((pI_n hh516 (ne_tag e639 e513 (by decide))).trans ((fxIa F164 e638 ar_125100 rfl).trans ((fxIa F131 e110 ar_125100 rfl).trans e113))))))))
                  have e646 : Rv h600 a0 26 = v118 := ((fxR F604 e585 rfl).trans ((fxR F578 e567 rfl).trans ((pIR hh564).trans ((fxR F541 e531 rfl).trans ((pIR hh528).trans e520)))))
                  have e647 : Tg h529 v118 = 126100 := ((pIT hh528).trans e521)
                  have e648 : Tg h537 v118 = 126100 := (fxT F541 e647)
                  have e649 : Tg h565 v118 = 126100 := ((pIT hh564).trans e648)
                  have e650 : Tg h574 v118 = 126100 := (fxT F578 e649)
                  have e651 : Iv h600 v118 ((192 + v22).toNat) = 2 := ((fxIa F604 e650 ar_126100 rfl).trans ((fxIa F578 e649 ar_126100 rfl).trans ((pI_n hh564 (ne_tag e648 t561 (by decide))).trans ((fxIa F541 e647 ar_126100 rfl).trans ((pI_n hh528 (ne_tag e521 e519 (by decide))).trans (pI_e hh516))))))
                  have e652 : Rv h600 a0 27 = v559 := ((fxR F604 e585 rfl).trans ((fxR F578 e567 rfl).trans ((pIR hh564).trans e560)))
                  have e653 : Tg h565 v559 = 127100 := ((pIT hh564).trans t561)
                  have e654 : Tg h574 v559 = 127100 := (fxT F578 e653)
                  have e655 : Iv h600 v559 ((192 + v22).toNat) = (12800 + v7) := ((fxIa F604 e654 ar_127100 rfl).trans ((fxIa F578 e653 ar_127100 rfl).trans (pI_e hh564)))
                  have e656 : Rv h628 a0 24 = v18 := ((pIR hh627).trans e611)
                  have p657 : Iv h628 a0 8 = 0 → DLn h628 a0 (v22 + 1) := fun z => DLn_fx O603 ((Fx.rf (wr := [24820000]) (h := h600)).pIa e612 ar_124100 hh627 rfl) e609 rfl (DL_new (x := 3) (y := 2) (p582 (by rw [e631] at z; rw [e588]; omega)) p605 (by omega) (by rw [e652, e655, e570]) (by rw [e637]; exact e645) (by rw [e646]; exact e651) (by omega) p636)
                  have e658 : Iv h628 (Rv h628 a0 24) 8 = v22 + 1 := by rw [e656]; exact (pI_e hh627)
                  exact g_vret C hr ⟨O629, ((((((((((((((Fx.rf (wr := wr_k_X12_readLine)).call F40 rfl).call F79 rfl).pIa e95 ar_125100 hh98 rfl).pI e101 hh105 rfl).call F131 rfl).call F164 rfl).pIa e513 ar_126100 hh516 rfl).pI e519 hh528 rfl).call F541 rfl).pIa t561 ar_127100 hh564 rfl).call F578 rfl).call F604 rfl).pIa e612 ar_124100 hh627 rfl), ⟨p633, by rw [e630, p634]; omega, by rw [e631, e630, p634]; omega, by rw [e632, e630]; omega⟩, (by unfold ST; rw [e2, e630, e8, e632, e5, e631]; omega), p635, (fun z => by rw [e658]; exact p657 z)⟩ (by decide) (by decide) dX12_readLine_229
                · exact (no_eq (il 2) (il 1) q524 (by decide)).elim
            · have f659 : (1 : Int) ≤ r126 ∧ r126 ≤ (1 : Int) := r_nl f132 q151
              refine g_iconst C dX12_readLine_134 ?_
              refine g_goto C 152 (by decide) dX12_readLine_135 ?_
              have e660 : Tg h127 v118 = 126100 := (fxT F131 t120)
              have e661 : Ln h127 v118 = 216 := ((fxL F131 t120).trans l121)
              refine g_iast C e660 rfl e661 (ix f30 (by decide) (by decide)) (iw (il 3) (by decide) (by decide)) dX12_readLine_152 (fun h663 hh662 => ?_)
              have O664 := O130.pIa e660 ar_126100 hh662 rI_126100_0 (iw (il 3) (by decide) (by decide)) nofun
              refine g_aload_n C rfl 1 rfl dX12_readLine_153 ?_
              have e665 : Tg h663 a0 = 12 := ((pIT hh662).trans (fxT F131 e108))
              have e666 : Rv h663 a0 26 = v118 := ((pIR hh662).trans ((fxR F131 e108 rfl).trans e119))
              refine gf_R C fk_LandSurveyModel_143 rfl e665 e666 dX12_readLine_154 ?_
              refine g_iload_n C rfl 0 rfl dX12_readLine_157 ?_
              have e667 : Tg h663 v118 = 126100 := ((pIT hh662).trans e660)
              have e668 : Ln h663 v118 = 216 := ((pIL hh662).trans e661)
              refine g_iald C e667 rfl e668 (ix f30 (by decide) (by decide)) (pI_e hh662) dX12_readLine_158 ?_
              refine g_iconst C dX12_readLine_159 ?_
              refine g_icmp_ne C (iw (il 3) (by decide) (by decide)) (iw (il 1) (by decide) (by decide)) 177 (by decide) dX12_readLine_160 (fun q669 => ?_) (fun q670 => ?_)
              · refine g_aload_n C rfl 1 rfl dX12_readLine_177 ?_
                refine g_dup C rfl dX12_readLine_178 ?_
                have e671 : Tg h127 a0 = 12 := (fxT F131 e108)
                have e672 : Iv h663 a0 7 = (v1 + 1) := ((pI_n hh662 (ne_tag e671 e660 (by decide))).trans ((fxI F131 e108 rfl).trans (pI_e hh105)))
                refine gf_I C fk_LandSurveyModel_317 rfl e665 e672 dX12_readLine_179 ?_
                refine g_iconst C dX12_readLine_182 ?_
                have f673 : (2 : Int) ≤ ((v1 + 1) + 1) ∧ ((v1 + 1) + 1) ≤ (1503 : Int) := ia_add f104 (il 1) (by decide) (by decide)
                refine g_iadd C dX12_readLine_183 ?_
                refine gp_I C fk_LandSurveyModel_317 pk_LandSurveyModel_7 rfl e665 (iw f673 (by decide) (by decide)) (nf_i _) dX12_readLine_184 (fun h675 hh674 => ?_)
                have O676 := O664.pI e665 hh674 rI_12_7 (by omega) nofun
                refine g_aload_n C rfl 1 rfl dX12_readLine_187 ?_
                refine g_bipush C (by decide) dX12_readLine_188 ?_
                have e677 : Tg h675 a0 = 12 := ((pIT hh674).trans e665)
                have e678 : Iv h675 a0 8 = v4 := ((pI_j hh674 (by decide)).trans ((pI_n hh662 (ne_tag e671 e660 (by decide))).trans ((fxI F131 e108 rfl).trans e122)))
                have e679 : Iv h675 a0 28 = v7 := ((pI_j hh674 (by decide)).trans ((pI_n hh662 (ne_tag e671 e660 (by decide))).trans ((fxI F131 e108 rfl).trans e123)))
                have p680 := (TK_fx O664 ((Fx.rf (wr := [2407]) (h := h663)).pI e665 hh674 rfl) e665 rfl (TK_fx O130 ((Fx.rf (wr := [25220000]) (h := h127)).pIa e660 ar_126100 hh662 rfl) e671 rfl (TK_fx O107 F131 e108 rfl p124)))
                have p681 := ((NT_fx O664 ((Fx.rf (wr := [2407]) (h := h663)).pI e665 hh674 rfl) e665 rfl).trans ((NT_fx O130 ((Fx.rf (wr := [25220000]) (h := h127)).pIa e660 ar_126100 hh662 rfl) e671 rfl).trans ((NT_fx O107 F131 e108 rfl).trans p125)))
                refine g_callV (st := []) (gc_V C lk_LandSurveyModel_387 (k_X12_takeWord l D cy w z0 O676 e677 (iw (il 11) (by decide) (by decide)) ⟨p680, by rw [(pI_e hh674), p681]; omega, by rw [e678, (pI_e hh674), p681]; omega, by rw [e679, (pI_e hh674)]; omega⟩) e677 rfl rfl rfl ⟨by decide, by decide⟩ (Nat.le_of_ble_eq_true rfl) dX12_readLine_190 ⟨(by decide), (by decide)⟩) (fun h683 K684 => ?_)
                obtain ⟨O686, F687, p688, p689, p690⟩ := K684
                obtain ⟨v691, e692⟩ : ∃ z, Iv h683 a0 7 = z := ⟨_, rfl⟩
                have e693 : Tg h683 a0 = 12 := (fxT F687 e677)
                have f694 := ok_I O686 e693 rI_12_7 e692
                obtain ⟨v695, e696⟩ : ∃ z, Iv h683 a0 8 = z := ⟨_, rfl⟩
                have f697 := ok_I O686 e693 rI_12_8 e696
                have e698 : Iv h683 a0 28 = v7 := ((fxI F687 e677 rfl).trans e679)
                obtain ⟨p699, p700, p701, p702⟩ := p688
                have p703 := ((NT_fx O676 F687 e677 rfl).trans p681)
                rw [e692, p703] at p700
                rw [e696, e692, p703] at p701
                rw [e698, e692] at p702
                have p704 := p689
                unfold ST at p704
                rw [(pI_e hh674), e692, e679, e698, e678, e696] at p704
                rw [e696, e692, (pI_e hh674)] at p690
                refine g_aload_n C rfl 1 rfl dX12_readLine_193 ?_
                obtain ⟨v705, e706⟩ : ∃ z, Rv h683 a0 27 = z := ⟨_, rfl⟩
                have t707 := ok_R O686 e693 rE_12_27 e706
                have l708 := ok_L O686 e693 rE_12_27 e706
                refine gf_R C fk_LandSurveyModel_146 rfl e693 e706 dX12_readLine_194 ?_
                refine g_iload_n C rfl 0 rfl dX12_readLine_197 ?_
                refine g_sipush C (by decide) dX12_readLine_198 ?_
                refine g_aload_n C rfl 1 rfl dX12_readLine_201 ?_
                refine gf_I C fk_LandSurveyModel_336 rfl e693 e698 dX12_readLine_202 ?_
                have f709 : (12800 : Int) ≤ (12800 + v7) ∧ (12800 + v7) ≤ (14400 : Int) := ia_add (il 12800) f9 (by decide) (by decide)
                refine g_iadd C dX12_readLine_205 ?_
                refine g_iast C t707 rfl l708 (ix f30 (by decide) (by decide)) (iw f709 (by decide) (by decide)) dX12_readLine_206 (fun h711 hh710 => ?_)
                have O712 := O686.pIa t707 ar_127100 hh710 rI_127100_0 (iw f709 (by decide) (by decide)) nofun
                refine g_aload_n C rfl 1 rfl dX12_readLine_207 ?_
                refine g_iconst C dX12_readLine_208 ?_
                have e713 : Tg h711 a0 = 12 := ((pIT hh710).trans e693)
                have e714 : Iv h711 a0 7 = v691 := ((pI_n hh710 (ne_tag e693 t707 (by decide))).trans e692)
                have e715 : Iv h711 a0 8 = v695 := ((pI_n hh710 (ne_tag e693 t707 (by decide))).trans e696)
                have e716 : Iv h711 a0 28 = v7 := ((pI_n hh710 (ne_tag e693 t707 (by decide))).trans e698)
                have p717 := (TK_fx O686 ((Fx.rf (wr := [25420000]) (h := h683)).pIa t707 ar_127100 hh710 rfl) e693 rfl p699)
                have p718 := ((NT_fx O686 ((Fx.rf (wr := [25420000]) (h := h683)).pIa t707 ar_127100 hh710 rfl) e693 rfl).trans p703)
                refine g_callV (st := []) (gc_V C lk_LandSurveyModel_392 (k_all_0 l D cy w z0 O712 e713 (il 0) ⟨p717, by rw [e714, p718]; omega, by rw [e715, e714, p718]; omega, by rw [e716, e714]; omega⟩) e713 rfl rfl rfl ⟨by decide, by decide⟩ (Nat.le_of_ble_eq_true rfl) dX12_readLine_209 ⟨(by decide), (by decide)⟩) (fun h720 K721 => ?_)
                obtain ⟨O723, F724, p725, p726, p727, p728⟩ := K721
                obtain ⟨v729, e730⟩ : ∃ z, Iv h720 a0 7 = z := ⟨_, rfl⟩
                have e731 : Tg h720 a0 = 12 := (fxT F724 e713)
                have f732 := ok_I O723 e731 rI_12_7 e730
                obtain ⟨v733, e734⟩ : ∃ z, Iv h720 a0 8 = z := ⟨_, rfl⟩
                have f735 := ok_I O723 e731 rI_12_8 e734
                obtain ⟨v736, e737⟩ : ∃ z, Iv h720 a0 28 = z := ⟨_, rfl⟩
                have f738 := ok_I O723 e731 rI_12_28 e737
                obtain ⟨p739, p740, p741, p742⟩ := p725
                have p743 := ((NT_fx O712 F724 e713 rfl).trans p718)
                rw [e730, p743] at p740
                rw [e734, e730, p743] at p741
                rw [e737, e730] at p742
                have p744 := p726
                unfold ST at p744
                rw [e714, e730, e716, e737, e715, e734] at p744
                refine g_aload_n C rfl 1 rfl dX12_readLine_212 ?_
                refine g_iconst C dX12_readLine_213 ?_
                refine g_iconst C dX12_readLine_214 ?_
                refine g_callV (st := []) (gc_V C lk_LandSurveyModel_395 (k_X12_emit l D cy w z0 O723 e731 (iw (il 0) (by decide) (by decide)) (iw (il 0) (by decide) (by decide)) (by rw [e737]; omega)) e731 rfl rfl rfl ⟨by decide, by decide⟩ (Nat.le_of_ble_eq_true rfl) dX12_readLine_215 ⟨(by decide), (by decide)⟩) (fun h746 K747 => ?_)
                obtain ⟨O749, F750, p751⟩ := K747
                have e752 : Iv h746 a0 28 = v736 + 1 := by rw [p751.1, e737]
                obtain ⟨v753, e754⟩ : ∃ z, Iv h746 a0 28 = z := ⟨_, rfl⟩
                have e755 : Tg h746 a0 = 12 := (fxT F750 e731)
                have f756 := ok_I O749 e755 rI_12_28 e754
                rw [e754] at e752
                refine g_aload_n C rfl 1 rfl dX12_readLine_218 ?_
                have e757 : Rv h746 a0 24 = v18 := ((fxR F750 e731 rfl).trans ((fxR F724 e713 rfl).trans ((pIR hh710).trans ((fxR F687 e677 rfl).trans ((pIR hh674).trans ((pIR hh662).trans ((fxR F131 e108 rfl).trans ((pIR hh105).trans ((pIR hh98).trans ((fxR F79 e68 rfl).trans ((fxR F40 ta0 rfl).trans e19)))))))))))
                refine gf_R C fk_LandSurveyModel_137 rfl e755 e757 dX12_readLine_219 ?_
                refine g_bipush C (by decide) dX12_readLine_222 ?_
                refine g_dup2 C rfl rfl dX12_readLine_224 ?_
                have e758 : Tg h746 v18 = 124100 := (fxT F750 (fxT F724 ((pIT hh710).trans (fxT F687 ((pIT hh674).trans ((pIT hh662).trans (fxT F131 ((pIT hh105).trans ((pIT hh98).trans (fxT F79 (fxT F40 t20)))))))))))
                have e759 : Tg h36 v18 = 124100 := (fxT F40 t20)
                have e760 : Tg h106 v18 = 124100 := ((pIT hh105).trans ((pIT hh98).trans (fxT F79 e759)))
                have e761 : Tg h675 v18 = 124100 := ((pIT hh674).trans ((pIT hh662).trans (fxT F131 e760)))
                have e762 : Tg h711 v18 = 124100 := ((pIT hh710).trans (fxT F687 e761))
                have e763 : Tg h720 v18 = 124100 := (fxT F724 e762)
                have e764 : Ln h746 v18 = 9 := ((fxL F750 e763).trans ((fxL F724 e762).trans ((pIL hh710).trans ((fxL F687 e761).trans ((pIL hh674).trans ((pIL hh662).trans ((fxL F131 e760).trans ((pIL hh105).trans ((pIL hh98).trans ((fxL F79 e759).trans ((fxL F40 t20).trans l21)))))))))))
                have e765 : Tg h75 v18 = 124100 := (fxT F79 e759)
                have e766 : Tg h99 v18 = 124100 := ((pIT hh98).trans e765)
                have e767 : Tg h127 v18 = 124100 := (fxT F131 e760)
                have e768 : Tg h663 v18 = 124100 := ((pIT hh662).trans e767)
                have e769 : Tg h683 v18 = 124100 := (fxT F687 e761)
                have e770 : Iv h746 v18 ((8 : Int).toNat) = v22 := ((fxIa F750 e763 ar_124100 rfl).trans ((fxIa F724 e762 ar_124100 rfl).trans ((pI_n hh710 (ne_tag e769 t707 (by decide))).trans ((fxIa F687 e761 ar_124100 rfl).trans ((pI_n hh674 (ne_tag e768 e665 (by decide))).trans ((pI_n hh662 (ne_tag e767 e660 (by decide))).trans ((fxIa F131 e760 ar_124100 rfl).trans ((pI_n hh105 (ne_tag e766 e101 (by decide))).trans ((pI_n hh98 (ne_tag e765 e95 (by decide))).trans ((fxIa F79 e759 ar_124100 rfl).trans ((fxIa F40 t20 ar_124100 rfl).trans e23)))))))))))
                refine g_iald C e758 rfl e764 (ix (il 8) (by decide) (by decide)) e770 dX12_readLine_225 ?_
                refine g_iconst C dX12_readLine_226 ?_
                have f771 : (1 : Int) ≤ (v22 + 1) ∧ (v22 + 1) ≤ (24 : Int) := ia_add f27 (il 1) (by decide) (by decide)
                refine g_iadd C dX12_readLine_227 ?_
                refine g_iast C e758 rfl e764 (ix (il 8) (by decide) (by decide)) (iw f771 (by decide) (by decide)) dX12_readLine_228 (fun h773 hh772 => ?_)
                have O774 := O749.pIa e758 ar_124100 hh772 rI_124100_0 (iw f771 (by decide) (by decide)) nofun
                have e775 : Iv h773 a0 7 = v729 := ((pI_n hh772 (ne_tag e755 e758 (by decide))).trans ((fxI F750 e731 rfl).trans e730))
                have e776 : Iv h773 a0 8 = v733 := ((pI_n hh772 (ne_tag e755 e758 (by decide))).trans ((fxI F750 e731 rfl).trans e734))
                have e777 : Iv h773 a0 28 = v753 := ((pI_n hh772 (ne_tag e755 e758 (by decide))).trans e754)
                have p778 := (TK_fx O749 ((Fx.rf (wr := [24820000]) (h := h746)).pIa e758 ar_124100 hh772 rfl) e755 rfl (TK_fx O723 F750 e731 rfl p739))
                have p779 := ((NT_fx O749 ((Fx.rf (wr := [24820000]) (h := h746)).pIa e758 ar_124100 hh772 rfl) e755 rfl).trans ((NT_fx O723 F750 e731 rfl).trans p743))
                have p780 := (MInv_w O749 e755 e758 (by decide) hh772 ⟨fun e => by omega, fun e => by omega, fun e => by omega⟩ (MInv_cf O723 F750 e731 rfl (EM.cf p751) (MInv_cf O712 F724 e713 rfl p727 (MInv_w O686 e693 t707 (by decide) hh710 ⟨fun e => by omega, fun e => by omega, fun e => by omega⟩ (MInv_fx O676 F687 e677 rfl (MInv_fx O664 ((Fx.rf (wr := [2407]) (h := h663)).pI e665 hh674 rfl) e665 rfl (MInv_w O130 e671 e660 (by decide) hh662 ⟨fun e => by omega, fun e => by omega, fun e => by omega⟩ (MInv_fx O107 F131 e108 rfl (MInv_fx O100 ((Fx.rf (wr := [2407]) (h := h99)).pI e101 hh105 rfl) e101 rfl (MInv_w O78 e102 e95 (by decide) hh98 ⟨fun e => by omega, fun e => by omega, fun e => by omega⟩ (MInv_fx O39 F79 e68 rfl (MInv_fx O F40 ta0 rfl P_MInv))))))))))))
                have p781 := (DLn_cf O723 F750 e731 rfl (EM.cf p751) (DLn_cf O712 F724 e713 rfl p727 (DLn_w O686 e693 t707 (by decide) hh710 (by omega) (DLn_fx O676 F687 e677 rfl (DLn_fx O664 ((Fx.rf (wr := [2407]) (h := h663)).pI e665 hh674 rfl) e665 rfl (DLn_w O130 e671 e660 (by decide) hh662 (by omega) (DLn_fx O107 F131 e108 rfl (DLn_fx O100 ((Fx.rf (wr := [2407]) (h := h99)).pI e101 hh105 rfl) e101 rfl (DLn_w O78 e102 e95 (by decide) hh98 (by omega) (DLn_fx O39 F79 e68 rfl (DLn_fx O F40 ta0 rfl p29)))))))))))
                have e782 : Rv h746 a0 25 = v31 := ((fxR F750 e731 rfl).trans ((fxR F724 e713 rfl).trans ((pIR hh710).trans ((fxR F687 e677 rfl).trans ((pIR hh674).trans ((pIR hh662).trans ((fxR F131 e108 rfl).trans e109)))))))
                have e783 : Tg h127 v31 = 125100 := (fxT F131 e110)
                have e784 : Tg h663 v31 = 125100 := ((pIT hh662).trans e783)
                have e785 : Tg h675 v31 = 125100 := ((pIT hh674).trans e784)
                have e786 : Tg h683 v31 = 125100 := (fxT F687 e785)
                have e787 : Tg h711 v31 = 125100 := ((pIT hh710).trans e786)
                have e788 : Tg h720 v31 = 125100 := (fxT F724 e787)
                have e789 : Iv h746 v31 ((192 + v22).toNat) = 3 := ((fxIa F750 e788 ar_125100 rfl).trans ((fxIa F724 e787 ar_125100 rfl).trans ((pI_n hh710 (ne_tag e786 t707 (by decide))).trans ((fxIa F687 e785 ar_125100 rfl).trans ((pI_n hh674 (ne_tag e784 e665 (by decide))).trans ((pI_n hh662 (ne_tag e783 e660 (by decide))).trans ((fxIa F131 e110 ar_125100 rfl).trans e113)))))))
                have e790 : Rv h746 a0 26 = v118 := ((fxR F750 e731 rfl).trans ((fxR F724 e713 rfl).trans ((pIR hh710).trans ((fxR F687 e677 rfl).trans ((pIR hh674).trans e666)))))
                have e791 : Tg h675 v118 = 126100 := ((pIT hh674).trans e667)
                have e792 : Tg h683 v118 = 126100 := (fxT F687 e791)
                have e793 : Tg h711 v118 = 126100 := ((pIT hh710).trans e792)
                have e794 : Tg h720 v118 = 126100 := (fxT F724 e793)
                have e795 : Iv h746 v118 ((192 + v22).toNat) = 3 := ((fxIa F750 e794 ar_126100 rfl).trans ((fxIa F724 e793 ar_126100 rfl).trans ((pI_n hh710 (ne_tag e792 t707 (by decide))).trans ((fxIa F687 e791 ar_126100 rfl).trans ((pI_n hh674 (ne_tag e667 e665 (by decide))).trans (pI_e hh662))))))
                have e796 : Rv h746 a0 27 = v705 := ((fxR F750 e731 rfl).trans ((fxR F724 e713 rfl).trans ((pIR hh710).trans e706)))
                have e797 : Tg h711 v705 = 127100 := ((pIT hh710).trans t707)
                have e798 : Tg h720 v705 = 127100 := (fxT F724 e797)
                have e799 : Iv h746 v705 ((192 + v22).toNat) = (12800 + v7) := ((fxIa F750 e798 ar_127100 rfl).trans ((fxIa F724 e797 ar_127100 rfl).trans (pI_e hh710)))
                have e800 : Rv h773 a0 24 = v18 := ((pIR hh772).trans e757)
                have p801 : Iv h773 a0 8 = 0 → DLn h773 a0 (v22 + 1) := fun z => DLn_fx O749 ((Fx.rf (wr := [24820000]) (h := h746)).pIa e758 ar_124100 hh772 rfl) e755 rfl (DL_new (x := 3) (y := 3) (p728 (by rw [e776] at z; rw [e734]; omega)) p751 (by omega) (by rw [e796, e799, e716]) (by rw [e782]; exact e789) (by rw [e790]; exact e795) (by omega) p781)
                have e802 : Iv h773 (Rv h773 a0 24) 8 = v22 + 1 := by rw [e800]; exact (pI_e hh772)
                exact g_vret C hr ⟨O774, (((((((((((((Fx.rf (wr := wr_k_X12_readLine)).call F40 rfl).call F79 rfl).pIa e95 ar_125100 hh98 rfl).pI e101 hh105 rfl).call F131 rfl).pIa e660 ar_126100 hh662 rfl).pI e665 hh674 rfl).call F687 rfl).pIa t707 ar_127100 hh710 rfl).call F724 rfl).call F750 rfl).pIa e758 ar_124100 hh772 rfl), ⟨p778, by rw [e775, p779]; omega, by rw [e776, e775, p779]; omega, by rw [e777, e775]; omega⟩, (by unfold ST; rw [e2, e775, e8, e777, e5, e776]; omega), p780, (fun z => by rw [e802]; exact p801 z)⟩ (by decide) (by decide) dX12_readLine_229
              · exact (no_eq (il 3) (il 1) q670 (by decide)).elim
          · exact (no_eq (il 3) (il 2) q117 (by decide)).elim
        · exact (no_eq (il 3) (il 1) q115 (by decide)).elim
      · have f803 : (1 : Int) ≤ r74 ∧ r74 ≤ (1 : Int) := r_nl f80 q93
        refine g_iconst C dX12_readLine_55 ?_
        refine g_goto C 60 (by decide) dX12_readLine_56 ?_
        have e804 : Tg h75 v31 = 125100 := (fxT F79 (fxT F40 t33))
        have e805 : Tg h36 v31 = 125100 := (fxT F40 t33)
        have e806 : Ln h75 v31 = 216 := ((fxL F79 e805).trans ((fxL F40 t33).trans l34))
        refine g_iast C e804 rfl e806 (ix f30 (by decide) (by decide)) (iw (il 2) (by decide) (by decide)) dX12_readLine_60 (fun h808 hh807 => ?_)
        have O809 := O78.pIa e804 ar_125100 hh807 rI_125100_0 (iw (il 2) (by decide) (by decide)) nofun
        refine g_aload_n C rfl 1 rfl dX12_readLine_61 ?_
        refine g_dup C rfl dX12_readLine_62 ?_
        have e810 : Tg h808 a0 = 12 := ((pIT hh807).trans (fxT F79 e68))
        have e811 : Tg h75 a0 = 12 := (fxT F79 e68)
        have e812 : Iv h808 a0 7 = v1 := ((pI_n hh807 (ne_tag e811 e804 (by decide))).trans ((fxI F79 e68 rfl).trans e69))
        refine gf_I C fk_LandSurveyModel_317 rfl e810 e812 dX12_readLine_63 ?_
        refine g_iconst C dX12_readLine_66 ?_
        have f813 : (1 : Int) ≤ (v1 + 1) ∧ (v1 + 1) ≤ (1502 : Int) := ia_add f3 (il 1) (by decide) (by decide)
        refine g_iadd C dX12_readLine_67 ?_
        refine gp_I C fk_LandSurveyModel_317 pk_LandSurveyModel_7 rfl e810 (iw f813 (by decide) (by decide)) (nf_i _) dX12_readLine_68 (fun h815 hh814 => ?_)
        have O816 := O809.pI e810 hh814 rI_12_7 (by omega) nofun
        refine g_aload_n C rfl 1 rfl dX12_readLine_71 ?_
        have e817 : Tg h815 a0 = 12 := ((pIT hh814).trans e810)
        have e818 : Rv h815 a0 25 = v31 := ((pIR hh814).trans ((pIR hh807).trans ((fxR F79 e68 rfl).trans ((fxR F40 ta0 rfl).trans e32))))
        refine gf_R C fk_LandSurveyModel_140 rfl e817 e818 dX12_readLine_72 ?_
        refine g_iload_n C rfl 0 rfl dX12_readLine_75 ?_
        have e819 : Tg h815 v31 = 125100 := ((pIT hh814).trans ((pIT hh807).trans e804))
        have e820 : Ln h815 v31 = 216 := ((pIL hh814).trans ((pIL hh807).trans e806))
        have e821 : Tg h808 v31 = 125100 := ((pIT hh807).trans e804)
        have e822 : Iv h815 v31 ((192 + v22).toNat) = 2 := ((pI_n hh814 (ne_tag e821 e810 (by decide))).trans (pI_e hh807))
        refine g_iald C e819 rfl e820 (ix f30 (by decide) (by decide)) e822 dX12_readLine_76 ?_
        refine g_iconst C dX12_readLine_77 ?_
        refine g_icmp_ne C (iw (il 2) (by decide) (by decide)) (iw (il 1) (by decide) (by decide)) 94 (by decide) dX12_readLine_78 (fun q823 => ?_) (fun q824 => ?_)
        · refine g_aload_n C rfl 1 rfl dX12_readLine_94 ?_
          refine gf_R C fk_LandSurveyModel_140 rfl e817 e818 dX12_readLine_95 ?_
          refine g_iload_n C rfl 0 rfl dX12_readLine_98 ?_
          refine g_iald C e819 rfl e820 (ix f30 (by decide) (by decide)) e822 dX12_readLine_99 ?_
          refine g_iconst C dX12_readLine_100 ?_
          refine g_icmp_ne C (iw (il 2) (by decide) (by decide)) (iw (il 2) (by decide) (by decide)) 120 (by decide) dX12_readLine_101 (fun q825 => ?_) (fun q826 => ?_)
          · exact (no_ne (il 2) (il 2) q825 (by decide)).elim
          · refine g_aload_n C rfl 1 rfl dX12_readLine_104 ?_
            obtain ⟨v827, e828⟩ : ∃ z, Rv h815 a0 26 = z := ⟨_, rfl⟩
            have t829 := ok_R O816 e817 rE_12_26 e828
            have l830 := ok_L O816 e817 rE_12_26 e828
            refine gf_R C fk_LandSurveyModel_143 rfl e817 e828 dX12_readLine_105 ?_
            refine g_iload_n C rfl 0 rfl dX12_readLine_108 ?_
            refine g_aload_n C rfl 1 rfl dX12_readLine_109 ?_
            refine g_iconst C dX12_readLine_110 ?_
            refine g_bipush C (by decide) dX12_readLine_111 ?_
            have e831 : Iv h815 a0 8 = v4 := ((pI_j hh814 (by decide)).trans ((pI_n hh807 (ne_tag e811 e804 (by decide))).trans ((fxI F79 e68 rfl).trans e70)))
            have e832 : Iv h815 a0 28 = v7 := ((pI_j hh814 (by decide)).trans ((pI_n hh807 (ne_tag e811 e804 (by decide))).trans ((fxI F79 e68 rfl).trans e71)))
            have p833 := (TK_fx O809 ((Fx.rf (wr := [2407]) (h := h808)).pI e810 hh814 rfl) e810 rfl (TK_fx O78 ((Fx.rf (wr := [25020000]) (h := h75)).pIa e804 ar_125100 hh807 rfl) e811 rfl (TK_fx O39 F79 e68 rfl p72)))
            have p834 := ((NT_fx O809 ((Fx.rf (wr := [2407]) (h := h808)).pI e810 hh814 rfl) e810 rfl).trans ((NT_fx O78 ((Fx.rf (wr := [25020000]) (h := h75)).pIa e804 ar_125100 hh807 rfl) e811 rfl).trans ((NT_fx O39 F79 e68 rfl).trans p73)))
            refine g_callI (st := [.inl (192 + v22), .inr (.inr v827)]) (gc_V C lk_LandSurveyModel_383 (k_X12_takeNumber l D cy w z0 O816 e817 (iw (il 1) (by decide) (by decide)) (iw (il 99) (by decide) (by decide)) ⟨p833, by rw [(pI_e hh814), p834]; omega, by rw [e831, (pI_e hh814), p834]; omega, by rw [e832, (pI_e hh814)]; omega⟩) e817 rfl rfl rfl ⟨by decide, by decide⟩ (Nat.le_of_ble_eq_true rfl) dX12_readLine_113 ⟨(by decide), (by decide)⟩) (fun r835 h836 f838 K837 => ?_)
            obtain ⟨O839, F840, f841, p842, p843, p844, p845⟩ := K837
            obtain ⟨v846, e847⟩ : ∃ z, Iv h836 a0 7 = z := ⟨_, rfl⟩
            have e848 : Tg h836 a0 = 12 := (fxT F840 e817)
            have f849 := ok_I O839 e848 rI_12_7 e847
            obtain ⟨v850, e851⟩ : ∃ z, Iv h836 a0 8 = z := ⟨_, rfl⟩
            have f852 := ok_I O839 e848 rI_12_8 e851
            have e853 : Iv h836 a0 28 = v7 := ((fxI F840 e817 rfl).trans e832)
            obtain ⟨p854, p855, p856, p857⟩ := p842
            have p858 := ((NT_fx O816 F840 e817 rfl).trans p834)
            rw [e847, p858] at p855
            rw [e851, e847, p858] at p856
            rw [e853, e847] at p857
            have p859 := p843
            unfold ST at p859
            rw [(pI_e hh814), e847, e832, e853, e831, e851] at p859
            rw [e851, e847, (pI_e hh814)] at p845
            have e860 : Tg h836 v827 = 126100 := (fxT F840 t829)
            have e861 : Ln h836 v827 = 216 := ((fxL F840 t829).trans l830)
            refine g_iast C e860 rfl e861 (ix f30 (by decide) (by decide)) (iw f841 (by decide) (by decide)) dX12_readLine_116 (fun h863 hh862 => ?_)
            have O864 := O839.pIa e860 ar_126100 hh862 rI_126100_0 (by omega) nofun
            refine g_goto C 187 (by decide) dX12_readLine_117 ?_
            refine g_aload_n C rfl 1 rfl dX12_readLine_187 ?_
            refine g_bipush C (by decide) dX12_readLine_188 ?_
            have e865 : Tg h863 a0 = 12 := ((pIT hh862).trans e848)
            have e866 : Iv h863 a0 7 = v846 := ((pI_n hh862 (ne_tag e848 e860 (by decide))).trans e847)
            have e867 : Iv h863 a0 8 = v850 := ((pI_n hh862 (ne_tag e848 e860 (by decide))).trans e851)
            have e868 : Iv h863 a0 28 = v7 := ((pI_n hh862 (ne_tag e848 e860 (by decide))).trans e853)
            have p869 := (TK_fx O839 ((Fx.rf (wr := [25220000]) (h := h836)).pIa e860 ar_126100 hh862 rfl) e848 rfl p854)
            have p870 := ((NT_fx O839 ((Fx.rf (wr := [25220000]) (h := h836)).pIa e860 ar_126100 hh862 rfl) e848 rfl).trans p858)
            refine g_callV (st := []) (gc_V C lk_LandSurveyModel_387 (k_X12_takeWord l D cy w z0 O864 e865 (iw (il 11) (by decide) (by decide)) ⟨p869, by rw [e866, p870]; omega, by rw [e867, e866, p870]; omega, by rw [e868, e866]; omega⟩) e865 rfl rfl rfl ⟨by decide, by decide⟩ (Nat.le_of_ble_eq_true rfl) dX12_readLine_190 ⟨(by decide), (by decide)⟩) (fun h872 K873 => ?_)
            obtain ⟨O875, F876, p877, p878, p879⟩ := K873
            obtain ⟨v880, e881⟩ : ∃ z, Iv h872 a0 7 = z := ⟨_, rfl⟩
            have e882 : Tg h872 a0 = 12 := (fxT F876 e865)
            have f883 := ok_I O875 e882 rI_12_7 e881
            obtain ⟨v884, e885⟩ : ∃ z, Iv h872 a0 8 = z := ⟨_, rfl⟩
            have f886 := ok_I O875 e882 rI_12_8 e885
            have e887 : Iv h872 a0 28 = v7 := ((fxI F876 e865 rfl).trans e868)
            obtain ⟨p888, p889, p890, p891⟩ := p877
            have p892 := ((NT_fx O864 F876 e865 rfl).trans p870)
            rw [e881, p892] at p889
            rw [e885, e881, p892] at p890
            rw [e887, e881] at p891
            have p893 := p878
            unfold ST at p893
            rw [e866, e881, e868, e887, e867, e885] at p893
            rw [e885, e881, e866] at p879
            refine g_aload_n C rfl 1 rfl dX12_readLine_193 ?_
            obtain ⟨v894, e895⟩ : ∃ z, Rv h872 a0 27 = z := ⟨_, rfl⟩
            have t896 := ok_R O875 e882 rE_12_27 e895
            have l897 := ok_L O875 e882 rE_12_27 e895
            refine gf_R C fk_LandSurveyModel_146 rfl e882 e895 dX12_readLine_194 ?_
            refine g_iload_n C rfl 0 rfl dX12_readLine_197 ?_
            refine g_sipush C (by decide) dX12_readLine_198 ?_
            refine g_aload_n C rfl 1 rfl dX12_readLine_201 ?_
            refine gf_I C fk_LandSurveyModel_336 rfl e882 e887 dX12_readLine_202 ?_
            have f898 : (12800 : Int) ≤ (12800 + v7) ∧ (12800 + v7) ≤ (14400 : Int) := ia_add (il 12800) f9 (by decide) (by decide)
            refine g_iadd C dX12_readLine_205 ?_
            refine g_iast C t896 rfl l897 (ix f30 (by decide) (by decide)) (iw f898 (by decide) (by decide)) dX12_readLine_206 (fun h900 hh899 => ?_)
            have O901 := O875.pIa t896 ar_127100 hh899 rI_127100_0 (iw f898 (by decide) (by decide)) nofun
            refine g_aload_n C rfl 1 rfl dX12_readLine_207 ?_
            refine g_iconst C dX12_readLine_208 ?_
            have e902 : Tg h900 a0 = 12 := ((pIT hh899).trans e882)
            have e903 : Iv h900 a0 7 = v880 := ((pI_n hh899 (ne_tag e882 t896 (by decide))).trans e881)
            have e904 : Iv h900 a0 8 = v884 := ((pI_n hh899 (ne_tag e882 t896 (by decide))).trans e885)
            have e905 : Iv h900 a0 28 = v7 := ((pI_n hh899 (ne_tag e882 t896 (by decide))).trans e887)
            have p906 := (TK_fx O875 ((Fx.rf (wr := [25420000]) (h := h872)).pIa t896 ar_127100 hh899 rfl) e882 rfl p888)
            have p907 := ((NT_fx O875 ((Fx.rf (wr := [25420000]) (h := h872)).pIa t896 ar_127100 hh899 rfl) e882 rfl).trans p892)
            refine g_callV (st := []) (gc_V C lk_LandSurveyModel_392 (k_all_0 l D cy w z0 O901 e902 (il 0) ⟨p906, by rw [e903, p907]; omega, by rw [e904, e903, p907]; omega, by rw [e905, e903]; omega⟩) e902 rfl rfl rfl ⟨by decide, by decide⟩ (Nat.le_of_ble_eq_true rfl) dX12_readLine_209 ⟨(by decide), (by decide)⟩) (fun h909 K910 => ?_)
            obtain ⟨O912, F913, p914, p915, p916, p917⟩ := K910
            obtain ⟨v918, e919⟩ : ∃ z, Iv h909 a0 7 = z := ⟨_, rfl⟩
            have e920 : Tg h909 a0 = 12 := (fxT F913 e902)
            have f921 := ok_I O912 e920 rI_12_7 e919
            obtain ⟨v922, e923⟩ : ∃ z, Iv h909 a0 8 = z := ⟨_, rfl⟩
            have f924 := ok_I O912 e920 rI_12_8 e923
            obtain ⟨v925, e926⟩ : ∃ z, Iv h909 a0 28 = z := ⟨_, rfl⟩
            have f927 := ok_I O912 e920 rI_12_28 e926
            obtain ⟨p928, p929, p930, p931⟩ := p914
            have p932 := ((NT_fx O901 F913 e902 rfl).trans p907)
            rw [e919, p932] at p929
            rw [e923, e919, p932] at p930
            rw [e926, e919] at p931
            have p933 := p915
            unfold ST at p933
            rw [e903, e919, e905, e926, e904, e923] at p933
            refine g_aload_n C rfl 1 rfl dX12_readLine_212 ?_
            refine g_iconst C dX12_readLine_213 ?_
            refine g_iconst C dX12_readLine_214 ?_
            refine g_callV (st := []) (gc_V C lk_LandSurveyModel_395 (k_X12_emit l D cy w z0 O912 e920 (iw (il 0) (by decide) (by decide)) (iw (il 0) (by decide) (by decide)) (by rw [e926]; omega)) e920 rfl rfl rfl ⟨by decide, by decide⟩ (Nat.le_of_ble_eq_true rfl) dX12_readLine_215 ⟨(by decide), (by decide)⟩) (fun h935 K936 => ?_)
            obtain ⟨O938, F939, p940⟩ := K936
            have e941 : Iv h935 a0 28 = v925 + 1 := by rw [p940.1, e926]
            obtain ⟨v942, e943⟩ : ∃ z, Iv h935 a0 28 = z := ⟨_, rfl⟩
            have e944 : Tg h935 a0 = 12 := (fxT F939 e920)
            have f945 := ok_I O938 e944 rI_12_28 e943
            rw [e943] at e941
            refine g_aload_n C rfl 1 rfl dX12_readLine_218 ?_
            have e946 : Rv h935 a0 24 = v18 := ((fxR F939 e920 rfl).trans ((fxR F913 e902 rfl).trans ((pIR hh899).trans ((fxR F876 e865 rfl).trans ((pIR hh862).trans ((fxR F840 e817 rfl).trans ((pIR hh814).trans ((pIR hh807).trans ((fxR F79 e68 rfl).trans ((fxR F40 ta0 rfl).trans e19))))))))))
            refine gf_R C fk_LandSurveyModel_137 rfl e944 e946 dX12_readLine_219 ?_
            refine g_bipush C (by decide) dX12_readLine_222 ?_
            refine g_dup2 C rfl rfl dX12_readLine_224 ?_
            have e947 : Tg h935 v18 = 124100 := (fxT F939 (fxT F913 ((pIT hh899).trans (fxT F876 ((pIT hh862).trans (fxT F840 ((pIT hh814).trans ((pIT hh807).trans (fxT F79 (fxT F40 t20))))))))))
            have e948 : Tg h36 v18 = 124100 := (fxT F40 t20)
            have e949 : Tg h815 v18 = 124100 := ((pIT hh814).trans ((pIT hh807).trans (fxT F79 e948)))
            have e950 : Tg h863 v18 = 124100 := ((pIT hh862).trans (fxT F840 e949))
            have e951 : Tg h900 v18 = 124100 := ((pIT hh899).trans (fxT F876 e950))
            have e952 : Tg h909 v18 = 124100 := (fxT F913 e951)
            have e953 : Ln h935 v18 = 9 := ((fxL F939 e952).trans ((fxL F913 e951).trans ((pIL hh899).trans ((fxL F876 e950).trans ((pIL hh862).trans ((fxL F840 e949).trans ((pIL hh814).trans ((pIL hh807).trans ((fxL F79 e948).trans ((fxL F40 t20).trans l21))))))))))
            have e954 : Tg h75 v18 = 124100 := (fxT F79 e948)
            have e955 : Tg h808 v18 = 124100 := ((pIT hh807).trans e954)
            have e956 : Tg h836 v18 = 124100 := (fxT F840 e949)
            have e957 : Tg h872 v18 = 124100 := (fxT F876 e950)
            have e958 : Iv h935 v18 ((8 : Int).toNat) = v22 := ((fxIa F939 e952 ar_124100 rfl).trans ((fxIa F913 e951 ar_124100 rfl).trans ((pI_n hh899 (ne_tag e957 t896 (by decide))).trans ((fxIa F876 e950 ar_124100 rfl).trans ((pI_n hh862 (ne_tag e956 e860 (by decide))).trans ((fxIa F840 e949 ar_124100 rfl).trans ((pI_n hh814 (ne_tag e955 e810 (by decide))).trans ((pI_n hh807 (ne_tag e954 e804 (by decide))).trans ((fxIa F79 e948 ar_124100 rfl).trans ((fxIa F40 t20 ar_124100 rfl).trans e23))))))))))
            refine g_iald C e947 rfl e953 (ix (il 8) (by decide) (by decide)) e958 dX12_readLine_225 ?_
            refine g_iconst C dX12_readLine_226 ?_
            have f959 : (1 : Int) ≤ (v22 + 1) ∧ (v22 + 1) ≤ (24 : Int) := ia_add f27 (il 1) (by decide) (by decide)
            refine g_iadd C dX12_readLine_227 ?_
            refine g_iast C e947 rfl e953 (ix (il 8) (by decide) (by decide)) (iw f959 (by decide) (by decide)) dX12_readLine_228 (fun h961 hh960 => ?_)
            have O962 := O938.pIa e947 ar_124100 hh960 rI_124100_0 (iw f959 (by decide) (by decide)) nofun
            have e963 : Iv h961 a0 7 = v918 := ((pI_n hh960 (ne_tag e944 e947 (by decide))).trans ((fxI F939 e920 rfl).trans e919))
            have e964 : Iv h961 a0 8 = v922 := ((pI_n hh960 (ne_tag e944 e947 (by decide))).trans ((fxI F939 e920 rfl).trans e923))
            have e965 : Iv h961 a0 28 = v942 := ((pI_n hh960 (ne_tag e944 e947 (by decide))).trans e943)
            have p966 := (TK_fx O938 ((Fx.rf (wr := [24820000]) (h := h935)).pIa e947 ar_124100 hh960 rfl) e944 rfl (TK_fx O912 F939 e920 rfl p928))
            have p967 := ((NT_fx O938 ((Fx.rf (wr := [24820000]) (h := h935)).pIa e947 ar_124100 hh960 rfl) e944 rfl).trans ((NT_fx O912 F939 e920 rfl).trans p932))
            have p968 := (MInv_w O938 e944 e947 (by decide) hh960 ⟨fun e => by omega, fun e => by omega, fun e => by omega⟩ (MInv_cf O912 F939 e920 rfl (EM.cf p940) (MInv_cf O901 F913 e902 rfl p916 (MInv_w O875 e882 t896 (by decide) hh899 ⟨fun e => by omega, fun e => by omega, fun e => by omega⟩ (MInv_fx O864 F876 e865 rfl (MInv_w O839 e848 e860 (by decide) hh862 ⟨fun e => by omega, fun e => by omega, fun e => by omega⟩ (MInv_fx O816 F840 e817 rfl (MInv_fx O809 ((Fx.rf (wr := [2407]) (h := h808)).pI e810 hh814 rfl) e810 rfl (MInv_w O78 e811 e804 (by decide) hh807 ⟨fun e => by omega, fun e => by omega, fun e => by omega⟩ (MInv_fx O39 F79 e68 rfl (MInv_fx O F40 ta0 rfl P_MInv)))))))))))
            have p969 := (DLn_cf O912 F939 e920 rfl (EM.cf p940) (DLn_cf O901 F913 e902 rfl p916 (DLn_w O875 e882 t896 (by decide) hh899 (by omega) (DLn_fx O864 F876 e865 rfl (DLn_w O839 e848 e860 (by decide) hh862 (by omega) (DLn_fx O816 F840 e817 rfl (DLn_fx O809 ((Fx.rf (wr := [2407]) (h := h808)).pI e810 hh814 rfl) e810 rfl (DLn_w O78 e811 e804 (by decide) hh807 (by omega) (DLn_fx O39 F79 e68 rfl (DLn_fx O F40 ta0 rfl p29))))))))))
            have e970 : Rv h935 a0 25 = v31 := ((fxR F939 e920 rfl).trans ((fxR F913 e902 rfl).trans ((pIR hh899).trans ((fxR F876 e865 rfl).trans ((pIR hh862).trans ((fxR F840 e817 rfl).trans e818))))))
            have e971 : Tg h836 v31 = 125100 := (fxT F840 e819)
            have e972 : Tg h863 v31 = 125100 := ((pIT hh862).trans e971)
            have e973 : Tg h872 v31 = 125100 := (fxT F876 e972)
            have e974 : Tg h900 v31 = 125100 := ((pIT hh899).trans e973)
            have e975 : Tg h909 v31 = 125100 := (fxT F913 e974)
            have e976 : Iv h935 v31 ((192 + v22).toNat) = 2 := ((fxIa F939 e975 ar_125100 rfl).trans ((fxIa F913 e974 ar_125100 rfl).trans ((pI_n hh899 (ne_tag e973 t896 (by decide))).trans ((fxIa F876 e972 ar_125100 rfl).trans ((pI_n hh862 (ne_tag e971 e860 (by decide))).trans ((fxIa F840 e819 ar_125100 rfl).trans e822))))))
            have e977 : Rv h935 a0 26 = v827 := ((fxR F939 e920 rfl).trans ((fxR F913 e902 rfl).trans ((pIR hh899).trans ((fxR F876 e865 rfl).trans ((pIR hh862).trans ((fxR F840 e817 rfl).trans e828))))))
            have e978 : Tg h863 v827 = 126100 := ((pIT hh862).trans e860)
            have e979 : Tg h872 v827 = 126100 := (fxT F876 e978)
            have e980 : Tg h900 v827 = 126100 := ((pIT hh899).trans e979)
            have e981 : Tg h909 v827 = 126100 := (fxT F913 e980)
            have e982 : Iv h935 v827 ((192 + v22).toNat) = r835 := ((fxIa F939 e981 ar_126100 rfl).trans ((fxIa F913 e980 ar_126100 rfl).trans ((pI_n hh899 (ne_tag e979 t896 (by decide))).trans ((fxIa F876 e978 ar_126100 rfl).trans (pI_e hh862)))))
            have e983 : Rv h935 a0 27 = v894 := ((fxR F939 e920 rfl).trans ((fxR F913 e902 rfl).trans ((pIR hh899).trans e895)))
            have e984 : Tg h900 v894 = 127100 := ((pIT hh899).trans t896)
            have e985 : Tg h909 v894 = 127100 := (fxT F913 e984)
            have e986 : Iv h935 v894 ((192 + v22).toNat) = (12800 + v7) := ((fxIa F939 e985 ar_127100 rfl).trans ((fxIa F913 e984 ar_127100 rfl).trans (pI_e hh899)))
            have e987 : Rv h961 a0 24 = v18 := ((pIR hh960).trans e946)
            have p988 : Iv h961 a0 8 = 0 → DLn h961 a0 (v22 + 1) := fun z => DLn_fx O938 ((Fx.rf (wr := [24820000]) (h := h935)).pIa e947 ar_124100 hh960 rfl) e944 rfl (DL_new (x := 2) (y := r835) (p917 (by rw [e964] at z; rw [e923]; omega)) p940 (by omega) (by rw [e983, e986, e905]) (by rw [e970]; exact e976) (by rw [e977]; exact e982) (by omega) p969)
            have e989 : Iv h961 (Rv h961 a0 24) 8 = v22 + 1 := by rw [e987]; exact (pI_e hh960)
            exact g_vret C hr ⟨O962, ((((((((((((Fx.rf (wr := wr_k_X12_readLine)).call F40 rfl).call F79 rfl).pIa e804 ar_125100 hh807 rfl).pI e810 hh814 rfl).call F840 rfl).pIa e860 ar_126100 hh862 rfl).call F876 rfl).pIa t896 ar_127100 hh899 rfl).call F913 rfl).call F939 rfl).pIa e947 ar_124100 hh960 rfl), ⟨p966, by rw [e963, p967]; omega, by rw [e964, e963, p967]; omega, by rw [e965, e963]; omega⟩, (by unfold ST; rw [e2, e963, e8, e965, e5, e964]; omega), p968, (fun z => by rw [e989]; exact p988 z)⟩ (by decide) (by decide) dX12_readLine_229
        · exact (no_eq (il 2) (il 1) q824 (by decide)).elim
    · have f990 : (1 : Int) ≤ r35 ∧ r35 ≤ (1 : Int) := r_nl f41 q66
      refine g_iconst C dX12_readLine_43 ?_
      refine g_goto C 60 (by decide) dX12_readLine_44 ?_
      have e991 : Tg h36 v31 = 125100 := (fxT F40 t33)
      have e992 : Ln h36 v31 = 216 := ((fxL F40 t33).trans l34)
      refine g_iast C e991 rfl e992 (ix f30 (by decide) (by decide)) (iw (il 1) (by decide) (by decide)) dX12_readLine_60 (fun h994 hh993 => ?_)
      have O995 := O39.pIa e991 ar_125100 hh993 rI_125100_0 (iw (il 1) (by decide) (by decide)) nofun
      refine g_aload_n C rfl 1 rfl dX12_readLine_61 ?_
      refine g_dup C rfl dX12_readLine_62 ?_
      have e996 : Tg h994 a0 = 12 := ((pIT hh993).trans (fxT F40 ta0))
      have e997 : Tg h36 a0 = 12 := (fxT F40 ta0)
      have e998 : Iv h994 a0 7 = v1 := ((pI_n hh993 (ne_tag e997 e991 (by decide))).trans ((fxI F40 ta0 rfl).trans e2))
      refine gf_I C fk_LandSurveyModel_317 rfl e996 e998 dX12_readLine_63 ?_
      refine g_iconst C dX12_readLine_66 ?_
      have f999 : (1 : Int) ≤ (v1 + 1) ∧ (v1 + 1) ≤ (1502 : Int) := ia_add f3 (il 1) (by decide) (by decide)
      refine g_iadd C dX12_readLine_67 ?_
      refine gp_I C fk_LandSurveyModel_317 pk_LandSurveyModel_7 rfl e996 (iw f999 (by decide) (by decide)) (nf_i _) dX12_readLine_68 (fun h1001 hh1000 => ?_)
      have O1002 := O995.pI e996 hh1000 rI_12_7 (by omega) nofun
      refine g_aload_n C rfl 1 rfl dX12_readLine_71 ?_
      have e1003 : Tg h1001 a0 = 12 := ((pIT hh1000).trans e996)
      have e1004 : Rv h1001 a0 25 = v31 := ((pIR hh1000).trans ((pIR hh993).trans ((fxR F40 ta0 rfl).trans e32)))
      refine gf_R C fk_LandSurveyModel_140 rfl e1003 e1004 dX12_readLine_72 ?_
      refine g_iload_n C rfl 0 rfl dX12_readLine_75 ?_
      have e1005 : Tg h1001 v31 = 125100 := ((pIT hh1000).trans ((pIT hh993).trans e991))
      have e1006 : Ln h1001 v31 = 216 := ((pIL hh1000).trans ((pIL hh993).trans e992))
      have e1007 : Tg h994 v31 = 125100 := ((pIT hh993).trans e991)
      have e1008 : Iv h1001 v31 ((192 + v22).toNat) = 1 := ((pI_n hh1000 (ne_tag e1007 e996 (by decide))).trans (pI_e hh993))
      refine g_iald C e1005 rfl e1006 (ix f30 (by decide) (by decide)) e1008 dX12_readLine_76 ?_
      refine g_iconst C dX12_readLine_77 ?_
      refine g_icmp_ne C (iw (il 1) (by decide) (by decide)) (iw (il 1) (by decide) (by decide)) 94 (by decide) dX12_readLine_78 (fun q1009 => ?_) (fun q1010 => ?_)
      · exact (no_ne (il 1) (il 1) q1009 (by decide)).elim
      · refine g_aload_n C rfl 1 rfl dX12_readLine_81 ?_
        obtain ⟨v1011, e1012⟩ : ∃ z, Rv h1001 a0 26 = z := ⟨_, rfl⟩
        have t1013 := ok_R O1002 e1003 rE_12_26 e1012
        have l1014 := ok_L O1002 e1003 rE_12_26 e1012
        refine gf_R C fk_LandSurveyModel_143 rfl e1003 e1012 dX12_readLine_82 ?_
        refine g_iload_n C rfl 0 rfl dX12_readLine_85 ?_
        refine g_aload_n C rfl 1 rfl dX12_readLine_86 ?_
        have e1015 : Iv h1001 a0 8 = v4 := ((pI_j hh1000 (by decide)).trans ((pI_n hh993 (ne_tag e997 e991 (by decide))).trans ((fxI F40 ta0 rfl).trans e5)))
        have e1016 : Iv h1001 a0 28 = v7 := ((pI_j hh1000 (by decide)).trans ((pI_n hh993 (ne_tag e997 e991 (by decide))).trans ((fxI F40 ta0 rfl).trans e8)))
        have p1017 := (TK_fx O995 ((Fx.rf (wr := [2407]) (h := h994)).pI e996 hh1000 rfl) e996 rfl (TK_fx O39 ((Fx.rf (wr := [25020000]) (h := h36)).pIa e991 ar_125100 hh993 rfl) e997 rfl (TK_fx O F40 ta0 rfl p10)))
        have p1018 := ((NT_fx O995 ((Fx.rf (wr := [2407]) (h := h994)).pI e996 hh1000 rfl) e996 rfl).trans ((NT_fx O39 ((Fx.rf (wr := [25020000]) (h := h36)).pIa e991 ar_125100 hh993 rfl) e997 rfl).trans ((NT_fx O F40 ta0 rfl).trans e15)))
        refine g_callI (st := [.inl (192 + v22), .inr (.inr v1011)]) (gc_V C lk_LandSurveyModel_374 (k_X12_takeRock l D cy w z0 O1002 e1003 ⟨p1017, by rw [(pI_e hh1000), p1018]; omega, by rw [e1015, (pI_e hh1000), p1018]; omega, by rw [e1016, (pI_e hh1000)]; omega⟩) e1003 rfl rfl rfl ⟨by decide, by decide⟩ (Nat.le_of_ble_eq_true rfl) dX12_readLine_87 ⟨(by decide), (by decide)⟩) (fun r1019 h1020 f1022 K1021 => ?_)
        obtain ⟨O1023, F1024, f1025, p1026, p1027⟩ := K1021
        obtain ⟨v1028, e1029⟩ : ∃ z, Iv h1020 a0 7 = z := ⟨_, rfl⟩
        have e1030 : Tg h1020 a0 = 12 := (fxT F1024 e1003)
        have f1031 := ok_I O1023 e1030 rI_12_7 e1029
        obtain ⟨v1032, e1033⟩ : ∃ z, Iv h1020 a0 8 = z := ⟨_, rfl⟩
        have f1034 := ok_I O1023 e1030 rI_12_8 e1033
        have e1035 : Iv h1020 a0 28 = v7 := ((fxI F1024 e1003 rfl).trans e1016)
        obtain ⟨p1036, p1037, p1038, p1039⟩ := p1026
        have p1040 := ((NT_fx O1002 F1024 e1003 rfl).trans p1018)
        rw [e1029, p1040] at p1037
        rw [e1033, e1029, p1040] at p1038
        rw [e1035, e1029] at p1039
        have p1041 := p1027
        unfold ST at p1041
        rw [(pI_e hh1000), e1029, e1016, e1035, e1015, e1033] at p1041
        have e1042 : Tg h1020 v1011 = 126100 := (fxT F1024 t1013)
        have e1043 : Ln h1020 v1011 = 216 := ((fxL F1024 t1013).trans l1014)
        refine g_iast C e1042 rfl e1043 (ix f30 (by decide) (by decide)) (iw f1025 (by decide) (by decide)) dX12_readLine_90 (fun h1045 hh1044 => ?_)
        have O1046 := O1023.pIa e1042 ar_126100 hh1044 rI_126100_0 (iw f1025 (by decide) (by decide)) nofun
        refine g_goto C 187 (by decide) dX12_readLine_91 ?_
        refine g_aload_n C rfl 1 rfl dX12_readLine_187 ?_
        refine g_bipush C (by decide) dX12_readLine_188 ?_
        have e1047 : Tg h1045 a0 = 12 := ((pIT hh1044).trans e1030)
        have e1048 : Iv h1045 a0 7 = v1028 := ((pI_n hh1044 (ne_tag e1030 e1042 (by decide))).trans e1029)
        have e1049 : Iv h1045 a0 8 = v1032 := ((pI_n hh1044 (ne_tag e1030 e1042 (by decide))).trans e1033)
        have e1050 : Iv h1045 a0 28 = v7 := ((pI_n hh1044 (ne_tag e1030 e1042 (by decide))).trans e1035)
        have p1051 := (TK_fx O1023 ((Fx.rf (wr := [25220000]) (h := h1020)).pIa e1042 ar_126100 hh1044 rfl) e1030 rfl p1036)
        have p1052 := ((NT_fx O1023 ((Fx.rf (wr := [25220000]) (h := h1020)).pIa e1042 ar_126100 hh1044 rfl) e1030 rfl).trans p1040)
        refine g_callV (st := []) (gc_V C lk_LandSurveyModel_387 (k_X12_takeWord l D cy w z0 O1046 e1047 (iw (il 11) (by decide) (by decide)) ⟨p1051, by rw [e1048, p1052]; omega, by rw [e1049, e1048, p1052]; omega, by rw [e1050, e1048]; omega⟩) e1047 rfl rfl rfl ⟨by decide, by decide⟩ (Nat.le_of_ble_eq_true rfl) dX12_readLine_190 ⟨(by decide), (by decide)⟩) (fun h1054 K1055 => ?_)
        obtain ⟨O1057, F1058, p1059, p1060, p1061⟩ := K1055
        obtain ⟨v1062, e1063⟩ : ∃ z, Iv h1054 a0 7 = z := ⟨_, rfl⟩
        have e1064 : Tg h1054 a0 = 12 := (fxT F1058 e1047)
        have f1065 := ok_I O1057 e1064 rI_12_7 e1063
        obtain ⟨v1066, e1067⟩ : ∃ z, Iv h1054 a0 8 = z := ⟨_, rfl⟩
        have f1068 := ok_I O1057 e1064 rI_12_8 e1067
        have e1069 : Iv h1054 a0 28 = v7 := ((fxI F1058 e1047 rfl).trans e1050)
        obtain ⟨p1070, p1071, p1072, p1073⟩ := p1059
        have p1074 := ((NT_fx O1046 F1058 e1047 rfl).trans p1052)
        rw [e1063, p1074] at p1071
        rw [e1067, e1063, p1074] at p1072
        rw [e1069, e1063] at p1073
        have p1075 := p1060
        unfold ST at p1075
        rw [e1048, e1063, e1050, e1069, e1049, e1067] at p1075
        rw [e1067, e1063, e1048] at p1061
        refine g_aload_n C rfl 1 rfl dX12_readLine_193 ?_
        obtain ⟨v1076, e1077⟩ : ∃ z, Rv h1054 a0 27 = z := ⟨_, rfl⟩
        have t1078 := ok_R O1057 e1064 rE_12_27 e1077
        have l1079 := ok_L O1057 e1064 rE_12_27 e1077
        refine gf_R C fk_LandSurveyModel_146 rfl e1064 e1077 dX12_readLine_194 ?_
        refine g_iload_n C rfl 0 rfl dX12_readLine_197 ?_
        refine g_sipush C (by decide) dX12_readLine_198 ?_
        refine g_aload_n C rfl 1 rfl dX12_readLine_201 ?_
        refine gf_I C fk_LandSurveyModel_336 rfl e1064 e1069 dX12_readLine_202 ?_
        have f1080 : (12800 : Int) ≤ (12800 + v7) ∧ (12800 + v7) ≤ (14400 : Int) := ia_add (il 12800) f9 (by decide) (by decide)
        refine g_iadd C dX12_readLine_205 ?_
        refine g_iast C t1078 rfl l1079 (ix f30 (by decide) (by decide)) (iw f1080 (by decide) (by decide)) dX12_readLine_206 (fun h1082 hh1081 => ?_)
        have O1083 := O1057.pIa t1078 ar_127100 hh1081 rI_127100_0 (iw f1080 (by decide) (by decide)) nofun
        refine g_aload_n C rfl 1 rfl dX12_readLine_207 ?_
        refine g_iconst C dX12_readLine_208 ?_
        have e1084 : Tg h1082 a0 = 12 := ((pIT hh1081).trans e1064)
        have e1085 : Iv h1082 a0 7 = v1062 := ((pI_n hh1081 (ne_tag e1064 t1078 (by decide))).trans e1063)
        have e1086 : Iv h1082 a0 8 = v1066 := ((pI_n hh1081 (ne_tag e1064 t1078 (by decide))).trans e1067)
        have e1087 : Iv h1082 a0 28 = v7 := ((pI_n hh1081 (ne_tag e1064 t1078 (by decide))).trans e1069)
        have p1088 := (TK_fx O1057 ((Fx.rf (wr := [25420000]) (h := h1054)).pIa t1078 ar_127100 hh1081 rfl) e1064 rfl p1070)
        have p1089 := ((NT_fx O1057 ((Fx.rf (wr := [25420000]) (h := h1054)).pIa t1078 ar_127100 hh1081 rfl) e1064 rfl).trans p1074)
        refine g_callV (st := []) (gc_V C lk_LandSurveyModel_392 (k_all_0 l D cy w z0 O1083 e1084 (il 0) ⟨p1088, by rw [e1085, p1089]; omega, by rw [e1086, e1085, p1089]; omega, by rw [e1087, e1085]; omega⟩) e1084 rfl rfl rfl ⟨by decide, by decide⟩ (Nat.le_of_ble_eq_true rfl) dX12_readLine_209 ⟨(by decide), (by decide)⟩) (fun h1091 K1092 => ?_)
        obtain ⟨O1094, F1095, p1096, p1097, p1098, p1099⟩ := K1092
        obtain ⟨v1100, e1101⟩ : ∃ z, Iv h1091 a0 7 = z := ⟨_, rfl⟩
        have e1102 : Tg h1091 a0 = 12 := (fxT F1095 e1084)
        have f1103 := ok_I O1094 e1102 rI_12_7 e1101
        obtain ⟨v1104, e1105⟩ : ∃ z, Iv h1091 a0 8 = z := ⟨_, rfl⟩
        have f1106 := ok_I O1094 e1102 rI_12_8 e1105
        obtain ⟨v1107, e1108⟩ : ∃ z, Iv h1091 a0 28 = z := ⟨_, rfl⟩
        have f1109 := ok_I O1094 e1102 rI_12_28 e1108
        obtain ⟨p1110, p1111, p1112, p1113⟩ := p1096
        have p1114 := ((NT_fx O1083 F1095 e1084 rfl).trans p1089)
        rw [e1101, p1114] at p1111
        rw [e1105, e1101, p1114] at p1112
        rw [e1108, e1101] at p1113
        have p1115 := p1097
        unfold ST at p1115
        rw [e1085, e1101, e1087, e1108, e1086, e1105] at p1115
        refine g_aload_n C rfl 1 rfl dX12_readLine_212 ?_
        refine g_iconst C dX12_readLine_213 ?_
        refine g_iconst C dX12_readLine_214 ?_
        refine g_callV (st := []) (gc_V C lk_LandSurveyModel_395 (k_X12_emit l D cy w z0 O1094 e1102 (iw (il 0) (by decide) (by decide)) (iw (il 0) (by decide) (by decide)) (by rw [e1108]; omega)) e1102 rfl rfl rfl ⟨by decide, by decide⟩ (Nat.le_of_ble_eq_true rfl) dX12_readLine_215 ⟨(by decide), (by decide)⟩) (fun h1117 K1118 => ?_)
        obtain ⟨O1120, F1121, p1122⟩ := K1118
        have e1123 : Iv h1117 a0 28 = v1107 + 1 := by rw [p1122.1, e1108]
        obtain ⟨v1124, e1125⟩ : ∃ z, Iv h1117 a0 28 = z := ⟨_, rfl⟩
        have e1126 : Tg h1117 a0 = 12 := (fxT F1121 e1102)
        have f1127 := ok_I O1120 e1126 rI_12_28 e1125
        rw [e1125] at e1123
        refine g_aload_n C rfl 1 rfl dX12_readLine_218 ?_
        have e1128 : Rv h1117 a0 24 = v18 := ((fxR F1121 e1102 rfl).trans ((fxR F1095 e1084 rfl).trans ((pIR hh1081).trans ((fxR F1058 e1047 rfl).trans ((pIR hh1044).trans ((fxR F1024 e1003 rfl).trans ((pIR hh1000).trans ((pIR hh993).trans ((fxR F40 ta0 rfl).trans e19)))))))))
        refine gf_R C fk_LandSurveyModel_137 rfl e1126 e1128 dX12_readLine_219 ?_
        refine g_bipush C (by decide) dX12_readLine_222 ?_
        refine g_dup2 C rfl rfl dX12_readLine_224 ?_
        have e1129 : Tg h1117 v18 = 124100 := (fxT F1121 (fxT F1095 ((pIT hh1081).trans (fxT F1058 ((pIT hh1044).trans (fxT F1024 ((pIT hh1000).trans ((pIT hh993).trans (fxT F40 t20)))))))))
        have e1130 : Tg h1001 v18 = 124100 := ((pIT hh1000).trans ((pIT hh993).trans (fxT F40 t20)))
        have e1131 : Tg h1045 v18 = 124100 := ((pIT hh1044).trans (fxT F1024 e1130))
        have e1132 : Tg h1082 v18 = 124100 := ((pIT hh1081).trans (fxT F1058 e1131))
        have e1133 : Tg h1091 v18 = 124100 := (fxT F1095 e1132)
        have e1134 : Ln h1117 v18 = 9 := ((fxL F1121 e1133).trans ((fxL F1095 e1132).trans ((pIL hh1081).trans ((fxL F1058 e1131).trans ((pIL hh1044).trans ((fxL F1024 e1130).trans ((pIL hh1000).trans ((pIL hh993).trans ((fxL F40 t20).trans l21)))))))))
        have e1135 : Tg h36 v18 = 124100 := (fxT F40 t20)
        have e1136 : Tg h994 v18 = 124100 := ((pIT hh993).trans e1135)
        have e1137 : Tg h1020 v18 = 124100 := (fxT F1024 e1130)
        have e1138 : Tg h1054 v18 = 124100 := (fxT F1058 e1131)
        have e1139 : Iv h1117 v18 ((8 : Int).toNat) = v22 := ((fxIa F1121 e1133 ar_124100 rfl).trans ((fxIa F1095 e1132 ar_124100 rfl).trans ((pI_n hh1081 (ne_tag e1138 t1078 (by decide))).trans ((fxIa F1058 e1131 ar_124100 rfl).trans ((pI_n hh1044 (ne_tag e1137 e1042 (by decide))).trans ((fxIa F1024 e1130 ar_124100 rfl).trans ((pI_n hh1000 (ne_tag e1136 e996 (by decide))).trans ((pI_n hh993 (ne_tag e1135 e991 (by decide))).trans ((fxIa F40 t20 ar_124100 rfl).trans e23)))))))))
        refine g_iald C e1129 rfl e1134 (ix (il 8) (by decide) (by decide)) e1139 dX12_readLine_225 ?_
        refine g_iconst C dX12_readLine_226 ?_
        have f1140 : (1 : Int) ≤ (v22 + 1) ∧ (v22 + 1) ≤ (24 : Int) := ia_add f27 (il 1) (by decide) (by decide)
        refine g_iadd C dX12_readLine_227 ?_
        refine g_iast C e1129 rfl e1134 (ix (il 8) (by decide) (by decide)) (iw f1140 (by decide) (by decide)) dX12_readLine_228 (fun h1142 hh1141 => ?_)
        have O1143 := O1120.pIa e1129 ar_124100 hh1141 rI_124100_0 (iw f1140 (by decide) (by decide)) nofun
        have e1144 : Iv h1142 a0 7 = v1100 := ((pI_n hh1141 (ne_tag e1126 e1129 (by decide))).trans ((fxI F1121 e1102 rfl).trans e1101))
        have e1145 : Iv h1142 a0 8 = v1104 := ((pI_n hh1141 (ne_tag e1126 e1129 (by decide))).trans ((fxI F1121 e1102 rfl).trans e1105))
        have e1146 : Iv h1142 a0 28 = v1124 := ((pI_n hh1141 (ne_tag e1126 e1129 (by decide))).trans e1125)
        have p1147 := (TK_fx O1120 ((Fx.rf (wr := [24820000]) (h := h1117)).pIa e1129 ar_124100 hh1141 rfl) e1126 rfl (TK_fx O1094 F1121 e1102 rfl p1110))
        have p1148 := ((NT_fx O1120 ((Fx.rf (wr := [24820000]) (h := h1117)).pIa e1129 ar_124100 hh1141 rfl) e1126 rfl).trans ((NT_fx O1094 F1121 e1102 rfl).trans p1114))
        have p1149 := (MInv_w O1120 e1126 e1129 (by decide) hh1141 ⟨fun e => by omega, fun e => by omega, fun e => by omega⟩ (MInv_cf O1094 F1121 e1102 rfl (EM.cf p1122) (MInv_cf O1083 F1095 e1084 rfl p1098 (MInv_w O1057 e1064 t1078 (by decide) hh1081 ⟨fun e => by omega, fun e => by omega, fun e => by omega⟩ (MInv_fx O1046 F1058 e1047 rfl (MInv_w O1023 e1030 e1042 (by decide) hh1044 ⟨fun e => by omega, fun e => by omega, fun e => by omega⟩ (MInv_fx O1002 F1024 e1003 rfl (MInv_fx O995 ((Fx.rf (wr := [2407]) (h := h994)).pI e996 hh1000 rfl) e996 rfl (MInv_w O39 e997 e991 (by decide) hh993 ⟨fun e => by omega, fun e => by omega, fun e => by omega⟩ (MInv_fx O F40 ta0 rfl P_MInv))))))))))
        have p1150 := (DLn_cf O1094 F1121 e1102 rfl (EM.cf p1122) (DLn_cf O1083 F1095 e1084 rfl p1098 (DLn_w O1057 e1064 t1078 (by decide) hh1081 (by omega) (DLn_fx O1046 F1058 e1047 rfl (DLn_w O1023 e1030 e1042 (by decide) hh1044 (by omega) (DLn_fx O1002 F1024 e1003 rfl (DLn_fx O995 ((Fx.rf (wr := [2407]) (h := h994)).pI e996 hh1000 rfl) e996 rfl (DLn_w O39 e997 e991 (by decide) hh993 (by omega) (DLn_fx O F40 ta0 rfl p29)))))))))
        have e1151 : Rv h1117 a0 25 = v31 := ((fxR F1121 e1102 rfl).trans ((fxR F1095 e1084 rfl).trans ((pIR hh1081).trans ((fxR F1058 e1047 rfl).trans ((pIR hh1044).trans ((fxR F1024 e1003 rfl).trans e1004))))))
        have e1152 : Tg h1020 v31 = 125100 := (fxT F1024 e1005)
        have e1153 : Tg h1045 v31 = 125100 := ((pIT hh1044).trans e1152)
        have e1154 : Tg h1054 v31 = 125100 := (fxT F1058 e1153)
        have e1155 : Tg h1082 v31 = 125100 := ((pIT hh1081).trans e1154)
        have e1156 : Tg h1091 v31 = 125100 := (fxT F1095 e1155)
        have e1157 : Iv h1117 v31 ((192 + v22).toNat) = 1 := ((fxIa F1121 e1156 ar_125100 rfl).trans ((fxIa F1095 e1155 ar_125100 rfl).trans ((pI_n hh1081 (ne_tag e1154 t1078 (by decide))).trans ((fxIa F1058 e1153 ar_125100 rfl).trans ((pI_n hh1044 (ne_tag e1152 e1042 (by decide))).trans ((fxIa F1024 e1005 ar_125100 rfl).trans e1008))))))
        have e1158 : Rv h1117 a0 26 = v1011 := ((fxR F1121 e1102 rfl).trans ((fxR F1095 e1084 rfl).trans ((pIR hh1081).trans ((fxR F1058 e1047 rfl).trans ((pIR hh1044).trans ((fxR F1024 e1003 rfl).trans e1012))))))
        have e1159 : Tg h1045 v1011 = 126100 := ((pIT hh1044).trans e1042)
        have e1160 : Tg h1054 v1011 = 126100 := (fxT F1058 e1159)
        have e1161 : Tg h1082 v1011 = 126100 := ((pIT hh1081).trans e1160)
        have e1162 : Tg h1091 v1011 = 126100 := (fxT F1095 e1161)
        have e1163 : Iv h1117 v1011 ((192 + v22).toNat) = r1019 := ((fxIa F1121 e1162 ar_126100 rfl).trans ((fxIa F1095 e1161 ar_126100 rfl).trans ((pI_n hh1081 (ne_tag e1160 t1078 (by decide))).trans ((fxIa F1058 e1159 ar_126100 rfl).trans (pI_e hh1044)))))
        have e1164 : Rv h1117 a0 27 = v1076 := ((fxR F1121 e1102 rfl).trans ((fxR F1095 e1084 rfl).trans ((pIR hh1081).trans e1077)))
        have e1165 : Tg h1082 v1076 = 127100 := ((pIT hh1081).trans t1078)
        have e1166 : Tg h1091 v1076 = 127100 := (fxT F1095 e1165)
        have e1167 : Iv h1117 v1076 ((192 + v22).toNat) = (12800 + v7) := ((fxIa F1121 e1166 ar_127100 rfl).trans ((fxIa F1095 e1165 ar_127100 rfl).trans (pI_e hh1081)))
        have e1168 : Rv h1142 a0 24 = v18 := ((pIR hh1141).trans e1128)
        have p1169 : Iv h1142 a0 8 = 0 → DLn h1142 a0 (v22 + 1) := fun z => DLn_fx O1120 ((Fx.rf (wr := [24820000]) (h := h1117)).pIa e1129 ar_124100 hh1141 rfl) e1126 rfl (DL_new (x := 1) (y := r1019) (p1099 (by rw [e1145] at z; rw [e1105]; omega)) p1122 (by omega) (by rw [e1164, e1167, e1087]) (by rw [e1151]; exact e1157) (by rw [e1158]; exact e1163) (by omega) p1150)
        have e1170 : Iv h1142 (Rv h1142 a0 24) 8 = v22 + 1 := by rw [e1168]; exact (pI_e hh1141)
        exact g_vret C hr ⟨O1143, (((((((((((Fx.rf (wr := wr_k_X12_readLine)).call F40 rfl).pIa e991 ar_125100 hh993 rfl).pI e996 hh1000 rfl).call F1024 rfl).pIa e1042 ar_126100 hh1044 rfl).call F1058 rfl).pIa t1078 ar_127100 hh1081 rfl).call F1095 rfl).call F1121 rfl).pIa e1129 ar_124100 hh1141 rfl), ⟨p1147, by rw [e1144, p1148]; omega, by rw [e1145, e1144, p1148]; omega, by rw [e1146, e1144]; omega⟩, (by unfold ST; rw [e2, e1144, e8, e1146, e5, e1145]; omega), p1149, (fun z => by rw [e1170]; exact p1169 z)⟩ (by decide) (by decide) dX12_readLine_229
  · have f1171 : (24 : Int) ≤ v22 ∧ v22 ≤ (24 : Int) := ii f24 (r_eq (il 24) q26) (by decide) (by decide)
    refine g_aload_n C rfl 0 rfl dX12_readLine_12 ?_
    refine g_iconst C dX12_readLine_13 ?_
    refine g_callV (st := []) (gc_V C lk_LandSurveyModel_326 (k_X12_wrong l D cy w z0 O ta0 (iw (il 5) (by decide) (by decide))) ta0 rfl rfl rfl ⟨by decide, by decide⟩ (Nat.le_of_ble_eq_true rfl) dX12_readLine_14 ⟨(by decide), (by decide)⟩) (fun h1173 K1174 => ?_)
    obtain ⟨O1176, F1177, p1178⟩ := K1174
    obtain ⟨v1179, e1180⟩ : ∃ z, Iv h1173 a0 8 = z := ⟨_, rfl⟩
    have e1181 : Tg h1173 a0 = 12 := (fxT F1177 ta0)
    have f1182 := ok_I O1176 e1181 rI_12_8 e1180
    rw [e1180] at p1178
    have f1183 : (1 : Int) ≤ v1179 ∧ v1179 ≤ (24005 : Int) := by omega
    have e1184 : Iv h1173 a0 7 = v1 := ((fxI F1177 ta0 rfl).trans e2)
    have e1185 : Iv h1173 a0 28 = v7 := ((fxI F1177 ta0 rfl).trans e8)
    have p1186 := (TK_fx O F1177 ta0 rfl p10)
    have p1187 := ((NT_fx O F1177 ta0 rfl).trans e15)
    have p1188 := (MInv_fx O F1177 ta0 rfl P_MInv)
    exact g_vret C hr ⟨O1176, ((Fx.rf (wr := wr_k_X12_readLine)).call F1177 rfl), ⟨p1186, by rw [e1184, p1187]; omega, by rw [e1180, e1184, p1187]; omega, by rw [e1185, e1184]; omega⟩, (by unfold ST; rw [e2, e1184, e8, e1185, e5, e1180]; omega), p1188, (fun z => by rw [e1180] at z; omega)⟩ (by decide) (by decide) dX12_readLine_17
