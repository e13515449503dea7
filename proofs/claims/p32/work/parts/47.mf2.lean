abbrev cX12_deep : ByteArray := prog_14_method_105_code
def yX12_deep : MethodName := ⟨RX12, "deep", "(IIII)I"⟩
theorem okX12_deep : yok yX12_deep 4 := by decide +kernel
theorem dX12_deep_0 : decode cX12_deep 0 = .ok (.aload_n 0, 1) := by decide +kernel
theorem dX12_deep_1 : decode cX12_deep 1 = .ok (.iconst 1, 1) := by decide +kernel
theorem dX12_deep_2 : decode cX12_deep 2 = .ok (.putfield 1, 3) := by decide +kernel
theorem dX12_deep_5 : decode cX12_deep 5 = .ok (.iload_n 1, 1) := by decide +kernel
theorem dX12_deep_6 : decode cX12_deep 6 = .ok (.iload_n 2, 1) := by decide +kernel
theorem dX12_deep_7 : decode cX12_deep 7 = .ok (.invokestatic 419, 3) := by decide +kernel
theorem dX12_deep_10 : decode cX12_deep 10 = .ok (.ifCond .eq 27, 3) := by decide +kernel
theorem dX12_deep_37 : decode cX12_deep 37 = .ok (.iconst 0, 1) := by decide +kernel
theorem dX12_deep_38 : decode cX12_deep 38 = .ok (.ireturn, 1) := by decide +kernel
theorem dX12_deep_13 : decode cX12_deep 13 = .ok (.iload_n 3, 1) := by decide +kernel
theorem dX12_deep_14 : decode cX12_deep 14 = .ok (.iconst 0, 1) := by decide +kernel
theorem dX12_deep_15 : decode cX12_deep 15 = .ok (.aload_n 0, 1) := by decide +kernel
theorem dX12_deep_16 : decode cX12_deep 16 = .ok (.invokevirtual 453, 3) := by decide +kernel
theorem dX12_deep_19 : decode cX12_deep 19 = .ok (.iconst 1, 1) := by decide +kernel
theorem dX12_deep_20 : decode cX12_deep 20 = .ok (.isub, 1) := by decide +kernel
theorem dX12_deep_21 : decode cX12_deep 21 = .ok (.invokestatic 415, 3) := by decide +kernel
theorem dX12_deep_24 : decode cX12_deep 24 = .ok (.ifCond .eq 13, 3) := by decide +kernel
theorem dX12_deep_27 : decode cX12_deep 27 = .ok (.iload 4, 2) := by decide +kernel
theorem dX12_deep_29 : decode cX12_deep 29 = .ok (.iconst 0, 1) := by decide +kernel
theorem dX12_deep_30 : decode cX12_deep 30 = .ok (.iconst 1, 1) := by decide +kernel
theorem dX12_deep_31 : decode cX12_deep 31 = .ok (.invokestatic 415, 3) := by decide +kernel
theorem dX12_deep_34 : decode cX12_deep 34 = .ok (.ifCond .ne 5, 3) := by decide +kernel
theorem dX12_deep_39 : decode cX12_deep 39 = .ok (.aload_n 0, 1) := by decide +kernel
theorem dX12_deep_40 : decode cX12_deep 40 = .ok (.invokevirtual 557, 3) := by decide +kernel
theorem dX12_deep_43 : decode cX12_deep 43 = .ok (.aload_n 0, 1) := by decide +kernel
theorem dX12_deep_44 : decode cX12_deep 44 = .ok (.aload_n 0, 1) := by decide +kernel
theorem dX12_deep_45 : decode cX12_deep 45 = .ok (.invokevirtual 588, 3) := by decide +kernel
theorem kw_2142 : Cond.code yX12_areKnown prog_14_method_98_code 3 (some .boolean) ∈ uu := uu_in (i := 2142) (by decide +kernel) (by decide +kernel)
theorem kw_2139 : Cond.methodLink "LandSurveyModel" 588 yX12_areKnown ∈ uu := uu_in (i := 2139) (by decide +kernel) (by decide +kernel)
theorem kw_2141 : Cond.instanceMethod yX12_areKnown ∈ uu := uu_in (i := 2141) (by decide +kernel) (by decide +kernel)
theorem kw_127 : Cond.selects "LandSurveyModel" yX12_areKnown yX12_areKnown ∈ uu := uu_in (i := 127) (by decide +kernel) (by decide +kernel)
theorem lk_LandSurveyModel_588 : lkV "LandSurveyModel" 588 yX12_areKnown cX12_areKnown 3 (some .boolean) 0 := ⟨kw_2139, kw_2141, kw_127, kw_152, kw_2142, okX12_areKnown⟩
theorem dX12_deep_48 : decode cX12_deep 48 = .ok (.ifCond .eq 7, 3) := by decide +kernel
theorem dX12_deep_55 : decode cX12_deep 55 = .ok (.iconst 1, 1) := by decide +kernel
theorem dX12_deep_56 : decode cX12_deep 56 = .ok (.putfield 1, 3) := by decide +kernel
theorem dX12_deep_59 : decode cX12_deep 59 = .ok (.aload_n 0, 1) := by decide +kernel
theorem dX12_deep_60 : decode cX12_deep 60 = .ok (.getfield 1, 3) := by decide +kernel
theorem dX12_deep_63 : decode cX12_deep 63 = .ok (.ifCond .le 7, 3) := by decide +kernel
theorem dX12_deep_66 : decode cX12_deep 66 = .ok (.iconst 0, 1) := by decide +kernel
theorem dX12_deep_67 : decode cX12_deep 67 = .ok (.goto 33, 3) := by decide +kernel
theorem dX12_deep_100 : decode cX12_deep 100 = .ok (.ireturn, 1) := by decide +kernel
theorem dX12_deep_51 : decode cX12_deep 51 = .ok (.iconst 0, 1) := by decide +kernel
theorem dX12_deep_52 : decode cX12_deep 52 = .ok (.goto 4, 3) := by decide +kernel
theorem dX12_deep_70 : decode cX12_deep 70 = .ok (.iload 4, 2) := by decide +kernel
theorem dX12_deep_72 : decode cX12_deep 72 = .ok (.ifCond .ne 17, 3) := by decide +kernel
theorem dX12_deep_89 : decode cX12_deep 89 = .ok (.aload_n 0, 1) := by decide +kernel
theorem dX12_deep_90 : decode cX12_deep 90 = .ok (.iload_n 3, 1) := by decide +kernel
theorem dX12_deep_91 : decode cX12_deep 91 = .ok (.bipush 12, 2) := by decide +kernel
theorem dX12_deep_93 : decode cX12_deep 93 = .ok (.iload_n 2, 1) := by decide +kernel
theorem dX12_deep_94 : decode cX12_deep 94 = .ok (.imul, 1) := by decide +kernel
theorem dX12_deep_95 : decode cX12_deep 95 = .ok (.iload_n 1, 1) := by decide +kernel
theorem dX12_deep_96 : decode cX12_deep 96 = .ok (.iadd, 1) := by decide +kernel
theorem dX12_deep_97 : decode cX12_deep 97 = .ok (.invokevirtual 594, 3) := by decide +kernel
theorem kw_2155 : Cond.code yX12_topTo prog_14_method_102_code 3 (some .int) ∈ uu := uu_in (i := 2155) (by decide +kernel) (by decide +kernel)
theorem kw_2152 : Cond.methodLink "LandSurveyModel" 594 yX12_topTo ∈ uu := uu_in (i := 2152) (by decide +kernel) (by decide +kernel)
theorem kw_2154 : Cond.instanceMethod yX12_topTo ∈ uu := uu_in (i := 2154) (by decide +kernel) (by decide +kernel)
theorem kw_130 : Cond.selects "LandSurveyModel" yX12_topTo yX12_topTo ∈ uu := uu_in (i := 130) (by decide +kernel) (by decide +kernel)
theorem lk_LandSurveyModel_594 : lkV "LandSurveyModel" 594 yX12_topTo cX12_topTo 3 (some .int) 2 := ⟨kw_2152, kw_2154, kw_130, kw_152, kw_2155, okX12_topTo⟩
theorem dX12_deep_75 : decode cX12_deep 75 = .ok (.aload_n 0, 1) := by decide +kernel
theorem dX12_deep_76 : decode cX12_deep 76 = .ok (.iload_n 3, 1) := by decide +kernel
theorem dX12_deep_77 : decode cX12_deep 77 = .ok (.bipush 12, 2) := by decide +kernel
theorem dX12_deep_79 : decode cX12_deep 79 = .ok (.iload_n 2, 1) := by decide +kernel
theorem dX12_deep_80 : decode cX12_deep 80 = .ok (.imul, 1) := by decide +kernel
theorem dX12_deep_81 : decode cX12_deep 81 = .ok (.iload_n 1, 1) := by decide +kernel
theorem dX12_deep_82 : decode cX12_deep 82 = .ok (.iadd, 1) := by decide +kernel
theorem dX12_deep_83 : decode cX12_deep 83 = .ok (.invokevirtual 591, 3) := by decide +kernel
theorem kw_2146 : Cond.code yX12_topFrom prog_14_method_101_code 3 (some .int) ∈ uu := uu_in (i := 2146) (by decide +kernel) (by decide +kernel)
theorem kw_2143 : Cond.methodLink "LandSurveyModel" 591 yX12_topFrom ∈ uu := uu_in (i := 2143) (by decide +kernel) (by decide +kernel)
theorem kw_2145 : Cond.instanceMethod yX12_topFrom ∈ uu := uu_in (i := 2145) (by decide +kernel) (by decide +kernel)
theorem kw_128 : Cond.selects "LandSurveyModel" yX12_topFrom yX12_topFrom ∈ uu := uu_in (i := 128) (by decide +kernel) (by decide +kernel)
theorem lk_LandSurveyModel_591 : lkV "LandSurveyModel" 591 yX12_topFrom cX12_topFrom 3 (some .int) 2 := ⟨kw_2143, kw_2145, kw_128, kw_152, kw_2146, okX12_topFrom⟩
theorem dX12_deep_86 : decode cX12_deep 86 = .ok (.goto 14, 3) := by decide +kernel
abbrev cX12_water : ByteArray := prog_14_method_106_code
def yX12_water : MethodName := ⟨RX12, "water", "(III)I"⟩
theorem okX12_water : yok yX12_water 3 := by decide +kernel
theorem dX12_water_0 : decode cX12_water 0 = .ok (.aload_n 0, 1) := by decide +kernel
theorem dX12_water_1 : decode cX12_water 1 = .ok (.iconst 0, 1) := by decide +kernel
theorem dX12_water_2 : decode cX12_water 2 = .ok (.putfield 1, 3) := by decide +kernel
theorem dX12_water_5 : decode cX12_water 5 = .ok (.iload_n 1, 1) := by decide +kernel
theorem dX12_water_6 : decode cX12_water 6 = .ok (.iload_n 2, 1) := by decide +kernel
theorem dX12_water_7 : decode cX12_water 7 = .ok (.invokestatic 419, 3) := by decide +kernel
theorem dX12_water_10 : decode cX12_water 10 = .ok (.ifCond .eq 12, 3) := by decide +kernel
theorem dX12_water_22 : decode cX12_water 22 = .ok (.iconst (-1), 1) := by decide +kernel
theorem dX12_water_23 : decode cX12_water 23 = .ok (.ireturn, 1) := by decide +kernel
theorem dX12_water_13 : decode cX12_water 13 = .ok (.iload_n 3, 1) := by decide +kernel
theorem dX12_water_14 : decode cX12_water 14 = .ok (.iconst 0, 1) := by decide +kernel
theorem dX12_water_15 : decode cX12_water 15 = .ok (.iconst 1, 1) := by decide +kernel
theorem dX12_water_16 : decode cX12_water 16 = .ok (.invokestatic 415, 3) := by decide +kernel
theorem dX12_water_19 : decode cX12_water 19 = .ok (.ifCond .ne 5, 3) := by decide +kernel
theorem dX12_water_24 : decode cX12_water 24 = .ok (.aload_n 0, 1) := by decide +kernel
theorem dX12_water_25 : decode cX12_water 25 = .ok (.invokevirtual 557, 3) := by decide +kernel
theorem dX12_water_28 : decode cX12_water 28 = .ok (.aload_n 0, 1) := by decide +kernel
theorem dX12_water_29 : decode cX12_water 29 = .ok (.invokevirtual 588, 3) := by decide +kernel
theorem dX12_water_32 : decode cX12_water 32 = .ok (.ifCond .ne 5, 3) := by decide +kernel
theorem dX12_water_37 : decode cX12_water 37 = .ok (.bipush 12, 2) := by decide +kernel
theorem dX12_water_39 : decode cX12_water 39 = .ok (.iload_n 2, 1) := by decide +kernel
theorem dX12_water_40 : decode cX12_water 40 = .ok (.imul, 1) := by decide +kernel
theorem dX12_water_41 : decode cX12_water 41 = .ok (.iload_n 1, 1) := by decide +kernel
theorem dX12_water_42 : decode cX12_water 42 = .ok (.iadd, 1) := by decide +kernel
theorem dX12_water_43 : decode cX12_water 43 = .ok (.istore 4, 2) := by decide +kernel
theorem dX12_water_45 : decode cX12_water 45 = .ok (.aload_n 0, 1) := by decide +kernel
theorem dX12_water_46 : decode cX12_water 46 = .ok (.invokevirtual 453, 3) := by decide +kernel
theorem dX12_water_49 : decode cX12_water 49 = .ok (.istore 5, 2) := by decide +kernel
theorem dX12_water_51 : decode cX12_water 51 = .ok (.iconst 0, 1) := by decide +kernel
theorem dX12_water_52 : decode cX12_water 52 = .ok (.istore 6, 2) := by decide +kernel
theorem dX12_water_54 : decode cX12_water 54 = .ok (.iload 6, 2) := by decide +kernel
theorem dX12_water_56 : decode cX12_water 56 = .ok (.iconst 1, 1) := by decide +kernel
theorem dX12_water_57 : decode cX12_water 57 = .ok (.iadd, 1) := by decide +kernel
theorem dX12_water_58 : decode cX12_water 58 = .ok (.iload 5, 2) := by decide +kernel
theorem dX12_water_60 : decode cX12_water 60 = .ok (.if_icmp .ge 126, 3) := by decide +kernel
theorem dX12_water_186 : decode cX12_water 186 = .ok (.iconst (-1), 1) := by decide +kernel
theorem dX12_water_187 : decode cX12_water 187 = .ok (.ireturn, 1) := by decide +kernel
theorem dX12_water_63 : decode cX12_water 63 = .ok (.aload_n 0, 1) := by decide +kernel
theorem dX12_water_64 : decode cX12_water 64 = .ok (.getfield 167, 3) := by decide +kernel
theorem dX12_water_67 : decode cX12_water 67 = .ok (.iload 4, 2) := by decide +kernel
theorem dX12_water_69 : decode cX12_water 69 = .ok (.baload, 1) := by decide +kernel
theorem dX12_water_70 : decode cX12_water 70 = .ok (.ifCond .eq 13, 3) := by decide +kernel
theorem dX12_water_83 : decode cX12_water 83 = .ok (.iload 6, 2) := by decide +kernel
theorem dX12_water_85 : decode cX12_water 85 = .ok (.istore 7, 2) := by decide +kernel
theorem dX12_water_87 : decode cX12_water 87 = .ok (.aload_n 0, 1) := by decide +kernel
theorem dX12_water_88 : decode cX12_water 88 = .ok (.getfield 167, 3) := by decide +kernel
theorem dX12_water_91 : decode cX12_water 91 = .ok (.iload 4, 2) := by decide +kernel
theorem dX12_water_93 : decode cX12_water 93 = .ok (.baload, 1) := by decide +kernel
theorem dX12_water_94 : decode cX12_water 94 = .ok (.ifCond .eq 10, 3) := by decide +kernel
theorem dX12_water_104 : decode cX12_water 104 = .ok (.iload 7, 2) := by decide +kernel
theorem dX12_water_106 : decode cX12_water 106 = .ok (.iconst 1, 1) := by decide +kernel
theorem dX12_water_107 : decode cX12_water 107 = .ok (.iadd, 1) := by decide +kernel
theorem dX12_water_108 : decode cX12_water 108 = .ok (.istore 8, 2) := by decide +kernel
theorem dX12_water_110 : decode cX12_water 110 = .ok (.bipush 10, 2) := by decide +kernel
theorem dX12_water_112 : decode cX12_water 112 = .ok (.aload_n 0, 1) := by decide +kernel
theorem dX12_water_113 : decode cX12_water 113 = .ok (.invokevirtual 432, 3) := by decide +kernel
theorem dX12_water_116 : decode cX12_water 116 = .ok (.imul, 1) := by decide +kernel
theorem dX12_water_117 : decode cX12_water 117 = .ok (.istore 9, 2) := by decide +kernel
theorem dX12_water_119 : decode cX12_water 119 = .ok (.aload_n 0, 1) := by decide +kernel
theorem dX12_water_120 : decode cX12_water 120 = .ok (.getfield 112, 3) := by decide +kernel
theorem dX12_water_123 : decode cX12_water 123 = .ok (.iload 9, 2) := by decide +kernel
theorem dX12_water_125 : decode cX12_water 125 = .ok (.iload 7, 2) := by decide +kernel
theorem dX12_water_127 : decode cX12_water 127 = .ok (.iadd, 1) := by decide +kernel
theorem dX12_water_128 : decode cX12_water 128 = .ok (.baload, 1) := by decide +kernel
theorem dX12_water_129 : decode cX12_water 129 = .ok (.ifCond .eq 51, 3) := by decide +kernel
theorem dX12_water_180 : decode cX12_water 180 = .ok (.iinc 6 1, 3) := by decide +kernel
theorem dX12_water_183 : decode cX12_water 183 = .ok (.goto (-129), 3) := by decide +kernel
theorem dX12_water_132 : decode cX12_water 132 = .ok (.aload_n 0, 1) := by decide +kernel
theorem dX12_water_133 : decode cX12_water 133 = .ok (.getfield 116, 3) := by decide +kernel
theorem dX12_water_136 : decode cX12_water 136 = .ok (.iload 9, 2) := by decide +kernel
theorem dX12_water_138 : decode cX12_water 138 = .ok (.iload 8, 2) := by decide +kernel
theorem dX12_water_140 : decode cX12_water 140 = .ok (.iadd, 1) := by decide +kernel
theorem dX12_water_141 : decode cX12_water 141 = .ok (.baload, 1) := by decide +kernel
theorem dX12_water_142 : decode cX12_water 142 = .ok (.ifCond .eq 38, 3) := by decide +kernel
theorem dX12_water_145 : decode cX12_water 145 = .ok (.aload_n 0, 1) := by decide +kernel
theorem dX12_water_146 : decode cX12_water 146 = .ok (.iload 7, 2) := by decide +kernel
theorem dX12_water_148 : decode cX12_water 148 = .ok (.iload 4, 2) := by decide +kernel
theorem dX12_water_150 : decode cX12_water 150 = .ok (.invokevirtual 597, 3) := by decide +kernel
theorem kw_2167 : Cond.code yX12_footFrom prog_14_method_103_code 3 (some .int) ∈ uu := uu_in (i := 2167) (by decide +kernel) (by decide +kernel)
theorem kw_2164 : Cond.methodLink "LandSurveyModel" 597 yX12_footFrom ∈ uu := uu_in (i := 2164) (by decide +kernel) (by decide +kernel)
theorem kw_2166 : Cond.instanceMethod yX12_footFrom ∈ uu := uu_in (i := 2166) (by decide +kernel) (by decide +kernel)
theorem kw_132 : Cond.selects "LandSurveyModel" yX12_footFrom yX12_footFrom ∈ uu := uu_in (i := 132) (by decide +kernel) (by decide +kernel)
theorem lk_LandSurveyModel_597 : lkV "LandSurveyModel" 597 yX12_footFrom cX12_footFrom 3 (some .int) 2 := ⟨kw_2164, kw_2166, kw_132, kw_152, kw_2167, okX12_footFrom⟩
theorem dX12_water_153 : decode cX12_water 153 = .ok (.ifCond .lt 27, 3) := by decide +kernel
theorem dX12_water_156 : decode cX12_water 156 = .ok (.iload_n 3, 1) := by decide +kernel
theorem dX12_water_157 : decode cX12_water 157 = .ok (.ifCond .ne 14, 3) := by decide +kernel
theorem dX12_water_171 : decode cX12_water 171 = .ok (.aload_n 0, 1) := by decide +kernel
theorem dX12_water_172 : decode cX12_water 172 = .ok (.iload 7, 2) := by decide +kernel
theorem dX12_water_174 : decode cX12_water 174 = .ok (.iload 4, 2) := by decide +kernel
theorem dX12_water_176 : decode cX12_water 176 = .ok (.invokevirtual 600, 3) := by decide +kernel
theorem kw_2171 : Cond.code yX12_footTo prog_14_method_104_code 3 (some .int) ∈ uu := uu_in (i := 2171) (by decide +kernel) (by decide +kernel)
theorem kw_2168 : Cond.methodLink "LandSurveyModel" 600 yX12_footTo ∈ uu := uu_in (i := 2168) (by decide +kernel) (by decide +kernel)
theorem kw_2170 : Cond.instanceMethod yX12_footTo ∈ uu := uu_in (i := 2170) (by decide +kernel) (by decide +kernel)
theorem kw_133 : Cond.selects "LandSurveyModel" yX12_footTo yX12_footTo ∈ uu := uu_in (i := 133) (by decide +kernel) (by decide +kernel)
theorem lk_LandSurveyModel_600 : lkV "LandSurveyModel" 600 yX12_footTo cX12_footTo 3 (some .int) 2 := ⟨kw_2168, kw_2170, kw_133, kw_152, kw_2171, okX12_footTo⟩
theorem dX12_water_179 : decode cX12_water 179 = .ok (.ireturn, 1) := by decide +kernel
theorem dX12_water_160 : decode cX12_water 160 = .ok (.aload_n 0, 1) := by decide +kernel
theorem dX12_water_161 : decode cX12_water 161 = .ok (.iload 7, 2) := by decide +kernel
theorem dX12_water_163 : decode cX12_water 163 = .ok (.iload 4, 2) := by decide +kernel
theorem dX12_water_165 : decode cX12_water 165 = .ok (.invokevirtual 597, 3) := by decide +kernel
theorem dX12_water_168 : decode cX12_water 168 = .ok (.goto 11, 3) := by decide +kernel
theorem dX12_water_73 : decode cX12_water 73 = .ok (.iload 5, 2) := by decide +kernel
theorem dX12_water_75 : decode cX12_water 75 = .ok (.iconst 1, 1) := by decide +kernel
theorem dX12_water_76 : decode cX12_water 76 = .ok (.isub, 1) := by decide +kernel
theorem dX12_water_77 : decode cX12_water 77 = .ok (.iload 6, 2) := by decide +kernel
theorem dX12_water_79 : decode cX12_water 79 = .ok (.isub, 1) := by decide +kernel
theorem dX12_water_80 : decode cX12_water 80 = .ok (.goto 5, 3) := by decide +kernel
theorem dX12_water_97 : decode cX12_water 97 = .ok (.iload 7, 2) := by decide +kernel
theorem dX12_water_99 : decode cX12_water 99 = .ok (.iconst 1, 1) := by decide +kernel
theorem dX12_water_100 : decode cX12_water 100 = .ok (.isub, 1) := by decide +kernel
theorem dX12_water_101 : decode cX12_water 101 = .ok (.goto 7, 3) := by decide +kernel
theorem dX12_water_35 : decode cX12_water 35 = .ok (.iconst (-1), 1) := by decide +kernel
theorem dX12_water_36 : decode cX12_water 36 = .ok (.ireturn, 1) := by decide +kernel
abbrev cX12_seam : ByteArray := prog_14_method_107_code
def yX12_seam : MethodName := ⟨RX12, "seam", "(III)I"⟩
theorem okX12_seam : yok yX12_seam 3 := by decide +kernel
theorem dX12_seam_0 : decode cX12_seam 0 = .ok (.aload_n 0, 1) := by decide +kernel
theorem dX12_seam_1 : decode cX12_seam 1 = .ok (.iconst 0, 1) := by decide +kernel
theorem dX12_seam_2 : decode cX12_seam 2 = .ok (.putfield 1, 3) := by decide +kernel
theorem dX12_seam_5 : decode cX12_seam 5 = .ok (.iload_n 1, 1) := by decide +kernel
theorem dX12_seam_6 : decode cX12_seam 6 = .ok (.iconst 0, 1) := by decide +kernel
theorem dX12_seam_7 : decode cX12_seam 7 = .ok (.aload_n 0, 1) := by decide +kernel
theorem dX12_seam_8 : decode cX12_seam 8 = .ok (.invokevirtual 453, 3) := by decide +kernel
theorem dX12_seam_11 : decode cX12_seam 11 = .ok (.iconst 1, 1) := by decide +kernel
theorem dX12_seam_12 : decode cX12_seam 12 = .ok (.isub, 1) := by decide +kernel
theorem dX12_seam_13 : decode cX12_seam 13 = .ok (.invokestatic 415, 3) := by decide +kernel
theorem dX12_seam_16 : decode cX12_seam 16 = .ok (.ifCond .eq 21, 3) := by decide +kernel
theorem dX12_seam_37 : decode cX12_seam 37 = .ok (.iconst (-1), 1) := by decide +kernel
theorem dX12_seam_38 : decode cX12_seam 38 = .ok (.ireturn, 1) := by decide +kernel
theorem dX12_seam_19 : decode cX12_seam 19 = .ok (.iload_n 2, 1) := by decide +kernel
theorem dX12_seam_20 : decode cX12_seam 20 = .ok (.iconst 0, 1) := by decide +kernel
theorem dX12_seam_21 : decode cX12_seam 21 = .ok (.iconst 3, 1) := by decide +kernel
theorem dX12_seam_22 : decode cX12_seam 22 = .ok (.invokestatic 415, 3) := by decide +kernel
theorem dX12_seam_25 : decode cX12_seam 25 = .ok (.ifCond .eq 12, 3) := by decide +kernel
theorem dX12_seam_28 : decode cX12_seam 28 = .ok (.iload_n 3, 1) := by decide +kernel
theorem dX12_seam_29 : decode cX12_seam 29 = .ok (.iconst 0, 1) := by decide +kernel
theorem dX12_seam_30 : decode cX12_seam 30 = .ok (.iconst 1, 1) := by decide +kernel
theorem dX12_seam_31 : decode cX12_seam 31 = .ok (.invokestatic 415, 3) := by decide +kernel
theorem dX12_seam_34 : decode cX12_seam 34 = .ok (.ifCond .ne 5, 3) := by decide +kernel
theorem dX12_seam_39 : decode cX12_seam 39 = .ok (.aload_n 0, 1) := by decide +kernel
theorem dX12_seam_40 : decode cX12_seam 40 = .ok (.invokevirtual 557, 3) := by decide +kernel
theorem dX12_seam_43 : decode cX12_seam 43 = .ok (.aload_n 0, 1) := by decide +kernel
theorem dX12_seam_44 : decode cX12_seam 44 = .ok (.invokevirtual 588, 3) := by decide +kernel
theorem dX12_seam_47 : decode cX12_seam 47 = .ok (.ifCond .ne 5, 3) := by decide +kernel
theorem dX12_seam_52 : decode cX12_seam 52 = .ok (.iconst 0, 1) := by decide +kernel
theorem dX12_seam_53 : decode cX12_seam 53 = .ok (.istore 4, 2) := by decide +kernel
theorem dX12_seam_55 : decode cX12_seam 55 = .ok (.iconst 0, 1) := by decide +kernel
theorem dX12_seam_56 : decode cX12_seam 56 = .ok (.istore 5, 2) := by decide +kernel
theorem dX12_seam_58 : decode cX12_seam 58 = .ok (.iload 5, 2) := by decide +kernel
theorem dX12_seam_60 : decode cX12_seam 60 = .ok (.bipush 96, 2) := by decide +kernel
theorem dX12_seam_62 : decode cX12_seam 62 = .ok (.if_icmp .ge 70, 3) := by decide +kernel
theorem dX12_seam_132 : decode cX12_seam 132 = .ok (.iload 4, 2) := by decide +kernel
theorem dX12_seam_134 : decode cX12_seam 134 = .ok (.ireturn, 1) := by decide +kernel
theorem dX12_seam_65 : decode cX12_seam 65 = .ok (.aload_n 0, 1) := by decide +kernel
theorem dX12_seam_66 : decode cX12_seam 66 = .ok (.getfield 170, 3) := by decide +kernel
theorem dX12_seam_69 : decode cX12_seam 69 = .ok (.iload 5, 2) := by decide +kernel
theorem dX12_seam_71 : decode cX12_seam 71 = .ok (.iaload, 1) := by decide +kernel
theorem dX12_seam_72 : decode cX12_seam 72 = .ok (.iload_n 2, 1) := by decide +kernel
theorem dX12_seam_73 : decode cX12_seam 73 = .ok (.if_icmp .ne 53, 3) := by decide +kernel
theorem dX12_seam_126 : decode cX12_seam 126 = .ok (.iinc 5 1, 3) := by decide +kernel
theorem dX12_seam_129 : decode cX12_seam 129 = .ok (.goto (-71), 3) := by decide +kernel
theorem dX12_seam_76 : decode cX12_seam 76 = .ok (.iload 4, 2) := by decide +kernel
theorem dX12_seam_78 : decode cX12_seam 78 = .ok (.iload_n 3, 1) := by decide +kernel
theorem dX12_seam_79 : decode cX12_seam 79 = .ok (.ifCond .ne 25, 3) := by decide +kernel
theorem dX12_seam_104 : decode cX12_seam 104 = .ok (.aload_n 0, 1) := by decide +kernel
theorem dX12_seam_105 : decode cX12_seam 105 = .ok (.iload_n 1, 1) := by decide +kernel
theorem dX12_seam_106 : decode cX12_seam 106 = .ok (.iload 5, 2) := by decide +kernel
theorem dX12_seam_108 : decode cX12_seam 108 = .ok (.invokevirtual 600, 3) := by decide +kernel
theorem dX12_seam_111 : decode cX12_seam 111 = .ok (.ifCond .le 11, 3) := by decide +kernel
theorem dX12_seam_122 : decode cX12_seam 122 = .ok (.iconst 0, 1) := by decide +kernel
theorem dX12_seam_123 : decode cX12_seam 123 = .ok (.iadd, 1) := by decide +kernel
theorem dX12_seam_124 : decode cX12_seam 124 = .ok (.istore 4, 2) := by decide +kernel
theorem dX12_seam_114 : decode cX12_seam 114 = .ok (.aload_n 0, 1) := by decide +kernel
theorem dX12_seam_115 : decode cX12_seam 115 = .ok (.iload_n 1, 1) := by decide +kernel
theorem dX12_seam_116 : decode cX12_seam 116 = .ok (.invokevirtual 462, 3) := by decide +kernel
theorem dX12_seam_119 : decode cX12_seam 119 = .ok (.goto 4, 3) := by decide +kernel
theorem dX12_seam_82 : decode cX12_seam 82 = .ok (.aload_n 0, 1) := by decide +kernel
theorem dX12_seam_83 : decode cX12_seam 83 = .ok (.iload_n 1, 1) := by decide +kernel
theorem dX12_seam_84 : decode cX12_seam 84 = .ok (.iload 5, 2) := by decide +kernel
theorem dX12_seam_86 : decode cX12_seam 86 = .ok (.invokevirtual 591, 3) := by decide +kernel
theorem dX12_seam_89 : decode cX12_seam 89 = .ok (.ifCond .lt 11, 3) := by decide +kernel
theorem dX12_seam_100 : decode cX12_seam 100 = .ok (.iconst 0, 1) := by decide +kernel
theorem dX12_seam_101 : decode cX12_seam 101 = .ok (.goto 22, 3) := by decide +kernel
theorem dX12_seam_92 : decode cX12_seam 92 = .ok (.aload_n 0, 1) := by decide +kernel
theorem dX12_seam_93 : decode cX12_seam 93 = .ok (.iload_n 1, 1) := by decide +kernel
theorem dX12_seam_94 : decode cX12_seam 94 = .ok (.invokevirtual 459, 3) := by decide +kernel
theorem dX12_seam_97 : decode cX12_seam 97 = .ok (.goto 26, 3) := by decide +kernel
theorem dX12_seam_50 : decode cX12_seam 50 = .ok (.iconst (-1), 1) := by decide +kernel
theorem dX12_seam_51 : decode cX12_seam 51 = .ok (.ireturn, 1) := by decide +kernel
abbrev cX12_sheet : ByteArray := prog_14_method_108_code
def yX12_sheet : MethodName := ⟨RX12, "sheet", "(IIII)I"⟩
theorem okX12_sheet : yok yX12_sheet 4 := by decide +kernel
theorem dX12_sheet_0 : decode cX12_sheet 0 = .ok (.aload_n 0, 1) := by decide +kernel
theorem dX12_sheet_1 : decode cX12_sheet 1 = .ok (.iconst 0, 1) := by decide +kernel
theorem dX12_sheet_2 : decode cX12_sheet 2 = .ok (.putfield 1, 3) := by decide +kernel
theorem dX12_sheet_5 : decode cX12_sheet 5 = .ok (.iload_n 1, 1) := by decide +kernel
theorem dX12_sheet_6 : decode cX12_sheet 6 = .ok (.iload_n 2, 1) := by decide +kernel
theorem dX12_sheet_7 : decode cX12_sheet 7 = .ok (.invokestatic 419, 3) := by decide +kernel
theorem dX12_sheet_10 : decode cX12_sheet 10 = .ok (.ifCond .eq 32, 3) := by decide +kernel
theorem dX12_sheet_42 : decode cX12_sheet 42 = .ok (.iconst (-1), 1) := by decide +kernel
theorem dX12_sheet_43 : decode cX12_sheet 43 = .ok (.ireturn, 1) := by decide +kernel
theorem dX12_sheet_13 : decode cX12_sheet 13 = .ok (.iload_n 3, 1) := by decide +kernel
theorem dX12_sheet_14 : decode cX12_sheet 14 = .ok (.iload 4, 2) := by decide +kernel
theorem dX12_sheet_16 : decode cX12_sheet 16 = .ok (.invokestatic 419, 3) := by decide +kernel
theorem dX12_sheet_19 : decode cX12_sheet 19 = .ok (.ifCond .eq 23, 3) := by decide +kernel
theorem dX12_sheet_22 : decode cX12_sheet 22 = .ok (.iload_n 1, 1) := by decide +kernel
theorem dX12_sheet_23 : decode cX12_sheet 23 = .ok (.iload_n 3, 1) := by decide +kernel
theorem dX12_sheet_24 : decode cX12_sheet 24 = .ok (.if_icmp .gt 18, 3) := by decide +kernel
theorem dX12_sheet_27 : decode cX12_sheet 27 = .ok (.iload_n 2, 1) := by decide +kernel
theorem dX12_sheet_28 : decode cX12_sheet 28 = .ok (.iload 4, 2) := by decide +kernel
theorem dX12_sheet_30 : decode cX12_sheet 30 = .ok (.if_icmp .gt 12, 3) := by decide +kernel
theorem dX12_sheet_33 : decode cX12_sheet 33 = .ok (.aload_n 0, 1) := by decide +kernel
theorem dX12_sheet_34 : decode cX12_sheet 34 = .ok (.getfield 603, 3) := by decide +kernel
theorem dX12_sheet_37 : decode cX12_sheet 37 = .ok (.bipush 10, 2) := by decide +kernel
theorem dX12_sheet_39 : decode cX12_sheet 39 = .ok (.if_icmp .ne 5, 3) := by decide +kernel
theorem dX12_sheet_44 : decode cX12_sheet 44 = .ok (.aload_n 0, 1) := by decide +kernel
theorem dX12_sheet_45 : decode cX12_sheet 45 = .ok (.invokevirtual 557, 3) := by decide +kernel
theorem dX12_sheet_48 : decode cX12_sheet 48 = .ok (.aload_n 0, 1) := by decide +kernel
theorem dX12_sheet_49 : decode cX12_sheet 49 = .ok (.getfield 546, 3) := by decide +kernel
theorem dX12_sheet_52 : decode cX12_sheet 52 = .ok (.ifCond .ne 5, 3) := by decide +kernel
theorem dX12_sheet_57 : decode cX12_sheet 57 = .ok (.iconst 0, 1) := by decide +kernel
theorem dX12_sheet_58 : decode cX12_sheet 58 = .ok (.istore 5, 2) := by decide +kernel
theorem dX12_sheet_60 : decode cX12_sheet 60 = .ok (.iload 5, 2) := by decide +kernel
theorem dX12_sheet_62 : decode cX12_sheet 62 = .ok (.bipush 96, 2) := by decide +kernel
theorem dX12_sheet_64 : decode cX12_sheet 64 = .ok (.if_icmp .ge 74, 3) := by decide +kernel
theorem dX12_sheet_138 : decode cX12_sheet 138 = .ok (.aload_n 0, 1) := by decide +kernel
theorem dX12_sheet_139 : decode cX12_sheet 139 = .ok (.dup, 1) := by decide +kernel
theorem dX12_sheet_140 : decode cX12_sheet 140 = .ok (.getfield 603, 3) := by decide +kernel
theorem dX12_sheet_143 : decode cX12_sheet 143 = .ok (.iconst 1, 1) := by decide +kernel
theorem dX12_sheet_144 : decode cX12_sheet 144 = .ok (.iadd, 1) := by decide +kernel
theorem dX12_sheet_145 : decode cX12_sheet 145 = .ok (.putfield 603, 3) := by decide +kernel
theorem pk_LandSurveyModel_80 : pk RX12 TX12 87 80 tyX12 false := ⟨tyX12_ok, nmX12, rfl⟩
theorem dX12_sheet_148 : decode cX12_sheet 148 = .ok (.aload_n 0, 1) := by decide +kernel
theorem dX12_sheet_149 : decode cX12_sheet 149 = .ok (.getfield 603, 3) := by decide +kernel
theorem dX12_sheet_152 : decode cX12_sheet 152 = .ok (.iconst 1, 1) := by decide +kernel
theorem dX12_sheet_153 : decode cX12_sheet 153 = .ok (.isub, 1) := by decide +kernel
theorem dX12_sheet_154 : decode cX12_sheet 154 = .ok (.ireturn, 1) := by decide +kernel
theorem dX12_sheet_67 : decode cX12_sheet 67 = .ok (.iload 5, 2) := by decide +kernel
theorem dX12_sheet_69 : decode cX12_sheet 69 = .ok (.bipush 12, 2) := by decide +kernel
theorem dX12_sheet_71 : decode cX12_sheet 71 = .ok (.irem, 1) := by decide +kernel
theorem dX12_sheet_72 : decode cX12_sheet 72 = .ok (.iload_n 1, 1) := by decide +kernel
theorem dX12_sheet_73 : decode cX12_sheet 73 = .ok (.iload_n 3, 1) := by decide +kernel
theorem dX12_sheet_74 : decode cX12_sheet 74 = .ok (.invokestatic 415, 3) := by decide +kernel
theorem dX12_sheet_77 : decode cX12_sheet 77 = .ok (.ifCond .eq 21, 3) := by decide +kernel
theorem dX12_sheet_98 : decode cX12_sheet 98 = .ok (.iconst 0, 1) := by decide +kernel
theorem dX12_sheet_99 : decode cX12_sheet 99 = .ok (.istore 6, 2) := by decide +kernel
theorem dX12_sheet_101 : decode cX12_sheet 101 = .ok (.aload_n 0, 1) := by decide +kernel
theorem dX12_sheet_102 : decode cX12_sheet 102 = .ok (.getfield 272, 3) := by decide +kernel
theorem kw_1587 : Cond.fieldLink "LandSurveyModel" 272 "LandSurveyModel" "sheetBits" "[I" ∈ uu := uu_in (i := 1587) (by decide +kernel) (by decide +kernel)
theorem fk_LandSurveyModel_272 : fkR "LandSurveyModel" 272 11 81 RX12 TX12 87 := ⟨rfl, rfl, inX12, by decide, kw_1587, by decide⟩
theorem dX12_sheet_105 : decode cX12_sheet 105 = .ok (.bipush 96, 2) := by decide +kernel
theorem dX12_sheet_107 : decode cX12_sheet 107 = .ok (.aload_n 0, 1) := by decide +kernel
theorem dX12_sheet_108 : decode cX12_sheet 108 = .ok (.getfield 603, 3) := by decide +kernel
theorem dX12_sheet_111 : decode cX12_sheet 111 = .ok (.imul, 1) := by decide +kernel
theorem dX12_sheet_112 : decode cX12_sheet 112 = .ok (.iload 5, 2) := by decide +kernel
theorem dX12_sheet_114 : decode cX12_sheet 114 = .ok (.iadd, 1) := by decide +kernel
theorem dX12_sheet_115 : decode cX12_sheet 115 = .ok (.iload 6, 2) := by decide +kernel
theorem dX12_sheet_117 : decode cX12_sheet 117 = .ok (.ifCond .eq 13, 3) := by decide +kernel
theorem dX12_sheet_130 : decode cX12_sheet 130 = .ok (.iconst (-1), 1) := by decide +kernel
theorem dX12_sheet_131 : decode cX12_sheet 131 = .ok (.iastore, 1) := by decide +kernel
theorem dX12_sheet_132 : decode cX12_sheet 132 = .ok (.iinc 5 1, 3) := by decide +kernel
theorem dX12_sheet_135 : decode cX12_sheet 135 = .ok (.goto (-75), 3) := by decide +kernel
theorem dX12_sheet_80 : decode cX12_sheet 80 = .ok (.iload 5, 2) := by decide +kernel
theorem dX12_sheet_82 : decode cX12_sheet 82 = .ok (.bipush 12, 2) := by decide +kernel
theorem dX12_sheet_84 : decode cX12_sheet 84 = .ok (.idiv, 1) := by decide +kernel
theorem dX12_sheet_85 : decode cX12_sheet 85 = .ok (.iload_n 2, 1) := by decide +kernel
theorem dX12_sheet_86 : decode cX12_sheet 86 = .ok (.iload 4, 2) := by decide +kernel
theorem dX12_sheet_88 : decode cX12_sheet 88 = .ok (.invokestatic 415, 3) := by decide +kernel
theorem dX12_sheet_91 : decode cX12_sheet 91 = .ok (.ifCond .eq 7, 3) := by decide +kernel
theorem dX12_sheet_94 : decode cX12_sheet 94 = .ok (.iconst 1, 1) := by decide +kernel
theorem dX12_sheet_95 : decode cX12_sheet 95 = .ok (.goto 4, 3) := by decide +kernel
theorem dX12_sheet_120 : decode cX12_sheet 120 = .ok (.aload_n 0, 1) := by decide +kernel
theorem dX12_sheet_121 : decode cX12_sheet 121 = .ok (.iload 5, 2) := by decide +kernel
theorem dX12_sheet_123 : decode cX12_sheet 123 = .ok (.iconst 0, 1) := by decide +kernel
theorem dX12_sheet_124 : decode cX12_sheet 124 = .ok (.invokevirtual 575, 3) := by decide +kernel
theorem dX12_sheet_127 : decode cX12_sheet 127 = .ok (.goto 4, 3) := by decide +kernel
theorem dX12_sheet_55 : decode cX12_sheet 55 = .ok (.iconst (-1), 1) := by decide +kernel
theorem dX12_sheet_56 : decode cX12_sheet 56 = .ok (.ireturn, 1) := by decide +kernel
abbrev cX12_drawn : ByteArray := prog_14_method_110_code
def yX12_drawn : MethodName := ⟨RX12, "drawn", "(III)I"⟩
theorem okX12_drawn : yok yX12_drawn 3 := by decide +kernel
theorem dX12_drawn_0 : decode cX12_drawn 0 = .ok (.aload_n 0, 1) := by decide +kernel
theorem dX12_drawn_1 : decode cX12_drawn 1 = .ok (.iconst 0, 1) := by decide +kernel
theorem dX12_drawn_2 : decode cX12_drawn 2 = .ok (.putfield 1, 3) := by decide +kernel
theorem dX12_drawn_5 : decode cX12_drawn 5 = .ok (.aload_n 0, 1) := by decide +kernel
theorem dX12_drawn_6 : decode cX12_drawn 6 = .ok (.iload_n 1, 1) := by decide +kernel
theorem dX12_drawn_7 : decode cX12_drawn 7 = .ok (.invokevirtual 606, 3) := by decide +kernel
theorem kw_2187 : Cond.code yX12_isSheet prog_14_method_109_code 2 (some .boolean) ∈ uu := uu_in (i := 2187) (by decide +kernel) (by decide +kernel)
theorem kw_2184 : Cond.methodLink "LandSurveyModel" 606 yX12_isSheet ∈ uu := uu_in (i := 2184) (by decide +kernel) (by decide +kernel)
theorem kw_2186 : Cond.instanceMethod yX12_isSheet ∈ uu := uu_in (i := 2186) (by decide +kernel) (by decide +kernel)
theorem kw_134 : Cond.selects "LandSurveyModel" yX12_isSheet yX12_isSheet ∈ uu := uu_in (i := 134) (by decide +kernel) (by decide +kernel)
theorem lk_LandSurveyModel_606 : lkV "LandSurveyModel" 606 yX12_isSheet cX12_isSheet 2 (some .boolean) 1 := ⟨kw_2184, kw_2186, kw_134, kw_152, kw_2187, okX12_isSheet⟩
theorem dX12_drawn_10 : decode cX12_drawn 10 = .ok (.ifCond .eq 30, 3) := by decide +kernel
theorem dX12_drawn_40 : decode cX12_drawn 40 = .ok (.iconst (-1), 1) := by decide +kernel
theorem dX12_drawn_41 : decode cX12_drawn 41 = .ok (.ireturn, 1) := by decide +kernel
theorem dX12_drawn_13 : decode cX12_drawn 13 = .ok (.iload_n 2, 1) := by decide +kernel
theorem dX12_drawn_14 : decode cX12_drawn 14 = .ok (.iload_n 3, 1) := by decide +kernel
theorem dX12_drawn_15 : decode cX12_drawn 15 = .ok (.invokestatic 419, 3) := by decide +kernel
theorem dX12_drawn_18 : decode cX12_drawn 18 = .ok (.ifCond .eq 22, 3) := by decide +kernel
theorem dX12_drawn_21 : decode cX12_drawn 21 = .ok (.aload_n 0, 1) := by decide +kernel
theorem dX12_drawn_22 : decode cX12_drawn 22 = .ok (.getfield 272, 3) := by decide +kernel
theorem dX12_drawn_25 : decode cX12_drawn 25 = .ok (.bipush 96, 2) := by decide +kernel
theorem dX12_drawn_27 : decode cX12_drawn 27 = .ok (.iload_n 1, 1) := by decide +kernel
theorem dX12_drawn_28 : decode cX12_drawn 28 = .ok (.imul, 1) := by decide +kernel
theorem dX12_drawn_29 : decode cX12_drawn 29 = .ok (.bipush 12, 2) := by decide +kernel
theorem dX12_drawn_31 : decode cX12_drawn 31 = .ok (.iload_n 3, 1) := by decide +kernel
theorem dX12_drawn_32 : decode cX12_drawn 32 = .ok (.imul, 1) := by decide +kernel
theorem dX12_drawn_33 : decode cX12_drawn 33 = .ok (.iadd, 1) := by decide +kernel
theorem dX12_drawn_34 : decode cX12_drawn 34 = .ok (.iload_n 2, 1) := by decide +kernel
theorem dX12_drawn_35 : decode cX12_drawn 35 = .ok (.iadd, 1) := by decide +kernel
theorem dX12_drawn_36 : decode cX12_drawn 36 = .ok (.iaload, 1) := by decide +kernel
theorem dX12_drawn_37 : decode cX12_drawn 37 = .ok (.goto 4, 3) := by decide +kernel
abbrev cX12_quarrel : ByteArray := prog_14_method_111_code
def yX12_quarrel : MethodName := ⟨RX12, "quarrel", "(II)I"⟩
theorem okX12_quarrel : yok yX12_quarrel 2 := by decide +kernel
theorem dX12_quarrel_0 : decode cX12_quarrel 0 = .ok (.aload_n 0, 1) := by decide +kernel
theorem dX12_quarrel_1 : decode cX12_quarrel 1 = .ok (.iconst 0, 1) := by decide +kernel
theorem dX12_quarrel_2 : decode cX12_quarrel 2 = .ok (.putfield 1, 3) := by decide +kernel
theorem dX12_quarrel_5 : decode cX12_quarrel 5 = .ok (.aload_n 0, 1) := by decide +kernel
theorem dX12_quarrel_6 : decode cX12_quarrel 6 = .ok (.iload_n 1, 1) := by decide +kernel
theorem dX12_quarrel_7 : decode cX12_quarrel 7 = .ok (.invokevirtual 606, 3) := by decide +kernel
theorem dX12_quarrel_10 : decode cX12_quarrel 10 = .ok (.ifCond .eq 11, 3) := by decide +kernel
theorem dX12_quarrel_21 : decode cX12_quarrel 21 = .ok (.iconst (-1), 1) := by decide +kernel
theorem dX12_quarrel_22 : decode cX12_quarrel 22 = .ok (.ireturn, 1) := by decide +kernel
theorem dX12_quarrel_13 : decode cX12_quarrel 13 = .ok (.aload_n 0, 1) := by decide +kernel
theorem dX12_quarrel_14 : decode cX12_quarrel 14 = .ok (.iload_n 2, 1) := by decide +kernel
theorem dX12_quarrel_15 : decode cX12_quarrel 15 = .ok (.invokevirtual 606, 3) := by decide +kernel
theorem dX12_quarrel_18 : decode cX12_quarrel 18 = .ok (.ifCond .ne 5, 3) := by decide +kernel
theorem dX12_quarrel_23 : decode cX12_quarrel 23 = .ok (.iconst 0, 1) := by decide +kernel
theorem dX12_quarrel_24 : decode cX12_quarrel 24 = .ok (.istore_n 3, 1) := by decide +kernel
theorem dX12_quarrel_25 : decode cX12_quarrel 25 = .ok (.iconst 0, 1) := by decide +kernel
theorem dX12_quarrel_26 : decode cX12_quarrel 26 = .ok (.istore 4, 2) := by decide +kernel
theorem dX12_quarrel_28 : decode cX12_quarrel 28 = .ok (.iload 4, 2) := by decide +kernel
theorem dX12_quarrel_30 : decode cX12_quarrel 30 = .ok (.bipush 96, 2) := by decide +kernel
theorem dX12_quarrel_32 : decode cX12_quarrel 32 = .ok (.if_icmp .ge 63, 3) := by decide +kernel
theorem dX12_quarrel_95 : decode cX12_quarrel 95 = .ok (.iload_n 3, 1) := by decide +kernel
theorem dX12_quarrel_96 : decode cX12_quarrel 96 = .ok (.ireturn, 1) := by decide +kernel
theorem dX12_quarrel_35 : decode cX12_quarrel 35 = .ok (.aload_n 0, 1) := by decide +kernel
theorem dX12_quarrel_36 : decode cX12_quarrel 36 = .ok (.getfield 272, 3) := by decide +kernel
theorem dX12_quarrel_39 : decode cX12_quarrel 39 = .ok (.bipush 96, 2) := by decide +kernel
theorem dX12_quarrel_41 : decode cX12_quarrel 41 = .ok (.iload_n 1, 1) := by decide +kernel
theorem dX12_quarrel_42 : decode cX12_quarrel 42 = .ok (.imul, 1) := by decide +kernel
theorem dX12_quarrel_43 : decode cX12_quarrel 43 = .ok (.iload 4, 2) := by decide +kernel
theorem dX12_quarrel_45 : decode cX12_quarrel 45 = .ok (.iadd, 1) := by decide +kernel
theorem dX12_quarrel_46 : decode cX12_quarrel 46 = .ok (.iaload, 1) := by decide +kernel
theorem dX12_quarrel_47 : decode cX12_quarrel 47 = .ok (.istore 5, 2) := by decide +kernel
theorem dX12_quarrel_49 : decode cX12_quarrel 49 = .ok (.aload_n 0, 1) := by decide +kernel
theorem dX12_quarrel_50 : decode cX12_quarrel 50 = .ok (.getfield 272, 3) := by decide +kernel
theorem dX12_quarrel_53 : decode cX12_quarrel 53 = .ok (.bipush 96, 2) := by decide +kernel
theorem dX12_quarrel_55 : decode cX12_quarrel 55 = .ok (.iload_n 2, 1) := by decide +kernel
theorem dX12_quarrel_56 : decode cX12_quarrel 56 = .ok (.imul, 1) := by decide +kernel
theorem dX12_quarrel_57 : decode cX12_quarrel 57 = .ok (.iload 4, 2) := by decide +kernel
theorem dX12_quarrel_59 : decode cX12_quarrel 59 = .ok (.iadd, 1) := by decide +kernel
theorem dX12_quarrel_60 : decode cX12_quarrel 60 = .ok (.iaload, 1) := by decide +kernel
theorem dX12_quarrel_61 : decode cX12_quarrel 61 = .ok (.istore 6, 2) := by decide +kernel
theorem dX12_quarrel_63 : decode cX12_quarrel 63 = .ok (.iload_n 3, 1) := by decide +kernel
theorem dX12_quarrel_64 : decode cX12_quarrel 64 = .ok (.iload 5, 2) := by decide +kernel
theorem dX12_quarrel_66 : decode cX12_quarrel 66 = .ok (.ifCond .lt 20, 3) := by decide +kernel
theorem dX12_quarrel_86 : decode cX12_quarrel 86 = .ok (.iconst 0, 1) := by decide +kernel
theorem dX12_quarrel_87 : decode cX12_quarrel 87 = .ok (.iadd, 1) := by decide +kernel
theorem dX12_quarrel_88 : decode cX12_quarrel 88 = .ok (.istore_n 3, 1) := by decide +kernel
theorem dX12_quarrel_89 : decode cX12_quarrel 89 = .ok (.iinc 4 1, 3) := by decide +kernel
theorem dX12_quarrel_92 : decode cX12_quarrel 92 = .ok (.goto (-64), 3) := by decide +kernel
theorem dX12_quarrel_69 : decode cX12_quarrel 69 = .ok (.iload 6, 2) := by decide +kernel
theorem dX12_quarrel_71 : decode cX12_quarrel 71 = .ok (.ifCond .lt 15, 3) := by decide +kernel
theorem dX12_quarrel_74 : decode cX12_quarrel 74 = .ok (.iload 5, 2) := by decide +kernel
theorem dX12_quarrel_76 : decode cX12_quarrel 76 = .ok (.iload 6, 2) := by decide +kernel
theorem dX12_quarrel_78 : decode cX12_quarrel 78 = .ok (.iand, 1) := by decide +kernel
theorem dX12_quarrel_79 : decode cX12_quarrel 79 = .ok (.ifCond .ne 7, 3) := by decide +kernel
theorem dX12_quarrel_82 : decode cX12_quarrel 82 = .ok (.iconst 1, 1) := by decide +kernel
theorem dX12_quarrel_83 : decode cX12_quarrel 83 = .ok (.goto 4, 3) := by decide +kernel
abbrev cX12_stale : ByteArray := prog_14_method_112_code
def yX12_stale : MethodName := ⟨RX12, "stale", "(I)I"⟩
theorem okX12_stale : yok yX12_stale 1 := by decide +kernel
theorem dX12_stale_0 : decode cX12_stale 0 = .ok (.aload_n 0, 1) := by decide +kernel
theorem dX12_stale_1 : decode cX12_stale 1 = .ok (.iconst 0, 1) := by decide +kernel
theorem dX12_stale_2 : decode cX12_stale 2 = .ok (.putfield 1, 3) := by decide +kernel
theorem dX12_stale_5 : decode cX12_stale 5 = .ok (.aload_n 0, 1) := by decide +kernel
theorem dX12_stale_6 : decode cX12_stale 6 = .ok (.invokevirtual 557, 3) := by decide +kernel
theorem dX12_stale_9 : decode cX12_stale 9 = .ok (.aload_n 0, 1) := by decide +kernel
theorem dX12_stale_10 : decode cX12_stale 10 = .ok (.iload_n 1, 1) := by decide +kernel
theorem dX12_stale_11 : decode cX12_stale 11 = .ok (.invokevirtual 606, 3) := by decide +kernel
theorem dX12_stale_14 : decode cX12_stale 14 = .ok (.ifCond .eq 10, 3) := by decide +kernel
theorem dX12_stale_24 : decode cX12_stale 24 = .ok (.iconst (-1), 1) := by decide +kernel
theorem dX12_stale_25 : decode cX12_stale 25 = .ok (.ireturn, 1) := by decide +kernel
theorem dX12_stale_17 : decode cX12_stale 17 = .ok (.aload_n 0, 1) := by decide +kernel
theorem dX12_stale_18 : decode cX12_stale 18 = .ok (.getfield 546, 3) := by decide +kernel
theorem dX12_stale_21 : decode cX12_stale 21 = .ok (.ifCond .ne 5, 3) := by decide +kernel
theorem dX12_stale_26 : decode cX12_stale 26 = .ok (.iconst 0, 1) := by decide +kernel
theorem dX12_stale_27 : decode cX12_stale 27 = .ok (.istore_n 2, 1) := by decide +kernel
theorem dX12_stale_28 : decode cX12_stale 28 = .ok (.iconst 0, 1) := by decide +kernel
theorem dX12_stale_29 : decode cX12_stale 29 = .ok (.istore_n 3, 1) := by decide +kernel
theorem dX12_stale_30 : decode cX12_stale 30 = .ok (.iload_n 3, 1) := by decide +kernel
theorem dX12_stale_31 : decode cX12_stale 31 = .ok (.bipush 96, 2) := by decide +kernel
theorem dX12_stale_33 : decode cX12_stale 33 = .ok (.if_icmp .ge 46, 3) := by decide +kernel
theorem dX12_stale_79 : decode cX12_stale 79 = .ok (.iload_n 2, 1) := by decide +kernel
theorem dX12_stale_80 : decode cX12_stale 80 = .ok (.ireturn, 1) := by decide +kernel
theorem dX12_stale_36 : decode cX12_stale 36 = .ok (.aload_n 0, 1) := by decide +kernel
theorem dX12_stale_37 : decode cX12_stale 37 = .ok (.getfield 272, 3) := by decide +kernel
theorem dX12_stale_40 : decode cX12_stale 40 = .ok (.bipush 96, 2) := by decide +kernel
theorem dX12_stale_42 : decode cX12_stale 42 = .ok (.iload_n 1, 1) := by decide +kernel
theorem dX12_stale_43 : decode cX12_stale 43 = .ok (.imul, 1) := by decide +kernel
theorem dX12_stale_44 : decode cX12_stale 44 = .ok (.iload_n 3, 1) := by decide +kernel
theorem dX12_stale_45 : decode cX12_stale 45 = .ok (.iadd, 1) := by decide +kernel
theorem dX12_stale_46 : decode cX12_stale 46 = .ok (.iaload, 1) := by decide +kernel
theorem dX12_stale_47 : decode cX12_stale 47 = .ok (.istore 4, 2) := by decide +kernel
theorem dX12_stale_49 : decode cX12_stale 49 = .ok (.iload_n 2, 1) := by decide +kernel
theorem dX12_stale_50 : decode cX12_stale 50 = .ok (.iload 4, 2) := by decide +kernel
theorem dX12_stale_52 : decode cX12_stale 52 = .ok (.ifCond .lt 18, 3) := by decide +kernel
theorem dX12_stale_70 : decode cX12_stale 70 = .ok (.iconst 0, 1) := by decide +kernel
theorem dX12_stale_71 : decode cX12_stale 71 = .ok (.iadd, 1) := by decide +kernel
theorem dX12_stale_72 : decode cX12_stale 72 = .ok (.istore_n 2, 1) := by decide +kernel
theorem dX12_stale_73 : decode cX12_stale 73 = .ok (.iinc 3 1, 3) := by decide +kernel
theorem dX12_stale_76 : decode cX12_stale 76 = .ok (.goto (-46), 3) := by decide +kernel
theorem dX12_stale_55 : decode cX12_stale 55 = .ok (.iload 4, 2) := by decide +kernel
theorem dX12_stale_57 : decode cX12_stale 57 = .ok (.aload_n 0, 1) := by decide +kernel
theorem dX12_stale_58 : decode cX12_stale 58 = .ok (.iload_n 3, 1) := by decide +kernel
theorem dX12_stale_59 : decode cX12_stale 59 = .ok (.iconst 0, 1) := by decide +kernel
theorem dX12_stale_60 : decode cX12_stale 60 = .ok (.invokevirtual 575, 3) := by decide +kernel
theorem dX12_stale_63 : decode cX12_stale 63 = .ok (.if_icmp .eq 7, 3) := by decide +kernel
theorem dX12_stale_66 : decode cX12_stale 66 = .ok (.iconst 1, 1) := by decide +kernel
theorem dX12_stale_67 : decode cX12_stale 67 = .ok (.goto 4, 3) := by decide +kernel
abbrev cX12_doubles : ByteArray := prog_14_method_114_code
def yX12_doubles : MethodName := ⟨RX12, "doubles", "(III)I"⟩
theorem okX12_doubles : yok yX12_doubles 3 := by decide +kernel
theorem dX12_doubles_0 : decode cX12_doubles 0 = .ok (.aload_n 0, 1) := by decide +kernel
theorem dX12_doubles_1 : decode cX12_doubles 1 = .ok (.iconst 0, 1) := by decide +kernel
theorem dX12_doubles_2 : decode cX12_doubles 2 = .ok (.putfield 1, 3) := by decide +kernel
theorem dX12_doubles_5 : decode cX12_doubles 5 = .ok (.iload_n 1, 1) := by decide +kernel
theorem dX12_doubles_6 : decode cX12_doubles 6 = .ok (.iconst 0, 1) := by decide +kernel
theorem dX12_doubles_7 : decode cX12_doubles 7 = .ok (.iconst 5, 1) := by decide +kernel
theorem dX12_doubles_8 : decode cX12_doubles 8 = .ok (.invokestatic 415, 3) := by decide +kernel
theorem dX12_doubles_11 : decode cX12_doubles 11 = .ok (.ifCond .eq 26, 3) := by decide +kernel
theorem dX12_doubles_37 : decode cX12_doubles 37 = .ok (.iconst (-1), 1) := by decide +kernel
theorem dX12_doubles_38 : decode cX12_doubles 38 = .ok (.ireturn, 1) := by decide +kernel
theorem dX12_doubles_14 : decode cX12_doubles 14 = .ok (.iload_n 2, 1) := by decide +kernel
theorem dX12_doubles_15 : decode cX12_doubles 15 = .ok (.iconst 0, 1) := by decide +kernel
theorem dX12_doubles_16 : decode cX12_doubles 16 = .ok (.iconst 5, 1) := by decide +kernel
theorem dX12_doubles_17 : decode cX12_doubles 17 = .ok (.invokestatic 415, 3) := by decide +kernel
theorem dX12_doubles_20 : decode cX12_doubles 20 = .ok (.ifCond .eq 17, 3) := by decide +kernel
theorem dX12_doubles_23 : decode cX12_doubles 23 = .ok (.iload_n 1, 1) := by decide +kernel
theorem dX12_doubles_24 : decode cX12_doubles 24 = .ok (.iload_n 2, 1) := by decide +kernel
theorem dX12_doubles_25 : decode cX12_doubles 25 = .ok (.if_icmp .eq 12, 3) := by decide +kernel
theorem dX12_doubles_28 : decode cX12_doubles 28 = .ok (.iload_n 3, 1) := by decide +kernel
theorem dX12_doubles_29 : decode cX12_doubles 29 = .ok (.iconst 0, 1) := by decide +kernel
theorem dX12_doubles_30 : decode cX12_doubles 30 = .ok (.iconst 1, 1) := by decide +kernel
theorem dX12_doubles_31 : decode cX12_doubles 31 = .ok (.invokestatic 415, 3) := by decide +kernel
theorem dX12_doubles_34 : decode cX12_doubles 34 = .ok (.ifCond .ne 5, 3) := by decide +kernel
theorem dX12_doubles_39 : decode cX12_doubles 39 = .ok (.aload_n 0, 1) := by decide +kernel
theorem dX12_doubles_40 : decode cX12_doubles 40 = .ok (.invokevirtual 557, 3) := by decide +kernel
theorem dX12_doubles_43 : decode cX12_doubles 43 = .ok (.iconst 0, 1) := by decide +kernel
theorem dX12_doubles_44 : decode cX12_doubles 44 = .ok (.istore 4, 2) := by decide +kernel
theorem dX12_doubles_46 : decode cX12_doubles 46 = .ok (.iconst 0, 1) := by decide +kernel
theorem dX12_doubles_47 : decode cX12_doubles 47 = .ok (.istore 5, 2) := by decide +kernel
theorem dX12_doubles_49 : decode cX12_doubles 49 = .ok (.iload 5, 2) := by decide +kernel
theorem dX12_doubles_51 : decode cX12_doubles 51 = .ok (.aload_n 0, 1) := by decide +kernel
theorem dX12_doubles_52 : decode cX12_doubles 52 = .ok (.getfield 423, 3) := by decide +kernel
theorem dX12_doubles_55 : decode cX12_doubles 55 = .ok (.if_icmp .ge 89, 3) := by decide +kernel
theorem dX12_doubles_144 : decode cX12_doubles 144 = .ok (.iload 4, 2) := by decide +kernel
theorem dX12_doubles_146 : decode cX12_doubles 146 = .ok (.ireturn, 1) := by decide +kernel
theorem dX12_doubles_58 : decode cX12_doubles 58 = .ok (.iconst 0, 1) := by decide +kernel
theorem dX12_doubles_59 : decode cX12_doubles 59 = .ok (.istore 6, 2) := by decide +kernel
theorem dX12_doubles_61 : decode cX12_doubles 61 = .ok (.iload 6, 2) := by decide +kernel
theorem dX12_doubles_63 : decode cX12_doubles 63 = .ok (.aload_n 0, 1) := by decide +kernel
theorem dX12_doubles_64 : decode cX12_doubles 64 = .ok (.getfield 423, 3) := by decide +kernel
theorem dX12_doubles_67 : decode cX12_doubles 67 = .ok (.if_icmp .ge 71, 3) := by decide +kernel
theorem dX12_doubles_138 : decode cX12_doubles 138 = .ok (.iinc 5 1, 3) := by decide +kernel
theorem dX12_doubles_141 : decode cX12_doubles 141 = .ok (.goto (-92), 3) := by decide +kernel
theorem dX12_doubles_70 : decode cX12_doubles 70 = .ok (.aload_n 0, 1) := by decide +kernel
theorem dX12_doubles_71 : decode cX12_doubles 71 = .ok (.getfield 182, 3) := by decide +kernel
theorem dX12_doubles_74 : decode cX12_doubles 74 = .ok (.iload 5, 2) := by decide +kernel
theorem dX12_doubles_76 : decode cX12_doubles 76 = .ok (.iaload, 1) := by decide +kernel
theorem dX12_doubles_77 : decode cX12_doubles 77 = .ok (.iload_n 1, 1) := by decide +kernel
theorem dX12_doubles_78 : decode cX12_doubles 78 = .ok (.if_icmp .ne 54, 3) := by decide +kernel
theorem dX12_doubles_132 : decode cX12_doubles 132 = .ok (.iinc 6 1, 3) := by decide +kernel
theorem dX12_doubles_135 : decode cX12_doubles 135 = .ok (.goto (-74), 3) := by decide +kernel
theorem dX12_doubles_81 : decode cX12_doubles 81 = .ok (.aload_n 0, 1) := by decide +kernel
theorem dX12_doubles_82 : decode cX12_doubles 82 = .ok (.getfield 182, 3) := by decide +kernel
theorem dX12_doubles_85 : decode cX12_doubles 85 = .ok (.iload 6, 2) := by decide +kernel
theorem dX12_doubles_87 : decode cX12_doubles 87 = .ok (.iaload, 1) := by decide +kernel
theorem dX12_doubles_88 : decode cX12_doubles 88 = .ok (.iload_n 2, 1) := by decide +kernel
theorem dX12_doubles_89 : decode cX12_doubles 89 = .ok (.if_icmp .ne 43, 3) := by decide +kernel
theorem dX12_doubles_92 : decode cX12_doubles 92 = .ok (.aload_n 0, 1) := by decide +kernel
theorem dX12_doubles_93 : decode cX12_doubles 93 = .ok (.iload 5, 2) := by decide +kernel
theorem dX12_doubles_95 : decode cX12_doubles 95 = .ok (.iload 6, 2) := by decide +kernel
theorem dX12_doubles_97 : decode cX12_doubles 97 = .ok (.invokevirtual 609, 3) := by decide +kernel
theorem kw_2203 : Cond.code yX12_isDouble prog_14_method_113_code 3 (some .boolean) ∈ uu := uu_in (i := 2203) (by decide +kernel) (by decide +kernel)
theorem kw_2200 : Cond.methodLink "LandSurveyModel" 609 yX12_isDouble ∈ uu := uu_in (i := 2200) (by decide +kernel) (by decide +kernel)
theorem kw_2202 : Cond.instanceMethod yX12_isDouble ∈ uu := uu_in (i := 2202) (by decide +kernel) (by decide +kernel)
theorem kw_135 : Cond.selects "LandSurveyModel" yX12_isDouble yX12_isDouble ∈ uu := uu_in (i := 135) (by decide +kernel) (by decide +kernel)
theorem lk_LandSurveyModel_609 : lkV "LandSurveyModel" 609 yX12_isDouble cX12_isDouble 3 (some .boolean) 2 := ⟨kw_2200, kw_2202, kw_135, kw_152, kw_2203, okX12_isDouble⟩
theorem dX12_doubles_100 : decode cX12_doubles 100 = .ok (.ifCond .eq 32, 3) := by decide +kernel
theorem dX12_doubles_103 : decode cX12_doubles 103 = .ok (.iload 4, 2) := by decide +kernel
theorem dX12_doubles_105 : decode cX12_doubles 105 = .ok (.iload_n 3, 1) := by decide +kernel
theorem dX12_doubles_106 : decode cX12_doubles 106 = .ok (.ifCond .eq 18, 3) := by decide +kernel
theorem dX12_doubles_124 : decode cX12_doubles 124 = .ok (.iconst 1, 1) := by decide +kernel
theorem dX12_doubles_125 : decode cX12_doubles 125 = .ok (.goto 4, 3) := by decide +kernel
theorem dX12_doubles_129 : decode cX12_doubles 129 = .ok (.iadd, 1) := by decide +kernel
theorem dX12_doubles_130 : decode cX12_doubles 130 = .ok (.istore 4, 2) := by decide +kernel
theorem dX12_doubles_109 : decode cX12_doubles 109 = .ok (.aload_n 0, 1) := by decide +kernel
theorem dX12_doubles_110 : decode cX12_doubles 110 = .ok (.iload 5, 2) := by decide +kernel
theorem dX12_doubles_112 : decode cX12_doubles 112 = .ok (.invokevirtual 450, 3) := by decide +kernel
theorem dX12_doubles_115 : decode cX12_doubles 115 = .ok (.aload_n 0, 1) := by decide +kernel
theorem dX12_doubles_116 : decode cX12_doubles 116 = .ok (.iload 6, 2) := by decide +kernel
theorem dX12_doubles_118 : decode cX12_doubles 118 = .ok (.invokevirtual 450, 3) := by decide +kernel
theorem dX12_doubles_121 : decode cX12_doubles 121 = .ok (.if_icmp .ne 7, 3) := by decide +kernel
theorem dX12_doubles_128 : decode cX12_doubles 128 = .ok (.iconst 0, 1) := by decide +kernel
abbrev cX12_habit : ByteArray := prog_14_method_115_code
def yX12_habit : MethodName := ⟨RX12, "habit", "(I)I"⟩
theorem okX12_habit : yok yX12_habit 1 := by decide +kernel
theorem dX12_habit_0 : decode cX12_habit 0 = .ok (.aload_n 0, 1) := by decide +kernel
theorem dX12_habit_1 : decode cX12_habit 1 = .ok (.iload_n 1, 1) := by decide +kernel
theorem dX12_habit_2 : decode cX12_habit 2 = .ok (.iconst 0, 1) := by decide +kernel
theorem dX12_habit_3 : decode cX12_habit 3 = .ok (.iconst 5, 1) := by decide +kernel
theorem dX12_habit_4 : decode cX12_habit 4 = .ok (.invokestatic 415, 3) := by decide +kernel
theorem dX12_habit_7 : decode cX12_habit 7 = .ok (.ifCond .eq 7, 3) := by decide +kernel
theorem dX12_habit_14 : decode cX12_habit 14 = .ok (.iconst 1, 1) := by decide +kernel
theorem dX12_habit_15 : decode cX12_habit 15 = .ok (.putfield 1, 3) := by decide +kernel
theorem dX12_habit_18 : decode cX12_habit 18 = .ok (.aload_n 0, 1) := by decide +kernel
theorem dX12_habit_19 : decode cX12_habit 19 = .ok (.getfield 1, 3) := by decide +kernel
theorem dX12_habit_22 : decode cX12_habit 22 = .ok (.ifCond .le 5, 3) := by decide +kernel
theorem dX12_habit_25 : decode cX12_habit 25 = .ok (.iconst 0, 1) := by decide +kernel
theorem dX12_habit_26 : decode cX12_habit 26 = .ok (.ireturn, 1) := by decide +kernel
theorem dX12_habit_10 : decode cX12_habit 10 = .ok (.iconst 0, 1) := by decide +kernel
theorem dX12_habit_11 : decode cX12_habit 11 = .ok (.goto 4, 3) := by decide +kernel
theorem dX12_habit_27 : decode cX12_habit 27 = .ok (.aload_n 0, 1) := by decide +kernel
theorem dX12_habit_28 : decode cX12_habit 28 = .ok (.invokevirtual 557, 3) := by decide +kernel
theorem dX12_habit_31 : decode cX12_habit 31 = .ok (.iconst 0, 1) := by decide +kernel
theorem dX12_habit_32 : decode cX12_habit 32 = .ok (.istore_n 2, 1) := by decide +kernel
theorem dX12_habit_33 : decode cX12_habit 33 = .ok (.iconst 0, 1) := by decide +kernel
theorem dX12_habit_34 : decode cX12_habit 34 = .ok (.istore_n 3, 1) := by decide +kernel
theorem dX12_habit_35 : decode cX12_habit 35 = .ok (.iconst 0, 1) := by decide +kernel
theorem dX12_habit_36 : decode cX12_habit 36 = .ok (.istore 4, 2) := by decide +kernel
theorem dX12_habit_38 : decode cX12_habit 38 = .ok (.iload 4, 2) := by decide +kernel
theorem dX12_habit_40 : decode cX12_habit 40 = .ok (.aload_n 0, 1) := by decide +kernel
theorem dX12_habit_41 : decode cX12_habit 41 = .ok (.getfield 423, 3) := by decide +kernel
theorem dX12_habit_44 : decode cX12_habit 44 = .ok (.if_icmp .ge 79, 3) := by decide +kernel
theorem dX12_habit_123 : decode cX12_habit 123 = .ok (.iload_n 3, 1) := by decide +kernel
theorem dX12_habit_124 : decode cX12_habit 124 = .ok (.ifCond .ge 8, 3) := by decide +kernel
theorem dX12_habit_132 : decode cX12_habit 132 = .ok (.iload_n 3, 1) := by decide +kernel
theorem dX12_habit_133 : decode cX12_habit 133 = .ok (.istore 4, 2) := by decide +kernel
theorem dX12_habit_135 : decode cX12_habit 135 = .ok (.iload_n 2, 1) := by decide +kernel
theorem dX12_habit_136 : decode cX12_habit 136 = .ok (.iconst 3, 1) := by decide +kernel
theorem dX12_habit_137 : decode cX12_habit 137 = .ok (.if_icmp .lt 11, 3) := by decide +kernel
theorem dX12_habit_148 : decode cX12_habit 148 = .ok (.iconst 0, 1) := by decide +kernel
theorem dX12_habit_149 : decode cX12_habit 149 = .ok (.goto 12, 3) := by decide +kernel
theorem dX12_habit_161 : decode cX12_habit 161 = .ok (.ireturn, 1) := by decide +kernel
theorem dX12_habit_140 : decode cX12_habit 140 = .ok (.iconst 2, 1) := by decide +kernel
theorem dX12_habit_141 : decode cX12_habit 141 = .ok (.iload 4, 2) := by decide +kernel
theorem dX12_habit_143 : decode cX12_habit 143 = .ok (.imul, 1) := by decide +kernel
theorem dX12_habit_144 : decode cX12_habit 144 = .ok (.iload_n 2, 1) := by decide +kernel
theorem dX12_habit_145 : decode cX12_habit 145 = .ok (.if_icmp .gt 7, 3) := by decide +kernel
theorem dX12_habit_152 : decode cX12_habit 152 = .ok (.iload_n 3, 1) := by decide +kernel
theorem dX12_habit_153 : decode cX12_habit 153 = .ok (.ifCond .le 7, 3) := by decide +kernel
theorem dX12_habit_160 : decode cX12_habit 160 = .ok (.iconst (-1), 1) := by decide +kernel
theorem dX12_habit_156 : decode cX12_habit 156 = .ok (.iconst 1, 1) := by decide +kernel
theorem dX12_habit_157 : decode cX12_habit 157 = .ok (.goto 4, 3) := by decide +kernel
theorem dX12_habit_127 : decode cX12_habit 127 = .ok (.iload_n 3, 1) := by decide +kernel
theorem dX12_habit_128 : decode cX12_habit 128 = .ok (.ineg, 1) := by decide +kernel
theorem dX12_habit_129 : decode cX12_habit 129 = .ok (.goto 4, 3) := by decide +kernel
theorem dX12_habit_47 : decode cX12_habit 47 = .ok (.iconst 0, 1) := by decide +kernel
theorem dX12_habit_48 : decode cX12_habit 48 = .ok (.istore 5, 2) := by decide +kernel
theorem dX12_habit_50 : decode cX12_habit 50 = .ok (.iload 5, 2) := by decide +kernel
theorem dX12_habit_52 : decode cX12_habit 52 = .ok (.aload_n 0, 1) := by decide +kernel
theorem dX12_habit_53 : decode cX12_habit 53 = .ok (.getfield 423, 3) := by decide +kernel
theorem dX12_habit_56 : decode cX12_habit 56 = .ok (.if_icmp .ge 61, 3) := by decide +kernel
theorem dX12_habit_117 : decode cX12_habit 117 = .ok (.iinc 4 1, 3) := by decide +kernel
theorem dX12_habit_120 : decode cX12_habit 120 = .ok (.goto (-82), 3) := by decide +kernel
theorem dX12_habit_59 : decode cX12_habit 59 = .ok (.aload_n 0, 1) := by decide +kernel
theorem dX12_habit_60 : decode cX12_habit 60 = .ok (.getfield 182, 3) := by decide +kernel
theorem dX12_habit_63 : decode cX12_habit 63 = .ok (.iload 4, 2) := by decide +kernel
theorem dX12_habit_65 : decode cX12_habit 65 = .ok (.iaload, 1) := by decide +kernel
theorem dX12_habit_66 : decode cX12_habit 66 = .ok (.iload_n 1, 1) := by decide +kernel
theorem dX12_habit_67 : decode cX12_habit 67 = .ok (.if_icmp .ne 44, 3) := by decide +kernel
theorem dX12_habit_111 : decode cX12_habit 111 = .ok (.iinc 5 1, 3) := by decide +kernel
theorem dX12_habit_114 : decode cX12_habit 114 = .ok (.goto (-64), 3) := by decide +kernel
theorem dX12_habit_70 : decode cX12_habit 70 = .ok (.aload_n 0, 1) := by decide +kernel
theorem dX12_habit_71 : decode cX12_habit 71 = .ok (.getfield 182, 3) := by decide +kernel
theorem dX12_habit_74 : decode cX12_habit 74 = .ok (.iload 5, 2) := by decide +kernel
theorem dX12_habit_76 : decode cX12_habit 76 = .ok (.iaload, 1) := by decide +kernel
theorem dX12_habit_77 : decode cX12_habit 77 = .ok (.iload_n 1, 1) := by decide +kernel
theorem dX12_habit_78 : decode cX12_habit 78 = .ok (.if_icmp .eq 33, 3) := by decide +kernel
theorem dX12_habit_81 : decode cX12_habit 81 = .ok (.aload_n 0, 1) := by decide +kernel
theorem dX12_habit_82 : decode cX12_habit 82 = .ok (.iload 4, 2) := by decide +kernel
theorem dX12_habit_84 : decode cX12_habit 84 = .ok (.iload 5, 2) := by decide +kernel
theorem dX12_habit_86 : decode cX12_habit 86 = .ok (.invokevirtual 609, 3) := by decide +kernel
theorem dX12_habit_89 : decode cX12_habit 89 = .ok (.ifCond .eq 22, 3) := by decide +kernel
theorem dX12_habit_92 : decode cX12_habit 92 = .ok (.iinc 2 1, 3) := by decide +kernel
theorem dX12_habit_95 : decode cX12_habit 95 = .ok (.iload_n 3, 1) := by decide +kernel
theorem dX12_habit_96 : decode cX12_habit 96 = .ok (.aload_n 0, 1) := by decide +kernel
theorem dX12_habit_97 : decode cX12_habit 97 = .ok (.iload 4, 2) := by decide +kernel
theorem dX12_habit_99 : decode cX12_habit 99 = .ok (.invokevirtual 450, 3) := by decide +kernel
theorem dX12_habit_102 : decode cX12_habit 102 = .ok (.aload_n 0, 1) := by decide +kernel
theorem dX12_habit_103 : decode cX12_habit 103 = .ok (.iload 5, 2) := by decide +kernel
theorem dX12_habit_105 : decode cX12_habit 105 = .ok (.invokevirtual 450, 3) := by decide +kernel
theorem dX12_habit_108 : decode cX12_habit 108 = .ok (.isub, 1) := by decide +kernel
theorem dX12_habit_109 : decode cX12_habit 109 = .ok (.iadd, 1) := by decide +kernel
theorem dX12_habit_110 : decode cX12_habit 110 = .ok (.istore_n 3, 1) := by decide +kernel
abbrev cX12_doubt : ByteArray := prog_14_method_121_code
def yX12_doubt : MethodName := ⟨RX12, "doubt", "()I"⟩
theorem okX12_doubt : yok yX12_doubt 0 := by decide +kernel
theorem dX12_doubt_0 : decode cX12_doubt 0 = .ok (.aload_n 0, 1) := by decide +kernel
theorem dX12_doubt_1 : decode cX12_doubt 1 = .ok (.iconst 0, 1) := by decide +kernel
theorem dX12_doubt_2 : decode cX12_doubt 2 = .ok (.putfield 1, 3) := by decide +kernel
theorem dX12_doubt_5 : decode cX12_doubt 5 = .ok (.aload_n 0, 1) := by decide +kernel
theorem dX12_doubt_6 : decode cX12_doubt 6 = .ok (.invokevirtual 618, 3) := by decide +kernel
theorem kw_2227 : Cond.code yX12_isBestKnown prog_14_method_119_code 1 (some .boolean) ∈ uu := uu_in (i := 2227) (by decide +kernel) (by decide +kernel)
theorem kw_2224 : Cond.methodLink "LandSurveyModel" 618 yX12_isBestKnown ∈ uu := uu_in (i := 2224) (by decide +kernel) (by decide +kernel)
theorem kw_2226 : Cond.instanceMethod yX12_isBestKnown ∈ uu := uu_in (i := 2226) (by decide +kernel) (by decide +kernel)
theorem kw_137 : Cond.selects "LandSurveyModel" yX12_isBestKnown yX12_isBestKnown ∈ uu := uu_in (i := 137) (by decide +kernel) (by decide +kernel)
theorem lk_LandSurveyModel_618 : lkV "LandSurveyModel" 618 yX12_isBestKnown cX12_isBestKnown 1 (some .boolean) 0 := ⟨kw_2224, kw_2226, kw_137, kw_152, kw_2227, okX12_isBestKnown⟩
theorem dX12_doubt_9 : decode cX12_doubt 9 = .ok (.ifCond .eq 10, 3) := by decide +kernel
theorem dX12_doubt_19 : decode cX12_doubt 19 = .ok (.iconst (-1), 1) := by decide +kernel
theorem dX12_doubt_20 : decode cX12_doubt 20 = .ok (.ireturn, 1) := by decide +kernel
theorem dX12_doubt_12 : decode cX12_doubt 12 = .ok (.aload_n 0, 1) := by decide +kernel
theorem dX12_doubt_13 : decode cX12_doubt 13 = .ok (.invokevirtual 621, 3) := by decide +kernel
theorem kw_2231 : Cond.code yX12_doubtNow prog_14_method_120_code 3 (some .int) ∈ uu := uu_in (i := 2231) (by decide +kernel) (by decide +kernel)
theorem kw_2228 : Cond.methodLink "LandSurveyModel" 621 yX12_doubtNow ∈ uu := uu_in (i := 2228) (by decide +kernel) (by decide +kernel)
theorem kw_2230 : Cond.instanceMethod yX12_doubtNow ∈ uu := uu_in (i := 2230) (by decide +kernel) (by decide +kernel)
theorem kw_138 : Cond.selects "LandSurveyModel" yX12_doubtNow yX12_doubtNow ∈ uu := uu_in (i := 138) (by decide +kernel) (by decide +kernel)
theorem lk_LandSurveyModel_621 : lkV "LandSurveyModel" 621 yX12_doubtNow cX12_doubtNow 3 (some .int) 0 := ⟨kw_2228, kw_2230, kw_138, kw_152, kw_2231, okX12_doubtNow⟩
theorem dX12_doubt_16 : decode cX12_doubt 16 = .ok (.goto 4, 3) := by decide +kernel
abbrev cX12_left : ByteArray := prog_14_method_125_code
def yX12_left : MethodName := ⟨RX12, "left", "(I)I"⟩
theorem okX12_left : yok yX12_left 1 := by decide +kernel
theorem dX12_left_0 : decode cX12_left 0 = .ok (.aload_n 0, 1) := by decide +kernel
theorem dX12_left_1 : decode cX12_left 1 = .ok (.iconst 0, 1) := by decide +kernel
theorem dX12_left_2 : decode cX12_left 2 = .ok (.putfield 1, 3) := by decide +kernel
theorem dX12_left_5 : decode cX12_left 5 = .ok (.iload_n 1, 1) := by decide +kernel
theorem dX12_left_6 : decode cX12_left 6 = .ok (.ifCond .lt 26, 3) := by decide +kernel
theorem dX12_left_32 : decode cX12_left 32 = .ok (.iconst (-1), 1) := by decide +kernel
theorem dX12_left_33 : decode cX12_left 33 = .ok (.ireturn, 1) := by decide +kernel
theorem dX12_left_9 : decode cX12_left 9 = .ok (.iload_n 1, 1) := by decide +kernel
theorem dX12_left_10 : decode cX12_left 10 = .ok (.aload_n 0, 1) := by decide +kernel
theorem dX12_left_11 : decode cX12_left 11 = .ok (.getfield 615, 3) := by decide +kernel
theorem dX12_left_14 : decode cX12_left 14 = .ok (.if_icmp .ge 18, 3) := by decide +kernel
theorem dX12_left_17 : decode cX12_left 17 = .ok (.aload_n 0, 1) := by decide +kernel
theorem dX12_left_18 : decode cX12_left 18 = .ok (.invokevirtual 618, 3) := by decide +kernel
theorem dX12_left_21 : decode cX12_left 21 = .ok (.ifCond .eq 11, 3) := by decide +kernel
theorem dX12_left_24 : decode cX12_left 24 = .ok (.aload_n 0, 1) := by decide +kernel
theorem dX12_left_25 : decode cX12_left 25 = .ok (.iload_n 1, 1) := by decide +kernel
theorem dX12_left_26 : decode cX12_left 26 = .ok (.invokevirtual 630, 3) := by decide +kernel
theorem kw_2239 : Cond.code yX12_leftAt prog_14_method_123_code 7 (some .int) ∈ uu := uu_in (i := 2239) (by decide +kernel) (by decide +kernel)
theorem kw_2236 : Cond.methodLink "LandSurveyModel" 630 yX12_leftAt ∈ uu := uu_in (i := 2236) (by decide +kernel) (by decide +kernel)
theorem kw_2238 : Cond.instanceMethod yX12_leftAt ∈ uu := uu_in (i := 2238) (by decide +kernel) (by decide +kernel)
theorem kw_139 : Cond.selects "LandSurveyModel" yX12_leftAt yX12_leftAt ∈ uu := uu_in (i := 139) (by decide +kernel) (by decide +kernel)
theorem lk_LandSurveyModel_630 : lkV "LandSurveyModel" 630 yX12_leftAt cX12_leftAt 7 (some .int) 1 := ⟨kw_2236, kw_2238, kw_139, kw_152, kw_2239, okX12_leftAt⟩
theorem dX12_left_29 : decode cX12_left 29 = .ok (.goto 4, 3) := by decide +kernel
abbrev cX12_next : ByteArray := prog_14_method_126_code
def yX12_next : MethodName := ⟨RX12, "next", "()I"⟩
theorem okX12_next : yok yX12_next 0 := by decide +kernel
theorem dX12_next_0 : decode cX12_next 0 = .ok (.aload_n 0, 1) := by decide +kernel
theorem dX12_next_1 : decode cX12_next 1 = .ok (.iconst 0, 1) := by decide +kernel
theorem dX12_next_2 : decode cX12_next 2 = .ok (.putfield 1, 3) := by decide +kernel
theorem dX12_next_5 : decode cX12_next 5 = .ok (.aload_n 0, 1) := by decide +kernel
theorem dX12_next_6 : decode cX12_next 6 = .ok (.invokevirtual 618, 3) := by decide +kernel
theorem dX12_next_9 : decode cX12_next 9 = .ok (.ifCond .ne 5, 3) := by decide +kernel
theorem dX12_next_14 : decode cX12_next 14 = .ok (.iconst (-1), 1) := by decide +kernel
theorem dX12_next_15 : decode cX12_next 15 = .ok (.istore_n 1, 1) := by decide +kernel
theorem dX12_next_16 : decode cX12_next 16 = .ok (.iconst 0, 1) := by decide +kernel
theorem dX12_next_17 : decode cX12_next 17 = .ok (.istore_n 2, 1) := by decide +kernel
theorem dX12_next_18 : decode cX12_next 18 = .ok (.iconst 1, 1) := by decide +kernel
theorem dX12_next_19 : decode cX12_next 19 = .ok (.istore_n 3, 1) := by decide +kernel
theorem dX12_next_20 : decode cX12_next 20 = .ok (.iconst 0, 1) := by decide +kernel
theorem dX12_next_21 : decode cX12_next 21 = .ok (.istore 4, 2) := by decide +kernel
theorem dX12_next_23 : decode cX12_next 23 = .ok (.iload 4, 2) := by decide +kernel
theorem dX12_next_25 : decode cX12_next 25 = .ok (.aload_n 0, 1) := by decide +kernel
theorem dX12_next_26 : decode cX12_next 26 = .ok (.getfield 615, 3) := by decide +kernel
theorem dX12_next_29 : decode cX12_next 29 = .ok (.if_icmp .ge 62, 3) := by decide +kernel
theorem dX12_next_91 : decode cX12_next 91 = .ok (.iload_n 1, 1) := by decide +kernel
theorem dX12_next_92 : decode cX12_next 92 = .ok (.ireturn, 1) := by decide +kernel
theorem dX12_next_32 : decode cX12_next 32 = .ok (.aload_n 0, 1) := by decide +kernel
theorem dX12_next_33 : decode cX12_next 33 = .ok (.invokevirtual 621, 3) := by decide +kernel
theorem dX12_next_36 : decode cX12_next 36 = .ok (.aload_n 0, 1) := by decide +kernel
theorem dX12_next_37 : decode cX12_next 37 = .ok (.iload 4, 2) := by decide +kernel
theorem dX12_next_39 : decode cX12_next 39 = .ok (.invokevirtual 630, 3) := by decide +kernel
theorem dX12_next_42 : decode cX12_next 42 = .ok (.isub, 1) := by decide +kernel
theorem dX12_next_43 : decode cX12_next 43 = .ok (.istore 5, 2) := by decide +kernel
theorem dX12_next_45 : decode cX12_next 45 = .ok (.iload 5, 2) := by decide +kernel
theorem dX12_next_47 : decode cX12_next 47 = .ok (.ifCond .le 38, 3) := by decide +kernel
theorem dX12_next_85 : decode cX12_next 85 = .ok (.iinc 4 1, 3) := by decide +kernel
theorem dX12_next_88 : decode cX12_next 88 = .ok (.goto (-65), 3) := by decide +kernel
theorem dX12_next_50 : decode cX12_next 50 = .ok (.iload 5, 2) := by decide +kernel
theorem dX12_next_52 : decode cX12_next 52 = .ok (.i2l, 1) := by decide +kernel
theorem dX12_next_53 : decode cX12_next 53 = .ok (.iload_n 3, 1) := by decide +kernel
theorem dX12_next_54 : decode cX12_next 54 = .ok (.i2l, 1) := by decide +kernel
theorem dX12_next_55 : decode cX12_next 55 = .ok (.lmul, 1) := by decide +kernel
theorem dX12_next_56 : decode cX12_next 56 = .ok (.iload_n 2, 1) := by decide +kernel
theorem dX12_next_57 : decode cX12_next 57 = .ok (.i2l, 1) := by decide +kernel
theorem dX12_next_58 : decode cX12_next 58 = .ok (.aload_n 0, 1) := by decide +kernel
theorem dX12_next_59 : decode cX12_next 59 = .ok (.getfield 281, 3) := by decide +kernel
theorem dX12_next_62 : decode cX12_next 62 = .ok (.iload 4, 2) := by decide +kernel
theorem dX12_next_64 : decode cX12_next 64 = .ok (.iaload, 1) := by decide +kernel
theorem dX12_next_65 : decode cX12_next 65 = .ok (.i2l, 1) := by decide +kernel
theorem dX12_next_66 : decode cX12_next 66 = .ok (.lmul, 1) := by decide +kernel
theorem dX12_next_67 : decode cX12_next 67 = .ok (.lcmp, 1) := by decide +kernel
theorem dX12_next_68 : decode cX12_next 68 = .ok (.ifCond .le 17, 3) := by decide +kernel
theorem dX12_next_71 : decode cX12_next 71 = .ok (.iload 4, 2) := by decide +kernel
theorem dX12_next_73 : decode cX12_next 73 = .ok (.istore_n 1, 1) := by decide +kernel
theorem dX12_next_74 : decode cX12_next 74 = .ok (.iload 5, 2) := by decide +kernel
theorem dX12_next_76 : decode cX12_next 76 = .ok (.istore_n 2, 1) := by decide +kernel
theorem dX12_next_77 : decode cX12_next 77 = .ok (.aload_n 0, 1) := by decide +kernel
theorem dX12_next_78 : decode cX12_next 78 = .ok (.getfield 281, 3) := by decide +kernel
theorem dX12_next_81 : decode cX12_next 81 = .ok (.iload 4, 2) := by decide +kernel
theorem dX12_next_83 : decode cX12_next 83 = .ok (.iaload, 1) := by decide +kernel
theorem dX12_next_84 : decode cX12_next 84 = .ok (.istore_n 3, 1) := by decide +kernel
theorem dX12_next_12 : decode cX12_next 12 = .ok (.iconst (-1), 1) := by decide +kernel
theorem dX12_next_13 : decode cX12_next 13 = .ok (.ireturn, 1) := by decide +kernel
abbrev cX12_sightsThat : ByteArray := prog_14_method_127_code
def yX12_sightsThat : MethodName := ⟨RX12, "sightsThat", "(I)I"⟩
theorem okX12_sightsThat : yok yX12_sightsThat 1 := by decide +kernel
theorem dX12_sightsThat_0 : decode cX12_sightsThat 0 = .ok (.iconst 0, 1) := by decide +kernel
theorem dX12_sightsThat_1 : decode cX12_sightsThat 1 = .ok (.istore_n 2, 1) := by decide +kernel
theorem dX12_sightsThat_2 : decode cX12_sightsThat 2 = .ok (.iconst 0, 1) := by decide +kernel
theorem dX12_sightsThat_3 : decode cX12_sightsThat 3 = .ok (.istore_n 3, 1) := by decide +kernel
theorem dX12_sightsThat_4 : decode cX12_sightsThat 4 = .ok (.iload_n 3, 1) := by decide +kernel
theorem dX12_sightsThat_5 : decode cX12_sightsThat 5 = .ok (.aload_n 0, 1) := by decide +kernel
theorem dX12_sightsThat_6 : decode cX12_sightsThat 6 = .ok (.getfield 423, 3) := by decide +kernel
theorem dX12_sightsThat_9 : decode cX12_sightsThat 9 = .ok (.if_icmp .ge 55, 3) := by decide +kernel
theorem dX12_sightsThat_64 : decode cX12_sightsThat 64 = .ok (.iload_n 2, 1) := by decide +kernel
theorem dX12_sightsThat_65 : decode cX12_sightsThat 65 = .ok (.ireturn, 1) := by decide +kernel
theorem dX12_sightsThat_12 : decode cX12_sightsThat 12 = .ok (.iload_n 2, 1) := by decide +kernel
theorem dX12_sightsThat_13 : decode cX12_sightsThat 13 = .ok (.iload_n 1, 1) := by decide +kernel
theorem dX12_sightsThat_14 : decode cX12_sightsThat 14 = .ok (.iconst 3, 1) := by decide +kernel
theorem dX12_sightsThat_15 : decode cX12_sightsThat 15 = .ok (.if_icmp .ne 20, 3) := by decide +kernel
theorem dX12_sightsThat_35 : decode cX12_sightsThat 35 = .ok (.aload_n 0, 1) := by decide +kernel
theorem dX12_sightsThat_36 : decode cX12_sightsThat 36 = .ok (.iload_n 3, 1) := by decide +kernel
theorem dX12_sightsThat_37 : decode cX12_sightsThat 37 = .ok (.invokevirtual 447, 3) := by decide +kernel
theorem dX12_sightsThat_40 : decode cX12_sightsThat 40 = .ok (.ifCond .eq 15, 3) := by decide +kernel
theorem dX12_sightsThat_55 : decode cX12_sightsThat 55 = .ok (.iconst 0, 1) := by decide +kernel
theorem dX12_sightsThat_56 : decode cX12_sightsThat 56 = .ok (.iadd, 1) := by decide +kernel
theorem dX12_sightsThat_57 : decode cX12_sightsThat 57 = .ok (.istore_n 2, 1) := by decide +kernel
theorem dX12_sightsThat_58 : decode cX12_sightsThat 58 = .ok (.iinc 3 1, 3) := by decide +kernel
theorem dX12_sightsThat_61 : decode cX12_sightsThat 61 = .ok (.goto (-57), 3) := by decide +kernel
theorem dX12_sightsThat_43 : decode cX12_sightsThat 43 = .ok (.aload_n 0, 1) := by decide +kernel
theorem dX12_sightsThat_44 : decode cX12_sightsThat 44 = .ok (.iload_n 3, 1) := by decide +kernel
theorem dX12_sightsThat_45 : decode cX12_sightsThat 45 = .ok (.invokevirtual 560, 3) := by decide +kernel
theorem kw_2083 : Cond.code yX12_quarrels prog_14_method_58_code 4 (some .boolean) ∈ uu := uu_in (i := 2083) (by decide +kernel) (by decide +kernel)
theorem kw_2080 : Cond.methodLink "LandSurveyModel" 560 yX12_quarrels ∈ uu := uu_in (i := 2080) (by decide +kernel) (by decide +kernel)
theorem kw_2082 : Cond.instanceMethod yX12_quarrels ∈ uu := uu_in (i := 2082) (by decide +kernel) (by decide +kernel)
theorem kw_121 : Cond.selects "LandSurveyModel" yX12_quarrels yX12_quarrels ∈ uu := uu_in (i := 121) (by decide +kernel) (by decide +kernel)
theorem lk_LandSurveyModel_560 : lkV "LandSurveyModel" 560 yX12_quarrels cX12_quarrels 4 (some .boolean) 1 := ⟨kw_2080, kw_2082, kw_121, kw_152, kw_2083, okX12_quarrels⟩
theorem dX12_sightsThat_48 : decode cX12_sightsThat 48 = .ok (.ifCond .eq 7, 3) := by decide +kernel
theorem dX12_sightsThat_51 : decode cX12_sightsThat 51 = .ok (.iconst 1, 1) := by decide +kernel
theorem dX12_sightsThat_52 : decode cX12_sightsThat 52 = .ok (.goto 4, 3) := by decide +kernel
theorem dX12_sightsThat_18 : decode cX12_sightsThat 18 = .ok (.aload_n 0, 1) := by decide +kernel
theorem dX12_sightsThat_19 : decode cX12_sightsThat 19 = .ok (.getfield 209, 3) := by decide +kernel
theorem dX12_sightsThat_22 : decode cX12_sightsThat 22 = .ok (.iload_n 3, 1) := by decide +kernel
theorem dX12_sightsThat_23 : decode cX12_sightsThat 23 = .ok (.baload, 1) := by decide +kernel
theorem dX12_sightsThat_24 : decode cX12_sightsThat 24 = .ok (.ifCond .eq 7, 3) := by decide +kernel
theorem dX12_sightsThat_31 : decode cX12_sightsThat 31 = .ok (.iconst 0, 1) := by decide +kernel
theorem dX12_sightsThat_32 : decode cX12_sightsThat 32 = .ok (.goto 24, 3) := by decide +kernel
theorem dX12_sightsThat_27 : decode cX12_sightsThat 27 = .ok (.iconst 1, 1) := by decide +kernel
theorem dX12_sightsThat_28 : decode cX12_sightsThat 28 = .ok (.goto 28, 3) := by decide +kernel
abbrev cX12_cellsOfOne : ByteArray := prog_14_method_128_code
def yX12_cellsOfOne : MethodName := ⟨RX12, "cellsOfOne", "()I"⟩
theorem okX12_cellsOfOne : yok yX12_cellsOfOne 0 := by decide +kernel
theorem dX12_cellsOfOne_0 : decode cX12_cellsOfOne 0 = .ok (.iconst 0, 1) := by decide +kernel
theorem dX12_cellsOfOne_1 : decode cX12_cellsOfOne 1 = .ok (.istore_n 1, 1) := by decide +kernel
theorem dX12_cellsOfOne_2 : decode cX12_cellsOfOne 2 = .ok (.iconst 0, 1) := by decide +kernel
theorem dX12_cellsOfOne_3 : decode cX12_cellsOfOne 3 = .ok (.istore_n 2, 1) := by decide +kernel
theorem dX12_cellsOfOne_4 : decode cX12_cellsOfOne 4 = .ok (.iload_n 2, 1) := by decide +kernel
theorem dX12_cellsOfOne_5 : decode cX12_cellsOfOne 5 = .ok (.bipush 96, 2) := by decide +kernel
theorem dX12_cellsOfOne_7 : decode cX12_cellsOfOne 7 = .ok (.if_icmp .ge 36, 3) := by decide +kernel
theorem dX12_cellsOfOne_43 : decode cX12_cellsOfOne 43 = .ok (.iload_n 1, 1) := by decide +kernel
theorem dX12_cellsOfOne_44 : decode cX12_cellsOfOne 44 = .ok (.ireturn, 1) := by decide +kernel
theorem dX12_cellsOfOne_10 : decode cX12_cellsOfOne 10 = .ok (.iload_n 1, 1) := by decide +kernel
theorem dX12_cellsOfOne_11 : decode cX12_cellsOfOne 11 = .ok (.aload_n 0, 1) := by decide +kernel
theorem dX12_cellsOfOne_12 : decode cX12_cellsOfOne 12 = .ok (.getfield 546, 3) := by decide +kernel
theorem dX12_cellsOfOne_15 : decode cX12_cellsOfOne 15 = .ok (.ifCond .le 19, 3) := by decide +kernel
theorem dX12_cellsOfOne_34 : decode cX12_cellsOfOne 34 = .ok (.iconst 0, 1) := by decide +kernel
theorem dX12_cellsOfOne_35 : decode cX12_cellsOfOne 35 = .ok (.iadd, 1) := by decide +kernel
theorem dX12_cellsOfOne_36 : decode cX12_cellsOfOne 36 = .ok (.istore_n 1, 1) := by decide +kernel
theorem dX12_cellsOfOne_37 : decode cX12_cellsOfOne 37 = .ok (.iinc 2 1, 3) := by decide +kernel
theorem dX12_cellsOfOne_40 : decode cX12_cellsOfOne 40 = .ok (.goto (-36), 3) := by decide +kernel
theorem dX12_cellsOfOne_18 : decode cX12_cellsOfOne 18 = .ok (.aload_n 0, 1) := by decide +kernel
theorem dX12_cellsOfOne_19 : decode cX12_cellsOfOne 19 = .ok (.iload_n 2, 1) := by decide +kernel
theorem dX12_cellsOfOne_20 : decode cX12_cellsOfOne 20 = .ok (.iconst 0, 1) := by decide +kernel
theorem dX12_cellsOfOne_21 : decode cX12_cellsOfOne 21 = .ok (.invokevirtual 575, 3) := by decide +kernel
theorem dX12_cellsOfOne_24 : decode cX12_cellsOfOne 24 = .ok (.invokestatic 578, 3) := by decide +kernel
theorem dX12_cellsOfOne_27 : decode cX12_cellsOfOne 27 = .ok (.ifCond .eq 7, 3) := by decide +kernel
theorem dX12_cellsOfOne_30 : decode cX12_cellsOfOne 30 = .ok (.iconst 1, 1) := by decide +kernel
theorem dX12_cellsOfOne_31 : decode cX12_cellsOfOne 31 = .ok (.goto 4, 3) := by decide +kernel
def wr_k_X12_deep : List Nat := [2400, 2435, 2462, 2469, 2477, 2478, 26220000, 26420000, 30620200, 30820000, 31020000, 31220000, 32620000, 32820000, 33020000, 33220000, 33420000, 33620000, 34020200, 34220000, 34420400, 34620200, 34820200, 35020000, 35220000]
set_option maxRecDepth 100000 in
set_option maxHeartbeats 4000000 in
theorem k_X12_deep (l : Launch) (D : va_G) (cy : Nat → ClassId) (w : Nat → Nat) (z0 : Nat)  {h : Hp} {a0 : Nat} {a1 : Int} {a2 : Int} {a3 : Int} {a4 : Int}  (O : Okh h) (ta0 : Tg h a0 = 12) (fa1 : (-2147483648) ≤ a1 ∧ a1 ≤ 2147483647) (fa2 : (-2147483648) ≤ a2 ∧ a2 ≤ 2147483647) (fa3 : (-2147483648) ≤ a3 ∧ a3 ≤ 2147483647) (fa4 : (-2147483648) ≤ a4 ∧ a4 ≤ 2147483647) (P_MInv : MInv h a0) : MI l D cy w z0 yX12_deep cX12_deep 5 (some .int) 11 278 0 0 [.inr (.inr a0), .inl a1, .inl a2, .inl a3, .inl a4] h (fun v h1 => Okh h1 ∧ Fx wr_k_X12_deep h h1 ∧ ((-2147483648) ≤ v ∧ v ≤ 2147483647)) := by
  refine hm_go (by decide +kernel) (Nat.le_of_ble_eq_true rfl) (fun p e s m below meth c C hr hn => ?_)
  refine g_aload_n C rfl 0 rfl dX12_deep_0 ?_
  refine g_iconst C dX12_deep_1 ?_
  refine gp_I C fk_LandSurveyModel_1 pk_LandSurveyModel_0 rfl ta0 (iw (il 1) (by decide) (by decide)) (nf_i _) dX12_deep_2 (fun h2 hh1 => ?_)
  have O3 := O.pI ta0 hh1 rI_12_0 (iw (il 1) (by decide) (by decide)) nofun
  refine g_iload_n C rfl 1 rfl dX12_deep_5 ?_
  refine g_iload_n C rfl 2 rfl dX12_deep_6 ?_
  refine g_callI (st := []) (gc_S C lk_LandSurveyModel_419 (k_X12_isCell l D cy w z0 O3 fa1 fa2) rfl ⟨by decide, by decide⟩ (Nat.le_of_ble_eq_true rfl) dX12_deep_7 ⟨(by decide), (by decide)⟩) (fun r4 h5 f7 K6 => ?_)
  obtain ⟨O8, F9, f10, p11⟩ := K6
  refine g_if_eq C (iw f10 (by decide) (by decide)) 37 (by decide) dX12_deep_10 (fun q12 => ?_) (fun q13 => ?_)
  · have f14 : (0 : Int) ≤ r4 ∧ r4 ≤ (0 : Int) := ii f10 (r_eq (il 0) q12) (by decide) (by decide)
    refine g_iconst C dX12_deep_37 ?_
    exact g_iret C hr rfl (iw (il 0) (by decide) (by decide)) ⟨O8, (((Fx.rf (wr := wr_k_X12_deep)).pI ta0 hh1 rfl).call F9 rfl), (iw (il 0) (by decide) (by decide))⟩ (by decide) (by decide) dX12_deep_38
  · have f15 : (1 : Int) ≤ r4 ∧ r4 ≤ (1 : Int) := r_nl f10 q13
    have f16 : (0 : Int) ≤ a1 ∧ a1 ≤ (11 : Int) := by omega
    have f17 : (0 : Int) ≤ a2 ∧ a2 ≤ (7 : Int) := by omega
    refine g_iload_n C rfl 3 rfl dX12_deep_13 ?_
    refine g_iconst C dX12_deep_14 ?_
    refine g_aload_n C rfl 0 rfl dX12_deep_15 ?_
    have e18 : Tg h5 a0 = 12 := (fxT F9 ((pIT hh1).trans ta0))
    refine g_callI (st := [.inl 0, .inl a3]) (gc_V C lk_LandSurveyModel_453 (k_X12_rocksNow l D cy w z0 O8 e18) e18 rfl rfl rfl ⟨by decide, by decide⟩ (Nat.le_of_ble_eq_true rfl) dX12_deep_16 ⟨(by decide), (by decide)⟩) (fun r19 h20 f22 K21 => ?_)
    obtain ⟨O23, F24, f25, p26⟩ := K21
    obtain ⟨v27, e28⟩ : ∃ z, BNow h5 a0 = z := ⟨_, rfl⟩
    have f29 : (-1 : Int) ≤ v27 ∧ v27 ≤ (7 : Int) := BNow_rng O8 e18 e28
    rw [e28] at p26
    refine g_iconst C dX12_deep_19 ?_
    have f30 : (-1 : Int) ≤ (r19 - 1) ∧ (r19 - 1) ≤ (9 : Int) := ia_sub f25 (il 1) (by decide) (by decide)
    refine g_isub C dX12_deep_20 ?_
    refine g_callI (st := []) (gc_S C lk_LandSurveyModel_415 (k_X12_within l D cy w z0 O23 fa3 (iw (il 0) (by decide) (by decide)) (iw f30 (by decide) (by decide))) rfl ⟨by decide, by decide⟩ (Nat.le_of_ble_eq_true rfl) dX12_deep_21 ⟨(by decide), (by decide)⟩) (fun r31 h32 f34 K33 => ?_)
    obtain ⟨O35, F36, f37, p38⟩ := K33
    refine g_if_eq C (iw f37 (by decide) (by decide)) 37 (by decide) dX12_deep_24 (fun q39 => ?_) (fun q40 => ?_)
    · have f41 : (0 : Int) ≤ r31 ∧ r31 ≤ (0 : Int) := ii f37 (r_eq (il 0) q39) (by decide) (by decide)
      refine g_iconst C dX12_deep_37 ?_
      exact g_iret C hr rfl (iw (il 0) (by decide) (by decide)) ⟨O35, (((((Fx.rf (wr := wr_k_X12_deep)).pI ta0 hh1 rfl).call F9 rfl).call F24 rfl).call F36 rfl), (iw (il 0) (by decide) (by decide))⟩ (by decide) (by decide) dX12_deep_38
    · have f42 : (1 : Int) ≤ r31 ∧ r31 ≤ (1 : Int) := r_nl f37 q40
      have f43 : (0 : Int) ≤ a3 ∧ a3 ≤ (9 : Int) := by omega
      refine g_iload C 4 rfl dX12_deep_27 ?_
      refine g_iconst C dX12_deep_29 ?_
      refine g_iconst C dX12_deep_30 ?_
      refine g_callI (st := []) (gc_S C lk_LandSurveyModel_415 (k_X12_within l D cy w z0 O35 fa4 (iw (il 0) (by decide) (by decide)) (iw (il 1) (by decide) (by decide))) rfl ⟨by decide, by decide⟩ (Nat.le_of_ble_eq_true rfl) dX12_deep_31 ⟨(by decide), (by decide)⟩) (fun r44 h45 f47 K46 => ?_)
      obtain ⟨O48, F49, f50, p51⟩ := K46
      refine g_if_ne C (iw f50 (by decide) (by decide)) 39 (by decide) dX12_deep_34 (fun q52 => ?_) (fun q53 => ?_)
      · have f54 : (1 : Int) ≤ r44 ∧ r44 ≤ (1 : Int) := r_nl f50 q52
        have f55 : (0 : Int) ≤ a4 ∧ a4 ≤ (1 : Int) := by omega
        refine g_aload_n C rfl 0 rfl dX12_deep_39 ?_
        have e56 : Tg h45 a0 = 12 := (fxT F49 (fxT F36 (fxT F24 e18)))
        have e57 : Tg h2 a0 = 12 := ((pIT hh1).trans ta0)
        have e58 : Tg h20 a0 = 12 := (fxT F24 e18)
        have e59 : Tg h32 a0 = 12 := (fxT F36 e58)
        have p60 := (MInv_fx O35 F49 e59 rfl (MInv_fx O23 F36 e58 rfl (MInv_fx O8 F24 e18 rfl (MInv_fx O3 F9 e57 rfl (MInv_fx O ((Fx.rf (wr := [2400]) (h := h)).pI ta0 hh1 rfl) ta0 rfl P_MInv)))))
        refine g_callV (st := []) (gc_V C lk_LandSurveyModel_557 (k_X12_findGrounds l D cy w z0 O48 e56 p60) e56 rfl rfl rfl ⟨by decide, by decide⟩ (Nat.le_of_ble_eq_true rfl) dX12_deep_40 ⟨(by decide), (by decide)⟩) (fun h62 K63 => ?_)
        obtain ⟨O65, F66⟩ := K63
        refine g_aload_n C rfl 0 rfl dX12_deep_43 ?_
        refine g_aload_n C rfl 0 rfl dX12_deep_44 ?_
        have e67 : Tg h62 a0 = 12 := (fxT F66 e56)
        refine g_callI (st := [.inr (.inr a0)]) (gc_V C lk_LandSurveyModel_588 (k_X12_areKnown l D cy w z0 O65 e67) e67 rfl rfl rfl ⟨by decide, by decide⟩ (Nat.le_of_ble_eq_true rfl) dX12_deep_45 ⟨(by decide), (by decide)⟩) (fun r68 h69 f71 K70 => ?_)
        obtain ⟨O72, F73, f74⟩ := K70
        refine g_if_eq C (iw f74 (by decide) (by decide)) 55 (by decide) dX12_deep_48 (fun q75 => ?_) (fun q76 => ?_)
        · have f77 : (0 : Int) ≤ r68 ∧ r68 ≤ (0 : Int) := ii f74 (r_eq (il 0) q75) (by decide) (by decide)
          refine g_iconst C dX12_deep_55 ?_
          have e78 : Tg h69 a0 = 12 := (fxT F73 e67)
          refine gp_I C fk_LandSurveyModel_1 pk_LandSurveyModel_0 rfl e78 (iw (il 1) (by decide) (by decide)) (nf_i _) dX12_deep_56 (fun h80 hh79 => ?_)
          have O81 := O72.pI e78 hh79 rI_12_0 (iw (il 1) (by decide) (by decide)) nofun
          refine g_aload_n C rfl 0 rfl dX12_deep_59 ?_
          have e82 : Tg h80 a0 = 12 := ((pIT hh79).trans e78)
          refine gf_I C fk_LandSurveyModel_1 rfl e82 (pI_e hh79) dX12_deep_60 ?_
          refine g_if_le C (iw (il 1) (by decide) (by decide)) 70 (by decide) dX12_deep_63 (fun q83 => ?_) (fun q84 => ?_)
          · exact (no_le (il 1) (il 0) q83 (by decide)).elim
          · refine g_iconst C dX12_deep_66 ?_
            refine g_goto C 100 (by decide) dX12_deep_67 ?_
            exact g_iret C hr rfl (iw (il 0) (by decide) (by decide)) ⟨O81, (((((((((Fx.rf (wr := wr_k_X12_deep)).pI ta0 hh1 rfl).call F9 rfl).call F24 rfl).call F36 rfl).call F49 rfl).call F66 rfl).call F73 rfl).pI e78 hh79 rfl), (iw (il 0) (by decide) (by decide))⟩ (by decide) (by decide) dX12_deep_100
        · have f85 : (1 : Int) ≤ r68 ∧ r68 ≤ (1 : Int) := r_nl f74 q76
          refine g_iconst C dX12_deep_51 ?_
          refine g_goto C 56 (by decide) dX12_deep_52 ?_
          have e86 : Tg h69 a0 = 12 := (fxT F73 e67)
          refine gp_I C fk_LandSurveyModel_1 pk_LandSurveyModel_0 rfl e86 (iw (il 0) (by decide) (by decide)) (nf_i _) dX12_deep_56 (fun h88 hh87 => ?_)
          have O89 := O72.pI e86 hh87 rI_12_0 (iw (il 0) (by decide) (by decide)) nofun
          refine g_aload_n C rfl 0 rfl dX12_deep_59 ?_
          have e90 : Tg h88 a0 = 12 := ((pIT hh87).trans e86)
          refine gf_I C fk_LandSurveyModel_1 rfl e90 (pI_e hh87) dX12_deep_60 ?_
          refine g_if_le C (iw (il 0) (by decide) (by decide)) 70 (by decide) dX12_deep_63 (fun q91 => ?_) (fun q92 => ?_)
          · refine g_iload C 4 rfl dX12_deep_70 ?_
            refine g_if_ne C (iw f55 (by decide) (by decide)) 89 (by decide) dX12_deep_72 (fun q93 => ?_) (fun q94 => ?_)
            · have f95 : (1 : Int) ≤ a4 ∧ a4 ≤ (1 : Int) := r_nl f55 q93
              refine g_aload_n C rfl 0 rfl dX12_deep_89 ?_
              refine g_iload_n C rfl 3 rfl dX12_deep_90 ?_
              refine g_bipush C (by decide) dX12_deep_91 ?_
              refine g_iload_n C rfl 2 rfl dX12_deep_93 ?_
              have f96 : (0 : Int) ≤ (12 * a2) ∧ (12 * a2) ≤ (84 : Int) := ia_mul (by decide) f17 (by decide) (by decide)
              refine g_imul C dX12_deep_94 ?_
              refine g_iload_n C rfl 1 rfl dX12_deep_95 ?_
              have f97 : (0 : Int) ≤ ((12 * a2) + a1) ∧ ((12 * a2) + a1) ≤ (95 : Int) := ia_add f96 f16 (by decide) (by decide)
              refine g_iadd C dX12_deep_96 ?_
              have p98 := ((BNow_fx O72 ((Fx.rf (wr := [2400]) (h := h69)).pI e86 hh87 rfl) e86 rfl).trans ((BNow_fx O65 F73 e67 rfl).trans ((BNow_fx O48 F66 e56 rfl).trans ((BNow_fx O35 F49 e59 rfl).trans ((BNow_fx O23 F36 e58 rfl).trans ((BNow_fx O8 F24 e18 rfl).trans e28))))))
              refine g_callI (st := []) (gc_V C lk_LandSurveyModel_594 (k_X12_topTo l D cy w z0 O89 e90 f43 f97 (by rw [p98]; omega)) e90 rfl rfl rfl ⟨by decide, by decide⟩ (Nat.le_of_ble_eq_true rfl) dX12_deep_97 ⟨(by decide), (by decide)⟩) (fun r99 h100 f102 K101 => ?_)
              obtain ⟨O103, F104, f105⟩ := K101
              exact g_iret C hr rfl f105 ⟨O103, ((((((((((Fx.rf (wr := wr_k_X12_deep)).pI ta0 hh1 rfl).call F9 rfl).call F24 rfl).call F36 rfl).call F49 rfl).call F66 rfl).call F73 rfl).pI e86 hh87 rfl).call F104 rfl), f105⟩ (by decide) (by decide) dX12_deep_100
            · have f106 : (0 : Int) ≤ a4 ∧ a4 ≤ (0 : Int) := ii f55 (r_eq (il 0) q94) (by decide) (by decide)
              refine g_aload_n C rfl 0 rfl dX12_deep_75 ?_
              refine g_iload_n C rfl 3 rfl dX12_deep_76 ?_
              refine g_bipush C (by decide) dX12_deep_77 ?_
              refine g_iload_n C rfl 2 rfl dX12_deep_79 ?_
              have f107 : (0 : Int) ≤ (12 * a2) ∧ (12 * a2) ≤ (84 : Int) := ia_mul (by decide) f17 (by decide) (by decide)
              refine g_imul C dX12_deep_80 ?_
              refine g_iload_n C rfl 1 rfl dX12_deep_81 ?_
              have f108 : (0 : Int) ≤ ((12 * a2) + a1) ∧ ((12 * a2) + a1) ≤ (95 : Int) := ia_add f107 f16 (by decide) (by decide)
              refine g_iadd C dX12_deep_82 ?_
              have p109 := ((BNow_fx O72 ((Fx.rf (wr := [2400]) (h := h69)).pI e86 hh87 rfl) e86 rfl).trans ((BNow_fx O65 F73 e67 rfl).trans ((BNow_fx O48 F66 e56 rfl).trans ((BNow_fx O35 F49 e59 rfl).trans ((BNow_fx O23 F36 e58 rfl).trans ((BNow_fx O8 F24 e18 rfl).trans e28))))))
              refine g_callI (st := []) (gc_V C lk_LandSurveyModel_591 (k_X12_topFrom l D cy w z0 O89 e90 f43 f108 (by rw [p109]; omega)) e90 rfl rfl rfl ⟨by decide, by decide⟩ (Nat.le_of_ble_eq_true rfl) dX12_deep_83 ⟨(by decide), (by decide)⟩) (fun r110 h111 f113 K112 => ?_)
              obtain ⟨O114, F115, f116⟩ := K112
              refine g_goto C 100 (by decide) dX12_deep_86 ?_
              exact g_iret C hr rfl f116 ⟨O114, ((((((((((Fx.rf (wr := wr_k_X12_deep)).pI ta0 hh1 rfl).call F9 rfl).call F24 rfl).call F36 rfl).call F49 rfl).call F66 rfl).call F73 rfl).pI e86 hh87 rfl).call F115 rfl), f116⟩ (by decide) (by decide) dX12_deep_100
          · exact (no_lt (il 0) (il 0) q92 (by decide)).elim
      · have f117 : (0 : Int) ≤ r44 ∧ r44 ≤ (0 : Int) := ii f50 (r_eq (il 0) q53) (by decide) (by decide)
        refine g_iconst C dX12_deep_37 ?_
        exact g_iret C hr rfl (iw (il 0) (by decide) (by decide)) ⟨O48, ((((((Fx.rf (wr := wr_k_X12_deep)).pI ta0 hh1 rfl).call F9 rfl).call F24 rfl).call F36 rfl).call F49 rfl), (iw (il 0) (by decide) (by decide))⟩ (by decide) (by decide) dX12_deep_38
def wr_k_X12_water : List Nat := [2400, 2435, 2462, 2469, 2477, 2478, 26220000, 26420000, 30620200, 30820000, 31020000, 31220000, 32620000, 32820000, 33020000, 33220000, 33420000, 33620000, 34020200, 34220000, 34420400, 34620200, 34820200, 35020000, 35220000]
set_option maxRecDepth 100000 in
set_option maxHeartbeats 4000000 in
theorem k_X12_water (l : Launch) (D : va_G) (cy : Nat → ClassId) (w : Nat → Nat) (z0 : Nat)  {h : Hp} {a0 : Nat} {a1 : Int} {a2 : Int} {a3 : Int}  (O : Okh h) (ta0 : Tg h a0 = 12) (fa1 : (-2147483648) ≤ a1 ∧ a1 ≤ 2147483647) (fa2 : (-2147483648) ≤ a2 ∧ a2 ≤ 2147483647) (fa3 : (-2147483648) ≤ a3 ∧ a3 ≤ 2147483647) (P_MInv : MInv h a0) : MI l D cy w z0 yX12_water cX12_water 10 (some .int) 11 278 0 0 [.inr (.inr a0), .inl a1, .inl a2, .inl a3] h (fun v h1 => Okh h1 ∧ Fx wr_k_X12_water h h1 ∧ ((-2147483648) ≤ v ∧ v ≤ 2147483647)) := by
  refine hm_go (by decide +kernel) (Nat.le_of_ble_eq_true rfl) (fun p e s m below meth c C hr hn => ?_)
  refine g_aload_n C rfl 0 rfl dX12_water_0 ?_
  refine g_iconst C dX12_water_1 ?_
  refine gp_I C fk_LandSurveyModel_1 pk_LandSurveyModel_0 rfl ta0 (iw (il 0) (by decide) (by decide)) (nf_i _) dX12_water_2 (fun h2 hh1 => ?_)
  have O3 := O.pI ta0 hh1 rI_12_0 (iw (il 0) (by decide) (by decide)) nofun
  refine g_iload_n C rfl 1 rfl dX12_water_5 ?_
  refine g_iload_n C rfl 2 rfl dX12_water_6 ?_
  refine g_callI (st := []) (gc_S C lk_LandSurveyModel_419 (k_X12_isCell l D cy w z0 O3 fa1 fa2) rfl ⟨by decide, by decide⟩ (Nat.le_of_ble_eq_true rfl) dX12_water_7 ⟨(by decide), (by decide)⟩) (fun r4 h5 f7 K6 => ?_)
  obtain ⟨O8, F9, f10, p11⟩ := K6
  refine g_if_eq C (iw f10 (by decide) (by decide)) 22 (by decide) dX12_water_10 (fun q12 => ?_) (fun q13 => ?_)
  · have f14 : (0 : Int) ≤ r4 ∧ r4 ≤ (0 : Int) := ii f10 (r_eq (il 0) q12) (by decide) (by decide)
    refine g_iconst C dX12_water_22 ?_
    exact g_iret C hr rfl (iw (il (-1)) (by decide) (by decide)) ⟨O8, (((Fx.rf (wr := wr_k_X12_water)).pI ta0 hh1 rfl).call F9 rfl), (iw (il (-1)) (by decide) (by decide))⟩ (by decide) (by decide) dX12_water_23
  · have f15 : (1 : Int) ≤ r4 ∧ r4 ≤ (1 : Int) := r_nl f10 q13
    have f16 : (0 : Int) ≤ a1 ∧ a1 ≤ (11 : Int) := by omega
    have f17 : (0 : Int) ≤ a2 ∧ a2 ≤ (7 : Int) := by omega
    refine g_iload_n C rfl 3 rfl dX12_water_13 ?_
    refine g_iconst C dX12_water_14 ?_
    refine g_iconst C dX12_water_15 ?_
    refine g_callI (st := []) (gc_S C lk_LandSurveyModel_415 (k_X12_within l D cy w z0 O8 fa3 (iw (il 0) (by decide) (by decide)) (iw (il 1) (by decide) (by decide))) rfl ⟨by decide, by decide⟩ (Nat.le_of_ble_eq_true rfl) dX12_water_16 ⟨(by decide), (by decide)⟩) (fun r18 h19 f21 K20 => ?_)
    obtain ⟨O22, F23, f24, p25⟩ := K20
    refine g_if_ne C (iw f24 (by decide) (by decide)) 24 (by decide) dX12_water_19 (fun q26 => ?_) (fun q27 => ?_)
    · have f28 : (1 : Int) ≤ r18 ∧ r18 ≤ (1 : Int) := r_nl f24 q26
      have f29 : (0 : Int) ≤ a3 ∧ a3 ≤ (1 : Int) := by omega
      refine g_aload_n C rfl 0 rfl dX12_water_24 ?_
      have e30 : Tg h19 a0 = 12 := (fxT F23 (fxT F9 ((pIT hh1).trans ta0)))
      have e31 : Tg h2 a0 = 12 := ((pIT hh1).trans ta0)
      have e32 : Tg h5 a0 = 12 := (fxT F9 e31)
      have p33 := (MInv_fx O8 F23 e32 rfl (MInv_fx O3 F9 e31 rfl (MInv_fx O ((Fx.rf (wr := [2400]) (h := h)).pI ta0 hh1 rfl) ta0 rfl P_MInv)))
      refine g_callV (st := []) (gc_V C lk_LandSurveyModel_557 (k_X12_findGrounds l D cy w z0 O22 e30 p33) e30 rfl rfl rfl ⟨by decide, by decide⟩ (Nat.le_of_ble_eq_true rfl) dX12_water_25 ⟨(by decide), (by decide)⟩) (fun h35 K36 => ?_)
      obtain ⟨O38, F39⟩ := K36
      refine g_aload_n C rfl 0 rfl dX12_water_28 ?_
      have e40 : Tg h35 a0 = 12 := (fxT F39 e30)
      refine g_callI (st := []) (gc_V C lk_LandSurveyModel_588 (k_X12_areKnown l D cy w z0 O38 e40) e40 rfl rfl rfl ⟨by decide, by decide⟩ (Nat.le_of_ble_eq_true rfl) dX12_water_29 ⟨(by decide), (by decide)⟩) (fun r41 h42 f44 K43 => ?_)
      obtain ⟨O45, F46, f47⟩ := K43
      refine g_if_ne C (iw f47 (by decide) (by decide)) 37 (by decide) dX12_water_32 (fun q48 => ?_) (fun q49 => ?_)
      · have f50 : (1 : Int) ≤ r41 ∧ r41 ≤ (1 : Int) := r_nl f47 q48
        refine g_bipush C (by decide) dX12_water_37 ?_
        refine g_iload_n C rfl 2 rfl dX12_water_39 ?_
        have f51 : (0 : Int) ≤ (12 * a2) ∧ (12 * a2) ≤ (84 : Int) := ia_mul (by decide) f17 (by decide) (by decide)
        refine g_imul C dX12_water_40 ?_
        refine g_iload_n C rfl 1 rfl dX12_water_41 ?_
        have f52 : (0 : Int) ≤ ((12 * a2) + a1) ∧ ((12 * a2) + a1) ≤ (95 : Int) := ia_add f51 f16 (by decide) (by decide)
        refine g_iadd C dX12_water_42 ?_
        refine g_istore C [(4, .inl ((12 * a2) + a1)), (0, .inr (.inr a0)), (1, .inl a1), (2, .inl a2), (3, .inl a3)] (by decide) rfl dX12_water_43 ?_
        refine g_aload_n C rfl 1 rfl dX12_water_45 ?_
        have e53 : Tg h42 a0 = 12 := (fxT F46 e40)
        refine g_callI (st := []) (gc_V C lk_LandSurveyModel_453 (k_X12_rocksNow l D cy w z0 O45 e53) e53 rfl rfl rfl ⟨by decide, by decide⟩ (Nat.le_of_ble_eq_true rfl) dX12_water_46 ⟨(by decide), (by decide)⟩) (fun r54 h55 f57 K56 => ?_)
        obtain ⟨O58, F59, f60, p61⟩ := K56
        obtain ⟨v62, e63⟩ : ∃ z, BNow h42 a0 = z := ⟨_, rfl⟩
        have f64 : (-1 : Int) ≤ v62 ∧ v62 ≤ (7 : Int) := BNow_rng O45 e53 e63
        rw [e63] at p61
        refine g_istore C [(5, .inl r54), (4, .inl ((12 * a2) + a1)), (0, .inr (.inr a0)), (1, .inl a1), (2, .inl a2), (3, .inl a3)] (by decide) rfl dX12_water_49 ?_
        refine g_iconst C dX12_water_51 ?_
        refine g_istore C [(6, .inl 0), (5, .inl r54), (4, .inl ((12 * a2) + a1)), (0, .inr (.inr a0)), (1, .inl a1), (2, .inl a2), (3, .inl a3)] (by decide) rfl dX12_water_52 ?_
        refine GW.sub [3, 4, 5, 6, 2, 1, 0] rfl ?_
        -- loop at 54
        have L67 : ∀ (μ : Nat) (x65 : Int) (h66 : Hp), (10 - x65).toNat = μ → Okh h66 → Fx [] h55 h66 → ((0 : Int) ≤ x65 ∧ x65 ≤ (10 : Int)) → GW p l e (rmm 11 278 0 0) s m (List.map toV [.inr (.inr a0), .inl a1, .inl a2, .inl a3]).toArray below meth c D cy z0 10 (MQ below (QI D cy z0 (fun v h1 => Okh h1 ∧ Fx wr_k_X12_water h h1 ∧ ((-2147483648) ≤ v ∧ v ≤ 2147483647))) (List.map toV [.inr (.inr a0), .inl a1, .inl a2, .inl a3]).toArray s 0 0 (Aof z0)) 54 [(0, .inr (.inr a0)), (1, .inl a1), (2, .inl a2), (3, .inl a3), (4, .inl ((12 * a2) + a1)), (5, .inl r54), (6, .inl x65)] [] h66 0 0 := by
          intro μ
          induction μ using Nat.strongRecOn with
          | ind μ ih68 =>
            intro x65 h66 hm69 O70 F71 f72
            refine g_iload C 6 rfl dX12_water_54 ?_
            refine g_iconst C dX12_water_56 ?_
            have f73 : (1 : Int) ≤ (x65 + 1) ∧ (x65 + 1) ≤ (11 : Int) := ia_add f72 (il 1) (by decide) (by decide)
            refine g_iadd C dX12_water_57 ?_
            refine g_iload C 5 rfl dX12_water_58 ?_
            refine g_icmp_ge C (iw f73 (by decide) (by decide)) (iw f60 (by decide) (by decide)) 186 (by decide) dX12_water_60 (fun q74 => ?_) (fun q75 => ?_)
            · refine g_iconst C dX12_water_186 ?_
              exact g_iret C hr rfl (iw (il (-1)) (by decide) (by decide)) ⟨O70, ((((((((Fx.rf (wr := wr_k_X12_water)).pI ta0 hh1 rfl).call F9 rfl).call F23 rfl).call F39 rfl).call F46 rfl).call F59 rfl).call F71 rfl), (iw (il (-1)) (by decide) (by decide))⟩ (by decide) (by decide) dX12_water_187
            · have f76 : (1 : Int) ≤ (x65 + 1) ∧ (x65 + 1) ≤ (9 : Int) := r_lt f73 f60 q75 (by decide) (by decide)
              have f77 : (0 : Int) ≤ x65 ∧ x65 ≤ (8 : Int) := (ii f72 (sh_a (c := 1) (l := 0) (u := 8) f76 (by decide) (by decide)) (by decide) (by decide))
              have f78 : (2 : Int) ≤ r54 ∧ r54 ≤ (10 : Int) := r_gt f60 f73 q75 (by decide) (by decide)
              refine g_aload_n C rfl 0 rfl dX12_water_63 ?_
              have e79 : Tg h66 a0 = 12 := (fxT F71 (fxT F59 e53))
              obtain ⟨v80, e81⟩ : ∃ z, Rv h66 a0 38 = z := ⟨_, rfl⟩
              have t82 := ok_R O70 e79 rE_12_38 e81
              have l83 := ok_L O70 e79 rE_12_38 e81
              refine gf_R C fk_LandSurveyModel_167 rfl e79 e81 dX12_water_64 ?_
              refine g_iload C 4 rfl dX12_water_67 ?_
              obtain ⟨v84, e85⟩ : ∃ z, Iv h66 v80 (((12 * a2) + a1).toNat) = z := ⟨_, rfl⟩
              have f86 := ok_Ia O70 t82 ar_138101 rI_138101_0 e85
              refine g_zald C t82 rfl l83 (ix f52 (by decide) (by decide)) e85 dX12_water_69 ?_
              refine g_if_eq C (iw f86 (by decide) (by decide)) 83 (by decide) dX12_water_70 (fun q87 => ?_) (fun q88 => ?_)
              · have f89 : (0 : Int) ≤ v84 ∧ v84 ≤ (0 : Int) := ii f86 (r_eq (il 0) q87) (by decide) (by decide)
                refine g_iload C 6 rfl dX12_water_83 ?_
                refine g_istore C [(7, .inl x65), (0, .inr (.inr a0)), (1, .inl a1), (2, .inl a2), (3, .inl a3), (4, .inl ((12 * a2) + a1)), (5, .inl r54), (6, .inl x65)] (by decide) rfl dX12_water_85 ?_
                refine g_aload_n C rfl 1 rfl dX12_water_87 ?_
                refine gf_R C fk_LandSurveyModel_167 rfl e79 e81 dX12_water_88 ?_
                refine g_iload C 5 rfl dX12_water_91 ?_
                refine g_zald C t82 rfl l83 (ix f52 (by decide) (by decide)) e85 dX12_water_93 ?_
                refine g_if_eq C (iw f89 (by decide) (by decide)) 104 (by decide) dX12_water_94 (fun q90 => ?_) (fun q91 => ?_)
                · refine g_iload C 0 rfl dX12_water_104 ?_
                  refine g_iconst C dX12_water_106 ?_
                  refine g_iadd C dX12_water_107 ?_
                  refine g_istore C [(8, .inl (x65 + 1)), (7, .inl x65), (0, .inr (.inr a0)), (1, .inl a1), (2, .inl a2), (3, .inl a3), (4, .inl ((12 * a2) + a1)), (5, .inl r54), (6, .inl x65)] (by decide) rfl dX12_water_108 ?_
                  refine g_bipush C (by decide) dX12_water_110 ?_
                  refine g_aload_n C rfl 2 rfl dX12_water_112 ?_
                  refine g_callI (st := [.inl 10]) (gc_V C lk_LandSurveyModel_432 (k_X12_bookNow l D cy w z0 O70 e79) e79 rfl rfl rfl ⟨by decide, by decide⟩ (Nat.le_of_ble_eq_true rfl) dX12_water_113 ⟨(by decide), (by decide)⟩) (fun r92 h93 f95 K94 => ?_)
                  obtain ⟨O96, F97, f98, p99⟩ := K94
                  have e100 : Tg h55 a0 = 12 := (fxT F59 e53)
                  have p101 := ((BNow_fx O58 F71 e100 rfl).trans ((BNow_fx O45 F59 e53 rfl).trans e63))
                  rw [p101] at p99
                  have f102 : (-1 : Int) ≤ r92 ∧ r92 ≤ (7 : Int) := by omega
                  have f103 : (-10 : Int) ≤ (10 * r92) ∧ (10 * r92) ≤ (70 : Int) := ia_mul (by decide) f102 (by decide) (by decide)
                  refine g_imul C dX12_water_116 ?_
                  refine g_istore C [(9, .inl (10 * r92)), (8, .inl (x65 + 1)), (7, .inl x65), (0, .inr (.inr a0)), (1, .inl a1), (2, .inl a2), (3, .inl a3), (4, .inl ((12 * a2) + a1)), (5, .inl r54), (6, .inl x65)] (by decide) rfl dX12_water_117 ?_
                  refine g_aload_n C rfl 3 rfl dX12_water_119 ?_
                  have e104 : Tg h93 a0 = 12 := (fxT F97 e79)
                  obtain ⟨v105, e106⟩ : ∃ z, Rv h93 a0 16 = z := ⟨_, rfl⟩
                  have t107 := ok_R O96 e104 rE_12_16 e106
                  have l108 := ok_L O96 e104 rE_12_16 e106
                  refine gf_R C fk_LandSurveyModel_112 rfl e104 e106 dX12_water_120 ?_
                  refine g_iload C 0 rfl dX12_water_123 ?_
                  refine g_iload C 2 rfl dX12_water_125 ?_
                  have f109 : (-10 : Int) ≤ ((10 * r92) + x65) ∧ ((10 * r92) + x65) ≤ (78 : Int) := ia_add f103 f77 (by decide) (by decide)
                  refine g_iadd C dX12_water_127 ?_
                  obtain ⟨v110, e111⟩ : ∃ z, Iv h93 v105 (((10 * r92) + x65).toNat) = z := ⟨_, rfl⟩
                  have f112 := ok_Ia O96 t107 ar_116101 rI_116101_0 e111
                  refine g_zald C t107 rfl l108 (by omega) e111 dX12_water_128 ?_
                  refine g_if_eq C (iw f112 (by decide) (by decide)) 180 (by decide) dX12_water_129 (fun q113 => ?_) (fun q114 => ?_)
                  · have f115 : (0 : Int) ≤ v110 ∧ v110 ≤ (0 : Int) := ii f112 (r_eq (il 0) q113) (by decide) (by decide)
                    refine g_iinc C [(6, .inl (x65 + 1)), (9, .inl (10 * r92)), (8, .inl (x65 + 1)), (7, .inl x65), (0, .inr (.inr a0)), (1, .inl a1), (2, .inl a2), (3, .inl a3), (4, .inl ((12 * a2) + a1)), (5, .inl r54)] 9 rfl (by decide) rfl dX12_water_180 ?_
                    refine g_goto C 54 (by decide) dX12_water_183 ?_
                    refine GW.sub [4, 5, 6, 7, 8, 9, 0] rfl ?_
                    exact ih68 _ (by omega) (x65 + 1) h93 rfl O96 (F71.call F97 rfl) (iw f76 (by decide) (by decide))
                  · have f116 : (1 : Int) ≤ v110 ∧ v110 ≤ (1 : Int) := r_nl f112 q114
                    refine g_aload_n C rfl 3 rfl dX12_water_132 ?_
                    obtain ⟨v117, e118⟩ : ∃ z, Rv h93 a0 17 = z := ⟨_, rfl⟩
                    have t119 := ok_R O96 e104 rE_12_17 e118
                    have l120 := ok_L O96 e104 rE_12_17 e118
                    refine gf_R C fk_LandSurveyModel_116 rfl e104 e118 dX12_water_133 ?_
                    refine g_iload C 0 rfl dX12_water_136 ?_
                    refine g_iload C 1 rfl dX12_water_138 ?_
                    have f121 : (-9 : Int) ≤ ((10 * r92) + (x65 + 1)) ∧ ((10 * r92) + (x65 + 1)) ≤ (79 : Int) := ia_add f103 f76 (by decide) (by decide)
                    refine g_iadd C dX12_water_140 ?_
                    obtain ⟨v122, e123⟩ : ∃ z, Iv h93 v117 (((10 * r92) + (x65 + 1)).toNat) = z := ⟨_, rfl⟩
                    have f124 := ok_Ia O96 t119 ar_117101 rI_117101_0 e123
                    refine g_zald C t119 rfl l120 (by omega) e123 dX12_water_141 ?_
                    refine g_if_eq C (iw f124 (by decide) (by decide)) 180 (by decide) dX12_water_142 (fun q125 => ?_) (fun q126 => ?_)
                    · have f127 : (0 : Int) ≤ v122 ∧ v122 ≤ (0 : Int) := ii f124 (r_eq (il 0) q125) (by decide) (by decide)
                      refine g_iinc C [(6, .inl (x65 + 1)), (9, .inl (10 * r92)), (8, .inl (x65 + 1)), (7, .inl x65), (0, .inr (.inr a0)), (1, .inl a1), (2, .inl a2), (3, .inl a3), (4, .inl ((12 * a2) + a1)), (5, .inl r54)] 9 rfl (by decide) rfl dX12_water_180 ?_
                      refine g_goto C 54 (by decide) dX12_water_183 ?_
                      refine GW.sub [4, 5, 6, 7, 8, 9, 0] rfl ?_
                      exact ih68 _ (by omega) (x65 + 1) h93 rfl O96 (F71.call F97 rfl) (iw f76 (by decide) (by decide))
                    · have f128 : (1 : Int) ≤ v122 ∧ v122 ≤ (1 : Int) := r_nl f124 q126
                      refine g_aload_n C rfl 3 rfl dX12_water_145 ?_
                      refine g_iload C 2 rfl dX12_water_146 ?_
                      refine g_iload C 7 rfl dX12_water_148 ?_
                      refine g_callI (st := []) (gc_V C lk_LandSurveyModel_597 (k_X12_footFrom l D cy w z0 O96 e104 (iw f77 (by decide) (by decide)) f52) e104 rfl rfl rfl ⟨by decide, by decide⟩ (Nat.le_of_ble_eq_true rfl) dX12_water_150 ⟨(by decide), (by decide)⟩) (fun r129 h130 f132 K131 => ?_)
                      obtain ⟨O133, F134, f135⟩ := K131
                      refine g_if_lt C f135 180 (by decide) dX12_water_153 (fun q136 => ?_) (fun q137 => ?_)
                      · have f138 : (-2147483648 : Int) ≤ r129 ∧ r129 ≤ (-1 : Int) := r_lt f135 (il 0) q136 (by decide) (by decide)
                        refine g_iinc C [(6, .inl (x65 + 1)), (9, .inl (10 * r92)), (8, .inl (x65 + 1)), (7, .inl x65), (0, .inr (.inr a0)), (1, .inl a1), (2, .inl a2), (3, .inl a3), (4, .inl ((12 * a2) + a1)), (5, .inl r54)] 9 rfl (by decide) rfl dX12_water_180 ?_
                        refine g_goto C 54 (by decide) dX12_water_183 ?_
                        refine GW.sub [4, 5, 6, 7, 8, 9, 0] rfl ?_
                        exact ih68 _ (by omega) (x65 + 1) h130 rfl O133 ((F71.call F97 rfl).call F134 rfl) (iw f76 (by decide) (by decide))
                      · have f139 : (0 : Int) ≤ r129 ∧ r129 ≤ (2147483647 : Int) := r_ge f135 (il 0) q137 (by decide) (by decide)
                        refine g_iload_n C rfl 6 rfl dX12_water_156 ?_
                        refine g_if_ne C (iw f29 (by decide) (by decide)) 171 (by decide) dX12_water_157 (fun q140 => ?_) (fun q141 => ?_)
                        · have f142 : (1 : Int) ≤ a3 ∧ a3 ≤ (1 : Int) := r_nl f29 q140
                          refine g_aload_n C rfl 3 rfl dX12_water_171 ?_
                          refine g_iload C 2 rfl dX12_water_172 ?_
                          refine g_iload C 7 rfl dX12_water_174 ?_
                          have e143 : Tg h130 a0 = 12 := (fxT F134 e104)
                          refine g_callI (st := []) (gc_V C lk_LandSurveyModel_600 (k_X12_footTo l D cy w z0 O133 e143 (iw f77 (by decide) (by decide)) f52) e143 rfl rfl rfl ⟨by decide, by decide⟩ (Nat.le_of_ble_eq_true rfl) dX12_water_176 ⟨(by decide), (by decide)⟩) (fun r144 h145 f147 K146 => ?_)
                          obtain ⟨O148, F149, f150⟩ := K146
                          exact g_iret C hr rfl f150 ⟨O148, (((((((((((Fx.rf (wr := wr_k_X12_water)).pI ta0 hh1 rfl).call F9 rfl).call F23 rfl).call F39 rfl).call F46 rfl).call F59 rfl).call F71 rfl).call F97 rfl).call F134 rfl).call F149 rfl), f150⟩ (by decide) (by decide) dX12_water_179
                        · have f151 : (0 : Int) ≤ a3 ∧ a3 ≤ (0 : Int) := ii f29 (r_eq (il 0) q141) (by decide) (by decide)
                          refine g_aload_n C rfl 3 rfl dX12_water_160 ?_
                          refine g_iload C 2 rfl dX12_water_161 ?_
                          refine g_iload C 7 rfl dX12_water_163 ?_
                          have e152 : Tg h130 a0 = 12 := (fxT F134 e104)
                          refine g_callI (st := []) (gc_V C lk_LandSurveyModel_597 (k_X12_footFrom l D cy w z0 O133 e152 (iw f77 (by decide) (by decide)) f52) e152 rfl rfl rfl ⟨by decide, by decide⟩ (Nat.le_of_ble_eq_true rfl) dX12_water_165 ⟨(by decide), (by decide)⟩) (fun r153 h154 f156 K155 => ?_)
                          obtain ⟨O157, F158, f159⟩ := K155
                          refine g_goto C 179 (by decide) dX12_water_168 ?_
                          exact g_iret C hr rfl f159 ⟨O157, (((((((((((Fx.rf (wr := wr_k_X12_water)).pI ta0 hh1 rfl).call F9 rfl).call F23 rfl).call F39 rfl).call F46 rfl).call F59 rfl).call F71 rfl).call F97 rfl).call F134 rfl).call F158 rfl), f159⟩ (by decide) (by decide) dX12_water_179
                · exact (no_ne f89 (il 0) q91 (by decide)).elim
              · have f160 : (1 : Int) ≤ v84 ∧ v84 ≤ (1 : Int) := r_nl f86 q88
                refine g_iload C 5 rfl dX12_water_73 ?_
                refine g_iconst C dX12_water_75 ?_
                have f161 : (1 : Int) ≤ (r54 - 1) ∧ (r54 - 1) ≤ (9 : Int) := ia_sub f78 (il 1) (by decide) (by decide)
                refine g_isub C dX12_water_76 ?_
                refine g_iload C 6 rfl dX12_water_77 ?_
                have f162 : (-7 : Int) ≤ ((r54 - 1) - x65) ∧ ((r54 - 1) - x65) ≤ (9 : Int) := ia_sub f161 f77 (by decide) (by decide)
                refine g_isub C dX12_water_79 ?_
                refine g_goto C 85 (by decide) dX12_water_80 ?_
                refine g_istore C [(7, .inl ((r54 - 1) - x65)), (0, .inr (.inr a0)), (1, .inl a1), (2, .inl a2), (3, .inl a3), (4, .inl ((12 * a2) + a1)), (5, .inl r54), (6, .inl x65)] (by decide) rfl dX12_water_85 ?_
                refine g_aload_n C rfl 1 rfl dX12_water_87 ?_
                refine gf_R C fk_LandSurveyModel_167 rfl e79 e81 dX12_water_88 ?_
                refine g_iload C 5 rfl dX12_water_91 ?_
                refine g_zald C t82 rfl l83 (ix f52 (by decide) (by decide)) e85 dX12_water_93 ?_
                refine g_if_eq C (iw f160 (by decide) (by decide)) 104 (by decide) dX12_water_94 (fun q163 => ?_) (fun q164 => ?_)
                · exact (no_eq f160 (il 0) q163 (by decide)).elim
                · refine g_iload C 0 rfl dX12_water_97 ?_
                  refine g_iconst C dX12_water_99 ?_
                  have f165 : (-8 : Int) ≤ (((r54 - 1) - x65) - 1) ∧ (((r54 - 1) - x65) - 1) ≤ (8 : Int) := ia_sub f162 (il 1) (by decide) (by decide)
                  refine g_isub C dX12_water_100 ?_
                  refine g_goto C 108 (by decide) dX12_water_101 ?_
                  refine g_istore C [(8, .inl (((r54 - 1) - x65) - 1)), (7, .inl ((r54 - 1) - x65)), (0, .inr (.inr a0)), (1, .inl a1), (2, .inl a2), (3, .inl a3), (4, .inl ((12 * a2) + a1)), (5, .inl r54), (6, .inl x65)] (by decide) rfl dX12_water_108 ?_
                  refine g_bipush C (by decide) dX12_water_110 ?_
                  refine g_aload_n C rfl 2 rfl dX12_water_112 ?_
                  refine g_callI (st := [.inl 10]) (gc_V C lk_LandSurveyModel_432 (k_X12_bookNow l D cy w z0 O70 e79) e79 rfl rfl rfl ⟨by decide, by decide⟩ (Nat.le_of_ble_eq_true rfl) dX12_water_113 ⟨(by decide), (by decide)⟩) (fun r166 h167 f169 K168 => ?_)
                  obtain ⟨O170, F171, f172, p173⟩ := K168
                  have e174 : Tg h55 a0 = 12 := (fxT F59 e53)
                  have p175 := ((BNow_fx O58 F71 e174 rfl).trans ((BNow_fx O45 F59 e53 rfl).trans e63))
                  rw [p175] at p173
                  have f176 : (-1 : Int) ≤ r166 ∧ r166 ≤ (7 : Int) := by omega
                  have f177 : (-10 : Int) ≤ (10 * r166) ∧ (10 * r166) ≤ (70 : Int) := ia_mul (by decide) f176 (by decide) (by decide)
                  refine g_imul C dX12_water_116 ?_
                  refine g_istore C [(9, .inl (10 * r166)), (8, .inl (((r54 - 1) - x65) - 1)), (7, .inl ((r54 - 1) - x65)), (0, .inr (.inr a0)), (1, .inl a1), (2, .inl a2), (3, .inl a3), (4, .inl ((12 * a2) + a1)), (5, .inl r54), (6, .inl x65)] (by decide) rfl dX12_water_117 ?_
                  refine g_aload_n C rfl 3 rfl dX12_water_119 ?_
                  have e178 : Tg h167 a0 = 12 := (fxT F171 e79)
                  obtain ⟨v179, e180⟩ : ∃ z, Rv h167 a0 16 = z := ⟨_, rfl⟩
                  have t181 := ok_R O170 e178 rE_12_16 e180
                  have l182 := ok_L O170 e178 rE_12_16 e180
                  refine gf_R C fk_LandSurveyModel_112 rfl e178 e180 dX12_water_120 ?_
                  refine g_iload C 0 rfl dX12_water_123 ?_
                  refine g_iload C 2 rfl dX12_water_125 ?_
                  have f183 : (-17 : Int) ≤ ((10 * r166) + ((r54 - 1) - x65)) ∧ ((10 * r166) + ((r54 - 1) - x65)) ≤ (79 : Int) := ia_add f177 f162 (by decide) (by decide)
                  refine g_iadd C dX12_water_127 ?_
                  obtain ⟨v184, e185⟩ : ∃ z, Iv h167 v179 (((10 * r166) + ((r54 - 1) - x65)).toNat) = z := ⟨_, rfl⟩
                  have f186 := ok_Ia O170 t181 ar_116101 rI_116101_0 e185
                  refine g_zald C t181 rfl l182 (by omega) e185 dX12_water_128 ?_
                  refine g_if_eq C (iw f186 (by decide) (by decide)) 180 (by decide) dX12_water_129 (fun q187 => ?_) (fun q188 => ?_)
                  · have f189 : (0 : Int) ≤ v184 ∧ v184 ≤ (0 : Int) := ii f186 (r_eq (il 0) q187) (by decide) (by decide)
                    refine g_iinc C [(6, .inl (x65 + 1)), (9, .inl (10 * r166)), (8, .inl (((r54 - 1) - x65) - 1)), (7, .inl ((r54 - 1) - x65)), (0, .inr (.inr a0)), (1, .inl a1), (2, .inl a2), (3, .inl a3), (4, .inl ((12 * a2) + a1)), (5, .inl r54)] 9 rfl (by decide) rfl dX12_water_180 ?_
                    refine g_goto C 54 (by decide) dX12_water_183 ?_
                    refine GW.sub [4, 5, 6, 7, 8, 9, 0] rfl ?_
                    exact ih68 _ (by omega) (x65 + 1) h167 rfl O170 (F71.call F171 rfl) (iw f76 (by decide) (by decide))
                  · have f190 : (1 : Int) ≤ v184 ∧ v184 ≤ (1 : Int) := r_nl f186 q188
                    refine g_aload_n C rfl 3 rfl dX12_water_132 ?_
                    obtain ⟨v191, e192⟩ : ∃ z, Rv h167 a0 17 = z := ⟨_, rfl⟩
                    have t193 := ok_R O170 e178 rE_12_17 e192
                    have l194 := ok_L O170 e178 rE_12_17 e192
                    refine gf_R C fk_LandSurveyModel_116 rfl e178 e192 dX12_water_133 ?_
                    refine g_iload C 0 rfl dX12_water_136 ?_
                    refine g_iload C 1 rfl dX12_water_138 ?_
                    have f195 : (-18 : Int) ≤ ((10 * r166) + (((r54 - 1) - x65) - 1)) ∧ ((10 * r166) + (((r54 - 1) - x65) - 1)) ≤ (78 : Int) := ia_add f177 f165 (by decide) (by decide)
                    refine g_iadd C dX12_water_140 ?_
                    obtain ⟨v196, e197⟩ : ∃ z, Iv h167 v191 (((10 * r166) + (((r54 - 1) - x65) - 1)).toNat) = z := ⟨_, rfl⟩
                    have f198 := ok_Ia O170 t193 ar_117101 rI_117101_0 e197
                    refine g_zald C t193 rfl l194 (by omega) e197 dX12_water_141 ?_
                    refine g_if_eq C (iw f198 (by decide) (by decide)) 180 (by decide) dX12_water_142 (fun q199 => ?_) (fun q200 => ?_)
                    · have f201 : (0 : Int) ≤ v196 ∧ v196 ≤ (0 : Int) := ii f198 (r_eq (il 0) q199) (by decide) (by decide)
                      refine g_iinc C [(6, .inl (x65 + 1)), (9, .inl (10 * r166)), (8, .inl (((r54 - 1) - x65) - 1)), (7, .inl ((r54 - 1) - x65)), (0, .inr (.inr a0)), (1, .inl a1), (2, .inl a2), (3, .inl a3), (4, .inl ((12 * a2) + a1)), (5, .inl r54)] 9 rfl (by decide) rfl dX12_water_180 ?_
                      refine g_goto C 54 (by decide) dX12_water_183 ?_
                      refine GW.sub [4, 5, 6, 7, 8, 9, 0] rfl ?_
                      exact ih68 _ (by omega) (x65 + 1) h167 rfl O170 (F71.call F171 rfl) (iw f76 (by decide) (by decide))
                    · have f202 : (1 : Int) ≤ v196 ∧ v196 ≤ (1 : Int) := r_nl f198 q200
                      refine g_aload_n C rfl 3 rfl dX12_water_145 ?_
                      refine g_iload C 2 rfl dX12_water_146 ?_
                      refine g_iload C 7 rfl dX12_water_148 ?_
                      refine g_callI (st := []) (gc_V C lk_LandSurveyModel_597 (k_X12_footFrom l D cy w z0 O170 e178 (iw f162 (by decide) (by decide)) f52) e178 rfl rfl rfl ⟨by decide, by decide⟩ (Nat.le_of_ble_eq_true rfl) dX12_water_150 ⟨(by decide), (by decide)⟩) (fun r203 h204 f206 K205 => ?_)
                      obtain ⟨O207, F208, f209⟩ := K205
                      refine g_if_lt C f209 180 (by decide) dX12_water_153 (fun q210 => ?_) (fun q211 => ?_)
                      · have f212 : (-2147483648 : Int) ≤ r203 ∧ r203 ≤ (-1 : Int) := r_lt f209 (il 0) q210 (by decide) (by decide)
                        refine g_iinc C [(6, .inl (x65 + 1)), (9, .inl (10 * r166)), (8, .inl (((r54 - 1) - x65) - 1)), (7, .inl ((r54 - 1) - x65)), (0, .inr (.inr a0)), (1, .inl a1), (2, .inl a2), (3, .inl a3), (4, .inl ((12 * a2) + a1)), (5, .inl r54)] 9 rfl (by decide) rfl dX12_water_180 ?_
                        refine g_goto C 54 (by decide) dX12_water_183 ?_
                        refine GW.sub [4, 5, 6, 7, 8, 9, 0] rfl ?_
                        exact ih68 _ (by omega) (x65 + 1) h204 rfl O207 ((F71.call F171 rfl).call F208 rfl) (iw f76 (by decide) (by decide))
                      · have f213 : (0 : Int) ≤ r203 ∧ r203 ≤ (2147483647 : Int) := r_ge f209 (il 0) q211 (by decide) (by decide)
                        refine g_iload_n C rfl 6 rfl dX12_water_156 ?_
                        refine g_if_ne C (iw f29 (by decide) (by decide)) 171 (by decide) dX12_water_157 (fun q214 => ?_) (fun q215 => ?_)
                        · have f216 : (1 : Int) ≤ a3 ∧ a3 ≤ (1 : Int) := r_nl f29 q214
                          refine g_aload_n C rfl 3 rfl dX12_water_171 ?_
                          refine g_iload C 2 rfl dX12_water_172 ?_
                          refine g_iload C 7 rfl dX12_water_174 ?_
                          have e217 : Tg h204 a0 = 12 := (fxT F208 e178)
                          refine g_callI (st := []) (gc_V C lk_LandSurveyModel_600 (k_X12_footTo l D cy w z0 O207 e217 (iw f162 (by decide) (by decide)) f52) e217 rfl rfl rfl ⟨by decide, by decide⟩ (Nat.le_of_ble_eq_true rfl) dX12_water_176 ⟨(by decide), (by decide)⟩) (fun r218 h219 f221 K220 => ?_)
                          obtain ⟨O222, F223, f224⟩ := K220
                          exact g_iret C hr rfl f224 ⟨O222, (((((((((((Fx.rf (wr := wr_k_X12_water)).pI ta0 hh1 rfl).call F9 rfl).call F23 rfl).call F39 rfl).call F46 rfl).call F59 rfl).call F71 rfl).call F171 rfl).call F208 rfl).call F223 rfl), f224⟩ (by decide) (by decide) dX12_water_179
                        · have f225 : (0 : Int) ≤ a3 ∧ a3 ≤ (0 : Int) := ii f29 (r_eq (il 0) q215) (by decide) (by decide)
                          refine g_aload_n C rfl 3 rfl dX12_water_160 ?_
                          refine g_iload C 2 rfl dX12_water_161 ?_
                          refine g_iload C 7 rfl dX12_water_163 ?_
                          have e226 : Tg h204 a0 = 12 := (fxT F208 e178)
                          refine g_callI (st := []) (gc_V C lk_LandSurveyModel_597 (k_X12_footFrom l D cy w z0 O207 e226 (iw f162 (by decide) (by decide)) f52) e226 rfl rfl rfl ⟨by decide, by decide⟩ (Nat.le_of_ble_eq_true rfl) dX12_water_165 ⟨(by decide), (by decide)⟩) (fun r227 h228 f230 K229 => ?_)
                          obtain ⟨O231, F232, f233⟩ := K229
                          refine g_goto C 179 (by decide) dX12_water_168 ?_
                          exact g_iret C hr rfl f233 ⟨O231, (((((((((((Fx.rf (wr := wr_k_X12_water)).pI ta0 hh1 rfl).call F9 rfl).call F23 rfl).call F39 rfl).call F46 rfl).call F59 rfl).call F71 rfl).call F171 rfl).call F208 rfl).call F232 rfl), f233⟩ (by decide) (by decide) dX12_water_179
        exact L67 _ 0 h55 rfl O58 Fx.rf (iw (il 0) (by decide) (by decide))
      · have f234 : (0 : Int) ≤ r41 ∧ r41 ≤ (0 : Int) := ii f47 (r_eq (il 0) q49) (by decide) (by decide)
        refine g_iconst C dX12_water_35 ?_
        exact g_iret C hr rfl (iw (il (-1)) (by decide) (by decide)) ⟨O45, ((((((Fx.rf (wr := wr_k_X12_water)).pI ta0 hh1 rfl).call F9 rfl).call F23 rfl).call F39 rfl).call F46 rfl), (iw (il (-1)) (by decide) (by decide))⟩ (by decide) (by decide) dX12_water_36
    · have f235 : (0 : Int) ≤ r18 ∧ r18 ≤ (0 : Int) := ii f24 (r_eq (il 0) q27) (by decide) (by decide)
      refine g_iconst C dX12_water_22 ?_
      exact g_iret C hr rfl (iw (il (-1)) (by decide) (by decide)) ⟨O22, ((((Fx.rf (wr := wr_k_X12_water)).pI ta0 hh1 rfl).call F9 rfl).call F23 rfl), (iw (il (-1)) (by decide) (by decide))⟩ (by decide) (by decide) dX12_water_23
def wr_k_X12_seam : List Nat := [2400, 2435, 2462, 2469, 2477, 2478, 26220000, 26420000, 30620200, 30820000, 31020000, 31220000, 32620000, 32820000, 33020000, 33220000, 33420000, 33620000, 34020200, 34220000, 34420400, 34620200, 34820200, 35020000, 35220000]
set_option maxRecDepth 100000 in
set_option maxHeartbeats 4000000 in
theorem k_X12_seam (l : Launch) (D : va_G) (cy : Nat → ClassId) (w : Nat → Nat) (z0 : Nat)  {h : Hp} {a0 : Nat} {a1 : Int} {a2 : Int} {a3 : Int}  (O : Okh h) (ta0 : Tg h a0 = 12) (fa1 : (-2147483648) ≤ a1 ∧ a1 ≤ 2147483647) (fa2 : (-2147483648) ≤ a2 ∧ a2 ≤ 2147483647) (fa3 : (-2147483648) ≤ a3 ∧ a3 ≤ 2147483647) (P_MInv : MInv h a0) : MI l D cy w z0 yX12_seam cX12_seam 6 (some .int) 11 278 0 0 [.inr (.inr a0), .inl a1, .inl a2, .inl a3] h (fun v h1 => Okh h1 ∧ Fx wr_k_X12_seam h h1 ∧ ((-2147483648) ≤ v ∧ v ≤ 2147483647)) := by
  refine hm_go (by decide +kernel) (Nat.le_of_ble_eq_true rfl) (fun p e s m below meth c C hr hn => ?_)
  refine g_aload_n C rfl 0 rfl dX12_seam_0 ?_
  refine g_iconst C dX12_seam_1 ?_
  refine gp_I C fk_LandSurveyModel_1 pk_LandSurveyModel_0 rfl ta0 (iw (il 0) (by decide) (by decide)) (nf_i _) dX12_seam_2 (fun h2 hh1 => ?_)
  have O3 := O.pI ta0 hh1 rI_12_0 (iw (il 0) (by decide) (by decide)) nofun
  refine g_iload_n C rfl 1 rfl dX12_seam_5 ?_
  refine g_iconst C dX12_seam_6 ?_
  refine g_aload_n C rfl 0 rfl dX12_seam_7 ?_
  have e4 : Tg h2 a0 = 12 := ((pIT hh1).trans ta0)
  refine g_callI (st := [.inl 0, .inl a1]) (gc_V C lk_LandSurveyModel_453 (k_X12_rocksNow l D cy w z0 O3 e4) e4 rfl rfl rfl ⟨by decide, by decide⟩ (Nat.le_of_ble_eq_true rfl) dX12_seam_8 ⟨(by decide), (by decide)⟩) (fun r5 h6 f8 K7 => ?_)
  obtain ⟨O9, F10, f11, p12⟩ := K7
  obtain ⟨v13, e14⟩ : ∃ z, BNow h2 a0 = z := ⟨_, rfl⟩
  have f15 : (-1 : Int) ≤ v13 ∧ v13 ≤ (7 : Int) := BNow_rng O3 e4 e14
  rw [e14] at p12
  refine g_iconst C dX12_seam_11 ?_
  have f16 : (-1 : Int) ≤ (r5 - 1) ∧ (r5 - 1) ≤ (9 : Int) := ia_sub f11 (il 1) (by decide) (by decide)
  refine g_isub C dX12_seam_12 ?_
  refine g_callI (st := []) (gc_S C lk_LandSurveyModel_415 (k_X12_within l D cy w z0 O9 fa1 (iw (il 0) (by decide) (by decide)) (iw f16 (by decide) (by decide))) rfl ⟨by decide, by decide⟩ (Nat.le_of_ble_eq_true rfl) dX12_seam_13 ⟨(by decide), (by decide)⟩) (fun r17 h18 f20 K19 => ?_)
  obtain ⟨O21, F22, f23, p24⟩ := K19
  refine g_if_eq C (iw f23 (by decide) (by decide)) 37 (by decide) dX12_seam_16 (fun q25 => ?_) (fun q26 => ?_)
  · have f27 : (0 : Int) ≤ r17 ∧ r17 ≤ (0 : Int) := ii f23 (r_eq (il 0) q25) (by decide) (by decide)
    refine g_iconst C dX12_seam_37 ?_
    exact g_iret C hr rfl (iw (il (-1)) (by decide) (by decide)) ⟨O21, ((((Fx.rf (wr := wr_k_X12_seam)).pI ta0 hh1 rfl).call F10 rfl).call F22 rfl), (iw (il (-1)) (by decide) (by decide))⟩ (by decide) (by decide) dX12_seam_38
  · have f28 : (1 : Int) ≤ r17 ∧ r17 ≤ (1 : Int) := r_nl f23 q26
    have f29 : (0 : Int) ≤ a1 ∧ a1 ≤ (9 : Int) := by omega
    refine g_iload_n C rfl 2 rfl dX12_seam_19 ?_
    refine g_iconst C dX12_seam_20 ?_
    refine g_iconst C dX12_seam_21 ?_
    refine g_callI (st := []) (gc_S C lk_LandSurveyModel_415 (k_X12_within l D cy w z0 O21 fa2 (iw (il 0) (by decide) (by decide)) (iw (il 3) (by decide) (by decide))) rfl ⟨by decide, by decide⟩ (Nat.le_of_ble_eq_true rfl) dX12_seam_22 ⟨(by decide), (by decide)⟩) (fun r30 h31 f33 K32 => ?_)
    obtain ⟨O34, F35, f36, p37⟩ := K32
    refine g_if_eq C (iw f36 (by decide) (by decide)) 37 (by decide) dX12_seam_25 (fun q38 => ?_) (fun q39 => ?_)
    · have f40 : (0 : Int) ≤ r30 ∧ r30 ≤ (0 : Int) := ii f36 (r_eq (il 0) q38) (by decide) (by decide)
      refine g_iconst C dX12_seam_37 ?_
      exact g_iret C hr rfl (iw (il (-1)) (by decide) (by decide)) ⟨O34, (((((Fx.rf (wr := wr_k_X12_seam)).pI ta0 hh1 rfl).call F10 rfl).call F22 rfl).call F35 rfl), (iw (il (-1)) (by decide) (by decide))⟩ (by decide) (by decide) dX12_seam_38
    · have f41 : (1 : Int) ≤ r30 ∧ r30 ≤ (1 : Int) := r_nl f36 q39
      have f42 : (0 : Int) ≤ a2 ∧ a2 ≤ (3 : Int) := by omega
      refine g_iload_n C rfl 3 rfl dX12_seam_28 ?_
      refine g_iconst C dX12_seam_29 ?_
      refine g_iconst C dX12_seam_30 ?_
      refine g_callI (st := []) (gc_S C lk_LandSurveyModel_415 (k_X12_within l D cy w z0 O34 fa3 (iw (il 0) (by decide) (by decide)) (iw (il 1) (by decide) (by decide))) rfl ⟨by decide, by decide⟩ (Nat.le_of_ble_eq_true rfl) dX12_seam_31 ⟨(by decide), (by decide)⟩) (fun r43 h44 f46 K45 => ?_)
      obtain ⟨O47, F48, f49, p50⟩ := K45
      refine g_if_ne C (iw f49 (by decide) (by decide)) 39 (by decide) dX12_seam_34 (fun q51 => ?_) (fun q52 => ?_)
      · have f53 : (1 : Int) ≤ r43 ∧ r43 ≤ (1 : Int) := r_nl f49 q51
        have f54 : (0 : Int) ≤ a3 ∧ a3 ≤ (1 : Int) := by omega
        refine g_aload_n C rfl 0 rfl dX12_seam_39 ?_
        have e55 : Tg h44 a0 = 12 := (fxT F48 (fxT F35 (fxT F22 (fxT F10 e4))))
        have e56 : Tg h6 a0 = 12 := (fxT F10 e4)
        have e57 : Tg h18 a0 = 12 := (fxT F22 e56)
        have e58 : Tg h31 a0 = 12 := (fxT F35 e57)
        have p59 := (MInv_fx O34 F48 e58 rfl (MInv_fx O21 F35 e57 rfl (MInv_fx O9 F22 e56 rfl (MInv_fx O3 F10 e4 rfl (MInv_fx O ((Fx.rf (wr := [2400]) (h := h)).pI ta0 hh1 rfl) ta0 rfl P_MInv)))))
        refine g_callV (st := []) (gc_V C lk_LandSurveyModel_557 (k_X12_findGrounds l D cy w z0 O47 e55 p59) e55 rfl rfl rfl ⟨by decide, by decide⟩ (Nat.le_of_ble_eq_true rfl) dX12_seam_40 ⟨(by decide), (by decide)⟩) (fun h61 K62 => ?_)
        obtain ⟨O64, F65⟩ := K62
        refine g_aload_n C rfl 0 rfl dX12_seam_43 ?_
        have e66 : Tg h61 a0 = 12 := (fxT F65 e55)
        refine g_callI (st := []) (gc_V C lk_LandSurveyModel_588 (k_X12_areKnown l D cy w z0 O64 e66) e66 rfl rfl rfl ⟨by decide, by decide⟩ (Nat.le_of_ble_eq_true rfl) dX12_seam_44 ⟨(by decide), (by decide)⟩) (fun r67 h68 f70 K69 => ?_)
        obtain ⟨O71, F72, f73⟩ := K69
        refine g_if_ne C (iw f73 (by decide) (by decide)) 52 (by decide) dX12_seam_47 (fun q74 => ?_) (fun q75 => ?_)
        · have f76 : (1 : Int) ≤ r67 ∧ r67 ≤ (1 : Int) := r_nl f73 q74
          refine g_iconst C dX12_seam_52 ?_
          refine g_istore C [(4, .inl 0), (0, .inr (.inr a0)), (1, .inl a1), (2, .inl a2), (3, .inl a3)] (by decide) rfl dX12_seam_53 ?_
          refine g_iconst C dX12_seam_55 ?_
          refine g_istore C [(5, .inl 0), (4, .inl 0), (0, .inr (.inr a0)), (1, .inl a1), (2, .inl a2), (3, .inl a3)] (by decide) rfl dX12_seam_56 ?_
          refine GW.sub [2, 3, 4, 5, 1, 0] rfl ?_
          -- loop at 58
          have L80 : ∀ (μ : Nat) (x77 : Int) (x78 : Int) (h79 : Hp), (96 - x78).toNat = μ → Okh h79 → Fx [] h68 h79 → ((-2147483648 : Int) ≤ x77 ∧ x77 ≤ (2147483647 : Int)) → ((0 : Int) ≤ x78 ∧ x78 ≤ (96 : Int)) → GW p l e (rmm 11 278 0 0) s m (List.map toV [.inr (.inr a0), .inl a1, .inl a2, .inl a3]).toArray below meth c D cy z0 6 (MQ below (QI D cy z0 (fun v h1 => Okh h1 ∧ Fx wr_k_X12_seam h h1 ∧ ((-2147483648) ≤ v ∧ v ≤ 2147483647))) (List.map toV [.inr (.inr a0), .inl a1, .inl a2, .inl a3]).toArray s 0 0 (Aof z0)) 58 [(0, .inr (.inr a0)), (1, .inl a1), (2, .inl a2), (3, .inl a3), (4, .inl x77), (5, .inl x78)] [] h79 0 0 := by
            intro μ
            induction μ using Nat.strongRecOn with
            | ind μ ih81 =>
              intro x77 x78 h79 hm82 O83 F84 f85 f86
              refine g_iload C 5 rfl dX12_seam_58 ?_
              refine g_bipush C (by decide) dX12_seam_60 ?_
              refine g_icmp_ge C (iw f86 (by decide) (by decide)) (iw (il 96) (by decide) (by decide)) 132 (by decide) dX12_seam_62 (fun q87 => ?_) (fun q88 => ?_)
              · have f89 : (96 : Int) ≤ x78 ∧ x78 ≤ (96 : Int) := r_ge f86 (il 96) q87 (by decide) (by decide)
                refine g_iload C 4 rfl dX12_seam_132 ?_
                exact g_iret C hr rfl f85 ⟨O83, (((((((((Fx.rf (wr := wr_k_X12_seam)).pI ta0 hh1 rfl).call F10 rfl).call F22 rfl).call F35 rfl).call F48 rfl).call F65 rfl).call F72 rfl).call F84 rfl), f85⟩ (by decide) (by decide) dX12_seam_134
              · have f90 : (0 : Int) ≤ x78 ∧ x78 ≤ (95 : Int) := r_lt f86 (il 96) q88 (by decide) (by decide)
                refine g_aload_n C rfl 0 rfl dX12_seam_65 ?_
                have e91 : Tg h79 a0 = 12 := (fxT F84 (fxT F72 e66))
                obtain ⟨v92, e93⟩ : ∃ z, Rv h79 a0 39 = z := ⟨_, rfl⟩
                have t94 := ok_R O83 e91 rE_12_39 e93
                have l95 := ok_L O83 e91 rE_12_39 e93
                refine gf_R C fk_LandSurveyModel_170 rfl e91 e93 dX12_seam_66 ?_
                refine g_iload C 5 rfl dX12_seam_69 ?_
                obtain ⟨v96, e97⟩ : ∃ z, Iv h79 v92 x78.toNat = z := ⟨_, rfl⟩
                have f98 := ok_Ia O83 t94 ar_139100 rI_139100_0 e97
                refine g_iald C t94 rfl l95 (ix f90 (by decide) (by decide)) e97 dX12_seam_71 ?_
                refine g_iload_n C rfl 2 rfl dX12_seam_72 ?_
                refine g_icmp_ne C (iw f98 (by decide) (by decide)) (iw f42 (by decide) (by decide)) 126 (by decide) dX12_seam_73 (fun q99 => ?_) (fun q100 => ?_)
                · have f101 : (1 : Int) ≤ (x78 + 1) ∧ (x78 + 1) ≤ (96 : Int) := ia_add f90 (il 1) (by decide) (by decide)
                  refine g_iinc C [(5, .inl (x78 + 1)), (0, .inr (.inr a0)), (1, .inl a1), (2, .inl a2), (3, .inl a3), (4, .inl x77)] 5 rfl (by decide) rfl dX12_seam_126 ?_
                  refine g_goto C 58 (by decide) dX12_seam_129 ?_
                  refine GW.sub [1, 2, 3, 4, 5, 0] rfl ?_
                  exact ih81 _ (by omega) x77 (x78 + 1) h79 rfl O83 F84 f85 (iw f101 (by decide) (by decide))
                · have f102 : (0 : Int) ≤ v96 ∧ v96 ≤ (3 : Int) := ii f98 (r_eq f42 q100) (by decide) (by decide)
                  refine g_iload C 4 rfl dX12_seam_76 ?_
                  refine g_iload_n C rfl 3 rfl dX12_seam_78 ?_
                  refine g_if_ne C (iw f54 (by decide) (by decide)) 104 (by decide) dX12_seam_79 (fun q103 => ?_) (fun q104 => ?_)
                  · have f105 : (1 : Int) ≤ a3 ∧ a3 ≤ (1 : Int) := r_nl f54 q103
                    refine g_aload_n C rfl 0 rfl dX12_seam_104 ?_
                    refine g_iload_n C rfl 1 rfl dX12_seam_105 ?_
                    refine g_iload C 5 rfl dX12_seam_106 ?_
                    refine g_callI (st := [.inl x77]) (gc_V C lk_LandSurveyModel_600 (k_X12_footTo l D cy w z0 O83 e91 (iw f29 (by decide) (by decide)) f90) e91 rfl rfl rfl ⟨by decide, by decide⟩ (Nat.le_of_ble_eq_true rfl) dX12_seam_108 ⟨(by decide), (by decide)⟩) (fun r106 h107 f109 K108 => ?_)
                    obtain ⟨O110, F111, f112⟩ := K108
                    refine g_if_le C f112 122 (by decide) dX12_seam_111 (fun q113 => ?_) (fun q114 => ?_)
                    · have f115 : (-2147483648 : Int) ≤ r106 ∧ r106 ≤ (0 : Int) := r_le f112 (il 0) q113 (by decide) (by decide)
                      refine g_iconst C dX12_seam_122 ?_
                      have f116 : (-2147483648 : Int) ≤ (x77 + 0) ∧ (x77 + 0) ≤ (2147483647 : Int) := ia_add f85 (il 0) (by decide) (by decide)
                      refine g_iadd C dX12_seam_123 ?_
                      refine g_istore C [(4, .inl (x77 + 0)), (0, .inr (.inr a0)), (1, .inl a1), (2, .inl a2), (3, .inl a3), (5, .inl x78)] (by decide) rfl dX12_seam_124 ?_
                      have f117 : (1 : Int) ≤ (x78 + 1) ∧ (x78 + 1) ≤ (96 : Int) := ia_add f90 (il 1) (by decide) (by decide)
                      refine g_iinc C [(5, .inl (x78 + 1)), (4, .inl (x77 + 0)), (0, .inr (.inr a0)), (1, .inl a1), (2, .inl a2), (3, .inl a3)] 5 rfl (by decide) rfl dX12_seam_126 ?_
                      refine g_goto C 58 (by decide) dX12_seam_129 ?_
                      refine GW.sub [2, 3, 4, 5, 1, 0] rfl ?_
                      exact ih81 _ (by omega) (x77 + 0) (x78 + 1) h107 rfl O110 (F84.call F111 rfl) f116 (iw f117 (by decide) (by decide))
                    · have f118 : (1 : Int) ≤ r106 ∧ r106 ≤ (2147483647 : Int) := r_gt f112 (il 0) q114 (by decide) (by decide)
                      refine g_aload_n C rfl 0 rfl dX12_seam_114 ?_
                      refine g_iload_n C rfl 1 rfl dX12_seam_115 ?_
                      have e119 : Tg h107 a0 = 12 := (fxT F111 e91)
                      have e120 : Tg h68 a0 = 12 := (fxT F72 e66)
                      have p121 := ((BNow_fx O83 F111 e91 rfl).trans ((BNow_fx O71 F84 e120 rfl).trans ((BNow_fx O64 F72 e66 rfl).trans ((BNow_fx O47 F65 e55 rfl).trans ((BNow_fx O34 F48 e58 rfl).trans ((BNow_fx O21 F35 e57 rfl).trans ((BNow_fx O9 F22 e56 rfl).trans ((BNow_fx O3 F10 e4 rfl).trans e14))))))))
                      refine g_callI (st := [.inl x77]) (gc_V C lk_LandSurveyModel_462 (k_X12_thickOf l D cy w z0 O110 e119 f29 (by rw [p121]; omega)) e119 rfl rfl rfl ⟨by decide, by decide⟩ (Nat.le_of_ble_eq_true rfl) dX12_seam_116 ⟨(by decide), (by decide)⟩) (fun r122 h123 f125 K124 => ?_)
                      obtain ⟨O126, F127, f128⟩ := K124
                      refine g_goto C 123 (by decide) dX12_seam_119 ?_
                      have f129 : (-2147483648 : Int) ≤ (w32 (x77 + r122)) ∧ (w32 (x77 + r122)) ≤ (2147483647 : Int) := w32_inR _
                      refine g_iaddW C dX12_seam_123 ?_
                      refine g_istore C [(4, .inl (w32 (x77 + r122))), (0, .inr (.inr a0)), (1, .inl a1), (2, .inl a2), (3, .inl a3), (5, .inl x78)] (by decide) rfl dX12_seam_124 ?_
                      have f130 : (1 : Int) ≤ (x78 + 1) ∧ (x78 + 1) ≤ (96 : Int) := ia_add f90 (il 1) (by decide) (by decide)
                      refine g_iinc C [(5, .inl (x78 + 1)), (4, .inl (w32 (x77 + r122))), (0, .inr (.inr a0)), (1, .inl a1), (2, .inl a2), (3, .inl a3)] 5 rfl (by decide) rfl dX12_seam_126 ?_
                      refine g_goto C 58 (by decide) dX12_seam_129 ?_
                      refine GW.sub [2, 3, 4, 5, 1, 0] rfl ?_
                      exact ih81 _ (by omega) (w32 (x77 + r122)) (x78 + 1) h123 rfl O126 ((F84.call F111 rfl).call F127 rfl) f129 (iw f130 (by decide) (by decide))
                  · have f131 : (0 : Int) ≤ a3 ∧ a3 ≤ (0 : Int) := ii f54 (r_eq (il 0) q104) (by decide) (by decide)
                    refine g_aload_n C rfl 0 rfl dX12_seam_82 ?_
                    refine g_iload_n C rfl 1 rfl dX12_seam_83 ?_
                    refine g_iload C 5 rfl dX12_seam_84 ?_
                    have e132 : Tg h68 a0 = 12 := (fxT F72 e66)
                    have p133 := ((BNow_fx O71 F84 e132 rfl).trans ((BNow_fx O64 F72 e66 rfl).trans ((BNow_fx O47 F65 e55 rfl).trans ((BNow_fx O34 F48 e58 rfl).trans ((BNow_fx O21 F35 e57 rfl).trans ((BNow_fx O9 F22 e56 rfl).trans ((BNow_fx O3 F10 e4 rfl).trans e14)))))))
                    refine g_callI (st := [.inl x77]) (gc_V C lk_LandSurveyModel_591 (k_X12_topFrom l D cy w z0 O83 e91 f29 f90 (by rw [p133]; omega)) e91 rfl rfl rfl ⟨by decide, by decide⟩ (Nat.le_of_ble_eq_true rfl) dX12_seam_86 ⟨(by decide), (by decide)⟩) (fun r134 h135 f137 K136 => ?_)
                    obtain ⟨O138, F139, f140⟩ := K136
                    refine g_if_lt C f140 100 (by decide) dX12_seam_89 (fun q141 => ?_) (fun q142 => ?_)
                    · have f143 : (-2147483648 : Int) ≤ r134 ∧ r134 ≤ (-1 : Int) := r_lt f140 (il 0) q141 (by decide) (by decide)
                      refine g_iconst C dX12_seam_100 ?_
                      refine g_goto C 123 (by decide) dX12_seam_101 ?_
                      have f144 : (-2147483648 : Int) ≤ (x77 + 0) ∧ (x77 + 0) ≤ (2147483647 : Int) := ia_add f85 (il 0) (by decide) (by decide)
                      refine g_iadd C dX12_seam_123 ?_
                      refine g_istore C [(4, .inl (x77 + 0)), (0, .inr (.inr a0)), (1, .inl a1), (2, .inl a2), (3, .inl a3), (5, .inl x78)] (by decide) rfl dX12_seam_124 ?_
                      have f145 : (1 : Int) ≤ (x78 + 1) ∧ (x78 + 1) ≤ (96 : Int) := ia_add f90 (il 1) (by decide) (by decide)
                      refine g_iinc C [(5, .inl (x78 + 1)), (4, .inl (x77 + 0)), (0, .inr (.inr a0)), (1, .inl a1), (2, .inl a2), (3, .inl a3)] 5 rfl (by decide) rfl dX12_seam_126 ?_
                      refine g_goto C 58 (by decide) dX12_seam_129 ?_
                      refine GW.sub [2, 3, 4, 5, 1, 0] rfl ?_
                      exact ih81 _ (by omega) (x77 + 0) (x78 + 1) h135 rfl O138 (F84.call F139 rfl) f144 (iw f145 (by decide) (by decide))
                    · have f146 : (0 : Int) ≤ r134 ∧ r134 ≤ (2147483647 : Int) := r_ge f140 (il 0) q142 (by decide) (by decide)
                      refine g_aload_n C rfl 0 rfl dX12_seam_92 ?_
                      refine g_iload_n C rfl 1 rfl dX12_seam_93 ?_
                      have e147 : Tg h135 a0 = 12 := (fxT F139 e91)
                      have p148 := ((BNow_fx O83 F139 e91 rfl).trans p133)
                      refine g_callI (st := [.inl x77]) (gc_V C lk_LandSurveyModel_459 (k_X12_thinOf l D cy w z0 O138 e147 f29 (by rw [p148]; omega)) e147 rfl rfl rfl ⟨by decide, by decide⟩ (Nat.le_of_ble_eq_true rfl) dX12_seam_94 ⟨(by decide), (by decide)⟩) (fun r149 h150 f152 K151 => ?_)
                      obtain ⟨O153, F154, f155⟩ := K151
                      refine g_goto C 123 (by decide) dX12_seam_97 ?_
                      have f156 : (-2147483648 : Int) ≤ (w32 (x77 + r149)) ∧ (w32 (x77 + r149)) ≤ (2147483647 : Int) := w32_inR _
                      refine g_iaddW C dX12_seam_123 ?_
                      refine g_istore C [(4, .inl (w32 (x77 + r149))), (0, .inr (.inr a0)), (1, .inl a1), (2, .inl a2), (3, .inl a3), (5, .inl x78)] (by decide) rfl dX12_seam_124 ?_
                      have f157 : (1 : Int) ≤ (x78 + 1) ∧ (x78 + 1) ≤ (96 : Int) := ia_add f90 (il 1) (by decide) (by decide)
                      refine g_iinc C [(5, .inl (x78 + 1)), (4, .inl (w32 (x77 + r149))), (0, .inr (.inr a0)), (1, .inl a1), (2, .inl a2), (3, .inl a3)] 5 rfl (by decide) rfl dX12_seam_126 ?_
                      refine g_goto C 58 (by decide) dX12_seam_129 ?_
                      refine GW.sub [2, 3, 4, 5, 1, 0] rfl ?_
                      exact ih81 _ (by omega) (w32 (x77 + r149)) (x78 + 1) h150 rfl O153 ((F84.call F139 rfl).call F154 rfl) f156 (iw f157 (by decide) (by decide))
          exact L80 _ 0 0 h68 rfl O71 Fx.rf (iw (il 0) (by decide) (by decide)) (iw (il 0) (by decide) (by decide))
        · have f158 : (0 : Int) ≤ r67 ∧ r67 ≤ (0 : Int) := ii f73 (r_eq (il 0) q75) (by decide) (by decide)
          refine g_iconst C dX12_seam_50 ?_
          exact g_iret C hr rfl (iw (il (-1)) (by decide) (by decide)) ⟨O71, ((((((((Fx.rf (wr := wr_k_X12_seam)).pI ta0 hh1 rfl).call F10 rfl).call F22 rfl).call F35 rfl).call F48 rfl).call F65 rfl).call F72 rfl), (iw (il (-1)) (by decide) (by decide))⟩ (by decide) (by decide) dX12_seam_51
      · have f159 : (0 : Int) ≤ r43 ∧ r43 ≤ (0 : Int) := ii f49 (r_eq (il 0) q52) (by decide) (by decide)
        refine g_iconst C dX12_seam_37 ?_
        exact g_iret C hr rfl (iw (il (-1)) (by decide) (by decide)) ⟨O47, ((((((Fx.rf (wr := wr_k_X12_seam)).pI ta0 hh1 rfl).call F10 rfl).call F22 rfl).call F35 rfl).call F48 rfl), (iw (il (-1)) (by decide) (by decide))⟩ (by decide) (by decide) dX12_seam_38
def wr_k_X12_sheet : List Nat := [2400, 2435, 2462, 2469, 2477, 2478, 2480, 26220000, 26420000, 30620200, 30820000, 31020000, 31220000, 32620000, 32820000, 33020000, 33220000, 33420000, 33620000, 34020200, 34220000, 34420400, 34620200, 34820200, 35020000, 35220000, 36220000]
set_option maxRecDepth 100000 in
set_option maxHeartbeats 4000000 in
theorem k_X12_sheet (l : Launch) (D : va_G) (cy : Nat → ClassId) (w : Nat → Nat) (z0 : Nat)  {h : Hp} {a0 : Nat} {a1 : Int} {a2 : Int} {a3 : Int} {a4 : Int}  (O : Okh h) (ta0 : Tg h a0 = 12) (fa1 : (-2147483648) ≤ a1 ∧ a1 ≤ 2147483647) (fa2 : (-2147483648) ≤ a2 ∧ a2 ≤ 2147483647) (fa3 : (-2147483648) ≤ a3 ∧ a3 ≤ 2147483647) (fa4 : (-2147483648) ≤ a4 ∧ a4 ≤ 2147483647) (P_MInv : MInv h a0) : MI l D cy w z0 yX12_sheet cX12_sheet 7 (some .int) 11 278 0 0 [.inr (.inr a0), .inl a1, .inl a2, .inl a3, .inl a4] h (fun v h1 => Okh h1 ∧ Fx wr_k_X12_sheet h h1 ∧ ((-2147483648) ≤ v ∧ v ≤ 2147483647)) := by
  refine hm_go (by decide +kernel) (Nat.le_of_ble_eq_true rfl) (fun p e s m below meth c C hr hn => ?_)
  refine g_aload_n C rfl 0 rfl dX12_sheet_0 ?_
  refine g_iconst C dX12_sheet_1 ?_
  refine gp_I C fk_LandSurveyModel_1 pk_LandSurveyModel_0 rfl ta0 (iw (il 0) (by decide) (by decide)) (nf_i _) dX12_sheet_2 (fun h2 hh1 => ?_)
  have O3 := O.pI ta0 hh1 rI_12_0 (iw (il 0) (by decide) (by decide)) nofun
  refine g_iload_n C rfl 1 rfl dX12_sheet_5 ?_
  refine g_iload_n C rfl 2 rfl dX12_sheet_6 ?_
  refine g_callI (st := []) (gc_S C lk_LandSurveyModel_419 (k_X12_isCell l D cy w z0 O3 fa1 fa2) rfl ⟨by decide, by decide⟩ (Nat.le_of_ble_eq_true rfl) dX12_sheet_7 ⟨(by decide), (by decide)⟩) (fun r4 h5 f7 K6 => ?_)
  obtain ⟨O8, F9, f10, p11⟩ := K6
  refine g_if_eq C (iw f10 (by decide) (by decide)) 42 (by decide) dX12_sheet_10 (fun q12 => ?_) (fun q13 => ?_)
  · have f14 : (0 : Int) ≤ r4 ∧ r4 ≤ (0 : Int) := ii f10 (r_eq (il 0) q12) (by decide) (by decide)
    refine g_iconst C dX12_sheet_42 ?_
    exact g_iret C hr rfl (iw (il (-1)) (by decide) (by decide)) ⟨O8, (((Fx.rf (wr := wr_k_X12_sheet)).pI ta0 hh1 rfl).call F9 rfl), (iw (il (-1)) (by decide) (by decide))⟩ (by decide) (by decide) dX12_sheet_43
  · have f15 : (1 : Int) ≤ r4 ∧ r4 ≤ (1 : Int) := r_nl f10 q13
    have f16 : (0 : Int) ≤ a1 ∧ a1 ≤ (11 : Int) := by omega
    have f17 : (0 : Int) ≤ a2 ∧ a2 ≤ (7 : Int) := by omega
    refine g_iload_n C rfl 3 rfl dX12_sheet_13 ?_
    refine g_iload C 4 rfl dX12_sheet_14 ?_
    refine g_callI (st := []) (gc_S C lk_LandSurveyModel_419 (k_X12_isCell l D cy w z0 O8 fa3 fa4) rfl ⟨by decide, by decide⟩ (Nat.le_of_ble_eq_true rfl) dX12_sheet_16 ⟨(by decide), (by decide)⟩) (fun r18 h19 f21 K20 => ?_)
    obtain ⟨O22, F23, f24, p25⟩ := K20
    refine g_if_eq C (iw f24 (by decide) (by decide)) 42 (by decide) dX12_sheet_19 (fun q26 => ?_) (fun q27 => ?_)
    · have f28 : (0 : Int) ≤ r18 ∧ r18 ≤ (0 : Int) := ii f24 (r_eq (il 0) q26) (by decide) (by decide)
      refine g_iconst C dX12_sheet_42 ?_
      exact g_iret C hr rfl (iw (il (-1)) (by decide) (by decide)) ⟨O22, ((((Fx.rf (wr := wr_k_X12_sheet)).pI ta0 hh1 rfl).call F9 rfl).call F23 rfl), (iw (il (-1)) (by decide) (by decide))⟩ (by decide) (by decide) dX12_sheet_43
    · have f29 : (1 : Int) ≤ r18 ∧ r18 ≤ (1 : Int) := r_nl f24 q27
      have f30 : (0 : Int) ≤ a3 ∧ a3 ≤ (11 : Int) := by omega
      have f31 : (0 : Int) ≤ a4 ∧ a4 ≤ (7 : Int) := by omega
      refine g_iload_n C rfl 1 rfl dX12_sheet_22 ?_
      refine g_iload_n C rfl 3 rfl dX12_sheet_23 ?_
      refine g_icmp_gt C (iw f16 (by decide) (by decide)) (iw f30 (by decide) (by decide)) 42 (by decide) dX12_sheet_24 (fun q32 => ?_) (fun q33 => ?_)
      · have f34 : (0 : Int) ≤ a3 ∧ a3 ≤ (10 : Int) := r_lt f30 f16 q32 (by decide) (by decide)
        have f35 : (1 : Int) ≤ a1 ∧ a1 ≤ (11 : Int) := r_gt f16 f30 q32 (by decide) (by decide)
        refine g_iconst C dX12_sheet_42 ?_
        exact g_iret C hr rfl (iw (il (-1)) (by decide) (by decide)) ⟨O22, ((((Fx.rf (wr := wr_k_X12_sheet)).pI ta0 hh1 rfl).call F9 rfl).call F23 rfl), (iw (il (-1)) (by decide) (by decide))⟩ (by decide) (by decide) dX12_sheet_43
      · refine g_iload_n C rfl 2 rfl dX12_sheet_27 ?_
        refine g_iload C 4 rfl dX12_sheet_28 ?_
        refine g_icmp_gt C (iw f17 (by decide) (by decide)) (iw f31 (by decide) (by decide)) 42 (by decide) dX12_sheet_30 (fun q36 => ?_) (fun q37 => ?_)
        · have f38 : (0 : Int) ≤ a4 ∧ a4 ≤ (6 : Int) := r_lt f31 f17 q36 (by decide) (by decide)
          have f39 : (1 : Int) ≤ a2 ∧ a2 ≤ (7 : Int) := r_gt f17 f31 q36 (by decide) (by decide)
          refine g_iconst C dX12_sheet_42 ?_
          exact g_iret C hr rfl (iw (il (-1)) (by decide) (by decide)) ⟨O22, ((((Fx.rf (wr := wr_k_X12_sheet)).pI ta0 hh1 rfl).call F9 rfl).call F23 rfl), (iw (il (-1)) (by decide) (by decide))⟩ (by decide) (by decide) dX12_sheet_43
        · refine g_aload_n C rfl 0 rfl dX12_sheet_33 ?_
          have e40 : Tg h19 a0 = 12 := (fxT F23 (fxT F9 ((pIT hh1).trans ta0)))
          obtain ⟨v41, e42⟩ : ∃ z, Iv h19 a0 80 = z := ⟨_, rfl⟩
          have f43 := ok_I O22 e40 rI_12_80 e42
          refine gf_I C fk_LandSurveyModel_603 rfl e40 e42 dX12_sheet_34 ?_
          refine g_bipush C (by decide) dX12_sheet_37 ?_
          refine g_icmp_ne C (iw f43 (by decide) (by decide)) (iw (il 10) (by decide) (by decide)) 44 (by decide) dX12_sheet_39 (fun q44 => ?_) (fun q45 => ?_)
          · have f46 : (0 : Int) ≤ v41 ∧ v41 ≤ (9 : Int) := r_nh f43 q44
            refine g_aload_n C rfl 0 rfl dX12_sheet_44 ?_
            have e47 : Tg h2 a0 = 12 := ((pIT hh1).trans ta0)
            have e48 : Tg h5 a0 = 12 := (fxT F9 e47)
            have p49 := (MInv_fx O8 F23 e48 rfl (MInv_fx O3 F9 e47 rfl (MInv_fx O ((Fx.rf (wr := [2400]) (h := h)).pI ta0 hh1 rfl) ta0 rfl P_MInv)))
            refine g_callV (st := []) (gc_V C lk_LandSurveyModel_557 (k_X12_findGrounds l D cy w z0 O22 e40 p49) e40 rfl rfl rfl ⟨by decide, by decide⟩ (Nat.le_of_ble_eq_true rfl) dX12_sheet_45 ⟨(by decide), (by decide)⟩) (fun h51 K52 => ?_)
            obtain ⟨O54, F55⟩ := K52
            refine g_aload_n C rfl 0 rfl dX12_sheet_48 ?_
            have e56 : Tg h51 a0 = 12 := (fxT F55 e40)
            obtain ⟨v57, e58⟩ : ∃ z, Iv h51 a0 78 = z := ⟨_, rfl⟩
            have f59 := ok_I O54 e56 rI_12_78 e58
            refine gf_I C fk_LandSurveyModel_546 rfl e56 e58 dX12_sheet_49 ?_
            refine g_if_ne C (iw f59 (by decide) (by decide)) 57 (by decide) dX12_sheet_52 (fun q60 => ?_) (fun q61 => ?_)
            · have f62 : (1 : Int) ≤ v57 ∧ v57 ≤ (16 : Int) := r_nl f59 q60
              refine g_iconst C dX12_sheet_57 ?_
              refine g_istore C [(5, .inl 0), (0, .inr (.inr a0)), (1, .inl a1), (2, .inl a2), (3, .inl a3), (4, .inl a4)] (by decide) rfl dX12_sheet_58 ?_
              refine GW.sub [1, 2, 3, 4, 5, 0] rfl ?_
              -- loop at 60
              have L65 : ∀ (μ : Nat) (x63 : Int) (h64 : Hp), (96 - x63).toNat = μ → Okh h64 → Fx [36220000] h51 h64 → ((0 : Int) ≤ x63 ∧ x63 ≤ (96 : Int)) → GW p l e (rmm 11 278 0 0) s m (List.map toV [.inr (.inr a0), .inl a1, .inl a2, .inl a3, .inl a4]).toArray below meth c D cy z0 7 (MQ below (QI D cy z0 (fun v h1 => Okh h1 ∧ Fx wr_k_X12_sheet h h1 ∧ ((-2147483648) ≤ v ∧ v ≤ 2147483647))) (List.map toV [.inr (.inr a0), .inl a1, .inl a2, .inl a3, .inl a4]).toArray s 0 0 (Aof z0)) 60 [(0, .inr (.inr a0)), (1, .inl a1), (2, .inl a2), (3, .inl a3), (4, .inl a4), (5, .inl x63)] [] h64 0 0 := by
                intro μ
                induction μ using Nat.strongRecOn with
                | ind μ ih66 =>
                  intro x63 h64 hm67 O68 F69 f70
                  refine g_iload C 5 rfl dX12_sheet_60 ?_
                  refine g_bipush C (by decide) dX12_sheet_62 ?_
                  refine g_icmp_ge C (iw f70 (by decide) (by decide)) (iw (il 96) (by decide) (by decide)) 138 (by decide) dX12_sheet_64 (fun q71 => ?_) (fun q72 => ?_)
                  · have f73 : (96 : Int) ≤ x63 ∧ x63 ≤ (96 : Int) := r_ge f70 (il 96) q71 (by decide) (by decide)
                    refine g_aload_n C rfl 0 rfl dX12_sheet_138 ?_
                    refine g_dup C rfl dX12_sheet_139 ?_
                    have e74 : Tg h64 a0 = 12 := (fxT F69 e56)
                    have e75 : Iv h64 a0 80 = v41 := ((fxI F69 e56 rfl).trans ((fxI F55 e40 rfl).trans e42))
                    refine gf_I C fk_LandSurveyModel_603 rfl e74 e75 dX12_sheet_140 ?_
                    refine g_iconst C dX12_sheet_143 ?_
                    have f76 : (1 : Int) ≤ (v41 + 1) ∧ (v41 + 1) ≤ (10 : Int) := ia_add f46 (il 1) (by decide) (by decide)
                    refine g_iadd C dX12_sheet_144 ?_
                    refine gp_I C fk_LandSurveyModel_603 pk_LandSurveyModel_80 rfl e74 (iw f76 (by decide) (by decide)) (nf_i _) dX12_sheet_145 (fun h78 hh77 => ?_)
                    have O79 := O68.pI e74 hh77 rI_12_80 (iw f76 (by decide) (by decide)) nofun
                    refine g_aload_n C rfl 0 rfl dX12_sheet_148 ?_
                    have e80 : Tg h78 a0 = 12 := ((pIT hh77).trans e74)
                    refine gf_I C fk_LandSurveyModel_603 rfl e80 (pI_e hh77) dX12_sheet_149 ?_
                    refine g_iconst C dX12_sheet_152 ?_
                    have f81 : (0 : Int) ≤ ((v41 + 1) - 1) ∧ ((v41 + 1) - 1) ≤ (9 : Int) := ia_sub f76 (il 1) (by decide) (by decide)
                    refine g_isub C dX12_sheet_153 ?_
                    exact g_iret C hr rfl (iw f81 (by decide) (by decide)) ⟨O79, (((((((Fx.rf (wr := wr_k_X12_sheet)).pI ta0 hh1 rfl).call F9 rfl).call F23 rfl).call F55 rfl).call F69 rfl).pI e74 hh77 rfl), (iw f81 (by decide) (by decide))⟩ (by decide) (by decide) dX12_sheet_154
                  · have f82 : (0 : Int) ≤ x63 ∧ x63 ≤ (95 : Int) := r_lt f70 (il 96) q72 (by decide) (by decide)
                    refine g_iload C 5 rfl dX12_sheet_67 ?_
                    refine g_bipush C (by decide) dX12_sheet_69 ?_
                    refine g_iremE (k := 12) C (iw f82 (by decide) (by decide)) (by decide) (by decide) dX12_sheet_71 ?_
                    have f83 : (0 : Int) ≤ (x63 % 12) ∧ (x63 % 12) ≤ (11 : Int) := iv_rem (by decide) (by decide)
                    refine g_iload_n C rfl 1 rfl dX12_sheet_72 ?_
                    refine g_iload_n C rfl 3 rfl dX12_sheet_73 ?_
                    refine g_callI (st := []) (gc_S C lk_LandSurveyModel_415 (k_X12_within l D cy w z0 O68 (iw f83 (by decide) (by decide)) (iw f16 (by decide) (by decide)) (iw f30 (by decide) (by decide))) rfl ⟨by decide, by decide⟩ (Nat.le_of_ble_eq_true rfl) dX12_sheet_74 ⟨(by decide), (by decide)⟩) (fun r84 h85 f87 K86 => ?_)
                    obtain ⟨O88, F89, f90, p91⟩ := K86
                    refine g_if_eq C (iw f90 (by decide) (by decide)) 98 (by decide) dX12_sheet_77 (fun q92 => ?_) (fun q93 => ?_)
                    · have f94 : (0 : Int) ≤ r84 ∧ r84 ≤ (0 : Int) := ii f90 (r_eq (il 0) q92) (by decide) (by decide)
                      refine g_iconst C dX12_sheet_98 ?_
                      refine g_istore C [(6, .inl 0), (0, .inr (.inr a0)), (1, .inl a1), (2, .inl a2), (3, .inl a3), (4, .inl a4), (5, .inl x63)] (by decide) rfl dX12_sheet_99 ?_
                      refine g_aload_n C rfl 1 rfl dX12_sheet_101 ?_
                      have e95 : Tg h85 a0 = 12 := (fxT F89 (fxT F69 e56))
                      obtain ⟨v96, e97⟩ : ∃ z, Rv h85 a0 81 = z := ⟨_, rfl⟩
                      have t98 := ok_R O88 e95 rE_12_81 e97
                      have l99 := ok_L O88 e95 rE_12_81 e97
                      refine gf_R C fk_LandSurveyModel_272 rfl e95 e97 dX12_sheet_102 ?_
                      refine g_bipush C (by decide) dX12_sheet_105 ?_
                      refine g_aload_n C rfl 1 rfl dX12_sheet_107 ?_
                      have e100 : Tg h64 a0 = 12 := (fxT F69 e56)
                      have e101 : Iv h85 a0 80 = v41 := ((fxI F89 e100 rfl).trans ((fxI F69 e56 rfl).trans ((fxI F55 e40 rfl).trans e42)))
                      refine gf_I C fk_LandSurveyModel_603 rfl e95 e101 dX12_sheet_108 ?_
                      have f102 : (0 : Int) ≤ (96 * v41) ∧ (96 * v41) ≤ (864 : Int) := ia_mul (by decide) f46 (by decide) (by decide)
                      refine g_imul C dX12_sheet_111 ?_
                      refine g_iload C 6 rfl dX12_sheet_112 ?_
                      have f103 : (0 : Int) ≤ ((96 * v41) + x63) ∧ ((96 * v41) + x63) ≤ (959 : Int) := ia_add f102 f82 (by decide) (by decide)
                      refine g_iadd C dX12_sheet_114 ?_
                      refine g_iload C 0 rfl dX12_sheet_115 ?_
                      refine g_if_eq C (iw (il 0) (by decide) (by decide)) 130 (by decide) dX12_sheet_117 (fun q104 => ?_) (fun q105 => ?_)
                      · refine g_iconst C dX12_sheet_130 ?_
                        refine g_iast C t98 rfl l99 (ix f103 (by decide) (by decide)) (iw (il (-1)) (by decide) (by decide)) dX12_sheet_131 (fun h107 hh106 => ?_)
                        have O108 := O88.pIa t98 ar_181100 hh106 rI_181100_0 (iw (il (-1)) (by decide) (by decide)) nofun
                        have f109 : (1 : Int) ≤ (x63 + 1) ∧ (x63 + 1) ≤ (96 : Int) := ia_add f82 (il 1) (by decide) (by decide)
                        refine g_iinc C [(5, .inl (x63 + 1)), (6, .inl 0), (0, .inr (.inr a0)), (1, .inl a1), (2, .inl a2), (3, .inl a3), (4, .inl a4)] 6 rfl (by decide) rfl dX12_sheet_132 ?_
                        refine g_goto C 60 (by decide) dX12_sheet_135 ?_
                        refine GW.sub [2, 3, 4, 5, 6, 0] rfl ?_
                        exact ih66 _ (by omega) (x63 + 1) h107 rfl O108 ((F69.call F89 rfl).pIa t98 ar_181100 hh106 rfl) (iw f109 (by decide) (by decide))
                      · exact (no_ne (il 0) (il 0) q105 (by decide)).elim
                    · have f110 : (1 : Int) ≤ r84 ∧ r84 ≤ (1 : Int) := r_nl f90 q93
                      refine g_iload C 5 rfl dX12_sheet_80 ?_
                      refine g_bipush C (by decide) dX12_sheet_82 ?_
                      refine g_idivE (k := 12) C (iw f82 (by decide) (by decide)) (by decide) (by decide) dX12_sheet_84 ?_
                      have f111 : (0 : Int) ≤ (x63 / 12) ∧ (x63 / 12) ≤ (7 : Int) := iv_div (by decide) f82 (by decide) (by decide)
                      refine g_iload_n C rfl 2 rfl dX12_sheet_85 ?_
                      refine g_iload C 4 rfl dX12_sheet_86 ?_
                      refine g_callI (st := []) (gc_S C lk_LandSurveyModel_415 (k_X12_within l D cy w z0 O88 (iw f111 (by decide) (by decide)) (iw f17 (by decide) (by decide)) (iw f31 (by decide) (by decide))) rfl ⟨by decide, by decide⟩ (Nat.le_of_ble_eq_true rfl) dX12_sheet_88 ⟨(by decide), (by decide)⟩) (fun r112 h113 f115 K114 => ?_)
                      obtain ⟨O116, F117, f118, p119⟩ := K114
                      refine g_if_eq C (iw f118 (by decide) (by decide)) 98 (by decide) dX12_sheet_91 (fun q120 => ?_) (fun q121 => ?_)
                      · have f122 : (0 : Int) ≤ r112 ∧ r112 ≤ (0 : Int) := ii f118 (r_eq (il 0) q120) (by decide) (by decide)
                        refine g_iconst C dX12_sheet_98 ?_
                        refine g_istore C [(6, .inl 0), (0, .inr (.inr a0)), (1, .inl a1), (2, .inl a2), (3, .inl a3), (4, .inl a4), (5, .inl x63)] (by decide) rfl dX12_sheet_99 ?_
                        refine g_aload_n C rfl 1 rfl dX12_sheet_101 ?_
                        have e123 : Tg h113 a0 = 12 := (fxT F117 (fxT F89 (fxT F69 e56)))
                        obtain ⟨v124, e125⟩ : ∃ z, Rv h113 a0 81 = z := ⟨_, rfl⟩
                        have t126 := ok_R O116 e123 rE_12_81 e125
                        have l127 := ok_L O116 e123 rE_12_81 e125
                        refine gf_R C fk_LandSurveyModel_272 rfl e123 e125 dX12_sheet_102 ?_
                        refine g_bipush C (by decide) dX12_sheet_105 ?_
                        refine g_aload_n C rfl 1 rfl dX12_sheet_107 ?_
                        have e128 : Tg h64 a0 = 12 := (fxT F69 e56)
                        have e129 : Tg h85 a0 = 12 := (fxT F89 e128)
                        have e130 : Iv h113 a0 80 = v41 := ((fxI F117 e129 rfl).trans ((fxI F89 e128 rfl).trans ((fxI F69 e56 rfl).trans ((fxI F55 e40 rfl).trans e42))))
                        refine gf_I C fk_LandSurveyModel_603 rfl e123 e130 dX12_sheet_108 ?_
                        have f131 : (0 : Int) ≤ (96 * v41) ∧ (96 * v41) ≤ (864 : Int) := ia_mul (by decide) f46 (by decide) (by decide)
                        refine g_imul C dX12_sheet_111 ?_
                        refine g_iload C 6 rfl dX12_sheet_112 ?_
                        have f132 : (0 : Int) ≤ ((96 * v41) + x63) ∧ ((96 * v41) + x63) ≤ (959 : Int) := ia_add f131 f82 (by decide) (by decide)
                        refine g_iadd C dX12_sheet_114 ?_
                        refine g_iload C 0 rfl dX12_sheet_115 ?_
                        refine g_if_eq C (iw (il 0) (by decide) (by decide)) 130 (by decide) dX12_sheet_117 (fun q133 => ?_) (fun q134 => ?_)
                        · refine g_iconst C dX12_sheet_130 ?_
                          refine g_iast C t126 rfl l127 (ix f132 (by decide) (by decide)) (iw (il (-1)) (by decide) (by decide)) dX12_sheet_131 (fun h136 hh135 => ?_)
                          have O137 := O116.pIa t126 ar_181100 hh135 rI_181100_0 (iw (il (-1)) (by decide) (by decide)) nofun
                          have f138 : (1 : Int) ≤ (x63 + 1) ∧ (x63 + 1) ≤ (96 : Int) := ia_add f82 (il 1) (by decide) (by decide)
                          refine g_iinc C [(5, .inl (x63 + 1)), (6, .inl 0), (0, .inr (.inr a0)), (1, .inl a1), (2, .inl a2), (3, .inl a3), (4, .inl a4)] 6 rfl (by decide) rfl dX12_sheet_132 ?_
                          refine g_goto C 60 (by decide) dX12_sheet_135 ?_
                          refine GW.sub [2, 3, 4, 5, 6, 0] rfl ?_
                          exact ih66 _ (by omega) (x63 + 1) h136 rfl O137 (((F69.call F89 rfl).call F117 rfl).pIa t126 ar_181100 hh135 rfl) (iw f138 (by decide) (by decide))
                        · exact (no_ne (il 0) (il 0) q134 (by decide)).elim
                      · have f139 : (1 : Int) ≤ r112 ∧ r112 ≤ (1 : Int) := r_nl f118 q121
                        refine g_iconst C dX12_sheet_94 ?_
                        refine g_goto C 99 (by decide) dX12_sheet_95 ?_
                        refine g_istore C [(6, .inl 1), (0, .inr (.inr a0)), (1, .inl a1), (2, .inl a2), (3, .inl a3), (4, .inl a4), (5, .inl x63)] (by decide) rfl dX12_sheet_99 ?_
                        refine g_aload_n C rfl 1 rfl dX12_sheet_101 ?_
                        have e140 : Tg h113 a0 = 12 := (fxT F117 (fxT F89 (fxT F69 e56)))
                        obtain ⟨v141, e142⟩ : ∃ z, Rv h113 a0 81 = z := ⟨_, rfl⟩
                        have t143 := ok_R O116 e140 rE_12_81 e142
                        have l144 := ok_L O116 e140 rE_12_81 e142
                        refine gf_R C fk_LandSurveyModel_272 rfl e140 e142 dX12_sheet_102 ?_
                        refine g_bipush C (by decide) dX12_sheet_105 ?_
                        refine g_aload_n C rfl 1 rfl dX12_sheet_107 ?_
                        have e145 : Tg h64 a0 = 12 := (fxT F69 e56)
                        have e146 : Tg h85 a0 = 12 := (fxT F89 e145)
                        have e147 : Iv h113 a0 80 = v41 := ((fxI F117 e146 rfl).trans ((fxI F89 e145 rfl).trans ((fxI F69 e56 rfl).trans ((fxI F55 e40 rfl).trans e42))))
                        refine gf_I C fk_LandSurveyModel_603 rfl e140 e147 dX12_sheet_108 ?_
                        have f148 : (0 : Int) ≤ (96 * v41) ∧ (96 * v41) ≤ (864 : Int) := ia_mul (by decide) f46 (by decide) (by decide)
                        refine g_imul C dX12_sheet_111 ?_
                        refine g_iload C 6 rfl dX12_sheet_112 ?_
                        have f149 : (0 : Int) ≤ ((96 * v41) + x63) ∧ ((96 * v41) + x63) ≤ (959 : Int) := ia_add f148 f82 (by decide) (by decide)
                        refine g_iadd C dX12_sheet_114 ?_
                        refine g_iload C 0 rfl dX12_sheet_115 ?_
                        refine g_if_eq C (iw (il 1) (by decide) (by decide)) 130 (by decide) dX12_sheet_117 (fun q150 => ?_) (fun q151 => ?_)
                        · exact (no_eq (il 1) (il 0) q150 (by decide)).elim
                        · refine g_aload_n C rfl 1 rfl dX12_sheet_120 ?_
                          refine g_iload C 6 rfl dX12_sheet_121 ?_
                          refine g_iconst C dX12_sheet_123 ?_
                          refine g_callI (st := [.inl ((96 * v41) + x63), .inr (.inr v141)]) (gc_V C lk_LandSurveyModel_575 (k_X12_mayLieAll l D cy w z0 O116 e140 f82 (iw (il 0) (by decide) (by decide))) e140 rfl rfl rfl ⟨by decide, by decide⟩ (Nat.le_of_ble_eq_true rfl) dX12_sheet_124 ⟨(by decide), (by decide)⟩) (fun r152 h153 f155 K154 => ?_)
                          obtain ⟨O156, F157, f158⟩ := K154
                          refine g_goto C 131 (by decide) dX12_sheet_127 ?_
                          have e159 : Tg h153 v141 = 181100 := (fxT F157 t143)
                          have e160 : Ln h153 v141 = 960 := ((fxL F157 t143).trans l144)
                          refine g_iast C e159 rfl e160 (ix f149 (by decide) (by decide)) f158 dX12_sheet_131 (fun h162 hh161 => ?_)
                          have O163 := O156.pIa e159 ar_181100 hh161 rI_181100_0 f158 nofun
                          have f164 : (1 : Int) ≤ (x63 + 1) ∧ (x63 + 1) ≤ (96 : Int) := ia_add f82 (il 1) (by decide) (by decide)
                          refine g_iinc C [(5, .inl (x63 + 1)), (6, .inl 1), (0, .inr (.inr a0)), (1, .inl a1), (2, .inl a2), (3, .inl a3), (4, .inl a4)] 6 rfl (by decide) rfl dX12_sheet_132 ?_
                          refine g_goto C 60 (by decide) dX12_sheet_135 ?_
                          refine GW.sub [2, 3, 4, 5, 6, 0] rfl ?_
                          exact ih66 _ (by omega) (x63 + 1) h162 rfl O163 ((((F69.call F89 rfl).call F117 rfl).call F157 rfl).pIa e159 ar_181100 hh161 rfl) (iw f164 (by decide) (by decide))
              exact L65 _ 0 h51 rfl O54 Fx.rf (iw (il 0) (by decide) (by decide))
            · have f165 : (0 : Int) ≤ v57 ∧ v57 ≤ (0 : Int) := ii f59 (r_eq (il 0) q61) (by decide) (by decide)
              refine g_iconst C dX12_sheet_55 ?_
              exact g_iret C hr rfl (iw (il (-1)) (by decide) (by decide)) ⟨O54, (((((Fx.rf (wr := wr_k_X12_sheet)).pI ta0 hh1 rfl).call F9 rfl).call F23 rfl).call F55 rfl), (iw (il (-1)) (by decide) (by decide))⟩ (by decide) (by decide) dX12_sheet_56
          · have f166 : (10 : Int) ≤ v41 ∧ v41 ≤ (10 : Int) := ii f43 (r_eq (il 10) q45) (by decide) (by decide)
            refine g_iconst C dX12_sheet_42 ?_
            exact g_iret C hr rfl (iw (il (-1)) (by decide) (by decide)) ⟨O22, ((((Fx.rf (wr := wr_k_X12_sheet)).pI ta0 hh1 rfl).call F9 rfl).call F23 rfl), (iw (il (-1)) (by decide) (by decide))⟩ (by decide) (by decide) dX12_sheet_43
def wr_k_X12_drawn : List Nat := [2400]
set_option maxRecDepth 100000 in
set_option maxHeartbeats 4000000 in
theorem k_X12_drawn (l : Launch) (D : va_G) (cy : Nat → ClassId) (w : Nat → Nat) (z0 : Nat)  {h : Hp} {a0 : Nat} {a1 : Int} {a2 : Int} {a3 : Int}  (O : Okh h) (ta0 : Tg h a0 = 12) (fa1 : (-2147483648) ≤ a1 ∧ a1 ≤ 2147483647) (fa2 : (-2147483648) ≤ a2 ∧ a2 ≤ 2147483647) (fa3 : (-2147483648) ≤ a3 ∧ a3 ≤ 2147483647) (P_MInv : MInv h a0) : MI l D cy w z0 yX12_drawn cX12_drawn 4 (some .int) 2 43 0 0 [.inr (.inr a0), .inl a1, .inl a2, .inl a3] h (fun v h1 => Okh h1 ∧ Fx wr_k_X12_drawn h h1 ∧ ((-2147483648) ≤ v ∧ v ≤ 2147483647)) := by
  refine hm_go (by decide +kernel) (Nat.le_of_ble_eq_true rfl) (fun p e s m below meth c C hr hn => ?_)
  refine g_aload_n C rfl 0 rfl dX12_drawn_0 ?_
  refine g_iconst C dX12_drawn_1 ?_
  refine gp_I C fk_LandSurveyModel_1 pk_LandSurveyModel_0 rfl ta0 (iw (il 0) (by decide) (by decide)) (nf_i _) dX12_drawn_2 (fun h2 hh1 => ?_)
  have O3 := O.pI ta0 hh1 rI_12_0 (iw (il 0) (by decide) (by decide)) nofun
  refine g_aload_n C rfl 0 rfl dX12_drawn_5 ?_
  refine g_iload_n C rfl 1 rfl dX12_drawn_6 ?_
  have e4 : Tg h2 a0 = 12 := ((pIT hh1).trans ta0)
  refine g_callI (st := []) (gc_V C lk_LandSurveyModel_606 (k2_isSheet l D cy w z0 O3 e4 fa1) e4 rfl rfl rfl ⟨by decide, by decide⟩ (Nat.le_of_ble_eq_true rfl) dX12_drawn_7 ⟨(by decide), (by decide)⟩) (fun r5 h6 f8 K7 => ?_)
  obtain ⟨O9, F10, f11, p12⟩ := K7
  refine g_if_eq C (iw f11 (by decide) (by decide)) 40 (by decide) dX12_drawn_10 (fun q13 => ?_) (fun q14 => ?_)
  · have f15 : (0 : Int) ≤ r5 ∧ r5 ≤ (0 : Int) := ii f11 (r_eq (il 0) q13) (by decide) (by decide)
    refine g_iconst C dX12_drawn_40 ?_
    exact g_iret C hr rfl (iw (il (-1)) (by decide) (by decide)) ⟨O9, (((Fx.rf (wr := wr_k_X12_drawn)).pI ta0 hh1 rfl).call F10 rfl), (iw (il (-1)) (by decide) (by decide))⟩ (by decide) (by decide) dX12_drawn_41
  · have f16 : (1 : Int) ≤ r5 ∧ r5 ≤ (1 : Int) := r_nl f11 q14
    have f17 : (0 : Int) ≤ a1 ∧ a1 ≤ (9 : Int) := by omega
    refine g_iload_n C rfl 2 rfl dX12_drawn_13 ?_
    refine g_iload_n C rfl 3 rfl dX12_drawn_14 ?_
    refine g_callI (st := []) (gc_S C lk_LandSurveyModel_419 (k_X12_isCell l D cy w z0 O9 fa2 fa3) rfl ⟨by decide, by decide⟩ (Nat.le_of_ble_eq_true rfl) dX12_drawn_15 ⟨(by decide), (by decide)⟩) (fun r18 h19 f21 K20 => ?_)
    obtain ⟨O22, F23, f24, p25⟩ := K20
    refine g_if_eq C (iw f24 (by decide) (by decide)) 40 (by decide) dX12_drawn_18 (fun q26 => ?_) (fun q27 => ?_)
    · have f28 : (0 : Int) ≤ r18 ∧ r18 ≤ (0 : Int) := ii f24 (r_eq (il 0) q26) (by decide) (by decide)
      refine g_iconst C dX12_drawn_40 ?_
      exact g_iret C hr rfl (iw (il (-1)) (by decide) (by decide)) ⟨O22, ((((Fx.rf (wr := wr_k_X12_drawn)).pI ta0 hh1 rfl).call F10 rfl).call F23 rfl), (iw (il (-1)) (by decide) (by decide))⟩ (by decide) (by decide) dX12_drawn_41
    · have f29 : (1 : Int) ≤ r18 ∧ r18 ≤ (1 : Int) := r_nl f24 q27
      have f30 : (0 : Int) ≤ a2 ∧ a2 ≤ (11 : Int) := by omega
      have f31 : (0 : Int) ≤ a3 ∧ a3 ≤ (7 : Int) := by omega
      refine g_aload_n C rfl 0 rfl dX12_drawn_21 ?_
      have e32 : Tg h19 a0 = 12 := (fxT F23 (fxT F10 e4))
      obtain ⟨v33, e34⟩ : ∃ z, Rv h19 a0 81 = z := ⟨_, rfl⟩
      have t35 := ok_R O22 e32 rE_12_81 e34
      have l36 := ok_L O22 e32 rE_12_81 e34
      refine gf_R C fk_LandSurveyModel_272 rfl e32 e34 dX12_drawn_22 ?_
      refine g_bipush C (by decide) dX12_drawn_25 ?_
      refine g_iload_n C rfl 1 rfl dX12_drawn_27 ?_
      have f37 : (0 : Int) ≤ (96 * a1) ∧ (96 * a1) ≤ (864 : Int) := ia_mul (by decide) f17 (by decide) (by decide)
      refine g_imul C dX12_drawn_28 ?_
      refine g_bipush C (by decide) dX12_drawn_29 ?_
      refine g_iload_n C rfl 3 rfl dX12_drawn_31 ?_
      have f38 : (0 : Int) ≤ (12 * a3) ∧ (12 * a3) ≤ (84 : Int) := ia_mul (by decide) f31 (by decide) (by decide)
      refine g_imul C dX12_drawn_32 ?_
      have f39 : (0 : Int) ≤ ((96 * a1) + (12 * a3)) ∧ ((96 * a1) + (12 * a3)) ≤ (948 : Int) := ia_add f37 f38 (by decide) (by decide)
      refine g_iadd C dX12_drawn_33 ?_
      refine g_iload_n C rfl 2 rfl dX12_drawn_34 ?_
      have f40 : (0 : Int) ≤ (((96 * a1) + (12 * a3)) + a2) ∧ (((96 * a1) + (12 * a3)) + a2) ≤ (959 : Int) := ia_add f39 f30 (by decide) (by decide)
      refine g_iadd C dX12_drawn_35 ?_
      obtain ⟨v41, e42⟩ : ∃ z, Iv h19 v33 ((((96 * a1) + (12 * a3)) + a2).toNat) = z := ⟨_, rfl⟩
      have f43 := ok_Ia O22 t35 ar_181100 rI_181100_0 e42
      refine g_iald C t35 rfl l36 (ix f40 (by decide) (by decide)) e42 dX12_drawn_36 ?_
      refine g_goto C 41 (by decide) dX12_drawn_37 ?_
      exact g_iret C hr rfl f43 ⟨O22, ((((Fx.rf (wr := wr_k_X12_drawn)).pI ta0 hh1 rfl).call F10 rfl).call F23 rfl), f43⟩ (by decide) (by decide) dX12_drawn_41
def wr_k_X12_quarrel : List Nat := [2400]
set_option maxRecDepth 100000 in
set_option maxHeartbeats 4000000 in
theorem k_X12_quarrel (l : Launch) (D : va_G) (cy : Nat → ClassId) (w : Nat → Nat) (z0 : Nat)  {h : Hp} {a0 : Nat} {a1 : Int} {a2 : Int}  (O : Okh h) (ta0 : Tg h a0 = 12) (fa1 : (-2147483648) ≤ a1 ∧ a1 ≤ 2147483647) (fa2 : (-2147483648) ≤ a2 ∧ a2 ≤ 2147483647) (P_MInv : MInv h a0) : MI l D cy w z0 yX12_quarrel cX12_quarrel 7 (some .int) 1 21 0 0 [.inr (.inr a0), .inl a1, .inl a2] h (fun v h1 => Okh h1 ∧ Fx wr_k_X12_quarrel h h1 ∧ ((-2147483648) ≤ v ∧ v ≤ 2147483647)) := by
  refine hm_go (by decide +kernel) (Nat.le_of_ble_eq_true rfl) (fun p e s m below meth c C hr hn => ?_)
  refine g_aload_n C rfl 0 rfl dX12_quarrel_0 ?_
  refine g_iconst C dX12_quarrel_1 ?_
  refine gp_I C fk_LandSurveyModel_1 pk_LandSurveyModel_0 rfl ta0 (iw (il 0) (by decide) (by decide)) (nf_i _) dX12_quarrel_2 (fun h2 hh1 => ?_)
  have O3 := O.pI ta0 hh1 rI_12_0 (iw (il 0) (by decide) (by decide)) nofun
  refine g_aload_n C rfl 0 rfl dX12_quarrel_5 ?_
  refine g_iload_n C rfl 1 rfl dX12_quarrel_6 ?_
  have e4 : Tg h2 a0 = 12 := ((pIT hh1).trans ta0)
  refine g_callI (st := []) (gc_V C lk_LandSurveyModel_606 (k2_isSheet l D cy w z0 O3 e4 fa1) e4 rfl rfl rfl ⟨by decide, by decide⟩ (Nat.le_of_ble_eq_true rfl) dX12_quarrel_7 ⟨(by decide), (by decide)⟩) (fun r5 h6 f8 K7 => ?_)
  obtain ⟨O9, F10, f11, p12⟩ := K7
  refine g_if_eq C (iw f11 (by decide) (by decide)) 21 (by decide) dX12_quarrel_10 (fun q13 => ?_) (fun q14 => ?_)
  · have f15 : (0 : Int) ≤ r5 ∧ r5 ≤ (0 : Int) := ii f11 (r_eq (il 0) q13) (by decide) (by decide)
    refine g_iconst C dX12_quarrel_21 ?_
    exact g_iret C hr rfl (iw (il (-1)) (by decide) (by decide)) ⟨O9, (((Fx.rf (wr := wr_k_X12_quarrel)).pI ta0 hh1 rfl).call F10 rfl), (iw (il (-1)) (by decide) (by decide))⟩ (by decide) (by decide) dX12_quarrel_22
  · have f16 : (1 : Int) ≤ r5 ∧ r5 ≤ (1 : Int) := r_nl f11 q14
    have f17 : (0 : Int) ≤ a1 ∧ a1 ≤ (9 : Int) := by omega
    refine g_aload_n C rfl 0 rfl dX12_quarrel_13 ?_
    refine g_iload_n C rfl 2 rfl dX12_quarrel_14 ?_
    have e18 : Tg h6 a0 = 12 := (fxT F10 e4)
    refine g_callI (st := []) (gc_V C lk_LandSurveyModel_606 (k2_isSheet l D cy w z0 O9 e18 fa2) e18 rfl rfl rfl ⟨by decide, by decide⟩ (Nat.le_of_ble_eq_true rfl) dX12_quarrel_15 ⟨(by decide), (by decide)⟩) (fun r19 h20 f22 K21 => ?_)
    obtain ⟨O23, F24, f25, p26⟩ := K21
    refine g_if_ne C (iw f25 (by decide) (by decide)) 23 (by decide) dX12_quarrel_18 (fun q27 => ?_) (fun q28 => ?_)
    · have f29 : (1 : Int) ≤ r19 ∧ r19 ≤ (1 : Int) := r_nl f25 q27
      have f30 : (0 : Int) ≤ a2 ∧ a2 ≤ (9 : Int) := by omega
      refine g_iconst C dX12_quarrel_23 ?_
      refine g_istore_n C [(3, .inl 0), (0, .inr (.inr a0)), (1, .inl a1), (2, .inl a2)] rfl (by decide) rfl dX12_quarrel_24 ?_
      refine g_iconst C dX12_quarrel_25 ?_
      refine g_istore C [(4, .inl 0), (3, .inl 0), (0, .inr (.inr a0)), (1, .inl a1), (2, .inl a2)] (by decide) rfl dX12_quarrel_26 ?_
      refine GW.sub [2, 3, 4, 1, 0] rfl ?_
      -- loop at 28
      have L33 : ∀ (μ : Nat) (x31 : Int) (x32 : Int), (96 - x32).toNat = μ → ((-2147483648 : Int) ≤ x31 ∧ x31 ≤ (2147483647 : Int)) → ((0 : Int) ≤ x32 ∧ x32 ≤ (96 : Int)) → GW p l e (rmm 1 21 0 0) s m (List.map toV [.inr (.inr a0), .inl a1, .inl a2]).toArray below meth c D cy z0 7 (MQ below (QI D cy z0 (fun v h1 => Okh h1 ∧ Fx wr_k_X12_quarrel h h1 ∧ ((-2147483648) ≤ v ∧ v ≤ 2147483647))) (List.map toV [.inr (.inr a0), .inl a1, .inl a2]).toArray s 0 0 (Aof z0)) 28 [(0, .inr (.inr a0)), (1, .inl a1), (2, .inl a2), (3, .inl x31), (4, .inl x32)] [] h20 0 0 := by
        intro μ
        induction μ using Nat.strongRecOn with
        | ind μ ih34 =>
          intro x31 x32 hm35 f36 f37
          refine g_iload C 4 rfl dX12_quarrel_28 ?_
          refine g_bipush C (by decide) dX12_quarrel_30 ?_
          refine g_icmp_ge C (iw f37 (by decide) (by decide)) (iw (il 96) (by decide) (by decide)) 95 (by decide) dX12_quarrel_32 (fun q38 => ?_) (fun q39 => ?_)
          · have f40 : (96 : Int) ≤ x32 ∧ x32 ≤ (96 : Int) := r_ge f37 (il 96) q38 (by decide) (by decide)
            refine g_iload_n C rfl 3 rfl dX12_quarrel_95 ?_
            exact g_iret C hr rfl f36 ⟨O23, ((((Fx.rf (wr := wr_k_X12_quarrel)).pI ta0 hh1 rfl).call F10 rfl).call F24 rfl), f36⟩ (by decide) (by decide) dX12_quarrel_96
          · have f41 : (0 : Int) ≤ x32 ∧ x32 ≤ (95 : Int) := r_lt f37 (il 96) q39 (by decide) (by decide)
            refine g_aload_n C rfl 0 rfl dX12_quarrel_35 ?_
            have e42 : Tg h20 a0 = 12 := (fxT F24 e18)
            obtain ⟨v43, e44⟩ : ∃ z, Rv h20 a0 81 = z := ⟨_, rfl⟩
            have t45 := ok_R O23 e42 rE_12_81 e44
            have l46 := ok_L O23 e42 rE_12_81 e44
            refine gf_R C fk_LandSurveyModel_272 rfl e42 e44 dX12_quarrel_36 ?_
            refine g_bipush C (by decide) dX12_quarrel_39 ?_
            refine g_iload_n C rfl 1 rfl dX12_quarrel_41 ?_
            have f47 : (0 : Int) ≤ (96 * a1) ∧ (96 * a1) ≤ (864 : Int) := ia_mul (by decide) f17 (by decide) (by decide)
            refine g_imul C dX12_quarrel_42 ?_
            refine g_iload C 4 rfl dX12_quarrel_43 ?_
            have f48 : (0 : Int) ≤ ((96 * a1) + x32) ∧ ((96 * a1) + x32) ≤ (959 : Int) := ia_add f47 f41 (by decide) (by decide)
            refine g_iadd C dX12_quarrel_45 ?_
            obtain ⟨v49, e50⟩ : ∃ z, Iv h20 v43 (((96 * a1) + x32).toNat) = z := ⟨_, rfl⟩
            have f51 := ok_Ia O23 t45 ar_181100 rI_181100_0 e50
            refine g_iald C t45 rfl l46 (ix f48 (by decide) (by decide)) e50 dX12_quarrel_46 ?_
            refine g_istore C [(5, .inl v49), (0, .inr (.inr a0)), (1, .inl a1), (2, .inl a2), (3, .inl x31), (4, .inl x32)] (by decide) rfl dX12_quarrel_47 ?_
            refine g_aload_n C rfl 1 rfl dX12_quarrel_49 ?_
            refine gf_R C fk_LandSurveyModel_272 rfl e42 e44 dX12_quarrel_50 ?_
            refine g_bipush C (by decide) dX12_quarrel_53 ?_
            refine g_iload_n C rfl 3 rfl dX12_quarrel_55 ?_
            have f52 : (0 : Int) ≤ (96 * a2) ∧ (96 * a2) ≤ (864 : Int) := ia_mul (by decide) f30 (by decide) (by decide)
            refine g_imul C dX12_quarrel_56 ?_
            refine g_iload C 5 rfl dX12_quarrel_57 ?_
            have f53 : (0 : Int) ≤ ((96 * a2) + x32) ∧ ((96 * a2) + x32) ≤ (959 : Int) := ia_add f52 f41 (by decide) (by decide)
            refine g_iadd C dX12_quarrel_59 ?_
            obtain ⟨v54, e55⟩ : ∃ z, Iv h20 v43 (((96 * a2) + x32).toNat) = z := ⟨_, rfl⟩
            have f56 := ok_Ia O23 t45 ar_181100 rI_181100_0 e55
            refine g_iald C t45 rfl l46 (ix f53 (by decide) (by decide)) e55 dX12_quarrel_60 ?_
            refine g_istore C [(6, .inl v54), (5, .inl v49), (0, .inr (.inr a0)), (1, .inl a1), (2, .inl a2), (3, .inl x31), (4, .inl x32)] (by decide) rfl dX12_quarrel_61 ?_
            refine g_iload_n C rfl 5 rfl dX12_quarrel_63 ?_
            refine g_iload C 1 rfl dX12_quarrel_64 ?_
            refine g_if_lt C f51 86 (by decide) dX12_quarrel_66 (fun q57 => ?_) (fun q58 => ?_)
            · have f59 : (-2147483648 : Int) ≤ v49 ∧ v49 ≤ (-1 : Int) := r_lt f51 (il 0) q57 (by decide) (by decide)
              refine g_iconst C dX12_quarrel_86 ?_
              have f60 : (-2147483648 : Int) ≤ (x31 + 0) ∧ (x31 + 0) ≤ (2147483647 : Int) := ia_add f36 (il 0) (by decide) (by decide)
              refine g_iadd C dX12_quarrel_87 ?_
              refine g_istore_n C [(3, .inl (x31 + 0)), (6, .inl v54), (5, .inl v49), (0, .inr (.inr a0)), (1, .inl a1), (2, .inl a2), (4, .inl x32)] rfl (by decide) rfl dX12_quarrel_88 ?_
              have f61 : (1 : Int) ≤ (x32 + 1) ∧ (x32 + 1) ≤ (96 : Int) := ia_add f41 (il 1) (by decide) (by decide)
              refine g_iinc C [(4, .inl (x32 + 1)), (3, .inl (x31 + 0)), (6, .inl v54), (5, .inl v49), (0, .inr (.inr a0)), (1, .inl a1), (2, .inl a2)] 6 rfl (by decide) rfl dX12_quarrel_89 ?_
              refine g_goto C 28 (by decide) dX12_quarrel_92 ?_
              refine GW.sub [4, 5, 6, 1, 0] rfl ?_
              exact ih34 _ (by omega) (x31 + 0) (x32 + 1) rfl f60 (iw f61 (by decide) (by decide))
            · have f62 : (0 : Int) ≤ v49 ∧ v49 ≤ (2147483647 : Int) := r_ge f51 (il 0) q58 (by decide) (by decide)
              refine g_iload C 0 rfl dX12_quarrel_69 ?_
              refine g_if_lt C f56 86 (by decide) dX12_quarrel_71 (fun q63 => ?_) (fun q64 => ?_)
              · have f65 : (-2147483648 : Int) ≤ v54 ∧ v54 ≤ (-1 : Int) := r_lt f56 (il 0) q63 (by decide) (by decide)
                refine g_iconst C dX12_quarrel_86 ?_
                have f66 : (-2147483648 : Int) ≤ (x31 + 0) ∧ (x31 + 0) ≤ (2147483647 : Int) := ia_add f36 (il 0) (by decide) (by decide)
                refine g_iadd C dX12_quarrel_87 ?_
                refine g_istore_n C [(3, .inl (x31 + 0)), (6, .inl v54), (5, .inl v49), (0, .inr (.inr a0)), (1, .inl a1), (2, .inl a2), (4, .inl x32)] rfl (by decide) rfl dX12_quarrel_88 ?_
                have f67 : (1 : Int) ≤ (x32 + 1) ∧ (x32 + 1) ≤ (96 : Int) := ia_add f41 (il 1) (by decide) (by decide)
                refine g_iinc C [(4, .inl (x32 + 1)), (3, .inl (x31 + 0)), (6, .inl v54), (5, .inl v49), (0, .inr (.inr a0)), (1, .inl a1), (2, .inl a2)] 6 rfl (by decide) rfl dX12_quarrel_89 ?_
                refine g_goto C 28 (by decide) dX12_quarrel_92 ?_
                refine GW.sub [4, 5, 6, 1, 0] rfl ?_
                exact ih34 _ (by omega) (x31 + 0) (x32 + 1) rfl f66 (iw f67 (by decide) (by decide))
              · have f68 : (0 : Int) ≤ v54 ∧ v54 ≤ (2147483647 : Int) := r_ge f56 (il 0) q64 (by decide) (by decide)
                refine g_iload C 1 rfl dX12_quarrel_74 ?_
                refine g_iload C 0 rfl dX12_quarrel_76 ?_
                refine g_iand C dX12_quarrel_78 ?_
                have f69 : (-2147483648 : Int) ≤ (bAnd v49 v54) ∧ (bAnd v49 v54) ≤ (2147483647 : Int) := inR_of _
                refine g_if_ne C f69 86 (by decide) dX12_quarrel_79 (fun q70 => ?_) (fun q71 => ?_)
                · refine g_iconst C dX12_quarrel_86 ?_
                  have f72 : (-2147483648 : Int) ≤ (x31 + 0) ∧ (x31 + 0) ≤ (2147483647 : Int) := ia_add f36 (il 0) (by decide) (by decide)
                  refine g_iadd C dX12_quarrel_87 ?_
                  refine g_istore_n C [(3, .inl (x31 + 0)), (6, .inl v54), (5, .inl v49), (0, .inr (.inr a0)), (1, .inl a1), (2, .inl a2), (4, .inl x32)] rfl (by decide) rfl dX12_quarrel_88 ?_
                  have f73 : (1 : Int) ≤ (x32 + 1) ∧ (x32 + 1) ≤ (96 : Int) := ia_add f41 (il 1) (by decide) (by decide)
                  refine g_iinc C [(4, .inl (x32 + 1)), (3, .inl (x31 + 0)), (6, .inl v54), (5, .inl v49), (0, .inr (.inr a0)), (1, .inl a1), (2, .inl a2)] 6 rfl (by decide) rfl dX12_quarrel_89 ?_
                  refine g_goto C 28 (by decide) dX12_quarrel_92 ?_
                  refine GW.sub [4, 5, 6, 1, 0] rfl ?_
                  exact ih34 _ (by omega) (x31 + 0) (x32 + 1) rfl f72 (iw f73 (by decide) (by decide))
                · have f74 : (0 : Int) ≤ (bAnd v49 v54) ∧ (bAnd v49 v54) ≤ (0 : Int) := ii f69 (r_eq (il 0) q71) (by decide) (by decide)
                  refine g_iconst C dX12_quarrel_82 ?_
                  refine g_goto C 87 (by decide) dX12_quarrel_83 ?_
                  have f75 : (-2147483648 : Int) ≤ (w32 (x31 + 1)) ∧ (w32 (x31 + 1)) ≤ (2147483647 : Int) := w32_inR _
                  refine g_iaddW C dX12_quarrel_87 ?_
                  refine g_istore_n C [(3, .inl (w32 (x31 + 1))), (6, .inl v54), (5, .inl v49), (0, .inr (.inr a0)), (1, .inl a1), (2, .inl a2), (4, .inl x32)] rfl (by decide) rfl dX12_quarrel_88 ?_
                  have f76 : (1 : Int) ≤ (x32 + 1) ∧ (x32 + 1) ≤ (96 : Int) := ia_add f41 (il 1) (by decide) (by decide)
                  refine g_iinc C [(4, .inl (x32 + 1)), (3, .inl (w32 (x31 + 1))), (6, .inl v54), (5, .inl v49), (0, .inr (.inr a0)), (1, .inl a1), (2, .inl a2)] 6 rfl (by decide) rfl dX12_quarrel_89 ?_
                  refine g_goto C 28 (by decide) dX12_quarrel_92 ?_
                  refine GW.sub [4, 5, 6, 1, 0] rfl ?_
                  exact ih34 _ (by omega) (w32 (x31 + 1)) (x32 + 1) rfl f75 (iw f76 (by decide) (by decide))
      exact L33 _ 0 0 rfl (iw (il 0) (by decide) (by decide)) (iw (il 0) (by decide) (by decide))
    · have f77 : (0 : Int) ≤ r19 ∧ r19 ≤ (0 : Int) := ii f25 (r_eq (il 0) q28) (by decide) (by decide)
      refine g_iconst C dX12_quarrel_21 ?_
      exact g_iret C hr rfl (iw (il (-1)) (by decide) (by decide)) ⟨O23, ((((Fx.rf (wr := wr_k_X12_quarrel)).pI ta0 hh1 rfl).call F10 rfl).call F24 rfl), (iw (il (-1)) (by decide) (by decide))⟩ (by decide) (by decide) dX12_quarrel_22
def wr_k_X12_stale : List Nat := [2400, 2435, 2462, 2469, 2477, 2478, 26220000, 26420000, 30620200, 30820000, 31020000, 31220000, 32620000, 32820000, 33020000, 33220000, 33420000, 33620000, 34020200, 34220000, 34420400, 34620200, 34820200, 35020000, 35220000]
set_option maxRecDepth 100000 in
set_option maxHeartbeats 4000000 in
theorem k_X12_stale (l : Launch) (D : va_G) (cy : Nat → ClassId) (w : Nat → Nat) (z0 : Nat)  {h : Hp} {a0 : Nat} {a1 : Int}  (O : Okh h) (ta0 : Tg h a0 = 12) (fa1 : (-2147483648) ≤ a1 ∧ a1 ≤ 2147483647) (P_MInv : MInv h a0) : MI l D cy w z0 yX12_stale cX12_stale 5 (some .int) 11 278 0 0 [.inr (.inr a0), .inl a1] h (fun v h1 => Okh h1 ∧ Fx wr_k_X12_stale h h1 ∧ ((-2147483648) ≤ v ∧ v ≤ 2147483647)) := by
  refine hm_go (by decide +kernel) (Nat.le_of_ble_eq_true rfl) (fun p e s m below meth c C hr hn => ?_)
  refine g_aload_n C rfl 0 rfl dX12_stale_0 ?_
  refine g_iconst C dX12_stale_1 ?_
  refine gp_I C fk_LandSurveyModel_1 pk_LandSurveyModel_0 rfl ta0 (iw (il 0) (by decide) (by decide)) (nf_i _) dX12_stale_2 (fun h2 hh1 => ?_)
  have O3 := O.pI ta0 hh1 rI_12_0 (iw (il 0) (by decide) (by decide)) nofun
  refine g_aload_n C rfl 0 rfl dX12_stale_5 ?_
  have e4 : Tg h2 a0 = 12 := ((pIT hh1).trans ta0)
  have p5 := (MInv_fx O ((Fx.rf (wr := [2400]) (h := h)).pI ta0 hh1 rfl) ta0 rfl P_MInv)
  refine g_callV (st := []) (gc_V C lk_LandSurveyModel_557 (k_X12_findGrounds l D cy w z0 O3 e4 p5) e4 rfl rfl rfl ⟨by decide, by decide⟩ (Nat.le_of_ble_eq_true rfl) dX12_stale_6 ⟨(by decide), (by decide)⟩) (fun h7 K8 => ?_)
  obtain ⟨O10, F11⟩ := K8
  refine g_aload_n C rfl 0 rfl dX12_stale_9 ?_
  refine g_iload_n C rfl 1 rfl dX12_stale_10 ?_
  have e12 : Tg h7 a0 = 12 := (fxT F11 e4)
  refine g_callI (st := []) (gc_V C lk_LandSurveyModel_606 (k2_isSheet l D cy w z0 O10 e12 fa1) e12 rfl rfl rfl ⟨by decide, by decide⟩ (Nat.le_of_ble_eq_true rfl) dX12_stale_11 ⟨(by decide), (by decide)⟩) (fun r13 h14 f16 K15 => ?_)
  obtain ⟨O17, F18, f19, p20⟩ := K15
  refine g_if_eq C (iw f19 (by decide) (by decide)) 24 (by decide) dX12_stale_14 (fun q21 => ?_) (fun q22 => ?_)
  · have f23 : (0 : Int) ≤ r13 ∧ r13 ≤ (0 : Int) := ii f19 (r_eq (il 0) q21) (by decide) (by decide)
    refine g_iconst C dX12_stale_24 ?_
    exact g_iret C hr rfl (iw (il (-1)) (by decide) (by decide)) ⟨O17, ((((Fx.rf (wr := wr_k_X12_stale)).pI ta0 hh1 rfl).call F11 rfl).call F18 rfl), (iw (il (-1)) (by decide) (by decide))⟩ (by decide) (by decide) dX12_stale_25
  · have f24 : (1 : Int) ≤ r13 ∧ r13 ≤ (1 : Int) := r_nl f19 q22
    have f25 : (0 : Int) ≤ a1 ∧ a1 ≤ (9 : Int) := by omega
    refine g_aload_n C rfl 0 rfl dX12_stale_17 ?_
    have e26 : Tg h14 a0 = 12 := (fxT F18 e12)
    obtain ⟨v27, e28⟩ : ∃ z, Iv h14 a0 78 = z := ⟨_, rfl⟩
    have f29 := ok_I O17 e26 rI_12_78 e28
    refine gf_I C fk_LandSurveyModel_546 rfl e26 e28 dX12_stale_18 ?_
    refine g_if_ne C (iw f29 (by decide) (by decide)) 26 (by decide) dX12_stale_21 (fun q30 => ?_) (fun q31 => ?_)
    · have f32 : (1 : Int) ≤ v27 ∧ v27 ≤ (16 : Int) := r_nl f29 q30
      refine g_iconst C dX12_stale_26 ?_
      refine g_istore_n C [(2, .inl 0), (0, .inr (.inr a0)), (1, .inl a1)] rfl (by decide) rfl dX12_stale_27 ?_
      refine g_iconst C dX12_stale_28 ?_
      refine g_istore_n C [(3, .inl 0), (2, .inl 0), (0, .inr (.inr a0)), (1, .inl a1)] rfl (by decide) rfl dX12_stale_29 ?_
      refine GW.sub [2, 3, 1, 0] rfl ?_
      -- loop at 30
      have L36 : ∀ (μ : Nat) (x33 : Int) (x34 : Int) (h35 : Hp), (96 - x34).toNat = μ → Okh h35 → Fx [] h14 h35 → ((-2147483648 : Int) ≤ x33 ∧ x33 ≤ (2147483647 : Int)) → ((0 : Int) ≤ x34 ∧ x34 ≤ (96 : Int)) → GW p l e (rmm 11 278 0 0) s m (List.map toV [.inr (.inr a0), .inl a1]).toArray below meth c D cy z0 5 (MQ below (QI D cy z0 (fun v h1 => Okh h1 ∧ Fx wr_k_X12_stale h h1 ∧ ((-2147483648) ≤ v ∧ v ≤ 2147483647))) (List.map toV [.inr (.inr a0), .inl a1]).toArray s 0 0 (Aof z0)) 30 [(0, .inr (.inr a0)), (1, .inl a1), (2, .inl x33), (3, .inl x34)] [] h35 0 0 := by
        intro μ
        induction μ using Nat.strongRecOn with
        | ind μ ih37 =>
          intro x33 x34 h35 hm38 O39 F40 f41 f42
          refine g_iload_n C rfl 3 rfl dX12_stale_30 ?_
          refine g_bipush C (by decide) dX12_stale_31 ?_
          refine g_icmp_ge C (iw f42 (by decide) (by decide)) (iw (il 96) (by decide) (by decide)) 79 (by decide) dX12_stale_33 (fun q43 => ?_) (fun q44 => ?_)
          · have f45 : (96 : Int) ≤ x34 ∧ x34 ≤ (96 : Int) := r_ge f42 (il 96) q43 (by decide) (by decide)
            refine g_iload_n C rfl 2 rfl dX12_stale_79 ?_
            exact g_iret C hr rfl f41 ⟨O39, (((((Fx.rf (wr := wr_k_X12_stale)).pI ta0 hh1 rfl).call F11 rfl).call F18 rfl).call F40 rfl), f41⟩ (by decide) (by decide) dX12_stale_80
          · have f46 : (0 : Int) ≤ x34 ∧ x34 ≤ (95 : Int) := r_lt f42 (il 96) q44 (by decide) (by decide)
            refine g_aload_n C rfl 0 rfl dX12_stale_36 ?_
            have e47 : Tg h35 a0 = 12 := (fxT F40 e26)
            obtain ⟨v48, e49⟩ : ∃ z, Rv h35 a0 81 = z := ⟨_, rfl⟩
            have t50 := ok_R O39 e47 rE_12_81 e49
            have l51 := ok_L O39 e47 rE_12_81 e49
            refine gf_R C fk_LandSurveyModel_272 rfl e47 e49 dX12_stale_37 ?_
            refine g_bipush C (by decide) dX12_stale_40 ?_
            refine g_iload_n C rfl 1 rfl dX12_stale_42 ?_
            have f52 : (0 : Int) ≤ (96 * a1) ∧ (96 * a1) ≤ (864 : Int) := ia_mul (by decide) f25 (by decide) (by decide)
            refine g_imul C dX12_stale_43 ?_
            refine g_iload_n C rfl 3 rfl dX12_stale_44 ?_
            have f53 : (0 : Int) ≤ ((96 * a1) + x34) ∧ ((96 * a1) + x34) ≤ (959 : Int) := ia_add f52 f46 (by decide) (by decide)
            refine g_iadd C dX12_stale_45 ?_
            obtain ⟨v54, e55⟩ : ∃ z, Iv h35 v48 (((96 * a1) + x34).toNat) = z := ⟨_, rfl⟩
            have f56 := ok_Ia O39 t50 ar_181100 rI_181100_0 e55
            refine g_iald C t50 rfl l51 (ix f53 (by decide) (by decide)) e55 dX12_stale_46 ?_
            refine g_istore C [(4, .inl v54), (0, .inr (.inr a0)), (1, .inl a1), (2, .inl x33), (3, .inl x34)] (by decide) rfl dX12_stale_47 ?_
            refine g_iload_n C rfl 3 rfl dX12_stale_49 ?_
            refine g_iload C 0 rfl dX12_stale_50 ?_
            refine g_if_lt C f56 70 (by decide) dX12_stale_52 (fun q57 => ?_) (fun q58 => ?_)
            · have f59 : (-2147483648 : Int) ≤ v54 ∧ v54 ≤ (-1 : Int) := r_lt f56 (il 0) q57 (by decide) (by decide)
              refine g_iconst C dX12_stale_70 ?_
              have f60 : (-2147483648 : Int) ≤ (x33 + 0) ∧ (x33 + 0) ≤ (2147483647 : Int) := ia_add f41 (il 0) (by decide) (by decide)
              refine g_iadd C dX12_stale_71 ?_
              refine g_istore_n C [(2, .inl (x33 + 0)), (4, .inl v54), (0, .inr (.inr a0)), (1, .inl a1), (3, .inl x34)] rfl (by decide) rfl dX12_stale_72 ?_
              have f61 : (1 : Int) ≤ (x34 + 1) ∧ (x34 + 1) ≤ (96 : Int) := ia_add f46 (il 1) (by decide) (by decide)
              refine g_iinc C [(3, .inl (x34 + 1)), (2, .inl (x33 + 0)), (4, .inl v54), (0, .inr (.inr a0)), (1, .inl a1)] 4 rfl (by decide) rfl dX12_stale_73 ?_
              refine g_goto C 30 (by decide) dX12_stale_76 ?_
              refine GW.sub [3, 4, 1, 0] rfl ?_
              exact ih37 _ (by omega) (x33 + 0) (x34 + 1) h35 rfl O39 F40 f60 (iw f61 (by decide) (by decide))
            · have f62 : (0 : Int) ≤ v54 ∧ v54 ≤ (2147483647 : Int) := r_ge f56 (il 0) q58 (by decide) (by decide)
              refine g_iload C 0 rfl dX12_stale_55 ?_
              refine g_aload_n C rfl 1 rfl dX12_stale_57 ?_
              refine g_iload_n C rfl 4 rfl dX12_stale_58 ?_
              refine g_iconst C dX12_stale_59 ?_
              refine g_callI (st := [.inl v54, .inl x33]) (gc_V C lk_LandSurveyModel_575 (k_X12_mayLieAll l D cy w z0 O39 e47 f46 (iw (il 0) (by decide) (by decide))) e47 rfl rfl rfl ⟨by decide, by decide⟩ (Nat.le_of_ble_eq_true rfl) dX12_stale_60 ⟨(by decide), (by decide)⟩) (fun r63 h64 f66 K65 => ?_)
              obtain ⟨O67, F68, f69⟩ := K65
              refine g_icmp_eq C (iw f62 (by decide) (by decide)) f69 70 (by decide) dX12_stale_63 (fun q70 => ?_) (fun q71 => ?_)
              · have f72 : (0 : Int) ≤ r63 ∧ r63 ≤ (2147483647 : Int) := ii f69 (r_eq2 f62 q70) (by decide) (by decide)
                refine g_iconst C dX12_stale_70 ?_
                have f73 : (-2147483648 : Int) ≤ (x33 + 0) ∧ (x33 + 0) ≤ (2147483647 : Int) := ia_add f41 (il 0) (by decide) (by decide)
                refine g_iadd C dX12_stale_71 ?_
                refine g_istore_n C [(2, .inl (x33 + 0)), (4, .inl v54), (0, .inr (.inr a0)), (1, .inl a1), (3, .inl x34)] rfl (by decide) rfl dX12_stale_72 ?_
                have f74 : (1 : Int) ≤ (x34 + 1) ∧ (x34 + 1) ≤ (96 : Int) := ia_add f46 (il 1) (by decide) (by decide)
                refine g_iinc C [(3, .inl (x34 + 1)), (2, .inl (x33 + 0)), (4, .inl v54), (0, .inr (.inr a0)), (1, .inl a1)] 4 rfl (by decide) rfl dX12_stale_73 ?_
                refine g_goto C 30 (by decide) dX12_stale_76 ?_
                refine GW.sub [3, 4, 1, 0] rfl ?_
                exact ih37 _ (by omega) (x33 + 0) (x34 + 1) h64 rfl O67 (F40.call F68 rfl) f73 (iw f74 (by decide) (by decide))
              · refine g_iconst C dX12_stale_66 ?_
                refine g_goto C 71 (by decide) dX12_stale_67 ?_
                have f75 : (-2147483648 : Int) ≤ (w32 (x33 + 1)) ∧ (w32 (x33 + 1)) ≤ (2147483647 : Int) := w32_inR _
                refine g_iaddW C dX12_stale_71 ?_
                refine g_istore_n C [(2, .inl (w32 (x33 + 1))), (4, .inl v54), (0, .inr (.inr a0)), (1, .inl a1), (3, .inl x34)] rfl (by decide) rfl dX12_stale_72 ?_
                have f76 : (1 : Int) ≤ (x34 + 1) ∧ (x34 + 1) ≤ (96 : Int) := ia_add f46 (il 1) (by decide) (by decide)
                refine g_iinc C [(3, .inl (x34 + 1)), (2, .inl (w32 (x33 + 1))), (4, .inl v54), (0, .inr (.inr a0)), (1, .inl a1)] 4 rfl (by decide) rfl dX12_stale_73 ?_
                refine g_goto C 30 (by decide) dX12_stale_76 ?_
                refine GW.sub [3, 4, 1, 0] rfl ?_
                exact ih37 _ (by omega) (w32 (x33 + 1)) (x34 + 1) h64 rfl O67 (F40.call F68 rfl) f75 (iw f76 (by decide) (by decide))
      exact L36 _ 0 0 h14 rfl O17 Fx.rf (iw (il 0) (by decide) (by decide)) (iw (il 0) (by decide) (by decide))
    · have f77 : (0 : Int) ≤ v27 ∧ v27 ≤ (0 : Int) := ii f29 (r_eq (il 0) q31) (by decide) (by decide)
      refine g_iconst C dX12_stale_24 ?_
      exact g_iret C hr rfl (iw (il (-1)) (by decide) (by decide)) ⟨O17, ((((Fx.rf (wr := wr_k_X12_stale)).pI ta0 hh1 rfl).call F11 rfl).call F18 rfl), (iw (il (-1)) (by decide) (by decide))⟩ (by decide) (by decide) dX12_stale_25
def wr_k_X12_doubles : List Nat := [2400, 2435, 2462, 2469, 2477, 2478, 26220000, 26420000, 30620200, 30820000, 31020000, 31220000, 32620000, 32820000, 33020000, 33220000, 33420000, 33620000, 34020200, 34220000, 34420400, 34620200, 34820200, 35020000, 35220000]
set_option maxRecDepth 100000 in
set_option maxHeartbeats 4000000 in
theorem k_X12_doubles (l : Launch) (D : va_G) (cy : Nat → ClassId) (w : Nat → Nat) (z0 : Nat)  {h : Hp} {a0 : Nat} {a1 : Int} {a2 : Int} {a3 : Int}  (O : Okh h) (ta0 : Tg h a0 = 12) (fa1 : (-2147483648) ≤ a1 ∧ a1 ≤ 2147483647) (fa2 : (-2147483648) ≤ a2 ∧ a2 ≤ 2147483647) (fa3 : (-2147483648) ≤ a3 ∧ a3 ≤ 2147483647) (P_MInv : MInv h a0) : MI l D cy w z0 yX12_doubles cX12_doubles 7 (some .int) 11 278 0 0 [.inr (.inr a0), .inl a1, .inl a2, .inl a3] h (fun v h1 => Okh h1 ∧ Fx wr_k_X12_doubles h h1 ∧ ((-2147483648) ≤ v ∧ v ≤ 2147483647)) := by
  refine hm_go (by decide +kernel) (Nat.le_of_ble_eq_true rfl) (fun p e s m below meth c C hr hn => ?_)
  refine g_aload_n C rfl 0 rfl dX12_doubles_0 ?_
  refine g_iconst C dX12_doubles_1 ?_
  refine gp_I C fk_LandSurveyModel_1 pk_LandSurveyModel_0 rfl ta0 (iw (il 0) (by decide) (by decide)) (nf_i _) dX12_doubles_2 (fun h2 hh1 => ?_)
  have O3 := O.pI ta0 hh1 rI_12_0 (iw (il 0) (by decide) (by decide)) nofun
  refine g_iload_n C rfl 1 rfl dX12_doubles_5 ?_
  refine g_iconst C dX12_doubles_6 ?_
  refine g_iconst C dX12_doubles_7 ?_
  refine g_callI (st := []) (gc_S C lk_LandSurveyModel_415 (k_X12_within l D cy w z0 O3 fa1 (iw (il 0) (by decide) (by decide)) (iw (il 5) (by decide) (by decide))) rfl ⟨by decide, by decide⟩ (Nat.le_of_ble_eq_true rfl) dX12_doubles_8 ⟨(by decide), (by decide)⟩) (fun r4 h5 f7 K6 => ?_)
  obtain ⟨O8, F9, f10, p11⟩ := K6
  refine g_if_eq C (iw f10 (by decide) (by decide)) 37 (by decide) dX12_doubles_11 (fun q12 => ?_) (fun q13 => ?_)
  · have f14 : (0 : Int) ≤ r4 ∧ r4 ≤ (0 : Int) := ii f10 (r_eq (il 0) q12) (by decide) (by decide)
    refine g_iconst C dX12_doubles_37 ?_
    exact g_iret C hr rfl (iw (il (-1)) (by decide) (by decide)) ⟨O8, (((Fx.rf (wr := wr_k_X12_doubles)).pI ta0 hh1 rfl).call F9 rfl), (iw (il (-1)) (by decide) (by decide))⟩ (by decide) (by decide) dX12_doubles_38
  · have f15 : (1 : Int) ≤ r4 ∧ r4 ≤ (1 : Int) := r_nl f10 q13
    have f16 : (0 : Int) ≤ a1 ∧ a1 ≤ (5 : Int) := by omega
    refine g_iload_n C rfl 2 rfl dX12_doubles_14 ?_
    refine g_iconst C dX12_doubles_15 ?_
    refine g_iconst C dX12_doubles_16 ?_
    refine g_callI (st := []) (gc_S C lk_LandSurveyModel_415 (k_X12_within l D cy w z0 O8 fa2 (iw (il 0) (by decide) (by decide)) (iw (il 5) (by decide) (by decide))) rfl ⟨by decide, by decide⟩ (Nat.le_of_ble_eq_true rfl) dX12_doubles_17 ⟨(by decide), (by decide)⟩) (fun r17 h18 f20 K19 => ?_)
    obtain ⟨O21, F22, f23, p24⟩ := K19
    refine g_if_eq C (iw f23 (by decide) (by decide)) 37 (by decide) dX12_doubles_20 (fun q25 => ?_) (fun q26 => ?_)
    · have f27 : (0 : Int) ≤ r17 ∧ r17 ≤ (0 : Int) := ii f23 (r_eq (il 0) q25) (by decide) (by decide)
      refine g_iconst C dX12_doubles_37 ?_
      exact g_iret C hr rfl (iw (il (-1)) (by decide) (by decide)) ⟨O21, ((((Fx.rf (wr := wr_k_X12_doubles)).pI ta0 hh1 rfl).call F9 rfl).call F22 rfl), (iw (il (-1)) (by decide) (by decide))⟩ (by decide) (by decide) dX12_doubles_38
    · have f28 : (1 : Int) ≤ r17 ∧ r17 ≤ (1 : Int) := r_nl f23 q26
      have f29 : (0 : Int) ≤ a2 ∧ a2 ≤ (5 : Int) := by omega
      refine g_iload_n C rfl 1 rfl dX12_doubles_23 ?_
      refine g_iload_n C rfl 2 rfl dX12_doubles_24 ?_
      refine g_icmp_eq C (iw f16 (by decide) (by decide)) (iw f29 (by decide) (by decide)) 37 (by decide) dX12_doubles_25 (fun q30 => ?_) (fun q31 => ?_)
      · refine g_iconst C dX12_doubles_37 ?_
        exact g_iret C hr rfl (iw (il (-1)) (by decide) (by decide)) ⟨O21, ((((Fx.rf (wr := wr_k_X12_doubles)).pI ta0 hh1 rfl).call F9 rfl).call F22 rfl), (iw (il (-1)) (by decide) (by decide))⟩ (by decide) (by decide) dX12_doubles_38
      · refine g_iload_n C rfl 3 rfl dX12_doubles_28 ?_
        refine g_iconst C dX12_doubles_29 ?_
        refine g_iconst C dX12_doubles_30 ?_
        refine g_callI (st := []) (gc_S C lk_LandSurveyModel_415 (k_X12_within l D cy w z0 O21 fa3 (iw (il 0) (by decide) (by decide)) (iw (il 1) (by decide) (by decide))) rfl ⟨by decide, by decide⟩ (Nat.le_of_ble_eq_true rfl) dX12_doubles_31 ⟨(by decide), (by decide)⟩) (fun r32 h33 f35 K34 => ?_)
        obtain ⟨O36, F37, f38, p39⟩ := K34
        refine g_if_ne C (iw f38 (by decide) (by decide)) 39 (by decide) dX12_doubles_34 (fun q40 => ?_) (fun q41 => ?_)
        · have f42 : (1 : Int) ≤ r32 ∧ r32 ≤ (1 : Int) := r_nl f38 q40
          have f43 : (0 : Int) ≤ a3 ∧ a3 ≤ (1 : Int) := by omega
          refine g_aload_n C rfl 0 rfl dX12_doubles_39 ?_
          have e44 : Tg h33 a0 = 12 := (fxT F37 (fxT F22 (fxT F9 ((pIT hh1).trans ta0))))
          have e45 : Tg h2 a0 = 12 := ((pIT hh1).trans ta0)
          have e46 : Tg h5 a0 = 12 := (fxT F9 e45)
          have e47 : Tg h18 a0 = 12 := (fxT F22 e46)
          have p48 := (MInv_fx O21 F37 e47 rfl (MInv_fx O8 F22 e46 rfl (MInv_fx O3 F9 e45 rfl (MInv_fx O ((Fx.rf (wr := [2400]) (h := h)).pI ta0 hh1 rfl) ta0 rfl P_MInv))))
          refine g_callV (st := []) (gc_V C lk_LandSurveyModel_557 (k_X12_findGrounds l D cy w z0 O36 e44 p48) e44 rfl rfl rfl ⟨by decide, by decide⟩ (Nat.le_of_ble_eq_true rfl) dX12_doubles_40 ⟨(by decide), (by decide)⟩) (fun h50 K51 => ?_)
          obtain ⟨O53, F54⟩ := K51
          refine g_iconst C dX12_doubles_43 ?_
          refine g_istore C [(4, .inl 0), (0, .inr (.inr a0)), (1, .inl a1), (2, .inl a2), (3, .inl a3)] (by decide) rfl dX12_doubles_44 ?_
          refine g_iconst C dX12_doubles_46 ?_
          refine g_istore C [(5, .inl 0), (4, .inl 0), (0, .inr (.inr a0)), (1, .inl a1), (2, .inl a2), (3, .inl a3)] (by decide) rfl dX12_doubles_47 ?_
          refine GW.sub [2, 3, 4, 5, 1, 0] rfl ?_
          -- loop at 49
          have L58 : ∀ (μ : Nat) (x55 : Int) (x56 : Int) (h57 : Hp), (40 - x56).toNat = μ → Okh h57 → Fx [26220000, 26420000] h50 h57 → ((-2147483648 : Int) ≤ x55 ∧ x55 ≤ (2147483647 : Int)) → ((0 : Int) ≤ x56 ∧ x56 ≤ (40 : Int)) → GW p l e (rmm 11 278 0 0) s m (List.map toV [.inr (.inr a0), .inl a1, .inl a2, .inl a3]).toArray below meth c D cy z0 7 (MQ below (QI D cy z0 (fun v h1 => Okh h1 ∧ Fx wr_k_X12_doubles h h1 ∧ ((-2147483648) ≤ v ∧ v ≤ 2147483647))) (List.map toV [.inr (.inr a0), .inl a1, .inl a2, .inl a3]).toArray s 0 0 (Aof z0)) 49 [(0, .inr (.inr a0)), (1, .inl a1), (2, .inl a2), (3, .inl a3), (4, .inl x55), (5, .inl x56)] [] h57 0 0 := by
            intro μ
            induction μ using Nat.strongRecOn with
            | ind μ ih59 =>
              intro x55 x56 h57 hm60 O61 F62 f63 f64
              refine g_iload C 5 rfl dX12_doubles_49 ?_
              refine g_aload_n C rfl 0 rfl dX12_doubles_51 ?_
              have e65 : Tg h57 a0 = 12 := (fxT F62 (fxT F54 e44))
              obtain ⟨v66, e67⟩ : ∃ z, Iv h57 a0 40 = z := ⟨_, rfl⟩
              have f68 := ok_I O61 e65 rI_12_40 e67
              refine gf_I C fk_LandSurveyModel_423 rfl e65 e67 dX12_doubles_52 ?_
              refine g_icmp_ge C (iw f64 (by decide) (by decide)) (iw f68 (by decide) (by decide)) 144 (by decide) dX12_doubles_55 (fun q69 => ?_) (fun q70 => ?_)
              · refine g_iload C 4 rfl dX12_doubles_144 ?_
                exact g_iret C hr rfl f63 ⟨O61, (((((((Fx.rf (wr := wr_k_X12_doubles)).pI ta0 hh1 rfl).call F9 rfl).call F22 rfl).call F37 rfl).call F54 rfl).call F62 rfl), f63⟩ (by decide) (by decide) dX12_doubles_146
              · have f71 : (0 : Int) ≤ x56 ∧ x56 ≤ (39 : Int) := r_lt f64 f68 q70 (by decide) (by decide)
                have f72 : (1 : Int) ≤ v66 ∧ v66 ≤ (40 : Int) := r_gt f68 f64 q70 (by decide) (by decide)
                refine g_iconst C dX12_doubles_58 ?_
                refine g_istore C [(6, .inl 0), (0, .inr (.inr a0)), (1, .inl a1), (2, .inl a2), (3, .inl a3), (4, .inl x55), (5, .inl x56)] (by decide) rfl dX12_doubles_59 ?_
                refine GW.sub [1, 2, 3, 4, 5, 6, 0] rfl ?_
                -- loop at 61
                have L76 : ∀ (μ : Nat) (x73 : Int) (x74 : Int) (h75 : Hp), (40 - x74).toNat = μ → Okh h75 → Fx [26220000, 26420000] h57 h75 → ((-2147483648 : Int) ≤ x73 ∧ x73 ≤ (2147483647 : Int)) → ((0 : Int) ≤ x74 ∧ x74 ≤ (40 : Int)) → GW p l e (rmm 11 278 0 0) s m (List.map toV [.inr (.inr a0), .inl a1, .inl a2, .inl a3]).toArray below meth c D cy z0 7 (MQ below (QI D cy z0 (fun v h1 => Okh h1 ∧ Fx wr_k_X12_doubles h h1 ∧ ((-2147483648) ≤ v ∧ v ≤ 2147483647))) (List.map toV [.inr (.inr a0), .inl a1, .inl a2, .inl a3]).toArray s 0 0 (Aof z0)) 61 [(0, .inr (.inr a0)), (1, .inl a1), (2, .inl a2), (3, .inl a3), (4, .inl x73), (5, .inl x56), (6, .inl x74)] [] h75 0 0 := by
                  intro μ
                  induction μ using Nat.strongRecOn with
                  | ind μ ih77 =>
                    intro x73 x74 h75 hm78 O79 F80 f81 f82
                    refine g_iload C 6 rfl dX12_doubles_61 ?_
                    refine g_aload_n C rfl 0 rfl dX12_doubles_63 ?_
                    have e83 : Tg h75 a0 = 12 := (fxT F80 e65)
                    have e84 : Iv h75 a0 40 = v66 := ((fxI F80 e65 rfl).trans e67)
                    refine gf_I C fk_LandSurveyModel_423 rfl e83 e84 dX12_doubles_64 ?_
                    refine g_icmp_ge C (iw f82 (by decide) (by decide)) (iw f72 (by decide) (by decide)) 138 (by decide) dX12_doubles_67 (fun q85 => ?_) (fun q86 => ?_)
                    · have f87 : (1 : Int) ≤ x74 ∧ x74 ≤ (40 : Int) := r_ge f82 f72 q85 (by decide) (by decide)
                      have f88 : (1 : Int) ≤ (x56 + 1) ∧ (x56 + 1) ≤ (40 : Int) := ia_add f71 (il 1) (by decide) (by decide)
                      refine g_iinc C [(5, .inl (x56 + 1)), (0, .inr (.inr a0)), (1, .inl a1), (2, .inl a2), (3, .inl a3), (4, .inl x73), (6, .inl x74)] 5 rfl (by decide) rfl dX12_doubles_138 ?_
                      refine g_goto C 49 (by decide) dX12_doubles_141 ?_
                      refine GW.sub [1, 2, 3, 4, 5, 0] rfl ?_
                      exact ih59 _ (by omega) x73 (x56 + 1) h75 rfl O79 (F62.call F80 rfl) f81 (iw f88 (by decide) (by decide))
                    · have f89 : (0 : Int) ≤ x74 ∧ x74 ≤ (39 : Int) := r_lt f82 f72 q86 (by decide) (by decide)
                      refine g_aload_n C rfl 0 rfl dX12_doubles_70 ?_
                      obtain ⟨v90, e91⟩ : ∃ z, Rv h75 a0 44 = z := ⟨_, rfl⟩
                      have t92 := ok_R O79 e83 rE_12_44 e91
                      have l93 := ok_L O79 e83 rE_12_44 e91
                      refine gf_R C fk_LandSurveyModel_182 rfl e83 e91 dX12_doubles_71 ?_
                      refine g_iload C 5 rfl dX12_doubles_74 ?_
                      obtain ⟨v94, e95⟩ : ∃ z, Iv h75 v90 x56.toNat = z := ⟨_, rfl⟩
                      have f96 := ok_Ia O79 t92 ar_144100 rI_144100_0 e95
                      refine g_iald C t92 rfl l93 (ix f71 (by decide) (by decide)) e95 dX12_doubles_76 ?_
                      refine g_iload_n C rfl 1 rfl dX12_doubles_77 ?_
                      refine g_icmp_ne C (iw f96 (by decide) (by decide)) (iw f16 (by decide) (by decide)) 132 (by decide) dX12_doubles_78 (fun q97 => ?_) (fun q98 => ?_)
                      · have f99 : (1 : Int) ≤ (x74 + 1) ∧ (x74 + 1) ≤ (40 : Int) := ia_add f89 (il 1) (by decide) (by decide)
                        refine g_iinc C [(6, .inl (x74 + 1)), (0, .inr (.inr a0)), (1, .inl a1), (2, .inl a2), (3, .inl a3), (4, .inl x73), (5, .inl x56)] 6 rfl (by decide) rfl dX12_doubles_132 ?_
                        refine g_goto C 61 (by decide) dX12_doubles_135 ?_
                        refine GW.sub [1, 2, 3, 4, 5, 6, 0] rfl ?_
                        exact ih77 _ (by omega) x73 (x74 + 1) h75 rfl O79 F80 f81 (iw f99 (by decide) (by decide))
                      · refine g_aload_n C rfl 0 rfl dX12_doubles_81 ?_
                        refine gf_R C fk_LandSurveyModel_182 rfl e83 e91 dX12_doubles_82 ?_
                        refine g_iload C 6 rfl dX12_doubles_85 ?_
                        obtain ⟨v100, e101⟩ : ∃ z, Iv h75 v90 x74.toNat = z := ⟨_, rfl⟩
                        have f102 := ok_Ia O79 t92 ar_144100 rI_144100_0 e101
                        refine g_iald C t92 rfl l93 (ix f89 (by decide) (by decide)) e101 dX12_doubles_87 ?_
                        refine g_iload_n C rfl 2 rfl dX12_doubles_88 ?_
                        refine g_icmp_ne C (iw f102 (by decide) (by decide)) (iw f29 (by decide) (by decide)) 132 (by decide) dX12_doubles_89 (fun q103 => ?_) (fun q104 => ?_)
                        · have f105 : (1 : Int) ≤ (x74 + 1) ∧ (x74 + 1) ≤ (40 : Int) := ia_add f89 (il 1) (by decide) (by decide)
                          refine g_iinc C [(6, .inl (x74 + 1)), (0, .inr (.inr a0)), (1, .inl a1), (2, .inl a2), (3, .inl a3), (4, .inl x73), (5, .inl x56)] 6 rfl (by decide) rfl dX12_doubles_132 ?_
                          refine g_goto C 61 (by decide) dX12_doubles_135 ?_
                          refine GW.sub [1, 2, 3, 4, 5, 6, 0] rfl ?_
                          exact ih77 _ (by omega) x73 (x74 + 1) h75 rfl O79 F80 f81 (iw f105 (by decide) (by decide))
                        · refine g_aload_n C rfl 0 rfl dX12_doubles_92 ?_
                          refine g_iload C 5 rfl dX12_doubles_93 ?_
                          refine g_iload C 6 rfl dX12_doubles_95 ?_
                          refine g_callI (st := []) (gc_V C lk_LandSurveyModel_609 (k_X12_isDouble l D cy w z0 O79 e83 f71 f89) e83 rfl rfl rfl ⟨by decide, by decide⟩ (Nat.le_of_ble_eq_true rfl) dX12_doubles_97 ⟨(by decide), (by decide)⟩) (fun r106 h107 f109 K108 => ?_)
                          obtain ⟨O110, F111, f112⟩ := K108
                          refine g_if_eq C (iw f112 (by decide) (by decide)) 132 (by decide) dX12_doubles_100 (fun q113 => ?_) (fun q114 => ?_)
                          · have f115 : (0 : Int) ≤ r106 ∧ r106 ≤ (0 : Int) := ii f112 (r_eq (il 0) q113) (by decide) (by decide)
                            have f116 : (1 : Int) ≤ (x74 + 1) ∧ (x74 + 1) ≤ (40 : Int) := ia_add f89 (il 1) (by decide) (by decide)
                            refine g_iinc C [(6, .inl (x74 + 1)), (0, .inr (.inr a0)), (1, .inl a1), (2, .inl a2), (3, .inl a3), (4, .inl x73), (5, .inl x56)] 6 rfl (by decide) rfl dX12_doubles_132 ?_
                            refine g_goto C 61 (by decide) dX12_doubles_135 ?_
                            refine GW.sub [1, 2, 3, 4, 5, 6, 0] rfl ?_
                            exact ih77 _ (by omega) x73 (x74 + 1) h107 rfl O110 (F80.call F111 rfl) f81 (iw f116 (by decide) (by decide))
                          · have f117 : (1 : Int) ≤ r106 ∧ r106 ≤ (1 : Int) := r_nl f112 q114
                            refine g_iload C 4 rfl dX12_doubles_103 ?_
                            refine g_iload_n C rfl 3 rfl dX12_doubles_105 ?_
                            refine g_if_eq C (iw f43 (by decide) (by decide)) 124 (by decide) dX12_doubles_106 (fun q118 => ?_) (fun q119 => ?_)
                            · have f120 : (0 : Int) ≤ a3 ∧ a3 ≤ (0 : Int) := ii f43 (r_eq (il 0) q118) (by decide) (by decide)
                              refine g_iconst C dX12_doubles_124 ?_
                              refine g_goto C 129 (by decide) dX12_doubles_125 ?_
                              have f121 : (-2147483648 : Int) ≤ (w32 (x73 + 1)) ∧ (w32 (x73 + 1)) ≤ (2147483647 : Int) := w32_inR _
                              refine g_iaddW C dX12_doubles_129 ?_
                              refine g_istore C [(4, .inl (w32 (x73 + 1))), (0, .inr (.inr a0)), (1, .inl a1), (2, .inl a2), (3, .inl a3), (5, .inl x56), (6, .inl x74)] (by decide) rfl dX12_doubles_130 ?_
                              have f122 : (1 : Int) ≤ (x74 + 1) ∧ (x74 + 1) ≤ (40 : Int) := ia_add f89 (il 1) (by decide) (by decide)
                              refine g_iinc C [(6, .inl (x74 + 1)), (4, .inl (w32 (x73 + 1))), (0, .inr (.inr a0)), (1, .inl a1), (2, .inl a2), (3, .inl a3), (5, .inl x56)] 6 rfl (by decide) rfl dX12_doubles_132 ?_
                              refine g_goto C 61 (by decide) dX12_doubles_135 ?_
                              refine GW.sub [2, 3, 4, 5, 1, 6, 0] rfl ?_
                              exact ih77 _ (by omega) (w32 (x73 + 1)) (x74 + 1) h107 rfl O110 (F80.call F111 rfl) f121 (iw f122 (by decide) (by decide))
                            · have f123 : (1 : Int) ≤ a3 ∧ a3 ≤ (1 : Int) := r_nl f43 q119
                              refine g_aload_n C rfl 0 rfl dX12_doubles_109 ?_
                              refine g_iload C 5 rfl dX12_doubles_110 ?_
                              have e124 : Tg h107 a0 = 12 := (fxT F111 e83)
                              have e125 : Tg h50 a0 = 12 := (fxT F54 e44)
                              have p126 := (MInv_fx O79 F111 e83 rfl (MInv_fx O61 F80 e65 rfl (MInv_fx O53 F62 e125 rfl (MInv_fx O36 F54 e44 rfl p48))))
                              refine g_callI (st := [.inl x73]) (gc_V C lk_LandSurveyModel_450 (k_X12_rockOf l D cy w z0 O110 e124 f71 p126) e124 rfl rfl rfl ⟨by decide, by decide⟩ (Nat.le_of_ble_eq_true rfl) dX12_doubles_112 ⟨(by decide), (by decide)⟩) (fun r127 h128 f130 K129 => ?_)
                              obtain ⟨O131, F132, f133, p134, p135⟩ := K129
                              obtain ⟨v136, e137⟩ : ∃ z, RK h107 a0 x56 = z := ⟨_, rfl⟩
                              rw [e137] at p134
                              obtain ⟨v138, e139⟩ : ∃ z, BNow h107 a0 = z := ⟨_, rfl⟩
                              have f140 : (-1 : Int) ≤ v138 ∧ v138 ≤ (7 : Int) := BNow_rng O110 e124 e139
                              rw [e139] at p135
                              refine g_aload_n C rfl 0 rfl dX12_doubles_115 ?_
                              refine g_iload C 6 rfl dX12_doubles_116 ?_
                              have e141 : Tg h128 a0 = 12 := (fxT F132 e124)
                              have p142 := (MInv_fx O110 F132 e124 rfl p126)
                              refine g_callI (st := [.inl r127, .inl x73]) (gc_V C lk_LandSurveyModel_450 (k_X12_rockOf l D cy w z0 O131 e141 f89 p142) e141 rfl rfl rfl ⟨by decide, by decide⟩ (Nat.le_of_ble_eq_true rfl) dX12_doubles_118 ⟨(by decide), (by decide)⟩) (fun r143 h144 f146 K145 => ?_)
                              obtain ⟨O147, F148, f149, p150, p151⟩ := K145
                              obtain ⟨v152, e153⟩ : ∃ z, RK h128 a0 x74 = z := ⟨_, rfl⟩
                              rw [e153] at p150
                              have p154 := ((BNow_fx O110 F132 e124 rfl).trans e139)
                              rw [p154] at p151
                              refine g_icmp_ne C (iw f133 (by decide) (by decide)) (iw f149 (by decide) (by decide)) 128 (by decide) dX12_doubles_121 (fun q155 => ?_) (fun q156 => ?_)
                              · refine g_iconst C dX12_doubles_128 ?_
                                have f157 : (-2147483648 : Int) ≤ (x73 + 0) ∧ (x73 + 0) ≤ (2147483647 : Int) := ia_add f81 (il 0) (by decide) (by decide)
                                refine g_iadd C dX12_doubles_129 ?_
                                refine g_istore C [(4, .inl (x73 + 0)), (0, .inr (.inr a0)), (1, .inl a1), (2, .inl a2), (3, .inl a3), (5, .inl x56), (6, .inl x74)] (by decide) rfl dX12_doubles_130 ?_
                                have f158 : (1 : Int) ≤ (x74 + 1) ∧ (x74 + 1) ≤ (40 : Int) := ia_add f89 (il 1) (by decide) (by decide)
                                refine g_iinc C [(6, .inl (x74 + 1)), (4, .inl (x73 + 0)), (0, .inr (.inr a0)), (1, .inl a1), (2, .inl a2), (3, .inl a3), (5, .inl x56)] 6 rfl (by decide) rfl dX12_doubles_132 ?_
                                refine g_goto C 61 (by decide) dX12_doubles_135 ?_
                                refine GW.sub [2, 3, 4, 5, 1, 6, 0] rfl ?_
                                exact ih77 _ (by omega) (x73 + 0) (x74 + 1) h144 rfl O147 (((F80.call F111 rfl).call F132 rfl).call F148 rfl) f157 (iw f158 (by decide) (by decide))
                              · refine g_iconst C dX12_doubles_124 ?_
                                refine g_goto C 129 (by decide) dX12_doubles_125 ?_
                                have f159 : (-2147483648 : Int) ≤ (w32 (x73 + 1)) ∧ (w32 (x73 + 1)) ≤ (2147483647 : Int) := w32_inR _
                                refine g_iaddW C dX12_doubles_129 ?_
                                refine g_istore C [(4, .inl (w32 (x73 + 1))), (0, .inr (.inr a0)), (1, .inl a1), (2, .inl a2), (3, .inl a3), (5, .inl x56), (6, .inl x74)] (by decide) rfl dX12_doubles_130 ?_
                                have f160 : (1 : Int) ≤ (x74 + 1) ∧ (x74 + 1) ≤ (40 : Int) := ia_add f89 (il 1) (by decide) (by decide)
                                refine g_iinc C [(6, .inl (x74 + 1)), (4, .inl (w32 (x73 + 1))), (0, .inr (.inr a0)), (1, .inl a1), (2, .inl a2), (3, .inl a3), (5, .inl x56)] 6 rfl (by decide) rfl dX12_doubles_132 ?_
                                refine g_goto C 61 (by decide) dX12_doubles_135 ?_
                                refine GW.sub [2, 3, 4, 5, 1, 6, 0] rfl ?_
                                exact ih77 _ (by omega) (w32 (x73 + 1)) (x74 + 1) h144 rfl O147 (((F80.call F111 rfl).call F132 rfl).call F148 rfl) f159 (iw f160 (by decide) (by decide))
                exact L76 _ x55 0 h57 rfl O61 Fx.rf f63 (iw (il 0) (by decide) (by decide))
          exact L58 _ 0 0 h50 rfl O53 Fx.rf (iw (il 0) (by decide) (by decide)) (iw (il 0) (by decide) (by decide))
        · have f161 : (0 : Int) ≤ r32 ∧ r32 ≤ (0 : Int) := ii f38 (r_eq (il 0) q41) (by decide) (by decide)
          refine g_iconst C dX12_doubles_37 ?_
          exact g_iret C hr rfl (iw (il (-1)) (by decide) (by decide)) ⟨O36, (((((Fx.rf (wr := wr_k_X12_doubles)).pI ta0 hh1 rfl).call F9 rfl).call F22 rfl).call F37 rfl), (iw (il (-1)) (by decide) (by decide))⟩ (by decide) (by decide) dX12_doubles_38
def wr_k_X12_habit : List Nat := [2400, 2435, 2462, 2469, 2477, 2478, 26220000, 26420000, 30620200, 30820000, 31020000, 31220000, 32620000, 32820000, 33020000, 33220000, 33420000, 33620000, 34020200, 34220000, 34420400, 34620200, 34820200, 35020000, 35220000]
set_option maxRecDepth 100000 in
set_option maxHeartbeats 4000000 in
theorem k_X12_habit (l : Launch) (D : va_G) (cy : Nat → ClassId) (w : Nat → Nat) (z0 : Nat)  {h : Hp} {a0 : Nat} {a1 : Int}  (O : Okh h) (ta0 : Tg h a0 = 12) (fa1 : (-2147483648) ≤ a1 ∧ a1 ≤ 2147483647) (P_MInv : MInv h a0) : MI l D cy w z0 yX12_habit cX12_habit 6 (some .int) 11 278 0 0 [.inr (.inr a0), .inl a1] h (fun v h1 => Okh h1 ∧ Fx wr_k_X12_habit h h1 ∧ ((-2147483648) ≤ v ∧ v ≤ 2147483647)) := by
  refine hm_go (by decide +kernel) (Nat.le_of_ble_eq_true rfl) (fun p e s m below meth c C hr hn => ?_)
  refine g_aload_n C rfl 0 rfl dX12_habit_0 ?_
  refine g_iload_n C rfl 1 rfl dX12_habit_1 ?_
  refine g_iconst C dX12_habit_2 ?_
  refine g_iconst C dX12_habit_3 ?_
  refine g_callI (st := [.inr (.inr a0)]) (gc_S C lk_LandSurveyModel_415 (k_X12_within l D cy w z0 O fa1 (iw (il 0) (by decide) (by decide)) (iw (il 5) (by decide) (by decide))) rfl ⟨by decide, by decide⟩ (Nat.le_of_ble_eq_true rfl) dX12_habit_4 ⟨(by decide), (by decide)⟩) (fun r1 h2 f4 K3 => ?_)
  obtain ⟨O5, F6, f7, p8⟩ := K3
  refine g_if_eq C (iw f7 (by decide) (by decide)) 14 (by decide) dX12_habit_7 (fun q9 => ?_) (fun q10 => ?_)
  · have f11 : (0 : Int) ≤ r1 ∧ r1 ≤ (0 : Int) := ii f7 (r_eq (il 0) q9) (by decide) (by decide)
    refine g_iconst C dX12_habit_14 ?_
    have e12 : Tg h2 a0 = 12 := (fxT F6 ta0)
    refine gp_I C fk_LandSurveyModel_1 pk_LandSurveyModel_0 rfl e12 (iw (il 1) (by decide) (by decide)) (nf_i _) dX12_habit_15 (fun h14 hh13 => ?_)
    have O15 := O5.pI e12 hh13 rI_12_0 (iw (il 1) (by decide) (by decide)) nofun
    refine g_aload_n C rfl 0 rfl dX12_habit_18 ?_
    have e16 : Tg h14 a0 = 12 := ((pIT hh13).trans e12)
    refine gf_I C fk_LandSurveyModel_1 rfl e16 (pI_e hh13) dX12_habit_19 ?_
    refine g_if_le C (iw (il 1) (by decide) (by decide)) 27 (by decide) dX12_habit_22 (fun q17 => ?_) (fun q18 => ?_)
    · exact (no_le (il 1) (il 0) q17 (by decide)).elim
    · refine g_iconst C dX12_habit_25 ?_
      exact g_iret C hr rfl (iw (il 0) (by decide) (by decide)) ⟨O15, (((Fx.rf (wr := wr_k_X12_habit)).call F6 rfl).pI e12 hh13 rfl), (iw (il 0) (by decide) (by decide))⟩ (by decide) (by decide) dX12_habit_26
  · have f19 : (1 : Int) ≤ r1 ∧ r1 ≤ (1 : Int) := r_nl f7 q10
    have f20 : (0 : Int) ≤ a1 ∧ a1 ≤ (5 : Int) := by omega
    refine g_iconst C dX12_habit_10 ?_
    refine g_goto C 15 (by decide) dX12_habit_11 ?_
    have e21 : Tg h2 a0 = 12 := (fxT F6 ta0)
    refine gp_I C fk_LandSurveyModel_1 pk_LandSurveyModel_0 rfl e21 (iw (il 0) (by decide) (by decide)) (nf_i _) dX12_habit_15 (fun h23 hh22 => ?_)
    have O24 := O5.pI e21 hh22 rI_12_0 (iw (il 0) (by decide) (by decide)) nofun
    refine g_aload_n C rfl 0 rfl dX12_habit_18 ?_
    have e25 : Tg h23 a0 = 12 := ((pIT hh22).trans e21)
    refine gf_I C fk_LandSurveyModel_1 rfl e25 (pI_e hh22) dX12_habit_19 ?_
    refine g_if_le C (iw (il 0) (by decide) (by decide)) 27 (by decide) dX12_habit_22 (fun q26 => ?_) (fun q27 => ?_)
    · refine g_aload_n C rfl 0 rfl dX12_habit_27 ?_
      have p28 := (MInv_fx O5 ((Fx.rf (wr := [2400]) (h := h2)).pI e21 hh22 rfl) e21 rfl (MInv_fx O F6 ta0 rfl P_MInv))
      refine g_callV (st := []) (gc_V C lk_LandSurveyModel_557 (k_X12_findGrounds l D cy w z0 O24 e25 p28) e25 rfl rfl rfl ⟨by decide, by decide⟩ (Nat.le_of_ble_eq_true rfl) dX12_habit_28 ⟨(by decide), (by decide)⟩) (fun h30 K31 => ?_)
      obtain ⟨O33, F34⟩ := K31
      refine g_iconst C dX12_habit_31 ?_
      refine g_istore_n C [(2, .inl 0), (0, .inr (.inr a0)), (1, .inl a1)] rfl (by decide) rfl dX12_habit_32 ?_
      refine g_iconst C dX12_habit_33 ?_
      refine g_istore_n C [(3, .inl 0), (2, .inl 0), (0, .inr (.inr a0)), (1, .inl a1)] rfl (by decide) rfl dX12_habit_34 ?_
      refine g_iconst C dX12_habit_35 ?_
      refine g_istore C [(4, .inl 0), (3, .inl 0), (2, .inl 0), (0, .inr (.inr a0)), (1, .inl a1)] (by decide) rfl dX12_habit_36 ?_
      refine GW.sub [3, 4, 2, 1, 0] rfl ?_
      -- loop at 38
      have L39 : ∀ (μ : Nat) (x35 : Int) (x36 : Int) (x37 : Int) (h38 : Hp), (40 - x37).toNat = μ → Okh h38 → Fx [26220000, 26420000] h30 h38 → ((-2147483648 : Int) ≤ x35 ∧ x35 ≤ (2147483647 : Int)) → ((-2147483648 : Int) ≤ x36 ∧ x36 ≤ (2147483647 : Int)) → ((0 : Int) ≤ x37 ∧ x37 ≤ (40 : Int)) → GW p l e (rmm 11 278 0 0) s m (List.map toV [.inr (.inr a0), .inl a1]).toArray below meth c D cy z0 6 (MQ below (QI D cy z0 (fun v h1 => Okh h1 ∧ Fx wr_k_X12_habit h h1 ∧ ((-2147483648) ≤ v ∧ v ≤ 2147483647))) (List.map toV [.inr (.inr a0), .inl a1]).toArray s 0 0 (Aof z0)) 38 [(0, .inr (.inr a0)), (1, .inl a1), (2, .inl x35), (3, .inl x36), (4, .inl x37)] [] h38 0 0 := by
        intro μ
        induction μ using Nat.strongRecOn with
        | ind μ ih40 =>
          intro x35 x36 x37 h38 hm41 O42 F43 f44 f45 f46
          refine g_iload C 4 rfl dX12_habit_38 ?_
          refine g_aload_n C rfl 0 rfl dX12_habit_40 ?_
          have e47 : Tg h38 a0 = 12 := (fxT F43 (fxT F34 e25))
          obtain ⟨v48, e49⟩ : ∃ z, Iv h38 a0 40 = z := ⟨_, rfl⟩
          have f50 := ok_I O42 e47 rI_12_40 e49
          refine gf_I C fk_LandSurveyModel_423 rfl e47 e49 dX12_habit_41 ?_
          refine g_icmp_ge C (iw f46 (by decide) (by decide)) (iw f50 (by decide) (by decide)) 123 (by decide) dX12_habit_44 (fun q51 => ?_) (fun q52 => ?_)
          · refine g_iload_n C rfl 3 rfl dX12_habit_123 ?_
            refine g_if_ge C f45 132 (by decide) dX12_habit_124 (fun q53 => ?_) (fun q54 => ?_)
            · have f55 : (0 : Int) ≤ x36 ∧ x36 ≤ (2147483647 : Int) := r_ge f45 (il 0) q53 (by decide) (by decide)
              refine g_iload_n C rfl 3 rfl dX12_habit_132 ?_
              refine g_istore C [(4, .inl x36), (0, .inr (.inr a0)), (1, .inl a1), (2, .inl x35), (3, .inl x36)] (by decide) rfl dX12_habit_133 ?_
              refine g_iload_n C rfl 3 rfl dX12_habit_135 ?_
              refine g_iconst C dX12_habit_136 ?_
              refine g_icmp_lt C f44 (iw (il 3) (by decide) (by decide)) 148 (by decide) dX12_habit_137 (fun q56 => ?_) (fun q57 => ?_)
              · have f58 : (-2147483648 : Int) ≤ x35 ∧ x35 ≤ (2 : Int) := r_lt f44 (il 3) q56 (by decide) (by decide)
                refine g_iconst C dX12_habit_148 ?_
                refine g_goto C 161 (by decide) dX12_habit_149 ?_
                exact g_iret C hr rfl (iw (il 0) (by decide) (by decide)) ⟨O42, (((((Fx.rf (wr := wr_k_X12_habit)).call F6 rfl).pI e21 hh22 rfl).call F34 rfl).call F43 rfl), (iw (il 0) (by decide) (by decide))⟩ (by decide) (by decide) dX12_habit_161
              · have f59 : (3 : Int) ≤ x35 ∧ x35 ≤ (2147483647 : Int) := r_ge f44 (il 3) q57 (by decide) (by decide)
                refine g_iconst C dX12_habit_140 ?_
                refine g_iload C 0 rfl dX12_habit_141 ?_
                have f60 : (-2147483648 : Int) ≤ (w32 (2 * x36)) ∧ (w32 (2 * x36)) ≤ (2147483647 : Int) := w32_inR _
                refine g_imulW C dX12_habit_143 ?_
                refine g_iload_n C rfl 3 rfl dX12_habit_144 ?_
                refine g_icmp_gt C f60 (iw f59 (by decide) (by decide)) 152 (by decide) dX12_habit_145 (fun q61 => ?_) (fun q62 => ?_)
                · have f63 : (3 : Int) ≤ x35 ∧ x35 ≤ (2147483646 : Int) := r_lt f59 f60 q61 (by decide) (by decide)
                  have f64 : (4 : Int) ≤ (w32 (2 * x36)) ∧ (w32 (2 * x36)) ≤ (2147483647 : Int) := r_gt f60 f59 q61 (by decide) (by decide)
                  refine g_iload_n C rfl 4 rfl dX12_habit_152 ?_
                  refine g_if_le C (iw f55 (by decide) (by decide)) 160 (by decide) dX12_habit_153 (fun q65 => ?_) (fun q66 => ?_)
                  · have f67 : (0 : Int) ≤ x36 ∧ x36 ≤ (0 : Int) := r_le f55 (il 0) q65 (by decide) (by decide)
                    refine g_iconst C dX12_habit_160 ?_
                    exact g_iret C hr rfl (iw (il (-1)) (by decide) (by decide)) ⟨O42, (((((Fx.rf (wr := wr_k_X12_habit)).call F6 rfl).pI e21 hh22 rfl).call F34 rfl).call F43 rfl), (iw (il (-1)) (by decide) (by decide))⟩ (by decide) (by decide) dX12_habit_161
                  · have f68 : (1 : Int) ≤ x36 ∧ x36 ≤ (2147483647 : Int) := r_gt f55 (il 0) q66 (by decide) (by decide)
                    refine g_iconst C dX12_habit_156 ?_
                    refine g_goto C 161 (by decide) dX12_habit_157 ?_
                    exact g_iret C hr rfl (iw (il 1) (by decide) (by decide)) ⟨O42, (((((Fx.rf (wr := wr_k_X12_habit)).call F6 rfl).pI e21 hh22 rfl).call F34 rfl).call F43 rfl), (iw (il 1) (by decide) (by decide))⟩ (by decide) (by decide) dX12_habit_161
                · refine g_iconst C dX12_habit_148 ?_
                  refine g_goto C 161 (by decide) dX12_habit_149 ?_
                  exact g_iret C hr rfl (iw (il 0) (by decide) (by decide)) ⟨O42, (((((Fx.rf (wr := wr_k_X12_habit)).call F6 rfl).pI e21 hh22 rfl).call F34 rfl).call F43 rfl), (iw (il 0) (by decide) (by decide))⟩ (by decide) (by decide) dX12_habit_161
            · have f69 : (-2147483648 : Int) ≤ x36 ∧ x36 ≤ (-1 : Int) := r_lt f45 (il 0) q54 (by decide) (by decide)
              refine g_iload_n C rfl 3 rfl dX12_habit_127 ?_
              refine g_inegW C dX12_habit_128 ?_
              have f70 : (-2147483648 : Int) ≤ (w32 (-x36)) ∧ (w32 (-x36)) ≤ (2147483647 : Int) := w32_inR _
              refine g_goto C 133 (by decide) dX12_habit_129 ?_
              refine g_istore C [(4, .inl (w32 (-x36))), (0, .inr (.inr a0)), (1, .inl a1), (2, .inl x35), (3, .inl x36)] (by decide) rfl dX12_habit_133 ?_
              refine g_iload_n C rfl 3 rfl dX12_habit_135 ?_
              refine g_iconst C dX12_habit_136 ?_
              refine g_icmp_lt C f44 (iw (il 3) (by decide) (by decide)) 148 (by decide) dX12_habit_137 (fun q71 => ?_) (fun q72 => ?_)
              · have f73 : (-2147483648 : Int) ≤ x35 ∧ x35 ≤ (2 : Int) := r_lt f44 (il 3) q71 (by decide) (by decide)
                refine g_iconst C dX12_habit_148 ?_
                refine g_goto C 161 (by decide) dX12_habit_149 ?_
                exact g_iret C hr rfl (iw (il 0) (by decide) (by decide)) ⟨O42, (((((Fx.rf (wr := wr_k_X12_habit)).call F6 rfl).pI e21 hh22 rfl).call F34 rfl).call F43 rfl), (iw (il 0) (by decide) (by decide))⟩ (by decide) (by decide) dX12_habit_161
              · have f74 : (3 : Int) ≤ x35 ∧ x35 ≤ (2147483647 : Int) := r_ge f44 (il 3) q72 (by decide) (by decide)
                refine g_iconst C dX12_habit_140 ?_
                refine g_iload C 0 rfl dX12_habit_141 ?_
                have f75 : (-2147483648 : Int) ≤ (w32 (2 * (w32 (-x36)))) ∧ (w32 (2 * (w32 (-x36)))) ≤ (2147483647 : Int) := w32_inR _
                refine g_imulW C dX12_habit_143 ?_
                refine g_iload_n C rfl 3 rfl dX12_habit_144 ?_
                refine g_icmp_gt C f75 (iw f74 (by decide) (by decide)) 152 (by decide) dX12_habit_145 (fun q76 => ?_) (fun q77 => ?_)
                · have f78 : (3 : Int) ≤ x35 ∧ x35 ≤ (2147483646 : Int) := r_lt f74 f75 q76 (by decide) (by decide)
                  have f79 : (4 : Int) ≤ (w32 (2 * (w32 (-x36)))) ∧ (w32 (2 * (w32 (-x36)))) ≤ (2147483647 : Int) := r_gt f75 f74 q76 (by decide) (by decide)
                  refine g_iload_n C rfl 4 rfl dX12_habit_152 ?_
                  refine g_if_le C (iw f69 (by decide) (by decide)) 160 (by decide) dX12_habit_153 (fun q80 => ?_) (fun q81 => ?_)
                  · refine g_iconst C dX12_habit_160 ?_
                    exact g_iret C hr rfl (iw (il (-1)) (by decide) (by decide)) ⟨O42, (((((Fx.rf (wr := wr_k_X12_habit)).call F6 rfl).pI e21 hh22 rfl).call F34 rfl).call F43 rfl), (iw (il (-1)) (by decide) (by decide))⟩ (by decide) (by decide) dX12_habit_161
                  · exact (no_lt (il 0) f69 q81 (by decide)).elim
                · refine g_iconst C dX12_habit_148 ?_
                  refine g_goto C 161 (by decide) dX12_habit_149 ?_
                  exact g_iret C hr rfl (iw (il 0) (by decide) (by decide)) ⟨O42, (((((Fx.rf (wr := wr_k_X12_habit)).call F6 rfl).pI e21 hh22 rfl).call F34 rfl).call F43 rfl), (iw (il 0) (by decide) (by decide))⟩ (by decide) (by decide) dX12_habit_161
          · have f82 : (0 : Int) ≤ x37 ∧ x37 ≤ (39 : Int) := r_lt f46 f50 q52 (by decide) (by decide)
            have f83 : (1 : Int) ≤ v48 ∧ v48 ≤ (40 : Int) := r_gt f50 f46 q52 (by decide) (by decide)
            refine g_iconst C dX12_habit_47 ?_
            refine g_istore C [(5, .inl 0), (0, .inr (.inr a0)), (1, .inl a1), (2, .inl x35), (3, .inl x36), (4, .inl x37)] (by decide) rfl dX12_habit_48 ?_
            refine GW.sub [1, 2, 3, 4, 5, 0] rfl ?_
            -- loop at 50
            have L88 : ∀ (μ : Nat) (x84 : Int) (x85 : Int) (x86 : Int) (h87 : Hp), (40 - x86).toNat = μ → Okh h87 → Fx [26220000, 26420000] h38 h87 → ((-2147483648 : Int) ≤ x84 ∧ x84 ≤ (2147483647 : Int)) → ((-2147483648 : Int) ≤ x85 ∧ x85 ≤ (2147483647 : Int)) → ((0 : Int) ≤ x86 ∧ x86 ≤ (40 : Int)) → GW p l e (rmm 11 278 0 0) s m (List.map toV [.inr (.inr a0), .inl a1]).toArray below meth c D cy z0 6 (MQ below (QI D cy z0 (fun v h1 => Okh h1 ∧ Fx wr_k_X12_habit h h1 ∧ ((-2147483648) ≤ v ∧ v ≤ 2147483647))) (List.map toV [.inr (.inr a0), .inl a1]).toArray s 0 0 (Aof z0)) 50 [(0, .inr (.inr a0)), (1, .inl a1), (2, .inl x84), (3, .inl x85), (4, .inl x37), (5, .inl x86)] [] h87 0 0 := by
              intro μ
              induction μ using Nat.strongRecOn with
              | ind μ ih89 =>
                intro x84 x85 x86 h87 hm90 O91 F92 f93 f94 f95
                refine g_iload C 5 rfl dX12_habit_50 ?_
                refine g_aload_n C rfl 0 rfl dX12_habit_52 ?_
                have e96 : Tg h87 a0 = 12 := (fxT F92 e47)
                have e97 : Iv h87 a0 40 = v48 := ((fxI F92 e47 rfl).trans e49)
                refine gf_I C fk_LandSurveyModel_423 rfl e96 e97 dX12_habit_53 ?_
                refine g_icmp_ge C (iw f95 (by decide) (by decide)) (iw f83 (by decide) (by decide)) 117 (by decide) dX12_habit_56 (fun q98 => ?_) (fun q99 => ?_)
                · have f100 : (1 : Int) ≤ x86 ∧ x86 ≤ (40 : Int) := r_ge f95 f83 q98 (by decide) (by decide)
                  have f101 : (1 : Int) ≤ (x37 + 1) ∧ (x37 + 1) ≤ (40 : Int) := ia_add f82 (il 1) (by decide) (by decide)
                  refine g_iinc C [(4, .inl (x37 + 1)), (0, .inr (.inr a0)), (1, .inl a1), (2, .inl x84), (3, .inl x85), (5, .inl x86)] 4 rfl (by decide) rfl dX12_habit_117 ?_
                  refine g_goto C 38 (by decide) dX12_habit_120 ?_
                  refine GW.sub [1, 2, 3, 4, 0] rfl ?_
                  exact ih40 _ (by omega) x84 x85 (x37 + 1) h87 rfl O91 (F43.call F92 rfl) f93 f94 (iw f101 (by decide) (by decide))
                · have f102 : (0 : Int) ≤ x86 ∧ x86 ≤ (39 : Int) := r_lt f95 f83 q99 (by decide) (by decide)
                  refine g_aload_n C rfl 0 rfl dX12_habit_59 ?_
                  obtain ⟨v103, e104⟩ : ∃ z, Rv h87 a0 44 = z := ⟨_, rfl⟩
                  have t105 := ok_R O91 e96 rE_12_44 e104
                  have l106 := ok_L O91 e96 rE_12_44 e104
                  refine gf_R C fk_LandSurveyModel_182 rfl e96 e104 dX12_habit_60 ?_
                  refine g_iload C 4 rfl dX12_habit_63 ?_
                  obtain ⟨v107, e108⟩ : ∃ z, Iv h87 v103 x37.toNat = z := ⟨_, rfl⟩
                  have f109 := ok_Ia O91 t105 ar_144100 rI_144100_0 e108
                  refine g_iald C t105 rfl l106 (ix f82 (by decide) (by decide)) e108 dX12_habit_65 ?_
                  refine g_iload_n C rfl 1 rfl dX12_habit_66 ?_
                  refine g_icmp_ne C (iw f109 (by decide) (by decide)) (iw f20 (by decide) (by decide)) 111 (by decide) dX12_habit_67 (fun q110 => ?_) (fun q111 => ?_)
                  · have f112 : (1 : Int) ≤ (x86 + 1) ∧ (x86 + 1) ≤ (40 : Int) := ia_add f102 (il 1) (by decide) (by decide)
                    refine g_iinc C [(5, .inl (x86 + 1)), (0, .inr (.inr a0)), (1, .inl a1), (2, .inl x84), (3, .inl x85), (4, .inl x37)] 5 rfl (by decide) rfl dX12_habit_111 ?_
                    refine g_goto C 50 (by decide) dX12_habit_114 ?_
                    refine GW.sub [1, 2, 3, 4, 5, 0] rfl ?_
                    exact ih89 _ (by omega) x84 x85 (x86 + 1) h87 rfl O91 F92 f93 f94 (iw f112 (by decide) (by decide))
                  · refine g_aload_n C rfl 0 rfl dX12_habit_70 ?_
                    refine gf_R C fk_LandSurveyModel_182 rfl e96 e104 dX12_habit_71 ?_
                    refine g_iload C 5 rfl dX12_habit_74 ?_
                    obtain ⟨v113, e114⟩ : ∃ z, Iv h87 v103 x86.toNat = z := ⟨_, rfl⟩
                    have f115 := ok_Ia O91 t105 ar_144100 rI_144100_0 e114
                    refine g_iald C t105 rfl l106 (ix f102 (by decide) (by decide)) e114 dX12_habit_76 ?_
                    refine g_iload_n C rfl 1 rfl dX12_habit_77 ?_
                    refine g_icmp_eq C (iw f115 (by decide) (by decide)) (iw f20 (by decide) (by decide)) 111 (by decide) dX12_habit_78 (fun q116 => ?_) (fun q117 => ?_)
                    · have f118 : (1 : Int) ≤ (x86 + 1) ∧ (x86 + 1) ≤ (40 : Int) := ia_add f102 (il 1) (by decide) (by decide)
                      refine g_iinc C [(5, .inl (x86 + 1)), (0, .inr (.inr a0)), (1, .inl a1), (2, .inl x84), (3, .inl x85), (4, .inl x37)] 5 rfl (by decide) rfl dX12_habit_111 ?_
                      refine g_goto C 50 (by decide) dX12_habit_114 ?_
                      refine GW.sub [1, 2, 3, 4, 5, 0] rfl ?_
                      exact ih89 _ (by omega) x84 x85 (x86 + 1) h87 rfl O91 F92 f93 f94 (iw f118 (by decide) (by decide))
                    · refine g_aload_n C rfl 0 rfl dX12_habit_81 ?_
                      refine g_iload C 4 rfl dX12_habit_82 ?_
                      refine g_iload C 5 rfl dX12_habit_84 ?_
                      refine g_callI (st := []) (gc_V C lk_LandSurveyModel_609 (k_X12_isDouble l D cy w z0 O91 e96 f82 f102) e96 rfl rfl rfl ⟨by decide, by decide⟩ (Nat.le_of_ble_eq_true rfl) dX12_habit_86 ⟨(by decide), (by decide)⟩) (fun r119 h120 f122 K121 => ?_)
                      obtain ⟨O123, F124, f125⟩ := K121
                      refine g_if_eq C (iw f125 (by decide) (by decide)) 111 (by decide) dX12_habit_89 (fun q126 => ?_) (fun q127 => ?_)
                      · have f128 : (0 : Int) ≤ r119 ∧ r119 ≤ (0 : Int) := ii f125 (r_eq (il 0) q126) (by decide) (by decide)
                        have f129 : (1 : Int) ≤ (x86 + 1) ∧ (x86 + 1) ≤ (40 : Int) := ia_add f102 (il 1) (by decide) (by decide)
                        refine g_iinc C [(5, .inl (x86 + 1)), (0, .inr (.inr a0)), (1, .inl a1), (2, .inl x84), (3, .inl x85), (4, .inl x37)] 5 rfl (by decide) rfl dX12_habit_111 ?_
                        refine g_goto C 50 (by decide) dX12_habit_114 ?_
                        refine GW.sub [1, 2, 3, 4, 5, 0] rfl ?_
                        exact ih89 _ (by omega) x84 x85 (x86 + 1) h120 rfl O123 (F92.call F124 rfl) f93 f94 (iw f129 (by decide) (by decide))
                      · have f130 : (1 : Int) ≤ r119 ∧ r119 ≤ (1 : Int) := r_nl f125 q127
                        have f131 : (-2147483648 : Int) ≤ (w32 (x84 + 1)) ∧ (w32 (x84 + 1)) ≤ (2147483647 : Int) := w32_inR _
                        refine g_iincW C [(2, .inl (w32 (x84 + 1))), (0, .inr (.inr a0)), (1, .inl a1), (3, .inl x85), (4, .inl x37), (5, .inl x86)] 2 rfl (by decide) rfl dX12_habit_92 ?_
                        refine g_iload_n C rfl 3 rfl dX12_habit_95 ?_
                        refine g_aload_n C rfl 1 rfl dX12_habit_96 ?_
                        refine g_iload C 4 rfl dX12_habit_97 ?_
                        have e132 : Tg h120 a0 = 12 := (fxT F124 e96)
                        have e133 : Tg h30 a0 = 12 := (fxT F34 e25)
                        have p134 := (MInv_fx O91 F124 e96 rfl (MInv_fx O42 F92 e47 rfl (MInv_fx O33 F43 e133 rfl (MInv_fx O24 F34 e25 rfl p28))))
                        refine g_callI (st := [.inl x85]) (gc_V C lk_LandSurveyModel_450 (k_X12_rockOf l D cy w z0 O123 e132 f82 p134) e132 rfl rfl rfl ⟨by decide, by decide⟩ (Nat.le_of_ble_eq_true rfl) dX12_habit_99 ⟨(by decide), (by decide)⟩) (fun r135 h136 f138 K137 => ?_)
                        obtain ⟨O139, F140, f141, p142, p143⟩ := K137
                        obtain ⟨v144, e145⟩ : ∃ z, RK h120 a0 x37 = z := ⟨_, rfl⟩
                        rw [e145] at p142
                        obtain ⟨v146, e147⟩ : ∃ z, BNow h120 a0 = z := ⟨_, rfl⟩
                        have f148 : (-1 : Int) ≤ v146 ∧ v146 ≤ (7 : Int) := BNow_rng O123 e132 e147
                        rw [e147] at p143
                        refine g_aload_n C rfl 1 rfl dX12_habit_102 ?_
                        refine g_iload C 5 rfl dX12_habit_103 ?_
                        have e149 : Tg h136 a0 = 12 := (fxT F140 e132)
                        have p150 := (MInv_fx O123 F140 e132 rfl p134)
                        refine g_callI (st := [.inl r135, .inl x85]) (gc_V C lk_LandSurveyModel_450 (k_X12_rockOf l D cy w z0 O139 e149 f102 p150) e149 rfl rfl rfl ⟨by decide, by decide⟩ (Nat.le_of_ble_eq_true rfl) dX12_habit_105 ⟨(by decide), (by decide)⟩) (fun r151 h152 f154 K153 => ?_)
                        obtain ⟨O155, F156, f157, p158, p159⟩ := K153
                        obtain ⟨v160, e161⟩ : ∃ z, RK h136 a0 x86 = z := ⟨_, rfl⟩
                        rw [e161] at p158
                        have p162 := ((BNow_fx O123 F140 e132 rfl).trans e147)
                        rw [p162] at p159
                        have f163 : (-10 : Int) ≤ (r135 - r151) ∧ (r135 - r151) ≤ (10 : Int) := ia_sub f141 f157 (by decide) (by decide)
                        refine g_isub C dX12_habit_108 ?_
                        have f164 : (-2147483648 : Int) ≤ (w32 (x85 + (r135 - r151))) ∧ (w32 (x85 + (r135 - r151))) ≤ (2147483647 : Int) := w32_inR _
                        refine g_iaddW C dX12_habit_109 ?_
                        refine g_istore_n C [(3, .inl (w32 (x85 + (r135 - r151)))), (2, .inl (w32 (x84 + 1))), (0, .inr (.inr a0)), (1, .inl a1), (4, .inl x37), (5, .inl x86)] rfl (by decide) rfl dX12_habit_110 ?_
                        have f165 : (1 : Int) ≤ (x86 + 1) ∧ (x86 + 1) ≤ (40 : Int) := ia_add f102 (il 1) (by decide) (by decide)
                        refine g_iinc C [(5, .inl (x86 + 1)), (3, .inl (w32 (x85 + (r135 - r151)))), (2, .inl (w32 (x84 + 1))), (0, .inr (.inr a0)), (1, .inl a1), (4, .inl x37)] 5 rfl (by decide) rfl dX12_habit_111 ?_
                        refine g_goto C 50 (by decide) dX12_habit_114 ?_
                        refine GW.sub [3, 4, 2, 1, 5, 0] rfl ?_
                        exact ih89 _ (by omega) (w32 (x84 + 1)) (w32 (x85 + (r135 - r151))) (x86 + 1) h152 rfl O155 (((F92.call F124 rfl).call F140 rfl).call F156 rfl) f131 f164 (iw f165 (by decide) (by decide))
            exact L88 _ x35 x36 0 h38 rfl O42 Fx.rf f44 f45 (iw (il 0) (by decide) (by decide))
      exact L39 _ 0 0 0 h30 rfl O33 Fx.rf (iw (il 0) (by decide) (by decide)) (iw (il 0) (by decide) (by decide)) (iw (il 0) (by decide) (by decide))
    · exact (no_lt (il 0) (il 0) q27 (by decide)).elim
def wr_k_X12_doubt : List Nat := [2400, 2435, 2462, 2469, 2477, 2478, 26220000, 26420000, 30620200, 30820000, 31020000, 31220000, 32620000, 32820000, 33020000, 33220000, 33420000, 33620000, 34020200, 34220000, 34420400, 34620200, 34820200, 35020000, 35220000]
set_option maxRecDepth 100000 in
set_option maxHeartbeats 4000000 in
theorem k_X12_doubt (l : Launch) (D : va_G) (cy : Nat → ClassId) (w : Nat → Nat) (z0 : Nat)  {h : Hp} {a0 : Nat}  (O : Okh h) (ta0 : Tg h a0 = 12) (P_MInv : MInv h a0) : MI l D cy w z0 yX12_doubt cX12_doubt 1 (some .int) 12 298 0 0 [.inr (.inr a0)] h (fun v h1 => Okh h1 ∧ Fx wr_k_X12_doubt h h1 ∧ ((-2147483648) ≤ v ∧ v ≤ 2147483647)) := by
  refine hm_go (by decide +kernel) (Nat.le_of_ble_eq_true rfl) (fun p e s m below meth c C hr hn => ?_)
  refine g_aload_n C rfl 0 rfl dX12_doubt_0 ?_
  refine g_iconst C dX12_doubt_1 ?_
  refine gp_I C fk_LandSurveyModel_1 pk_LandSurveyModel_0 rfl ta0 (iw (il 0) (by decide) (by decide)) (nf_i _) dX12_doubt_2 (fun h2 hh1 => ?_)
  have O3 := O.pI ta0 hh1 rI_12_0 (iw (il 0) (by decide) (by decide)) nofun
  refine g_aload_n C rfl 0 rfl dX12_doubt_5 ?_
  have e4 : Tg h2 a0 = 12 := ((pIT hh1).trans ta0)
  have p5 := (MInv_fx O ((Fx.rf (wr := [2400]) (h := h)).pI ta0 hh1 rfl) ta0 rfl P_MInv)
  refine g_callI (st := []) (gc_V C lk_LandSurveyModel_618 (k_X12_isBestKnown l D cy w z0 O3 e4 p5) e4 rfl rfl rfl ⟨by decide, by decide⟩ (Nat.le_of_ble_eq_true rfl) dX12_doubt_6 ⟨(by decide), (by decide)⟩) (fun r6 h7 f9 K8 => ?_)
  obtain ⟨O10, F11, f12, p13⟩ := K8
  obtain ⟨v14, e15⟩ : ∃ z, Iv h7 a0 77 = z := ⟨_, rfl⟩
  have e16 : Tg h7 a0 = 12 := (fxT F11 e4)
  have f17 := ok_I O10 e16 rI_12_77 e15
  rw [e15] at p13
  refine g_if_eq C (iw f12 (by decide) (by decide)) 19 (by decide) dX12_doubt_9 (fun q18 => ?_) (fun q19 => ?_)
  · have f20 : (0 : Int) ≤ r6 ∧ r6 ≤ (0 : Int) := ii f12 (r_eq (il 0) q18) (by decide) (by decide)
    refine g_iconst C dX12_doubt_19 ?_
    exact g_iret C hr rfl (iw (il (-1)) (by decide) (by decide)) ⟨O10, (((Fx.rf (wr := wr_k_X12_doubt)).pI ta0 hh1 rfl).call F11 rfl), (iw (il (-1)) (by decide) (by decide))⟩ (by decide) (by decide) dX12_doubt_20
  · have f21 : (1 : Int) ≤ r6 ∧ r6 ≤ (1 : Int) := r_nl f12 q19
    have f22 : (0 : Int) ≤ v14 ∧ v14 ≤ (15 : Int) := by omega
    refine g_aload_n C rfl 0 rfl dX12_doubt_12 ?_
    refine g_callI (st := []) (gc_V C lk_LandSurveyModel_621 (k_X12_doubtNow l D cy w z0 O10 e16 (by rw [e15]; omega)) e16 rfl rfl rfl ⟨by decide, by decide⟩ (Nat.le_of_ble_eq_true rfl) dX12_doubt_13 ⟨(by decide), (by decide)⟩) (fun r23 h24 f26 K25 => ?_)
    obtain ⟨O27, F28, f29⟩ := K25
    refine g_goto C 20 (by decide) dX12_doubt_16 ?_
    exact g_iret C hr rfl f29 ⟨O27, ((((Fx.rf (wr := wr_k_X12_doubt)).pI ta0 hh1 rfl).call F11 rfl).call F28 rfl), f29⟩ (by decide) (by decide) dX12_doubt_20
def wr_k_X12_left : List Nat := [2400, 2435, 2462, 2469, 2477, 2478, 26220000, 26420000, 30620200, 30820000, 31020000, 31220000, 32620000, 32820000, 33020000, 33220000, 33420000, 33620000, 34020200, 34220000, 34420400, 34620200, 34820200, 35020000, 35220000, 37220000]
set_option maxRecDepth 100000 in
set_option maxHeartbeats 4000000 in
theorem k_X12_left (l : Launch) (D : va_G) (cy : Nat → ClassId) (w : Nat → Nat) (z0 : Nat)  {h : Hp} {a0 : Nat} {a1 : Int}  (O : Okh h) (ta0 : Tg h a0 = 12) (fa1 : (-2147483648) ≤ a1 ∧ a1 ≤ 2147483647) (P_MInv : MInv h a0) : MI l D cy w z0 yX12_left cX12_left 2 (some .int) 12 298 0 0 [.inr (.inr a0), .inl a1] h (fun v h1 => Okh h1 ∧ Fx wr_k_X12_left h h1 ∧ ((-2147483648) ≤ v ∧ v ≤ 2147483647)) := by
  refine hm_go (by decide +kernel) (Nat.le_of_ble_eq_true rfl) (fun p e s m below meth c C hr hn => ?_)
  refine g_aload_n C rfl 0 rfl dX12_left_0 ?_
  refine g_iconst C dX12_left_1 ?_
  refine gp_I C fk_LandSurveyModel_1 pk_LandSurveyModel_0 rfl ta0 (iw (il 0) (by decide) (by decide)) (nf_i _) dX12_left_2 (fun h2 hh1 => ?_)
  have O3 := O.pI ta0 hh1 rI_12_0 (iw (il 0) (by decide) (by decide)) nofun
  refine g_iload_n C rfl 1 rfl dX12_left_5 ?_
  refine g_if_lt C fa1 32 (by decide) dX12_left_6 (fun q4 => ?_) (fun q5 => ?_)
  · have f6 : (-2147483648 : Int) ≤ a1 ∧ a1 ≤ (-1 : Int) := r_lt fa1 (il 0) q4 (by decide) (by decide)
    refine g_iconst C dX12_left_32 ?_
    exact g_iret C hr rfl (iw (il (-1)) (by decide) (by decide)) ⟨O3, ((Fx.rf (wr := wr_k_X12_left)).pI ta0 hh1 rfl), (iw (il (-1)) (by decide) (by decide))⟩ (by decide) (by decide) dX12_left_33
  · have f7 : (0 : Int) ≤ a1 ∧ a1 ≤ (2147483647 : Int) := r_ge fa1 (il 0) q5 (by decide) (by decide)
    refine g_iload_n C rfl 1 rfl dX12_left_9 ?_
    refine g_aload_n C rfl 0 rfl dX12_left_10 ?_
    have e8 : Tg h2 a0 = 12 := ((pIT hh1).trans ta0)
    obtain ⟨v9, e10⟩ : ∃ z, Iv h2 a0 83 = z := ⟨_, rfl⟩
    have f11 := ok_I O3 e8 rI_12_83 e10
    refine gf_I C fk_LandSurveyModel_615 rfl e8 e10 dX12_left_11 ?_
    refine g_icmp_ge C (iw f7 (by decide) (by decide)) (iw f11 (by decide) (by decide)) 32 (by decide) dX12_left_14 (fun q12 => ?_) (fun q13 => ?_)
    · refine g_iconst C dX12_left_32 ?_
      exact g_iret C hr rfl (iw (il (-1)) (by decide) (by decide)) ⟨O3, ((Fx.rf (wr := wr_k_X12_left)).pI ta0 hh1 rfl), (iw (il (-1)) (by decide) (by decide))⟩ (by decide) (by decide) dX12_left_33
    · have f14 : (0 : Int) ≤ a1 ∧ a1 ≤ (7 : Int) := r_lt f7 f11 q13 (by decide) (by decide)
      have f15 : (1 : Int) ≤ v9 ∧ v9 ≤ (8 : Int) := r_gt f11 f7 q13 (by decide) (by decide)
      refine g_aload_n C rfl 0 rfl dX12_left_17 ?_
      have p16 := (MInv_fx O ((Fx.rf (wr := [2400]) (h := h)).pI ta0 hh1 rfl) ta0 rfl P_MInv)
      refine g_callI (st := []) (gc_V C lk_LandSurveyModel_618 (k_X12_isBestKnown l D cy w z0 O3 e8 p16) e8 rfl rfl rfl ⟨by decide, by decide⟩ (Nat.le_of_ble_eq_true rfl) dX12_left_18 ⟨(by decide), (by decide)⟩) (fun r17 h18 f20 K19 => ?_)
      obtain ⟨O21, F22, f23, p24⟩ := K19
      obtain ⟨v25, e26⟩ : ∃ z, Iv h18 a0 77 = z := ⟨_, rfl⟩
      have e27 : Tg h18 a0 = 12 := (fxT F22 e8)
      have f28 := ok_I O21 e27 rI_12_77 e26
      rw [e26] at p24
      refine g_if_eq C (iw f23 (by decide) (by decide)) 32 (by decide) dX12_left_21 (fun q29 => ?_) (fun q30 => ?_)
      · have f31 : (0 : Int) ≤ r17 ∧ r17 ≤ (0 : Int) := ii f23 (r_eq (il 0) q29) (by decide) (by decide)
        refine g_iconst C dX12_left_32 ?_
        exact g_iret C hr rfl (iw (il (-1)) (by decide) (by decide)) ⟨O21, (((Fx.rf (wr := wr_k_X12_left)).pI ta0 hh1 rfl).call F22 rfl), (iw (il (-1)) (by decide) (by decide))⟩ (by decide) (by decide) dX12_left_33
      · have f32 : (1 : Int) ≤ r17 ∧ r17 ≤ (1 : Int) := r_nl f23 q30
        have f33 : (0 : Int) ≤ v25 ∧ v25 ≤ (15 : Int) := by omega
        refine g_aload_n C rfl 0 rfl dX12_left_24 ?_
        refine g_iload_n C rfl 1 rfl dX12_left_25 ?_
        refine g_callI (st := []) (gc_V C lk_LandSurveyModel_630 (k_X12_leftAt l D cy w z0 O21 e27 f14 (by rw [e26]; omega)) e27 rfl rfl rfl ⟨by decide, by decide⟩ (Nat.le_of_ble_eq_true rfl) dX12_left_26 ⟨(by decide), (by decide)⟩) (fun r34 h35 f37 K36 => ?_)
        obtain ⟨O38, F39, f40⟩ := K36
        refine g_goto C 33 (by decide) dX12_left_29 ?_
        exact g_iret C hr rfl f40 ⟨O38, ((((Fx.rf (wr := wr_k_X12_left)).pI ta0 hh1 rfl).call F22 rfl).call F39 rfl), f40⟩ (by decide) (by decide) dX12_left_33
def wr_k_X12_next : List Nat := [2400, 2435, 2462, 2469, 2477, 2478, 26220000, 26420000, 30620200, 30820000, 31020000, 31220000, 32620000, 32820000, 33020000, 33220000, 33420000, 33620000, 34020200, 34220000, 34420400, 34620200, 34820200, 35020000, 35220000, 37220000]
set_option maxRecDepth 100000 in
set_option maxHeartbeats 4000000 in
theorem k_X12_next (l : Launch) (D : va_G) (cy : Nat → ClassId) (w : Nat → Nat) (z0 : Nat)  {h : Hp} {a0 : Nat}  (O : Okh h) (ta0 : Tg h a0 = 12) (P_MInv : MInv h a0) : MI l D cy w z0 yX12_next cX12_next 6 (some .int) 12 298 0 0 [.inr (.inr a0)] h (fun v h1 => Okh h1 ∧ Fx wr_k_X12_next h h1 ∧ ((-2147483648) ≤ v ∧ v ≤ 2147483647)) := by
  refine hm_go (by decide +kernel) (Nat.le_of_ble_eq_true rfl) (fun p e s m below meth c C hr hn => ?_)
  refine g_aload_n C rfl 0 rfl dX12_next_0 ?_
  refine g_iconst C dX12_next_1 ?_
  refine gp_I C fk_LandSurveyModel_1 pk_LandSurveyModel_0 rfl ta0 (iw (il 0) (by decide) (by decide)) (nf_i _) dX12_next_2 (fun h2 hh1 => ?_)
  have O3 := O.pI ta0 hh1 rI_12_0 (iw (il 0) (by decide) (by decide)) nofun
  refine g_aload_n C rfl 0 rfl dX12_next_5 ?_
  have e4 : Tg h2 a0 = 12 := ((pIT hh1).trans ta0)
  have p5 := (MInv_fx O ((Fx.rf (wr := [2400]) (h := h)).pI ta0 hh1 rfl) ta0 rfl P_MInv)
  refine g_callI (st := []) (gc_V C lk_LandSurveyModel_618 (k_X12_isBestKnown l D cy w z0 O3 e4 p5) e4 rfl rfl rfl ⟨by decide, by decide⟩ (Nat.le_of_ble_eq_true rfl) dX12_next_6 ⟨(by decide), (by decide)⟩) (fun r6 h7 f9 K8 => ?_)
  obtain ⟨O10, F11, f12, p13⟩ := K8
  obtain ⟨v14, e15⟩ : ∃ z, Iv h7 a0 77 = z := ⟨_, rfl⟩
  have e16 : Tg h7 a0 = 12 := (fxT F11 e4)
  have f17 := ok_I O10 e16 rI_12_77 e15
  rw [e15] at p13
  refine g_if_ne C (iw f12 (by decide) (by decide)) 14 (by decide) dX12_next_9 (fun q18 => ?_) (fun q19 => ?_)
  · have f20 : (1 : Int) ≤ r6 ∧ r6 ≤ (1 : Int) := r_nl f12 q18
    have f21 : (0 : Int) ≤ v14 ∧ v14 ≤ (15 : Int) := by omega
    refine g_iconst C dX12_next_14 ?_
    refine g_istore_n C [(1, .inl (-1)), (0, .inr (.inr a0))] rfl (by decide) rfl dX12_next_15 ?_
    refine g_iconst C dX12_next_16 ?_
    refine g_istore_n C [(2, .inl 0), (1, .inl (-1)), (0, .inr (.inr a0))] rfl (by decide) rfl dX12_next_17 ?_
    refine g_iconst C dX12_next_18 ?_
    refine g_istore_n C [(3, .inl 1), (2, .inl 0), (1, .inl (-1)), (0, .inr (.inr a0))] rfl (by decide) rfl dX12_next_19 ?_
    refine g_iconst C dX12_next_20 ?_
    refine g_istore C [(4, .inl 0), (3, .inl 1), (2, .inl 0), (1, .inl (-1)), (0, .inr (.inr a0))] (by decide) rfl dX12_next_21 ?_
    refine GW.sub [4, 3, 2, 1, 0] rfl ?_
    -- loop at 23
    have L27 : ∀ (μ : Nat) (x22 : Int) (x23 : Int) (x24 : Int) (x25 : Int) (h26 : Hp), (8 - x25).toNat = μ → Okh h26 → Fx [2462, 32620000, 32820000, 33020000, 33220000, 33420000, 37220000] h7 h26 → ((-2147483648 : Int) ≤ x22 ∧ x22 ≤ (2147483647 : Int)) → ((-2147483648 : Int) ≤ x23 ∧ x23 ≤ (2147483647 : Int)) → ((-2147483648 : Int) ≤ x24 ∧ x24 ≤ (2147483647 : Int)) → ((0 : Int) ≤ x25 ∧ x25 ≤ (8 : Int)) → GW p l e (rmm 12 298 0 0) s m (List.map toV [.inr (.inr a0)]).toArray below meth c D cy z0 6 (MQ below (QI D cy z0 (fun v h1 => Okh h1 ∧ Fx wr_k_X12_next h h1 ∧ ((-2147483648) ≤ v ∧ v ≤ 2147483647))) (List.map toV [.inr (.inr a0)]).toArray s 0 0 (Aof z0)) 23 [(0, .inr (.inr a0)), (1, .inl x22), (2, .inl x23), (3, .inl x24), (4, .inl x25)] [] h26 0 0 := by
      intro μ
      induction μ using Nat.strongRecOn with
      | ind μ ih28 =>
        intro x22 x23 x24 x25 h26 hm29 O30 F31 f32 f33 f34 f35
        refine g_iload C 4 rfl dX12_next_23 ?_
        refine g_aload_n C rfl 0 rfl dX12_next_25 ?_
        have e36 : Tg h26 a0 = 12 := (fxT F31 e16)
        obtain ⟨v37, e38⟩ : ∃ z, Iv h26 a0 83 = z := ⟨_, rfl⟩
        have f39 := ok_I O30 e36 rI_12_83 e38
        refine gf_I C fk_LandSurveyModel_615 rfl e36 e38 dX12_next_26 ?_
        refine g_icmp_ge C (iw f35 (by decide) (by decide)) (iw f39 (by decide) (by decide)) 91 (by decide) dX12_next_29 (fun q40 => ?_) (fun q41 => ?_)
        · refine g_iload_n C rfl 1 rfl dX12_next_91 ?_
          exact g_iret C hr rfl f32 ⟨O30, ((((Fx.rf (wr := wr_k_X12_next)).pI ta0 hh1 rfl).call F11 rfl).call F31 rfl), f32⟩ (by decide) (by decide) dX12_next_92
        · have f42 : (0 : Int) ≤ x25 ∧ x25 ≤ (7 : Int) := r_lt f35 f39 q41 (by decide) (by decide)
          have f43 : (1 : Int) ≤ v37 ∧ v37 ≤ (8 : Int) := r_gt f39 f35 q41 (by decide) (by decide)
          refine g_aload_n C rfl 0 rfl dX12_next_32 ?_
          have e44 : Iv h26 a0 77 = v14 := ((fxI F31 e16 rfl).trans e15)
          refine g_callI (st := []) (gc_V C lk_LandSurveyModel_621 (k_X12_doubtNow l D cy w z0 O30 e36 (by rw [e44]; omega)) e36 rfl rfl rfl ⟨by decide, by decide⟩ (Nat.le_of_ble_eq_true rfl) dX12_next_33 ⟨(by decide), (by decide)⟩) (fun r45 h46 f48 K47 => ?_)
          obtain ⟨O49, F50, f51⟩ := K47
          refine g_aload_n C rfl 0 rfl dX12_next_36 ?_
          refine g_iload C 4 rfl dX12_next_37 ?_
          have e52 : Tg h46 a0 = 12 := (fxT F50 e36)
          have e53 : Iv h46 a0 77 = v14 := ((fxI F50 e36 rfl).trans e44)
          refine g_callI (st := [.inl r45]) (gc_V C lk_LandSurveyModel_630 (k_X12_leftAt l D cy w z0 O49 e52 f42 (by rw [e53]; omega)) e52 rfl rfl rfl ⟨by decide, by decide⟩ (Nat.le_of_ble_eq_true rfl) dX12_next_39 ⟨(by decide), (by decide)⟩) (fun r54 h55 f57 K56 => ?_)
          obtain ⟨O58, F59, f60⟩ := K56
          have f61 : (-2147483648 : Int) ≤ (w32 (r45 - r54)) ∧ (w32 (r45 - r54)) ≤ (2147483647 : Int) := w32_inR _
          refine g_isubW C dX12_next_42 ?_
          refine g_istore C [(5, .inl (w32 (r45 - r54))), (0, .inr (.inr a0)), (1, .inl x22), (2, .inl x23), (3, .inl x24), (4, .inl x25)] (by decide) rfl dX12_next_43 ?_
          refine g_iload C 0 rfl dX12_next_45 ?_
          refine g_if_le C f61 85 (by decide) dX12_next_47 (fun q62 => ?_) (fun q63 => ?_)
          · have f64 : (-2147483648 : Int) ≤ (w32 (r45 - r54)) ∧ (w32 (r45 - r54)) ≤ (0 : Int) := r_le f61 (il 0) q62 (by decide) (by decide)
            have f65 : (1 : Int) ≤ (x25 + 1) ∧ (x25 + 1) ≤ (8 : Int) := ia_add f42 (il 1) (by decide) (by decide)
            refine g_iinc C [(4, .inl (x25 + 1)), (5, .inl (w32 (r45 - r54))), (0, .inr (.inr a0)), (1, .inl x22), (2, .inl x23), (3, .inl x24)] 5 rfl (by decide) rfl dX12_next_85 ?_
            refine g_goto C 23 (by decide) dX12_next_88 ?_
            refine GW.sub [2, 3, 4, 5, 0] rfl ?_
            exact ih28 _ (by omega) x22 x23 x24 (x25 + 1) h55 rfl O58 ((F31.call F50 rfl).call F59 rfl) f32 f33 f34 (iw f65 (by decide) (by decide))
          · have f66 : (1 : Int) ≤ (w32 (r45 - r54)) ∧ (w32 (r45 - r54)) ≤ (2147483647 : Int) := r_gt f61 (il 0) q63 (by decide) (by decide)
            refine g_iload C 0 rfl dX12_next_50 ?_
            refine g_i2l C (iw f66 (by decide) (by decide)) dX12_next_52 ?_
            refine g_iload_n C rfl 4 rfl dX12_next_53 ?_
            refine g_i2l C f34 dX12_next_54 ?_
            refine g_lmul C dX12_next_55 ?_
            have f67 : (-9223372036854775808 : Int) ≤ (lM (w32 (r45 - r54)) x24) ∧ (lM (w32 (r45 - r54)) x24) ≤ (9223372036854775807 : Int) := inL_of _
            refine g_iload_n C rfl 3 rfl dX12_next_56 ?_
            refine g_i2l C f33 dX12_next_57 ?_
            refine g_aload_n C rfl 1 rfl dX12_next_58 ?_
            have e68 : Tg h55 a0 = 12 := (fxT F59 e52)
            obtain ⟨v69, e70⟩ : ∃ z, Rv h55 a0 85 = z := ⟨_, rfl⟩
            have t71 := ok_R O58 e68 rE_12_85 e70
            have l72 := ok_L O58 e68 rE_12_85 e70
            refine gf_R C fk_LandSurveyModel_281 rfl e68 e70 dX12_next_59 ?_
            refine g_iload C 5 rfl dX12_next_62 ?_
            obtain ⟨v73, e74⟩ : ∃ z, Iv h55 v69 x25.toNat = z := ⟨_, rfl⟩
            have f75 := ok_Ia O58 t71 ar_185100 rI_185100_0 e74
            refine g_iald C t71 rfl l72 (ix f42 (by decide) (by decide)) e74 dX12_next_64 ?_
            refine g_i2l C (iw f75 (by decide) (by decide)) dX12_next_65 ?_
            refine g_lmul C dX12_next_66 ?_
            have f76 : (-9223372036854775808 : Int) ≤ (lM x23 v73) ∧ (lM x23 v73) ≤ (9223372036854775807 : Int) := inL_of _
            refine g_lcmp C f67 f76 dX12_next_67 ?_
            have f77 : (-1 : Int) ≤ (lC (lM (w32 (r45 - r54)) x24) (lM x23 v73)) ∧ (lC (lM (w32 (r45 - r54)) x24) (lM x23 v73)) ≤ (1 : Int) := lC_rng _ _
            refine g_if_le C (iw f77 (by decide) (by decide)) 85 (by decide) dX12_next_68 (fun q78 => ?_) (fun q79 => ?_)
            · have q80 : (lM (w32 (r45 - r54)) x24) ≤ (lM x23 v73) := lC_le.mp q78
              have f81 : (1 : Int) ≤ (x25 + 1) ∧ (x25 + 1) ≤ (8 : Int) := ia_add f42 (il 1) (by decide) (by decide)
              refine g_iinc C [(4, .inl (x25 + 1)), (5, .inl (w32 (r45 - r54))), (0, .inr (.inr a0)), (1, .inl x22), (2, .inl x23), (3, .inl x24)] 5 rfl (by decide) rfl dX12_next_85 ?_
              refine g_goto C 23 (by decide) dX12_next_88 ?_
              refine GW.sub [2, 3, 4, 5, 0] rfl ?_
              exact ih28 _ (by omega) x22 x23 x24 (x25 + 1) h55 rfl O58 ((F31.call F50 rfl).call F59 rfl) f32 f33 f34 (iw f81 (by decide) (by decide))
            · have q82 : (lM x23 v73) < (lM (w32 (r45 - r54)) x24) := lC_gt.mp q79
              have f83 : (-9223372036854775808 : Int) ≤ (lM x23 v73) ∧ (lM x23 v73) ≤ (9223372036854775806 : Int) := r_lt f76 f67 q82 (by decide) (by decide)
              have f84 : (-9223372036854775807 : Int) ≤ (lM (w32 (r45 - r54)) x24) ∧ (lM (w32 (r45 - r54)) x24) ≤ (9223372036854775807 : Int) := r_gt f67 f76 q82 (by decide) (by decide)
              refine g_iload C 5 rfl dX12_next_71 ?_
              refine g_istore_n C [(1, .inl x25), (5, .inl (w32 (r45 - r54))), (0, .inr (.inr a0)), (2, .inl x23), (3, .inl x24), (4, .inl x25)] rfl (by decide) rfl dX12_next_73 ?_
              refine g_iload C 1 rfl dX12_next_74 ?_
              refine g_istore_n C [(2, .inl (w32 (r45 - r54))), (1, .inl x25), (5, .inl (w32 (r45 - r54))), (0, .inr (.inr a0)), (3, .inl x24), (4, .inl x25)] rfl (by decide) rfl dX12_next_76 ?_
              refine g_aload_n C rfl 3 rfl dX12_next_77 ?_
              refine gf_R C fk_LandSurveyModel_281 rfl e68 e70 dX12_next_78 ?_
              refine g_iload C 5 rfl dX12_next_81 ?_
              refine g_iald C t71 rfl l72 (ix f42 (by decide) (by decide)) e74 dX12_next_83 ?_
              refine g_istore_n C [(3, .inl v73), (2, .inl (w32 (r45 - r54))), (1, .inl x25), (5, .inl (w32 (r45 - r54))), (0, .inr (.inr a0)), (4, .inl x25)] rfl (by decide) rfl dX12_next_84 ?_
              have f85 : (1 : Int) ≤ (x25 + 1) ∧ (x25 + 1) ≤ (8 : Int) := ia_add f42 (il 1) (by decide) (by decide)
              refine g_iinc C [(4, .inl (x25 + 1)), (3, .inl v73), (2, .inl (w32 (r45 - r54))), (1, .inl x25), (5, .inl (w32 (r45 - r54))), (0, .inr (.inr a0))] 5 rfl (by decide) rfl dX12_next_85 ?_
              refine g_goto C 23 (by decide) dX12_next_88 ?_
              refine GW.sub [5, 3, 2, 1, 0] rfl ?_
              exact ih28 _ (by omega) x25 (w32 (r45 - r54)) v73 (x25 + 1) h55 rfl O58 ((F31.call F50 rfl).call F59 rfl) (iw f42 (by decide) (by decide)) (iw f66 (by decide) (by decide)) (iw f75 (by decide) (by decide)) (iw f85 (by decide) (by decide))
    exact L27 _ (-1) 0 1 0 h7 rfl O10 Fx.rf (iw (il (-1)) (by decide) (by decide)) (iw (il 0) (by decide) (by decide)) (iw (il 1) (by decide) (by decide)) (iw (il 0) (by decide) (by decide))
  · have f86 : (0 : Int) ≤ r6 ∧ r6 ≤ (0 : Int) := ii f12 (r_eq (il 0) q19) (by decide) (by decide)
    refine g_iconst C dX12_next_12 ?_
    exact g_iret C hr rfl (iw (il (-1)) (by decide) (by decide)) ⟨O10, (((Fx.rf (wr := wr_k_X12_next)).pI ta0 hh1 rfl).call F11 rfl), (iw (il (-1)) (by decide) (by decide))⟩ (by decide) (by decide) dX12_next_13
def wr_k_X12_sightsThat : List Nat := [26220000, 26420000]
set_option maxRecDepth 100000 in
set_option maxHeartbeats 4000000 in
theorem k_X12_sightsThat (l : Launch) (D : va_G) (cy : Nat → ClassId) (w : Nat → Nat) (z0 : Nat)  {h : Hp} {a0 : Nat} {a1 : Int}  (O : Okh h) (ta0 : Tg h a0 = 12) (fa1 : (-2147483648) ≤ a1 ∧ a1 ≤ 2147483647) (P_MInv : MInv h a0) : MI l D cy w z0 yX12_sightsThat cX12_sightsThat 4 (some .int) 6 135 0 0 [.inr (.inr a0), .inl a1] h (fun v h1 => Okh h1 ∧ Fx wr_k_X12_sightsThat h h1 ∧ ((-2147483648) ≤ v ∧ v ≤ 2147483647)) := by
  refine hm_go (by decide +kernel) (Nat.le_of_ble_eq_true rfl) (fun p e s m below meth c C hr hn => ?_)
  refine g_iconst C dX12_sightsThat_0 ?_
  refine g_istore_n C [(2, .inl 0), (0, .inr (.inr a0)), (1, .inl a1)] rfl (by decide) rfl dX12_sightsThat_1 ?_
  refine g_iconst C dX12_sightsThat_2 ?_
  refine g_istore_n C [(3, .inl 0), (2, .inl 0), (0, .inr (.inr a0)), (1, .inl a1)] rfl (by decide) rfl dX12_sightsThat_3 ?_
  refine GW.sub [2, 3, 1, 0] rfl ?_
  -- loop at 4
  have L4 : ∀ (μ : Nat) (x1 : Int) (x2 : Int) (h3 : Hp), (40 - x2).toNat = μ → Okh h3 → Fx [26220000, 26420000] h h3 → ((-2147483648 : Int) ≤ x1 ∧ x1 ≤ (2147483647 : Int)) → ((0 : Int) ≤ x2 ∧ x2 ≤ (40 : Int)) → GW p l e (rmm 6 135 0 0) s m (List.map toV [.inr (.inr a0), .inl a1]).toArray below meth c D cy z0 4 (MQ below (QI D cy z0 (fun v h1 => Okh h1 ∧ Fx wr_k_X12_sightsThat h h1 ∧ ((-2147483648) ≤ v ∧ v ≤ 2147483647))) (List.map toV [.inr (.inr a0), .inl a1]).toArray s 0 0 (Aof z0)) 4 [(0, .inr (.inr a0)), (1, .inl a1), (2, .inl x1), (3, .inl x2)] [] h3 0 0 := by
    intro μ
    induction μ using Nat.strongRecOn with
    | ind μ ih5 =>
      intro x1 x2 h3 hm6 O7 F8 f9 f10
      refine g_iload_n C rfl 3 rfl dX12_sightsThat_4 ?_
      refine g_aload_n C rfl 0 rfl dX12_sightsThat_5 ?_
      have e11 : Tg h3 a0 = 12 := (fxT F8 ta0)
      obtain ⟨v12, e13⟩ : ∃ z, Iv h3 a0 40 = z := ⟨_, rfl⟩
      have f14 := ok_I O7 e11 rI_12_40 e13
      refine gf_I C fk_LandSurveyModel_423 rfl e11 e13 dX12_sightsThat_6 ?_
      refine g_icmp_ge C (iw f10 (by decide) (by decide)) (iw f14 (by decide) (by decide)) 64 (by decide) dX12_sightsThat_9 (fun q15 => ?_) (fun q16 => ?_)
      · refine g_iload_n C rfl 2 rfl dX12_sightsThat_64 ?_
        exact g_iret C hr rfl f9 ⟨O7, ((Fx.rf (wr := wr_k_X12_sightsThat)).call F8 rfl), f9⟩ (by decide) (by decide) dX12_sightsThat_65
      · have f17 : (0 : Int) ≤ x2 ∧ x2 ≤ (39 : Int) := r_lt f10 f14 q16 (by decide) (by decide)
        have f18 : (1 : Int) ≤ v12 ∧ v12 ≤ (40 : Int) := r_gt f14 f10 q16 (by decide) (by decide)
        refine g_iload_n C rfl 2 rfl dX12_sightsThat_12 ?_
        refine g_iload_n C rfl 1 rfl dX12_sightsThat_13 ?_
        refine g_iconst C dX12_sightsThat_14 ?_
        refine g_icmp_ne C fa1 (iw (il 3) (by decide) (by decide)) 35 (by decide) dX12_sightsThat_15 (fun q19 => ?_) (fun q20 => ?_)
        · refine g_aload_n C rfl 0 rfl dX12_sightsThat_35 ?_
          refine g_iload_n C rfl 3 rfl dX12_sightsThat_36 ?_
          refine g_callI (st := [.inl x1]) (gc_V C lk_LandSurveyModel_447 (k_X12_isInView l D cy w z0 O7 e11 f17) e11 rfl rfl rfl ⟨by decide, by decide⟩ (Nat.le_of_ble_eq_true rfl) dX12_sightsThat_37 ⟨(by decide), (by decide)⟩) (fun r21 h22 f24 K23 => ?_)
          obtain ⟨O25, F26, f27⟩ := K23
          refine g_if_eq C (iw f27 (by decide) (by decide)) 55 (by decide) dX12_sightsThat_40 (fun q28 => ?_) (fun q29 => ?_)
          · have f30 : (0 : Int) ≤ r21 ∧ r21 ≤ (0 : Int) := ii f27 (r_eq (il 0) q28) (by decide) (by decide)
            refine g_iconst C dX12_sightsThat_55 ?_
            have f31 : (-2147483648 : Int) ≤ (x1 + 0) ∧ (x1 + 0) ≤ (2147483647 : Int) := ia_add f9 (il 0) (by decide) (by decide)
            refine g_iadd C dX12_sightsThat_56 ?_
            refine g_istore_n C [(2, .inl (x1 + 0)), (0, .inr (.inr a0)), (1, .inl a1), (3, .inl x2)] rfl (by decide) rfl dX12_sightsThat_57 ?_
            have f32 : (1 : Int) ≤ (x2 + 1) ∧ (x2 + 1) ≤ (40 : Int) := ia_add f17 (il 1) (by decide) (by decide)
            refine g_iinc C [(3, .inl (x2 + 1)), (2, .inl (x1 + 0)), (0, .inr (.inr a0)), (1, .inl a1)] 3 rfl (by decide) rfl dX12_sightsThat_58 ?_
            refine g_goto C 4 (by decide) dX12_sightsThat_61 ?_
            refine GW.sub [2, 3, 1, 0] rfl ?_
            exact ih5 _ (by omega) (x1 + 0) (x2 + 1) h22 rfl O25 (F8.call F26 rfl) f31 (iw f32 (by decide) (by decide))
          · have f33 : (1 : Int) ≤ r21 ∧ r21 ≤ (1 : Int) := r_nl f27 q29
            refine g_aload_n C rfl 0 rfl dX12_sightsThat_43 ?_
            refine g_iload_n C rfl 3 rfl dX12_sightsThat_44 ?_
            have e34 : Tg h22 a0 = 12 := (fxT F26 e11)
            have p35 := (MInv_fx O7 F26 e11 rfl (MInv_fx O F8 ta0 rfl P_MInv))
            refine g_callI (st := [.inl x1]) (gc_V C lk_LandSurveyModel_560 (k_X12_quarrels l D cy w z0 O25 e34 f17 p35) e34 rfl rfl rfl ⟨by decide, by decide⟩ (Nat.le_of_ble_eq_true rfl) dX12_sightsThat_45 ⟨(by decide), (by decide)⟩) (fun r36 h37 f39 K38 => ?_)
            obtain ⟨O40, F41, f42⟩ := K38
            refine g_if_eq C (iw f42 (by decide) (by decide)) 55 (by decide) dX12_sightsThat_48 (fun q43 => ?_) (fun q44 => ?_)
            · have f45 : (0 : Int) ≤ r36 ∧ r36 ≤ (0 : Int) := ii f42 (r_eq (il 0) q43) (by decide) (by decide)
              refine g_iconst C dX12_sightsThat_55 ?_
              have f46 : (-2147483648 : Int) ≤ (x1 + 0) ∧ (x1 + 0) ≤ (2147483647 : Int) := ia_add f9 (il 0) (by decide) (by decide)
              refine g_iadd C dX12_sightsThat_56 ?_
              refine g_istore_n C [(2, .inl (x1 + 0)), (0, .inr (.inr a0)), (1, .inl a1), (3, .inl x2)] rfl (by decide) rfl dX12_sightsThat_57 ?_
              have f47 : (1 : Int) ≤ (x2 + 1) ∧ (x2 + 1) ≤ (40 : Int) := ia_add f17 (il 1) (by decide) (by decide)
              refine g_iinc C [(3, .inl (x2 + 1)), (2, .inl (x1 + 0)), (0, .inr (.inr a0)), (1, .inl a1)] 3 rfl (by decide) rfl dX12_sightsThat_58 ?_
              refine g_goto C 4 (by decide) dX12_sightsThat_61 ?_
              refine GW.sub [2, 3, 1, 0] rfl ?_
              exact ih5 _ (by omega) (x1 + 0) (x2 + 1) h37 rfl O40 ((F8.call F26 rfl).call F41 rfl) f46 (iw f47 (by decide) (by decide))
            · have f48 : (1 : Int) ≤ r36 ∧ r36 ≤ (1 : Int) := r_nl f42 q44
              refine g_iconst C dX12_sightsThat_51 ?_
              refine g_goto C 56 (by decide) dX12_sightsThat_52 ?_
              have f49 : (-2147483648 : Int) ≤ (w32 (x1 + 1)) ∧ (w32 (x1 + 1)) ≤ (2147483647 : Int) := w32_inR _
              refine g_iaddW C dX12_sightsThat_56 ?_
              refine g_istore_n C [(2, .inl (w32 (x1 + 1))), (0, .inr (.inr a0)), (1, .inl a1), (3, .inl x2)] rfl (by decide) rfl dX12_sightsThat_57 ?_
              have f50 : (1 : Int) ≤ (x2 + 1) ∧ (x2 + 1) ≤ (40 : Int) := ia_add f17 (il 1) (by decide) (by decide)
              refine g_iinc C [(3, .inl (x2 + 1)), (2, .inl (w32 (x1 + 1))), (0, .inr (.inr a0)), (1, .inl a1)] 3 rfl (by decide) rfl dX12_sightsThat_58 ?_
              refine g_goto C 4 (by decide) dX12_sightsThat_61 ?_
              refine GW.sub [2, 3, 1, 0] rfl ?_
              exact ih5 _ (by omega) (w32 (x1 + 1)) (x2 + 1) h37 rfl O40 ((F8.call F26 rfl).call F41 rfl) f49 (iw f50 (by decide) (by decide))
        · have f51 : (3 : Int) ≤ a1 ∧ a1 ≤ (3 : Int) := ii fa1 (r_eq (il 3) q20) (by decide) (by decide)
          refine g_aload_n C rfl 0 rfl dX12_sightsThat_18 ?_
          obtain ⟨v52, e53⟩ : ∃ z, Rv h3 a0 53 = z := ⟨_, rfl⟩
          have t54 := ok_R O7 e11 rE_12_53 e53
          have l55 := ok_L O7 e11 rE_12_53 e53
          refine gf_R C fk_LandSurveyModel_209 rfl e11 e53 dX12_sightsThat_19 ?_
          refine g_iload_n C rfl 3 rfl dX12_sightsThat_22 ?_
          obtain ⟨v56, e57⟩ : ∃ z, Iv h3 v52 x2.toNat = z := ⟨_, rfl⟩
          have f58 := ok_Ia O7 t54 ar_153101 rI_153101_0 e57
          refine g_zald C t54 rfl l55 (ix f17 (by decide) (by decide)) e57 dX12_sightsThat_23 ?_
          refine g_if_eq C (iw f58 (by decide) (by decide)) 31 (by decide) dX12_sightsThat_24 (fun q59 => ?_) (fun q60 => ?_)
          · have f61 : (0 : Int) ≤ v56 ∧ v56 ≤ (0 : Int) := ii f58 (r_eq (il 0) q59) (by decide) (by decide)
            refine g_iconst C dX12_sightsThat_31 ?_
            refine g_goto C 56 (by decide) dX12_sightsThat_32 ?_
            have f62 : (-2147483648 : Int) ≤ (x1 + 0) ∧ (x1 + 0) ≤ (2147483647 : Int) := ia_add f9 (il 0) (by decide) (by decide)
            refine g_iadd C dX12_sightsThat_56 ?_
            refine g_istore_n C [(2, .inl (x1 + 0)), (0, .inr (.inr a0)), (1, .inl a1), (3, .inl x2)] rfl (by decide) rfl dX12_sightsThat_57 ?_
            have f63 : (1 : Int) ≤ (x2 + 1) ∧ (x2 + 1) ≤ (40 : Int) := ia_add f17 (il 1) (by decide) (by decide)
            refine g_iinc C [(3, .inl (x2 + 1)), (2, .inl (x1 + 0)), (0, .inr (.inr a0)), (1, .inl a1)] 3 rfl (by decide) rfl dX12_sightsThat_58 ?_
            refine g_goto C 4 (by decide) dX12_sightsThat_61 ?_
            refine GW.sub [2, 3, 1, 0] rfl ?_
            exact ih5 _ (by omega) (x1 + 0) (x2 + 1) h3 rfl O7 F8 f62 (iw f63 (by decide) (by decide))
          · have f64 : (1 : Int) ≤ v56 ∧ v56 ≤ (1 : Int) := r_nl f58 q60
            refine g_iconst C dX12_sightsThat_27 ?_
            refine g_goto C 56 (by decide) dX12_sightsThat_28 ?_
            have f65 : (-2147483648 : Int) ≤ (w32 (x1 + 1)) ∧ (w32 (x1 + 1)) ≤ (2147483647 : Int) := w32_inR _
            refine g_iaddW C dX12_sightsThat_56 ?_
            refine g_istore_n C [(2, .inl (w32 (x1 + 1))), (0, .inr (.inr a0)), (1, .inl a1), (3, .inl x2)] rfl (by decide) rfl dX12_sightsThat_57 ?_
            have f66 : (1 : Int) ≤ (x2 + 1) ∧ (x2 + 1) ≤ (40 : Int) := ia_add f17 (il 1) (by decide) (by decide)
            refine g_iinc C [(3, .inl (x2 + 1)), (2, .inl (w32 (x1 + 1))), (0, .inr (.inr a0)), (1, .inl a1)] 3 rfl (by decide) rfl dX12_sightsThat_58 ?_
            refine g_goto C 4 (by decide) dX12_sightsThat_61 ?_
            refine GW.sub [2, 3, 1, 0] rfl ?_
            exact ih5 _ (by omega) (w32 (x1 + 1)) (x2 + 1) h3 rfl O7 F8 f65 (iw f66 (by decide) (by decide))
  exact L4 _ 0 0 h rfl O Fx.rf (iw (il 0) (by decide) (by decide)) (iw (il 0) (by decide) (by decide))
def wr_k_X12_cellsOfOne : List Nat := []
set_option maxRecDepth 100000 in
set_option maxHeartbeats 4000000 in
theorem k_X12_cellsOfOne (l : Launch) (D : va_G) (cy : Nat → ClassId) (w : Nat → Nat) (z0 : Nat)  {h : Hp} {a0 : Nat}  (O : Okh h) (ta0 : Tg h a0 = 12) (P_MInv : MInv h a0) : MI l D cy w z0 yX12_cellsOfOne cX12_cellsOfOne 3 (some .int) 6 142 0 0 [.inr (.inr a0)] h (fun v h1 => Okh h1 ∧ Fx wr_k_X12_cellsOfOne h h1 ∧ ((-2147483648) ≤ v ∧ v ≤ 2147483647)) := by
  refine hm_go (by decide +kernel) (Nat.le_of_ble_eq_true rfl) (fun p e s m below meth c C hr hn => ?_)
  refine g_iconst C dX12_cellsOfOne_0 ?_
  refine g_istore_n C [(1, .inl 0), (0, .inr (.inr a0))] rfl (by decide) rfl dX12_cellsOfOne_1 ?_
  refine g_iconst C dX12_cellsOfOne_2 ?_
  refine g_istore_n C [(2, .inl 0), (1, .inl 0), (0, .inr (.inr a0))] rfl (by decide) rfl dX12_cellsOfOne_3 ?_
  refine GW.sub [2, 1, 0] rfl ?_
  -- loop at 4
  have L4 : ∀ (μ : Nat) (x1 : Int) (x2 : Int) (h3 : Hp), (96 - x2).toNat = μ → Okh h3 → Fx [] h h3 → ((-2147483648 : Int) ≤ x1 ∧ x1 ≤ (2147483647 : Int)) → ((0 : Int) ≤ x2 ∧ x2 ≤ (96 : Int)) → GW p l e (rmm 6 142 0 0) s m (List.map toV [.inr (.inr a0)]).toArray below meth c D cy z0 3 (MQ below (QI D cy z0 (fun v h1 => Okh h1 ∧ Fx wr_k_X12_cellsOfOne h h1 ∧ ((-2147483648) ≤ v ∧ v ≤ 2147483647))) (List.map toV [.inr (.inr a0)]).toArray s 0 0 (Aof z0)) 4 [(0, .inr (.inr a0)), (1, .inl x1), (2, .inl x2)] [] h3 0 0 := by
    intro μ
    induction μ using Nat.strongRecOn with
    | ind μ ih5 =>
      intro x1 x2 h3 hm6 O7 F8 f9 f10
      refine g_iload_n C rfl 2 rfl dX12_cellsOfOne_4 ?_
      refine g_bipush C (by decide) dX12_cellsOfOne_5 ?_
      refine g_icmp_ge C (iw f10 (by decide) (by decide)) (iw (il 96) (by decide) (by decide)) 43 (by decide) dX12_cellsOfOne_7 (fun q11 => ?_) (fun q12 => ?_)
      · have f13 : (96 : Int) ≤ x2 ∧ x2 ≤ (96 : Int) := r_ge f10 (il 96) q11 (by decide) (by decide)
        refine g_iload_n C rfl 1 rfl dX12_cellsOfOne_43 ?_
        exact g_iret C hr rfl f9 ⟨O7, ((Fx.rf (wr := wr_k_X12_cellsOfOne)).call F8 rfl), f9⟩ (by decide) (by decide) dX12_cellsOfOne_44
      · have f14 : (0 : Int) ≤ x2 ∧ x2 ≤ (95 : Int) := r_lt f10 (il 96) q12 (by decide) (by decide)
        refine g_iload_n C rfl 1 rfl dX12_cellsOfOne_10 ?_
        refine g_aload_n C rfl 0 rfl dX12_cellsOfOne_11 ?_
        have e15 : Tg h3 a0 = 12 := (fxT F8 ta0)
        obtain ⟨v16, e17⟩ : ∃ z, Iv h3 a0 78 = z := ⟨_, rfl⟩
        have f18 := ok_I O7 e15 rI_12_78 e17
        refine gf_I C fk_LandSurveyModel_546 rfl e15 e17 dX12_cellsOfOne_12 ?_
        refine g_if_le C (iw f18 (by decide) (by decide)) 34 (by decide) dX12_cellsOfOne_15 (fun q19 => ?_) (fun q20 => ?_)
        · have f21 : (0 : Int) ≤ v16 ∧ v16 ≤ (0 : Int) := r_le f18 (il 0) q19 (by decide) (by decide)
          refine g_iconst C dX12_cellsOfOne_34 ?_
          have f22 : (-2147483648 : Int) ≤ (x1 + 0) ∧ (x1 + 0) ≤ (2147483647 : Int) := ia_add f9 (il 0) (by decide) (by decide)
          refine g_iadd C dX12_cellsOfOne_35 ?_
          refine g_istore_n C [(1, .inl (x1 + 0)), (0, .inr (.inr a0)), (2, .inl x2)] rfl (by decide) rfl dX12_cellsOfOne_36 ?_
          have f23 : (1 : Int) ≤ (x2 + 1) ∧ (x2 + 1) ≤ (96 : Int) := ia_add f14 (il 1) (by decide) (by decide)
          refine g_iinc C [(2, .inl (x2 + 1)), (1, .inl (x1 + 0)), (0, .inr (.inr a0))] 2 rfl (by decide) rfl dX12_cellsOfOne_37 ?_
          refine g_goto C 4 (by decide) dX12_cellsOfOne_40 ?_
          refine GW.sub [2, 1, 0] rfl ?_
          exact ih5 _ (by omega) (x1 + 0) (x2 + 1) h3 rfl O7 F8 f22 (iw f23 (by decide) (by decide))
        · have f24 : (1 : Int) ≤ v16 ∧ v16 ≤ (16 : Int) := r_gt f18 (il 0) q20 (by decide) (by decide)
          refine g_aload_n C rfl 0 rfl dX12_cellsOfOne_18 ?_
          refine g_iload_n C rfl 2 rfl dX12_cellsOfOne_19 ?_
          refine g_iconst C dX12_cellsOfOne_20 ?_
          refine g_callI (st := [.inl x1]) (gc_V C lk_LandSurveyModel_575 (k_X12_mayLieAll l D cy w z0 O7 e15 f14 (iw (il 0) (by decide) (by decide))) e15 rfl rfl rfl ⟨by decide, by decide⟩ (Nat.le_of_ble_eq_true rfl) dX12_cellsOfOne_21 ⟨(by decide), (by decide)⟩) (fun r25 h26 f28 K27 => ?_)
          obtain ⟨O29, F30, f31⟩ := K27
          refine g_callI (st := [.inl x1]) (gc_S C lk_LandSurveyModel_578 (k_X12_isOne l D cy w z0 O29 f31) rfl ⟨by decide, by decide⟩ (Nat.le_of_ble_eq_true rfl) dX12_cellsOfOne_24 ⟨(by decide), (by decide)⟩) (fun r32 h33 f35 K34 => ?_)
          obtain ⟨O36, F37, f38⟩ := K34
          refine g_if_eq C (iw f38 (by decide) (by decide)) 34 (by decide) dX12_cellsOfOne_27 (fun q39 => ?_) (fun q40 => ?_)
          · have f41 : (0 : Int) ≤ r32 ∧ r32 ≤ (0 : Int) := ii f38 (r_eq (il 0) q39) (by decide) (by decide)
            refine g_iconst C dX12_cellsOfOne_34 ?_
            have f42 : (-2147483648 : Int) ≤ (x1 + 0) ∧ (x1 + 0) ≤ (2147483647 : Int) := ia_add f9 (il 0) (by decide) (by decide)
            refine g_iadd C dX12_cellsOfOne_35 ?_
            refine g_istore_n C [(1, .inl (x1 + 0)), (0, .inr (.inr a0)), (2, .inl x2)] rfl (by decide) rfl dX12_cellsOfOne_36 ?_
            have f43 : (1 : Int) ≤ (x2 + 1) ∧ (x2 + 1) ≤ (96 : Int) := ia_add f14 (il 1) (by decide) (by decide)
            refine g_iinc C [(2, .inl (x2 + 1)), (1, .inl (x1 + 0)), (0, .inr (.inr a0))] 2 rfl (by decide) rfl dX12_cellsOfOne_37 ?_
            refine g_goto C 4 (by decide) dX12_cellsOfOne_40 ?_
            refine GW.sub [2, 1, 0] rfl ?_
            exact ih5 _ (by omega) (x1 + 0) (x2 + 1) h33 rfl O36 ((F8.call F30 rfl).call F37 rfl) f42 (iw f43 (by decide) (by decide))
          · have f44 : (1 : Int) ≤ r32 ∧ r32 ≤ (1 : Int) := r_nl f38 q40
            refine g_iconst C dX12_cellsOfOne_30 ?_
            refine g_goto C 35 (by decide) dX12_cellsOfOne_31 ?_
            have f45 : (-2147483648 : Int) ≤ (w32 (x1 + 1)) ∧ (w32 (x1 + 1)) ≤ (2147483647 : Int) := w32_inR _
            refine g_iaddW C dX12_cellsOfOne_35 ?_
            refine g_istore_n C [(1, .inl (w32 (x1 + 1))), (0, .inr (.inr a0)), (2, .inl x2)] rfl (by decide) rfl dX12_cellsOfOne_36 ?_
            have f46 : (1 : Int) ≤ (x2 + 1) ∧ (x2 + 1) ≤ (96 : Int) := ia_add f14 (il 1) (by decide) (by decide)
            refine g_iinc C [(2, .inl (x2 + 1)), (1, .inl (w32 (x1 + 1))), (0, .inr (.inr a0))] 2 rfl (by decide) rfl dX12_cellsOfOne_37 ?_
            refine g_goto C 4 (by decide) dX12_cellsOfOne_40 ?_
            refine GW.sub [2, 1, 0] rfl ?_
            exact ih5 _ (by omega) (w32 (x1 + 1)) (x2 + 1) h33 rfl O36 ((F8.call F30 rfl).call F37 rfl) f45 (iw f46 (by decide) (by decide))
  exact L4 _ 0 0 h rfl O Fx.rf (iw (il 0) (by decide) (by decide)) (iw (il 0) (by decide) (by decide))
